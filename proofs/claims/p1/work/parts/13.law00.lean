set_option maxRecDepth 20000 in
/-- behind a call: the second time at the head, nothing is left, and the law answers 1 -/
theorem law_next {p : Program} {l : Launch} {e : Env} {s : State} {m : MethodId} {below : List Frame} {meth : Method} {c : Code} {b : Nat} {xs : Nat → Int32} (hC : CallFix p m c cL_law 4 s #[Value.ref b] wl RL) (hr : meth.sig.returnType = ret) (hk : meth.locks = false) (hX : va_X b 6 xs s s.heap) (hbl : b < s.heap.size) {H : Heap} {locs : List Loc} (hS : va_S (fun q : Nat => s.heap.size ≤ q) s.heap H locs) {ls : Array Slot} (hl : lv_has ls 4 [(0, .ref b), (3, .int 0)]) : W p l e room_1 s m #[Value.ref b] below meth c H locs 1000 200000 (lw_Z below #[Value.ref b] s) (F0 m 2343 ls []) := by
  have hx := hC.1
  have hb := hC.2.1
  have hbA : ¬ (fun q : Nat => s.heap.size ≤ q) b := Nat.not_le.mpr hbl
  refine lv_iinc (v := 6) (lv' := [(3, .int 6), (0, .ref b)]) hx hb dL_law_2343 hl (k := 1) rfl (by decide) (by decide) rfl (fun ls hl => ?_)
  refine lv_goto (tgt := 18) hx hb dL_law_2346 (by decide) ?_
  refine lv_iload_n hx hb dL_law_18 rfl (lv_at hl 0 rfl) ?_
  refine lv_aload_n hx hb dL_law_19 rfl (lv_at hl 1 rfl) ?_
  refine va_slen hx hb hX hbl hbA hS dL_law_20 ?_
  refine lv_bipush (v := 6) hx hb dL_law_21 (by decide) ?_
  refine lv_isub hx hb dL_law_23 ?_
  refine tc (y := 0) (by decide) ?_
  refine lv_icmp_gt (tgt := 2349) hx hb dL_law_24 (by decide) (fun _ => ?_) (fun h => absurd (by decide) h)
  refine lv_iconst (v := 1) hx hb dL_law_2349 (by decide) ?_
  refine va_forget (fun q hq => hS.2.2 q hq) ?_
  refine W.widen (k := 600000) (n := 7302250) (by decide) (by decide) ?_
  exact lw_ret hx hb hr hk dL_law_2350
set_option maxRecDepth 40000 in
set_option maxHeartbeats 4000000 in
theorem law_0 {p : Program} {l : Launch} {e : Env} {s : State} {m : MethodId} {below : List Frame} {meth : Method} {c : Code} {b : Nat} {xs : Nat → Int32} {D : va_G} {K : Nat → ClassId} (hC : CallFix p m c cL_law 4 s #[Value.ref b] wl RL) (hr : meth.sig.returnType = ret) (hk : meth.locks = false) (hX : va_X b 6 xs s s.heap) (hbl : b < s.heap.size) (hE : ev D K s) (x y : Nat → Nat) (fs fm : Nat → Int32) (hfs : ∀ j, j < 4 → fs j = -1) (hfm : ∀ j, j < 4 → fm j = -1) (H : Heap) (locs : List Loc) (hP : va_P D vwCl (fxL K x fs ++ mdL K y fm) H) (hD : va_D (fun q : Nat => s.heap.size ≤ q) (fxL K x fs ++ mdL K y fm)) (hPx : va_P D vwCl (fxL K x fs) H) (hPm : va_P D vwCl (mdL K y fm) H) (hS : va_S (fun q : Nat => s.heap.size ≤ q) s.heap H locs) (ls : Array Slot) (hl : lv_has ls 4 [(3, .int 0), (2, .ref (y 0)), (1, .ref (x 0)), (0, .ref b)]) : W p l e room_1 s m #[Value.ref b] below meth c H locs 900 150000 (lw_Z below #[Value.ref b] s) (F0 m 308 ls []) := by
  have hx := hC.1
  have hb := hC.2.1
  have hown := hC.2.2.2.1
  have hts := hC.2.2.2.2
  have hbA : ¬ (fun q : Nat => s.heap.size ≤ q) b := Nat.not_le.mpr hbl
  refine lv_aload_n hx hb dL_law_308 rfl (lv_at hl 2 rfl) ?_
  refine lv_aload_n hx hb dL_law_309 rfl (lv_at hl 3 rfl) ?_
  refine lv_iload_n hx hb dL_law_310 rfl (lv_at hl 0 rfl) ?_
  refine lv_iconst (v := 1) hx hb dL_law_311 (by decide) ?_
  refine lv_iadd hx hb dL_law_312 ?_
  refine tc (y := 1) (by decide) ?_
  refine va_sld hx hb hX hbl hbA hS (in_c (by decide)) dL_law_313 ?_
  refine tc (y := xs 1) (congrArg xs (by decide)) ?_
  refine lv_aload_n hx hb dL_law_314 rfl (lv_at hl 3 rfl) ?_
  refine lv_iload_n hx hb dL_law_315 rfl (lv_at hl 0 rfl) ?_
  refine lv_iconst (v := 2) hx hb dL_law_316 (by decide) ?_
  refine lv_iadd hx hb dL_law_317 ?_
  refine tc (y := 2) (by decide) ?_
  refine va_sld hx hb hX hbl hbA hS (in_c (by decide)) dL_law_318 ?_
  refine tc (y := xs 2) (congrArg xs (by decide)) ?_
  refine lv_aload_n hx hb dL_law_319 rfl (lv_at hl 3 rfl) ?_
  refine lv_iload_n hx hb dL_law_320 rfl (lv_at hl 0 rfl) ?_
  refine lv_iconst (v := 3) hx hb dL_law_321 (by decide) ?_
  refine lv_iadd hx hb dL_law_322 ?_
  refine tc (y := 3) (by decide) ?_
  refine va_sld hx hb hX hbl hbA hS (in_c (by decide)) dL_law_323 ?_
  refine tc (y := xs 3) (congrArg xs (by decide)) ?_
  refine lv_aload_n hx hb dL_law_324 rfl (lv_at hl 3 rfl) ?_
  refine lv_iload_n hx hb dL_law_325 rfl (lv_at hl 0 rfl) ?_
  refine lv_iconst (v := 4) hx hb dL_law_326 (by decide) ?_
  refine lv_iadd hx hb dL_law_327 ?_
  refine tc (y := 4) (by decide) ?_
  refine va_sld hx hb hX hbl hbA hS (in_c (by decide)) dL_law_328 ?_
  refine tc (y := xs 4) (congrArg xs (by decide)) ?_
  refine lv_aload_n hx hb dL_law_329 rfl (lv_at hl 3 rfl) ?_
  refine lv_iload_n hx hb dL_law_330 rfl (lv_at hl 0 rfl) ?_
  refine lv_iconst (v := 5) hx hb dL_law_331 (by decide) ?_
  refine lv_iadd hx hb dL_law_332 ?_
  refine tc (y := 5) (by decide) ?_
  refine va_sld hx hb hX hbl hbA hS (in_c (by decide)) dL_law_333 ?_
  refine tc (y := xs 5) (congrArg xs (by decide)) ?_
  refine ci_V (As := [.int (xs 1), .int (xs 2), .int (xs 3), .int (xs 4), .int (xs 5)]) (rest := []) (wc := [(x 0, .inr (10, [.ref (x 1), .ref (x 2), .ref (x 3), .ref (x 40), .ref (x 4), .ref (x 41), .ref (x 42), .ref (x 5), .ref (x 43), .ref (x 44), .ref (x 6), .ref (x 7)])), (x 1, .inr (4, [.ref (x 8), .int 0, .int 0, .int (-1), .ref (x 9), .int 0, .int 0, .int 0, .int 0, .int 0])), (x 8, .inl (K 0, 1000, .inl (fun _ => 0)))]) (wr := (mdL K y fm)) hC hE kV_L_13 (c_X11_feed l D K x (xs 1) (xs 2) (xs 3) (xs 4) (xs 5)) hP hD hS (fun _ h => h) [0, 1, 8] [34, 35, 36, 37, 38, 39, 40, 41, 42, 43] rfl rfl rfl (by decide) (by decide) (by decide) 0 10 rfl rfl rfl hl.1 rfl (Nat.le_of_ble_eq_true rfl) ⟨(Nat.le_of_ble_eq_true rfl), (Nat.le_of_ble_eq_true rfl)⟩ ⟨(Nat.le_of_ble_eq_true rfl), (Nat.le_of_ble_eq_true rfl)⟩ dL_law_334 (fun r1 _ H locs hw1 hP hD hS => ?_)
  replace hP : va_P D vwCl (mdL K y fm) H := hP
  replace hD : va_D (fun q : Nat => s.heap.size ≤ q) (mdL K y fm) := hD
  refine W.widen (k := 1000) (n := 200000) (Nat.le_of_ble_eq_true rfl) (Nat.le_of_ble_eq_true rfl) ?_
  have hPm := hP
  refine lv_aload_n hx hb dL_law_337 rfl (lv_at hl 1 rfl) ?_
  refine lv_aload_n hx hb dL_law_338 rfl (lv_at hl 3 rfl) ?_
  refine lv_iload_n hx hb dL_law_339 rfl (lv_at hl 0 rfl) ?_
  refine lv_iconst (v := 1) hx hb dL_law_340 (by decide) ?_
  refine lv_iadd hx hb dL_law_341 ?_
  refine tc (y := 1) (by decide) ?_
  refine va_sld hx hb hX hbl hbA hS (in_c (by decide)) dL_law_342 ?_
  refine tc (y := xs 1) (congrArg xs (by decide)) ?_
  refine lv_aload_n hx hb dL_law_343 rfl (lv_at hl 3 rfl) ?_
  refine lv_iload_n hx hb dL_law_344 rfl (lv_at hl 0 rfl) ?_
  refine lv_iconst (v := 2) hx hb dL_law_345 (by decide) ?_
  refine lv_iadd hx hb dL_law_346 ?_
  refine tc (y := 2) (by decide) ?_
  refine va_sld hx hb hX hbl hbA hS (in_c (by decide)) dL_law_347 ?_
  refine tc (y := xs 2) (congrArg xs (by decide)) ?_
  refine lv_aload_n hx hb dL_law_348 rfl (lv_at hl 3 rfl) ?_
  refine lv_iload_n hx hb dL_law_349 rfl (lv_at hl 0 rfl) ?_
  refine lv_iconst (v := 3) hx hb dL_law_350 (by decide) ?_
  refine lv_iadd hx hb dL_law_351 ?_
  refine tc (y := 3) (by decide) ?_
  refine va_sld hx hb hX hbl hbA hS (in_c (by decide)) dL_law_352 ?_
  refine tc (y := xs 3) (congrArg xs (by decide)) ?_
  refine lv_aload_n hx hb dL_law_353 rfl (lv_at hl 3 rfl) ?_
  refine lv_iload_n hx hb dL_law_354 rfl (lv_at hl 0 rfl) ?_
  refine lv_iconst (v := 4) hx hb dL_law_355 (by decide) ?_
  refine lv_iadd hx hb dL_law_356 ?_
  refine tc (y := 4) (by decide) ?_
  refine va_sld hx hb hX hbl hbA hS (in_c (by decide)) dL_law_357 ?_
  refine tc (y := xs 4) (congrArg xs (by decide)) ?_
  refine lv_aload_n hx hb dL_law_358 rfl (lv_at hl 3 rfl) ?_
  refine lv_iload_n hx hb dL_law_359 rfl (lv_at hl 0 rfl) ?_
  refine lv_iconst (v := 5) hx hb dL_law_360 (by decide) ?_
  refine lv_iadd hx hb dL_law_361 ?_
  refine tc (y := 5) (by decide) ?_
  refine va_sld hx hb hX hbl hbA hS (in_c (by decide)) dL_law_362 ?_
  refine tc (y := xs 5) (congrArg xs (by decide)) ?_
  refine ci_V (As := [.int (xs 1), .int (xs 2), .int (xs 3), .int (xs 4), .int (xs 5)]) (rest := [.int r1]) (wc := [(y 0, .inr (11, [.int 0, .ref (y 1), .ref (y 2), .ref (y 3), .ref (y 4), .int 0, .ref (y 5), .int 0, .int 0, .int 0, .int 0, .int 0, .int 0, .int (-1), .ref (y 6), .int 0, .int 0, .int 0, .int 0, .int 0, .int 0, .ref (y 121), .ref (y 122), .ref (y 123), .ref (y 124), .int 0, .ref (y 126), .ref (y 127), .ref (y 128), .ref (y 129), .ref (y 130), .ref (y 131), .ref (y 132), .ref (y 133), .ref (y 134), .ref (y 135), .ref (y 136), .int 0, .int 0, .int 0, .ref (y 140), .ref (y 141), .ref (y 142), .int 0, .int 0, .ref (y 145), .ref (y 146), .ref (y 147), .int 0, .ref (y 7), .ref (y 8), .ref (y 9), .ref (y 152)])), (y 4, .inl (K 0, 1000, .inl (fun _ => 0))), (y 5, .inl (K 1, 5, .inl (fun _ => 0)))]) (wr := []) hC hE kV_L_17 (c_X12_feed l D K y (xs 1) (xs 2) (xs 3) (xs 4) (xs 5)) hP hD hS (fun _ h => h) [0, 4, 5] [] rfl rfl rfl (by decide) (by decide) (by decide) 0 11 rfl rfl rfl hl.1 rfl (Nat.le_of_ble_eq_true rfl) ⟨(Nat.le_of_ble_eq_true rfl), (Nat.le_of_ble_eq_true rfl)⟩ ⟨(Nat.le_of_ble_eq_true rfl), (Nat.le_of_ble_eq_true rfl)⟩ dL_law_363 (fun r2 _ H locs hw2 hP hD hS => ?_)
  refine W.widen (k := 1000) (n := 200000) (Nat.le_of_ble_eq_true rfl) (Nat.le_of_ble_eq_true rfl) ?_
  refine lv_icmp_eq (tgt := 2343) hx hb dL_law_366 (by decide) (fun _ => ?_) (fun h => absurd (hw1.trans hw2.symm) h)
  exact law_next hC hr hk hX hbl hS (lv_sub hl [3, 0] rfl)
set_option maxRecDepth 40000 in
set_option maxHeartbeats 4000000 in
theorem law_1 {p : Program} {l : Launch} {e : Env} {s : State} {m : MethodId} {below : List Frame} {meth : Method} {c : Code} {b : Nat} {xs : Nat → Int32} {D : va_G} {K : Nat → ClassId} (hC : CallFix p m c cL_law 4 s #[Value.ref b] wl RL) (hr : meth.sig.returnType = ret) (hk : meth.locks = false) (hX : va_X b 6 xs s s.heap) (hbl : b < s.heap.size) (hE : ev D K s) (x y : Nat → Nat) (fs fm : Nat → Int32) (hfs : ∀ j, j < 4 → fs j = -1) (hfm : ∀ j, j < 4 → fm j = -1) (H : Heap) (locs : List Loc) (hP : va_P D vwCl (fxL K x fs ++ mdL K y fm) H) (hD : va_D (fun q : Nat => s.heap.size ≤ q) (fxL K x fs ++ mdL K y fm)) (hPx : va_P D vwCl (fxL K x fs) H) (hPm : va_P D vwCl (mdL K y fm) H) (hS : va_S (fun q : Nat => s.heap.size ≤ q) s.heap H locs) (ls : Array Slot) (hl : lv_has ls 4 [(3, .int 0), (2, .ref (y 0)), (1, .ref (x 0)), (0, .ref b)]) : W p l e room_1 s m #[Value.ref b] below meth c H locs 900 150000 (lw_Z below #[Value.ref b] s) (F0 m 371 ls []) := by
  have hx := hC.1
  have hb := hC.2.1
  have hown := hC.2.2.2.1
  have hts := hC.2.2.2.2
  have hbA : ¬ (fun q : Nat => s.heap.size ≤ q) b := Nat.not_le.mpr hbl
  refine lv_aload_n hx hb dL_law_371 rfl (lv_at hl 2 rfl) ?_
  refine lv_aload_n hx hb dL_law_372 rfl (lv_at hl 3 rfl) ?_
  refine lv_iload_n hx hb dL_law_373 rfl (lv_at hl 0 rfl) ?_
  refine lv_iconst (v := 1) hx hb dL_law_374 (by decide) ?_
  refine lv_iadd hx hb dL_law_375 ?_
  refine tc (y := 1) (by decide) ?_
  refine va_sld hx hb hX hbl hbA hS (in_c (by decide)) dL_law_376 ?_
  refine tc (y := xs 1) (congrArg xs (by decide)) ?_
  refine ci_V (As := [.int (xs 1)]) (rest := []) (wc := [(x 0, .inr (10, [.ref (x 1), .ref (x 2), .ref (x 3), .ref (x 40), .ref (x 4), .ref (x 41), .ref (x 42), .ref (x 5), .ref (x 43), .ref (x 44), .ref (x 6), .ref (x 7)])), (x 1, .inr (4, [.ref (x 8), .int 0, .int 0, .int (-1), .ref (x 9), .int 0, .int 0, .int 0, .int 0, .int 0]))]) (wr := (mdL K y fm)) hC hE kV_L_18 (c_X11_end l D K x (xs 1)) hP hD hS (fun _ h => h) [0, 1] [34, 35, 36, 37, 38, 39, 40, 41, 42, 43] rfl rfl rfl (by decide) (by decide) (by decide) 0 10 rfl rfl rfl hl.1 rfl (Nat.le_of_ble_eq_true rfl) ⟨(Nat.le_of_ble_eq_true rfl), (Nat.le_of_ble_eq_true rfl)⟩ ⟨(Nat.le_of_ble_eq_true rfl), (Nat.le_of_ble_eq_true rfl)⟩ dL_law_377 (fun r1 _ H locs hw1 hP hD hS => ?_)
  replace hP : va_P D vwCl (mdL K y fm) H := hP
  replace hD : va_D (fun q : Nat => s.heap.size ≤ q) (mdL K y fm) := hD
  refine W.widen (k := 1000) (n := 200000) (Nat.le_of_ble_eq_true rfl) (Nat.le_of_ble_eq_true rfl) ?_
  have hPm := hP
  refine lv_aload_n hx hb dL_law_380 rfl (lv_at hl 1 rfl) ?_
  refine lv_aload_n hx hb dL_law_381 rfl (lv_at hl 3 rfl) ?_
  refine lv_iload_n hx hb dL_law_382 rfl (lv_at hl 0 rfl) ?_
  refine lv_iconst (v := 1) hx hb dL_law_383 (by decide) ?_
  refine lv_iadd hx hb dL_law_384 ?_
  refine tc (y := 1) (by decide) ?_
  refine va_sld hx hb hX hbl hbA hS (in_c (by decide)) dL_law_385 ?_
  refine tc (y := xs 1) (congrArg xs (by decide)) ?_
  refine ci_V (As := [.int (xs 1)]) (rest := [.int r1]) (wc := [(y 0, .inr (11, [.int 0, .ref (y 1), .ref (y 2), .ref (y 3), .ref (y 4), .int 0, .ref (y 5), .int 0, .int 0, .int 0, .int 0, .int 0, .int 0, .int (-1), .ref (y 6), .int 0, .int 0, .int 0, .int 0, .int 0, .int 0, .ref (y 121), .ref (y 122), .ref (y 123), .ref (y 124), .int 0, .ref (y 126), .ref (y 127), .ref (y 128), .ref (y 129), .ref (y 130), .ref (y 131), .ref (y 132), .ref (y 133), .ref (y 134), .ref (y 135), .ref (y 136), .int 0, .int 0, .int 0, .ref (y 140), .ref (y 141), .ref (y 142), .int 0, .int 0, .ref (y 145), .ref (y 146), .ref (y 147), .int 0, .ref (y 7), .ref (y 8), .ref (y 9), .ref (y 152)]))]) (wr := []) hC hE kV_L_22 (c_X12_end l D K y (xs 1)) hP hD hS (fun _ h => h) [0] [] rfl rfl rfl (by decide) (by decide) (by decide) 0 11 rfl rfl rfl hl.1 rfl (Nat.le_of_ble_eq_true rfl) ⟨(Nat.le_of_ble_eq_true rfl), (Nat.le_of_ble_eq_true rfl)⟩ ⟨(Nat.le_of_ble_eq_true rfl), (Nat.le_of_ble_eq_true rfl)⟩ dL_law_386 (fun r2 _ H locs hw2 hP hD hS => ?_)
  refine W.widen (k := 1000) (n := 200000) (Nat.le_of_ble_eq_true rfl) (Nat.le_of_ble_eq_true rfl) ?_
  refine lv_icmp_eq (tgt := 2343) hx hb dL_law_389 (by decide) (fun _ => ?_) (fun h => absurd (two_eq hw1 hw2) h)
  exact law_next hC hr hk hX hbl hS (lv_sub hl [3, 0] rfl)
set_option maxRecDepth 40000 in
set_option maxHeartbeats 4000000 in
theorem law_2 {p : Program} {l : Launch} {e : Env} {s : State} {m : MethodId} {below : List Frame} {meth : Method} {c : Code} {b : Nat} {xs : Nat → Int32} {D : va_G} {K : Nat → ClassId} (hC : CallFix p m c cL_law 4 s #[Value.ref b] wl RL) (hr : meth.sig.returnType = ret) (hk : meth.locks = false) (hX : va_X b 6 xs s s.heap) (hbl : b < s.heap.size) (hE : ev D K s) (x y : Nat → Nat) (fs fm : Nat → Int32) (hfs : ∀ j, j < 4 → fs j = -1) (hfm : ∀ j, j < 4 → fm j = -1) (H : Heap) (locs : List Loc) (hP : va_P D vwCl (fxL K x fs ++ mdL K y fm) H) (hD : va_D (fun q : Nat => s.heap.size ≤ q) (fxL K x fs ++ mdL K y fm)) (hPx : va_P D vwCl (fxL K x fs) H) (hPm : va_P D vwCl (mdL K y fm) H) (hS : va_S (fun q : Nat => s.heap.size ≤ q) s.heap H locs) (ls : Array Slot) (hl : lv_has ls 4 [(3, .int 0), (2, .ref (y 0)), (1, .ref (x 0)), (0, .ref b)]) : W p l e room_1 s m #[Value.ref b] below meth c H locs 900 150000 (lw_Z below #[Value.ref b] s) (F0 m 394 ls []) := by
  have hx := hC.1
  have hb := hC.2.1
  have hown := hC.2.2.2.1
  have hts := hC.2.2.2.2
  have hbA : ¬ (fun q : Nat => s.heap.size ≤ q) b := Nat.not_le.mpr hbl
  refine lv_aload_n hx hb dL_law_394 rfl (lv_at hl 2 rfl) ?_
  refine ci_V (As := []) (rest := []) (wc := [(x 0, .inr (10, [.ref (x 1), .ref (x 2), .ref (x 3), .ref (x 40), .ref (x 4), .ref (x 41), .ref (x 42), .ref (x 5), .ref (x 43), .ref (x 44), .ref (x 6), .ref (x 7)])), (x 1, .inr (4, [.ref (x 8), .int 0, .int 0, .int (-1), .ref (x 9), .int 0, .int 0, .int 0, .int 0, .int 0])), (x 2, .inr (9, [.ref (x 10), .ref (x 11), .ref (x 12), .ref (x 13), .ref (x 14), .ref (x 15), .ref (x 16), .ref (x 17), .int 0, .int 0, .int 0, .int 0])), (x 3, .inr (2, [.ref (x 18), .ref (x 19), .ref (x 20), .ref (x 21), .ref (x 22), .int 0])), (x 5, .inr (3, [.ref (x 45), .ref (x 46), .ref (x 47), .int 0, .int 0])), (x 8, .inl (K 0, 1000, .inl (fun _ => 0))), (x 9, .inr (9, [.ref (x 26), .ref (x 27), .ref (x 28), .ref (x 29), .ref (x 30), .ref (x 31), .ref (x 32), .ref (x 33), .int 0, .int 0, .int 0, .int 0])), (x 10, .inl (K 1, 40, .inl (fun _ => 0))), (x 11, .inl (K 1, 10, .inl (fun _ => 0))), (x 12, .inl (K 1, 4, .inl (fun _ => 0))), (x 13, .inl (K 1, 4, .inl (fun _ => 0))), (x 14, .inl (K 1, 4, .inl (fun _ => 0))), (x 15, .inl (K 1, 5, .inl (fun _ => 0))), (x 16, .inl (K 1, 5, .inl (fun _ => 0))), (x 17, .inl (K 1, 5, .inl (fun _ => 0))), (x 18, .inl (K 1, 4, .inl (fun _ => 0))), (x 19, .inl (K 1, 4, .inl (fun _ => 0))), (x 26, .inl (K 1, 40, .inl (fun _ => 0))), (x 27, .inl (K 1, 10, .inl (fun _ => 0))), (x 28, .inl (K 1, 4, .inl (fun _ => 0))), (x 29, .inl (K 1, 4, .inl (fun _ => 0))), (x 30, .inl (K 1, 4, .inl (fun _ => 0))), (x 31, .inl (K 1, 5, .inl (fun _ => 0))), (x 32, .inl (K 1, 5, .inl (fun _ => 0))), (x 33, .inl (K 1, 5, .inl (fun _ => 0)))]) (wr := (mdL K y fm)) hC hE kV_L_23 (c_X11_wood l D K x) hP hD hS (fun _ h => h) [0, 1, 2, 3, 5, 8, 9, 10, 11, 12, 13, 14, 15, 16, 17, 18, 19, 26, 27, 28, 29, 30, 31, 32, 33] [34, 35, 36, 37, 38, 39, 40, 41, 42, 43] rfl rfl rfl (by decide) (by decide) (by decide) 0 10 rfl rfl rfl hl.1 rfl (Nat.le_of_ble_eq_true rfl) ⟨(Nat.le_of_ble_eq_true rfl), (Nat.le_of_ble_eq_true rfl)⟩ ⟨(Nat.le_of_ble_eq_true rfl), (Nat.le_of_ble_eq_true rfl)⟩ dL_law_395 (fun r1 _ H locs hw1 hP hD hS => ?_)
  replace hP : va_P D vwCl (mdL K y fm) H := hP
  replace hD : va_D (fun q : Nat => s.heap.size ≤ q) (mdL K y fm) := hD
  refine W.widen (k := 1000) (n := 200000) (Nat.le_of_ble_eq_true rfl) (Nat.le_of_ble_eq_true rfl) ?_
  have hPm := hP
  refine lv_aload_n hx hb dL_law_398 rfl (lv_at hl 1 rfl) ?_
  refine ci_V (As := []) (rest := [.int r1]) (wc := [(y 0, .inr (11, [.int 0, .ref (y 1), .ref (y 2), .ref (y 3), .ref (y 4), .int 0, .ref (y 5), .int 0, .int 0, .int 0, .int 0, .int 0, .int 0, .int (-1), .ref (y 6), .int 0, .int 0, .int 0, .int 0, .int 0, .int 0, .ref (y 121), .ref (y 122), .ref (y 123), .ref (y 124), .int 0, .ref (y 126), .ref (y 127), .ref (y 128), .ref (y 129), .ref (y 130), .ref (y 131), .ref (y 132), .ref (y 133), .ref (y 134), .ref (y 135), .ref (y 136), .int 0, .int 0, .int 0, .ref (y 140), .ref (y 141), .ref (y 142), .int 0, .int 0, .ref (y 145), .ref (y 146), .ref (y 147), .int 0, .ref (y 7), .ref (y 8), .ref (y 9), .ref (y 152)])), (y 1, .inl (K 1, 262, .inl (fun _ => 0))), (y 6, .inl (K 1, 262, .inl (fun _ => 0)))]) (wr := []) hC hE kV_L_27 (c_X12_wood l D K y) hP hD hS (fun _ h => h) [0, 1, 6] [] rfl rfl rfl (by decide) (by decide) (by decide) 0 11 rfl rfl rfl hl.1 rfl (Nat.le_of_ble_eq_true rfl) ⟨(Nat.le_of_ble_eq_true rfl), (Nat.le_of_ble_eq_true rfl)⟩ ⟨(Nat.le_of_ble_eq_true rfl), (Nat.le_of_ble_eq_true rfl)⟩ dL_law_399 (fun r2 _ H locs hw2 hP hD hS => ?_)
  refine W.widen (k := 1000) (n := 200000) (Nat.le_of_ble_eq_true rfl) (Nat.le_of_ble_eq_true rfl) ?_
  refine lv_icmp_eq (tgt := 2343) hx hb dL_law_402 (by decide) (fun _ => ?_) (fun h => absurd (hw1.trans hw2.symm) h)
  exact law_next hC hr hk hX hbl hS (lv_sub hl [3, 0] rfl)
set_option maxRecDepth 40000 in
set_option maxHeartbeats 4000000 in
theorem law_3 {p : Program} {l : Launch} {e : Env} {s : State} {m : MethodId} {below : List Frame} {meth : Method} {c : Code} {b : Nat} {xs : Nat → Int32} {D : va_G} {K : Nat → ClassId} (hC : CallFix p m c cL_law 4 s #[Value.ref b] wl RL) (hr : meth.sig.returnType = ret) (hk : meth.locks = false) (hX : va_X b 6 xs s s.heap) (hbl : b < s.heap.size) (hE : ev D K s) (x y : Nat → Nat) (fs fm : Nat → Int32) (hfs : ∀ j, j < 4 → fs j = -1) (hfm : ∀ j, j < 4 → fm j = -1) (H : Heap) (locs : List Loc) (hP : va_P D vwCl (fxL K x fs ++ mdL K y fm) H) (hD : va_D (fun q : Nat => s.heap.size ≤ q) (fxL K x fs ++ mdL K y fm)) (hPx : va_P D vwCl (fxL K x fs) H) (hPm : va_P D vwCl (mdL K y fm) H) (hS : va_S (fun q : Nat => s.heap.size ≤ q) s.heap H locs) (ls : Array Slot) (hl : lv_has ls 4 [(3, .int 0), (2, .ref (y 0)), (1, .ref (x 0)), (0, .ref b)]) : W p l e room_1 s m #[Value.ref b] below meth c H locs 900 150000 (lw_Z below #[Value.ref b] s) (F0 m 407 ls []) := by
  have hx := hC.1
  have hb := hC.2.1
  have hown := hC.2.2.2.1
  have hts := hC.2.2.2.2
  have hbA : ¬ (fun q : Nat => s.heap.size ≤ q) b := Nat.not_le.mpr hbl
  refine lv_aload_n hx hb dL_law_407 rfl (lv_at hl 2 rfl) ?_
  refine lv_aload_n hx hb dL_law_408 rfl (lv_at hl 3 rfl) ?_
  refine lv_iload_n hx hb dL_law_409 rfl (lv_at hl 0 rfl) ?_
  refine lv_iconst (v := 1) hx hb dL_law_410 (by decide) ?_
  refine lv_iadd hx hb dL_law_411 ?_
  refine tc (y := 1) (by decide) ?_
  refine va_sld hx hb hX hbl hbA hS (in_c (by decide)) dL_law_412 ?_
  refine tc (y := xs 1) (congrArg xs (by decide)) ?_
  refine ro_V (As := [.int (xs 1)]) (rest := []) hC hE kV_L_28 (c_X11_fault l D K x fs hfs (xs 1)) hPx 0 10 rfl rfl rfl hl.1 rfl (Nat.le_of_ble_eq_true rfl) ⟨(Nat.le_of_ble_eq_true rfl), (Nat.le_of_ble_eq_true rfl)⟩ ⟨(Nat.le_of_ble_eq_true rfl), (Nat.le_of_ble_eq_true rfl)⟩ dL_law_413 (fun r1 hw1 => ?_)
  refine lv_aload_n hx hb dL_law_416 rfl (lv_at hl 1 rfl) ?_
  refine lv_aload_n hx hb dL_law_417 rfl (lv_at hl 3 rfl) ?_
  refine lv_iload_n hx hb dL_law_418 rfl (lv_at hl 0 rfl) ?_
  refine lv_iconst (v := 1) hx hb dL_law_419 (by decide) ?_
  refine lv_iadd hx hb dL_law_420 ?_
  refine tc (y := 1) (by decide) ?_
  refine va_sld hx hb hX hbl hbA hS (in_c (by decide)) dL_law_421 ?_
  refine tc (y := xs 1) (congrArg xs (by decide)) ?_
  refine ro_V (As := [.int (xs 1)]) (rest := [.int r1]) hC hE kV_L_31 (c_X12_fault l D K y fm hfm (xs 1)) hPm 0 11 rfl rfl rfl hl.1 rfl (Nat.le_of_ble_eq_true rfl) ⟨(Nat.le_of_ble_eq_true rfl), (Nat.le_of_ble_eq_true rfl)⟩ ⟨(Nat.le_of_ble_eq_true rfl), (Nat.le_of_ble_eq_true rfl)⟩ dL_law_422 (fun r2 hw2 => ?_)
  refine lv_icmp_eq (tgt := 2343) hx hb dL_law_425 (by decide) (fun _ => ?_) (fun h => absurd (two_eq hw1 hw2) h)
  refine W.widen (k := 1000) (n := 200000) (Nat.le_of_ble_eq_true rfl) (Nat.le_of_ble_eq_true rfl) ?_
  exact law_next hC hr hk hX hbl hS (lv_sub hl [3, 0] rfl)
set_option maxRecDepth 40000 in
set_option maxHeartbeats 4000000 in
theorem law_4 {p : Program} {l : Launch} {e : Env} {s : State} {m : MethodId} {below : List Frame} {meth : Method} {c : Code} {b : Nat} {xs : Nat → Int32} {D : va_G} {K : Nat → ClassId} (hC : CallFix p m c cL_law 4 s #[Value.ref b] wl RL) (hr : meth.sig.returnType = ret) (hk : meth.locks = false) (hX : va_X b 6 xs s s.heap) (hbl : b < s.heap.size) (hE : ev D K s) (x y : Nat → Nat) (fs fm : Nat → Int32) (hfs : ∀ j, j < 4 → fs j = -1) (hfm : ∀ j, j < 4 → fm j = -1) (H : Heap) (locs : List Loc) (hP : va_P D vwCl (fxL K x fs ++ mdL K y fm) H) (hD : va_D (fun q : Nat => s.heap.size ≤ q) (fxL K x fs ++ mdL K y fm)) (hPx : va_P D vwCl (fxL K x fs) H) (hPm : va_P D vwCl (mdL K y fm) H) (hS : va_S (fun q : Nat => s.heap.size ≤ q) s.heap H locs) (ls : Array Slot) (hl : lv_has ls 4 [(3, .int 0), (2, .ref (y 0)), (1, .ref (x 0)), (0, .ref b)]) : W p l e room_1 s m #[Value.ref b] below meth c H locs 900 150000 (lw_Z below #[Value.ref b] s) (F0 m 430 ls []) := by
  have hx := hC.1
  have hb := hC.2.1
  have hown := hC.2.2.2.1
  have hts := hC.2.2.2.2
  have hbA : ¬ (fun q : Nat => s.heap.size ≤ q) b := Nat.not_le.mpr hbl
  refine lv_aload_n hx hb dL_law_430 rfl (lv_at hl 2 rfl) ?_
  refine lv_aload_n hx hb dL_law_431 rfl (lv_at hl 3 rfl) ?_
  refine lv_iload_n hx hb dL_law_432 rfl (lv_at hl 0 rfl) ?_
  refine lv_iconst (v := 1) hx hb dL_law_433 (by decide) ?_
  refine lv_iadd hx hb dL_law_434 ?_
  refine tc (y := 1) (by decide) ?_
  refine va_sld hx hb hX hbl hbA hS (in_c (by decide)) dL_law_435 ?_
  refine tc (y := xs 1) (congrArg xs (by decide)) ?_
  refine lv_aload_n hx hb dL_law_436 rfl (lv_at hl 3 rfl) ?_
  refine lv_iload_n hx hb dL_law_437 rfl (lv_at hl 0 rfl) ?_
  refine lv_iconst (v := 2) hx hb dL_law_438 (by decide) ?_
  refine lv_iadd hx hb dL_law_439 ?_
  refine tc (y := 2) (by decide) ?_
  refine va_sld hx hb hX hbl hbA hS (in_c (by decide)) dL_law_440 ?_
  refine tc (y := xs 2) (congrArg xs (by decide)) ?_
  refine ro_V (As := [.int (xs 1), .int (xs 2)]) (rest := []) hC hE kV_L_32 (c_X11_leads l D K x fs hfs (xs 1) (xs 2)) hPx 0 10 rfl rfl rfl hl.1 rfl (Nat.le_of_ble_eq_true rfl) ⟨(Nat.le_of_ble_eq_true rfl), (Nat.le_of_ble_eq_true rfl)⟩ ⟨(Nat.le_of_ble_eq_true rfl), (Nat.le_of_ble_eq_true rfl)⟩ dL_law_441 (fun r1 hw1 => ?_)
  refine lv_aload_n hx hb dL_law_444 rfl (lv_at hl 1 rfl) ?_
  refine lv_aload_n hx hb dL_law_445 rfl (lv_at hl 3 rfl) ?_
  refine lv_iload_n hx hb dL_law_446 rfl (lv_at hl 0 rfl) ?_
  refine lv_iconst (v := 1) hx hb dL_law_447 (by decide) ?_
  refine lv_iadd hx hb dL_law_448 ?_
  refine tc (y := 1) (by decide) ?_
  refine va_sld hx hb hX hbl hbA hS (in_c (by decide)) dL_law_449 ?_
  refine tc (y := xs 1) (congrArg xs (by decide)) ?_
  refine lv_aload_n hx hb dL_law_450 rfl (lv_at hl 3 rfl) ?_
  refine lv_iload_n hx hb dL_law_451 rfl (lv_at hl 0 rfl) ?_
  refine lv_iconst (v := 2) hx hb dL_law_452 (by decide) ?_
  refine lv_iadd hx hb dL_law_453 ?_
  refine tc (y := 2) (by decide) ?_
  refine va_sld hx hb hX hbl hbA hS (in_c (by decide)) dL_law_454 ?_
  refine tc (y := xs 2) (congrArg xs (by decide)) ?_
  refine ro_V (As := [.int (xs 1), .int (xs 2)]) (rest := [.int r1]) hC hE kV_L_36 (c_X12_leads l D K y fm hfm (xs 1) (xs 2)) hPm 0 11 rfl rfl rfl hl.1 rfl (Nat.le_of_ble_eq_true rfl) ⟨(Nat.le_of_ble_eq_true rfl), (Nat.le_of_ble_eq_true rfl)⟩ ⟨(Nat.le_of_ble_eq_true rfl), (Nat.le_of_ble_eq_true rfl)⟩ dL_law_455 (fun r2 hw2 => ?_)
  refine lv_icmp_eq (tgt := 2343) hx hb dL_law_458 (by decide) (fun _ => ?_) (fun h => absurd (hw1.trans hw2.symm) h)
  refine W.widen (k := 1000) (n := 200000) (Nat.le_of_ble_eq_true rfl) (Nat.le_of_ble_eq_true rfl) ?_
  exact law_next hC hr hk hX hbl hS (lv_sub hl [3, 0] rfl)
set_option maxRecDepth 40000 in
set_option maxHeartbeats 4000000 in
theorem law_5 {p : Program} {l : Launch} {e : Env} {s : State} {m : MethodId} {below : List Frame} {meth : Method} {c : Code} {b : Nat} {xs : Nat → Int32} {D : va_G} {K : Nat → ClassId} (hC : CallFix p m c cL_law 4 s #[Value.ref b] wl RL) (hr : meth.sig.returnType = ret) (hk : meth.locks = false) (hX : va_X b 6 xs s s.heap) (hbl : b < s.heap.size) (hE : ev D K s) (x y : Nat → Nat) (fs fm : Nat → Int32) (hfs : ∀ j, j < 4 → fs j = -1) (hfm : ∀ j, j < 4 → fm j = -1) (H : Heap) (locs : List Loc) (hP : va_P D vwCl (fxL K x fs ++ mdL K y fm) H) (hD : va_D (fun q : Nat => s.heap.size ≤ q) (fxL K x fs ++ mdL K y fm)) (hPx : va_P D vwCl (fxL K x fs) H) (hPm : va_P D vwCl (mdL K y fm) H) (hS : va_S (fun q : Nat => s.heap.size ≤ q) s.heap H locs) (ls : Array Slot) (hl : lv_has ls 4 [(3, .int 0), (2, .ref (y 0)), (1, .ref (x 0)), (0, .ref b)]) : W p l e room_1 s m #[Value.ref b] below meth c H locs 900 150000 (lw_Z below #[Value.ref b] s) (F0 m 463 ls []) := by
  have hx := hC.1
  have hb := hC.2.1
  have hown := hC.2.2.2.1
  have hts := hC.2.2.2.2
  have hbA : ¬ (fun q : Nat => s.heap.size ≤ q) b := Nat.not_le.mpr hbl
  refine lv_aload_n hx hb dL_law_463 rfl (lv_at hl 2 rfl) ?_
  refine lv_aload_n hx hb dL_law_464 rfl (lv_at hl 3 rfl) ?_
  refine lv_iload_n hx hb dL_law_465 rfl (lv_at hl 0 rfl) ?_
  refine lv_iconst (v := 1) hx hb dL_law_466 (by decide) ?_
  refine lv_iadd hx hb dL_law_467 ?_
  refine tc (y := 1) (by decide) ?_
  refine va_sld hx hb hX hbl hbA hS (in_c (by decide)) dL_law_468 ?_
  refine tc (y := xs 1) (congrArg xs (by decide)) ?_
  refine ro_V (As := [.int (xs 1)]) (rest := []) hC hE kV_L_37 (c_X11_mark l D K x fs hfs (xs 1)) hPx 0 10 rfl rfl rfl hl.1 rfl (Nat.le_of_ble_eq_true rfl) ⟨(Nat.le_of_ble_eq_true rfl), (Nat.le_of_ble_eq_true rfl)⟩ ⟨(Nat.le_of_ble_eq_true rfl), (Nat.le_of_ble_eq_true rfl)⟩ dL_law_469 (fun r1 hw1 => ?_)
  refine lv_aload_n hx hb dL_law_472 rfl (lv_at hl 1 rfl) ?_
  refine lv_aload_n hx hb dL_law_473 rfl (lv_at hl 3 rfl) ?_
  refine lv_iload_n hx hb dL_law_474 rfl (lv_at hl 0 rfl) ?_
  refine lv_iconst (v := 1) hx hb dL_law_475 (by decide) ?_
  refine lv_iadd hx hb dL_law_476 ?_
  refine tc (y := 1) (by decide) ?_
  refine va_sld hx hb hX hbl hbA hS (in_c (by decide)) dL_law_477 ?_
  refine tc (y := xs 1) (congrArg xs (by decide)) ?_
  refine ro_V (As := [.int (xs 1)]) (rest := [.int r1]) hC hE kV_L_40 (c_X12_mark l D K y fm hfm (xs 1)) hPm 0 11 rfl rfl rfl hl.1 rfl (Nat.le_of_ble_eq_true rfl) ⟨(Nat.le_of_ble_eq_true rfl), (Nat.le_of_ble_eq_true rfl)⟩ ⟨(Nat.le_of_ble_eq_true rfl), (Nat.le_of_ble_eq_true rfl)⟩ dL_law_478 (fun r2 hw2 => ?_)
  refine lv_icmp_eq (tgt := 2343) hx hb dL_law_481 (by decide) (fun _ => ?_) (fun h => absurd (hw1.trans hw2.symm) h)
  refine W.widen (k := 1000) (n := 200000) (Nat.le_of_ble_eq_true rfl) (Nat.le_of_ble_eq_true rfl) ?_
  exact law_next hC hr hk hX hbl hS (lv_sub hl [3, 0] rfl)
set_option maxRecDepth 40000 in
set_option maxHeartbeats 4000000 in
theorem law_6 {p : Program} {l : Launch} {e : Env} {s : State} {m : MethodId} {below : List Frame} {meth : Method} {c : Code} {b : Nat} {xs : Nat → Int32} {D : va_G} {K : Nat → ClassId} (hC : CallFix p m c cL_law 4 s #[Value.ref b] wl RL) (hr : meth.sig.returnType = ret) (hk : meth.locks = false) (hX : va_X b 6 xs s s.heap) (hbl : b < s.heap.size) (hE : ev D K s) (x y : Nat → Nat) (fs fm : Nat → Int32) (hfs : ∀ j, j < 4 → fs j = -1) (hfm : ∀ j, j < 4 → fm j = -1) (H : Heap) (locs : List Loc) (hP : va_P D vwCl (fxL K x fs ++ mdL K y fm) H) (hD : va_D (fun q : Nat => s.heap.size ≤ q) (fxL K x fs ++ mdL K y fm)) (hPx : va_P D vwCl (fxL K x fs) H) (hPm : va_P D vwCl (mdL K y fm) H) (hS : va_S (fun q : Nat => s.heap.size ≤ q) s.heap H locs) (ls : Array Slot) (hl : lv_has ls 4 [(3, .int 0), (2, .ref (y 0)), (1, .ref (x 0)), (0, .ref b)]) : W p l e room_1 s m #[Value.ref b] below meth c H locs 900 150000 (lw_Z below #[Value.ref b] s) (F0 m 486 ls []) := by
  have hx := hC.1
  have hb := hC.2.1
  have hown := hC.2.2.2.1
  have hts := hC.2.2.2.2
  have hbA : ¬ (fun q : Nat => s.heap.size ≤ q) b := Nat.not_le.mpr hbl
  refine lv_aload_n hx hb dL_law_486 rfl (lv_at hl 2 rfl) ?_
  refine lv_aload_n hx hb dL_law_487 rfl (lv_at hl 3 rfl) ?_
  refine lv_iload_n hx hb dL_law_488 rfl (lv_at hl 0 rfl) ?_
  refine lv_iconst (v := 1) hx hb dL_law_489 (by decide) ?_
  refine lv_iadd hx hb dL_law_490 ?_
  refine tc (y := 1) (by decide) ?_
  refine va_sld hx hb hX hbl hbA hS (in_c (by decide)) dL_law_491 ?_
  refine tc (y := xs 1) (congrArg xs (by decide)) ?_
  refine lv_aload_n hx hb dL_law_492 rfl (lv_at hl 3 rfl) ?_
  refine lv_iload_n hx hb dL_law_493 rfl (lv_at hl 0 rfl) ?_
  refine lv_iconst (v := 2) hx hb dL_law_494 (by decide) ?_
  refine lv_iadd hx hb dL_law_495 ?_
  refine tc (y := 2) (by decide) ?_
  refine va_sld hx hb hX hbl hbA hS (in_c (by decide)) dL_law_496 ?_
  refine tc (y := xs 2) (congrArg xs (by decide)) ?_
  refine ro_V (As := [.int (xs 1), .int (xs 2)]) (rest := []) hC hE kV_L_41 (c_X11_becomes l D K x fs hfs (xs 1) (xs 2)) hPx 0 10 rfl rfl rfl hl.1 rfl (Nat.le_of_ble_eq_true rfl) ⟨(Nat.le_of_ble_eq_true rfl), (Nat.le_of_ble_eq_true rfl)⟩ ⟨(Nat.le_of_ble_eq_true rfl), (Nat.le_of_ble_eq_true rfl)⟩ dL_law_497 (fun r1 hw1 => ?_)
  refine lv_aload_n hx hb dL_law_500 rfl (lv_at hl 1 rfl) ?_
  refine lv_aload_n hx hb dL_law_501 rfl (lv_at hl 3 rfl) ?_
  refine lv_iload_n hx hb dL_law_502 rfl (lv_at hl 0 rfl) ?_
  refine lv_iconst (v := 1) hx hb dL_law_503 (by decide) ?_
  refine lv_iadd hx hb dL_law_504 ?_
  refine tc (y := 1) (by decide) ?_
  refine va_sld hx hb hX hbl hbA hS (in_c (by decide)) dL_law_505 ?_
  refine tc (y := xs 1) (congrArg xs (by decide)) ?_
  refine lv_aload_n hx hb dL_law_506 rfl (lv_at hl 3 rfl) ?_
  refine lv_iload_n hx hb dL_law_507 rfl (lv_at hl 0 rfl) ?_
  refine lv_iconst (v := 2) hx hb dL_law_508 (by decide) ?_
  refine lv_iadd hx hb dL_law_509 ?_
  refine tc (y := 2) (by decide) ?_
  refine va_sld hx hb hX hbl hbA hS (in_c (by decide)) dL_law_510 ?_
  refine tc (y := xs 2) (congrArg xs (by decide)) ?_
  refine ro_V (As := [.int (xs 1), .int (xs 2)]) (rest := [.int r1]) hC hE kV_L_44 (c_X12_becomes l D K y fm hfm (xs 1) (xs 2)) hPm 0 11 rfl rfl rfl hl.1 rfl (Nat.le_of_ble_eq_true rfl) ⟨(Nat.le_of_ble_eq_true rfl), (Nat.le_of_ble_eq_true rfl)⟩ ⟨(Nat.le_of_ble_eq_true rfl), (Nat.le_of_ble_eq_true rfl)⟩ dL_law_511 (fun r2 hw2 => ?_)
  refine lv_icmp_eq (tgt := 2343) hx hb dL_law_514 (by decide) (fun _ => ?_) (fun h => absurd (hw1.trans hw2.symm) h)
  refine W.widen (k := 1000) (n := 200000) (Nat.le_of_ble_eq_true rfl) (Nat.le_of_ble_eq_true rfl) ?_
  exact law_next hC hr hk hX hbl hS (lv_sub hl [3, 0] rfl)
set_option maxRecDepth 40000 in
set_option maxHeartbeats 4000000 in
theorem law_7 {p : Program} {l : Launch} {e : Env} {s : State} {m : MethodId} {below : List Frame} {meth : Method} {c : Code} {b : Nat} {xs : Nat → Int32} {D : va_G} {K : Nat → ClassId} (hC : CallFix p m c cL_law 4 s #[Value.ref b] wl RL) (hr : meth.sig.returnType = ret) (hk : meth.locks = false) (hX : va_X b 6 xs s s.heap) (hbl : b < s.heap.size) (hE : ev D K s) (x y : Nat → Nat) (fs fm : Nat → Int32) (hfs : ∀ j, j < 4 → fs j = -1) (hfm : ∀ j, j < 4 → fm j = -1) (H : Heap) (locs : List Loc) (hP : va_P D vwCl (fxL K x fs ++ mdL K y fm) H) (hD : va_D (fun q : Nat => s.heap.size ≤ q) (fxL K x fs ++ mdL K y fm)) (hPx : va_P D vwCl (fxL K x fs) H) (hPm : va_P D vwCl (mdL K y fm) H) (hS : va_S (fun q : Nat => s.heap.size ≤ q) s.heap H locs) (ls : Array Slot) (hl : lv_has ls 4 [(3, .int 0), (2, .ref (y 0)), (1, .ref (x 0)), (0, .ref b)]) : W p l e room_1 s m #[Value.ref b] below meth c H locs 900 150000 (lw_Z below #[Value.ref b] s) (F0 m 519 ls []) := by
  have hx := hC.1
  have hb := hC.2.1
  have hown := hC.2.2.2.1
  have hts := hC.2.2.2.2
  have hbA : ¬ (fun q : Nat => s.heap.size ≤ q) b := Nat.not_le.mpr hbl
  refine lv_aload_n hx hb dL_law_519 rfl (lv_at hl 2 rfl) ?_
  refine lv_aload_n hx hb dL_law_520 rfl (lv_at hl 3 rfl) ?_
  refine lv_iload_n hx hb dL_law_521 rfl (lv_at hl 0 rfl) ?_
  refine lv_iconst (v := 1) hx hb dL_law_522 (by decide) ?_
  refine lv_iadd hx hb dL_law_523 ?_
  refine tc (y := 1) (by decide) ?_
  refine va_sld hx hb hX hbl hbA hS (in_c (by decide)) dL_law_524 ?_
  refine tc (y := xs 1) (congrArg xs (by decide)) ?_
  refine lv_aload_n hx hb dL_law_525 rfl (lv_at hl 3 rfl) ?_
  refine lv_iload_n hx hb dL_law_526 rfl (lv_at hl 0 rfl) ?_
  refine lv_iconst (v := 2) hx hb dL_law_527 (by decide) ?_
  refine lv_iadd hx hb dL_law_528 ?_
  refine tc (y := 2) (by decide) ?_
  refine va_sld hx hb hX hbl hbA hS (in_c (by decide)) dL_law_529 ?_
  refine tc (y := xs 2) (congrArg xs (by decide)) ?_
  refine ro_V (As := [.int (xs 1), .int (xs 2)]) (rest := []) hC hE kV_L_45 (c_X11_seen l D K x fs hfs (xs 1) (xs 2)) hPx 0 10 rfl rfl rfl hl.1 rfl (Nat.le_of_ble_eq_true rfl) ⟨(Nat.le_of_ble_eq_true rfl), (Nat.le_of_ble_eq_true rfl)⟩ ⟨(Nat.le_of_ble_eq_true rfl), (Nat.le_of_ble_eq_true rfl)⟩ dL_law_530 (fun r1 hw1 => ?_)
  refine lv_aload_n hx hb dL_law_533 rfl (lv_at hl 1 rfl) ?_
  refine lv_aload_n hx hb dL_law_534 rfl (lv_at hl 3 rfl) ?_
  refine lv_iload_n hx hb dL_law_535 rfl (lv_at hl 0 rfl) ?_
  refine lv_iconst (v := 1) hx hb dL_law_536 (by decide) ?_
  refine lv_iadd hx hb dL_law_537 ?_
  refine tc (y := 1) (by decide) ?_
  refine va_sld hx hb hX hbl hbA hS (in_c (by decide)) dL_law_538 ?_
  refine tc (y := xs 1) (congrArg xs (by decide)) ?_
  refine lv_aload_n hx hb dL_law_539 rfl (lv_at hl 3 rfl) ?_
  refine lv_iload_n hx hb dL_law_540 rfl (lv_at hl 0 rfl) ?_
  refine lv_iconst (v := 2) hx hb dL_law_541 (by decide) ?_
  refine lv_iadd hx hb dL_law_542 ?_
  refine tc (y := 2) (by decide) ?_
  refine va_sld hx hb hX hbl hbA hS (in_c (by decide)) dL_law_543 ?_
  refine tc (y := xs 2) (congrArg xs (by decide)) ?_
  refine ro_V (As := [.int (xs 1), .int (xs 2)]) (rest := [.int r1]) hC hE kV_L_48 (c_X12_seen l D K y fm hfm (xs 1) (xs 2)) hPm 0 11 rfl rfl rfl hl.1 rfl (Nat.le_of_ble_eq_true rfl) ⟨(Nat.le_of_ble_eq_true rfl), (Nat.le_of_ble_eq_true rfl)⟩ ⟨(Nat.le_of_ble_eq_true rfl), (Nat.le_of_ble_eq_true rfl)⟩ dL_law_544 (fun r2 hw2 => ?_)
  refine lv_icmp_eq (tgt := 2343) hx hb dL_law_547 (by decide) (fun _ => ?_) (fun h => absurd (hw1.trans hw2.symm) h)
  refine W.widen (k := 1000) (n := 200000) (Nat.le_of_ble_eq_true rfl) (Nat.le_of_ble_eq_true rfl) ?_
  exact law_next hC hr hk hX hbl hS (lv_sub hl [3, 0] rfl)
set_option maxRecDepth 40000 in
set_option maxHeartbeats 4000000 in
theorem law_8 {p : Program} {l : Launch} {e : Env} {s : State} {m : MethodId} {below : List Frame} {meth : Method} {c : Code} {b : Nat} {xs : Nat → Int32} {D : va_G} {K : Nat → ClassId} (hC : CallFix p m c cL_law 4 s #[Value.ref b] wl RL) (hr : meth.sig.returnType = ret) (hk : meth.locks = false) (hX : va_X b 6 xs s s.heap) (hbl : b < s.heap.size) (hE : ev D K s) (x y : Nat → Nat) (fs fm : Nat → Int32) (hfs : ∀ j, j < 4 → fs j = -1) (hfm : ∀ j, j < 4 → fm j = -1) (H : Heap) (locs : List Loc) (hP : va_P D vwCl (fxL K x fs ++ mdL K y fm) H) (hD : va_D (fun q : Nat => s.heap.size ≤ q) (fxL K x fs ++ mdL K y fm)) (hPx : va_P D vwCl (fxL K x fs) H) (hPm : va_P D vwCl (mdL K y fm) H) (hS : va_S (fun q : Nat => s.heap.size ≤ q) s.heap H locs) (ls : Array Slot) (hl : lv_has ls 4 [(3, .int 0), (2, .ref (y 0)), (1, .ref (x 0)), (0, .ref b)]) : W p l e room_1 s m #[Value.ref b] below meth c H locs 900 150000 (lw_Z below #[Value.ref b] s) (F0 m 552 ls []) := by
  have hx := hC.1
  have hb := hC.2.1
  have hown := hC.2.2.2.1
  have hts := hC.2.2.2.2
  have hbA : ¬ (fun q : Nat => s.heap.size ≤ q) b := Nat.not_le.mpr hbl
  refine lv_aload_n hx hb dL_law_552 rfl (lv_at hl 2 rfl) ?_
  refine lv_aload_n hx hb dL_law_553 rfl (lv_at hl 3 rfl) ?_
  refine lv_iload_n hx hb dL_law_554 rfl (lv_at hl 0 rfl) ?_
  refine lv_iconst (v := 1) hx hb dL_law_555 (by decide) ?_
  refine lv_iadd hx hb dL_law_556 ?_
  refine tc (y := 1) (by decide) ?_
  refine va_sld hx hb hX hbl hbA hS (in_c (by decide)) dL_law_557 ?_
  refine tc (y := xs 1) (congrArg xs (by decide)) ?_
  refine ro_V (As := [.int (xs 1)]) (rest := []) hC hE kV_L_49 (c_X11_where l D K x fs hfs (xs 1)) hPx 0 10 rfl rfl rfl hl.1 rfl (Nat.le_of_ble_eq_true rfl) ⟨(Nat.le_of_ble_eq_true rfl), (Nat.le_of_ble_eq_true rfl)⟩ ⟨(Nat.le_of_ble_eq_true rfl), (Nat.le_of_ble_eq_true rfl)⟩ dL_law_558 (fun r1 hw1 => ?_)
  refine lv_aload_n hx hb dL_law_561 rfl (lv_at hl 1 rfl) ?_
  refine lv_aload_n hx hb dL_law_562 rfl (lv_at hl 3 rfl) ?_
  refine lv_iload_n hx hb dL_law_563 rfl (lv_at hl 0 rfl) ?_
  refine lv_iconst (v := 1) hx hb dL_law_564 (by decide) ?_
  refine lv_iadd hx hb dL_law_565 ?_
  refine tc (y := 1) (by decide) ?_
  refine va_sld hx hb hX hbl hbA hS (in_c (by decide)) dL_law_566 ?_
  refine tc (y := xs 1) (congrArg xs (by decide)) ?_
  refine ro_V (As := [.int (xs 1)]) (rest := [.int r1]) hC hE kV_L_52 (c_X12_where l D K y fm hfm (xs 1)) hPm 0 11 rfl rfl rfl hl.1 rfl (Nat.le_of_ble_eq_true rfl) ⟨(Nat.le_of_ble_eq_true rfl), (Nat.le_of_ble_eq_true rfl)⟩ ⟨(Nat.le_of_ble_eq_true rfl), (Nat.le_of_ble_eq_true rfl)⟩ dL_law_567 (fun r2 hw2 => ?_)
  refine lv_icmp_eq (tgt := 2343) hx hb dL_law_570 (by decide) (fun _ => ?_) (fun h => absurd (hw1.trans hw2.symm) h)
  refine W.widen (k := 1000) (n := 200000) (Nat.le_of_ble_eq_true rfl) (Nat.le_of_ble_eq_true rfl) ?_
  exact law_next hC hr hk hX hbl hS (lv_sub hl [3, 0] rfl)
set_option maxRecDepth 40000 in
set_option maxHeartbeats 4000000 in
theorem law_9 {p : Program} {l : Launch} {e : Env} {s : State} {m : MethodId} {below : List Frame} {meth : Method} {c : Code} {b : Nat} {xs : Nat → Int32} {D : va_G} {K : Nat → ClassId} (hC : CallFix p m c cL_law 4 s #[Value.ref b] wl RL) (hr : meth.sig.returnType = ret) (hk : meth.locks = false) (hX : va_X b 6 xs s s.heap) (hbl : b < s.heap.size) (hE : ev D K s) (x y : Nat → Nat) (fs fm : Nat → Int32) (hfs : ∀ j, j < 4 → fs j = -1) (hfm : ∀ j, j < 4 → fm j = -1) (H : Heap) (locs : List Loc) (hP : va_P D vwCl (fxL K x fs ++ mdL K y fm) H) (hD : va_D (fun q : Nat => s.heap.size ≤ q) (fxL K x fs ++ mdL K y fm)) (hPx : va_P D vwCl (fxL K x fs) H) (hPm : va_P D vwCl (mdL K y fm) H) (hS : va_S (fun q : Nat => s.heap.size ≤ q) s.heap H locs) (ls : Array Slot) (hl : lv_has ls 4 [(3, .int 0), (2, .ref (y 0)), (1, .ref (x 0)), (0, .ref b)]) : W p l e room_1 s m #[Value.ref b] below meth c H locs 900 150000 (lw_Z below #[Value.ref b] s) (F0 m 575 ls []) := by
  have hx := hC.1
  have hb := hC.2.1
  have hown := hC.2.2.2.1
  have hts := hC.2.2.2.2
  have hbA : ¬ (fun q : Nat => s.heap.size ≤ q) b := Nat.not_le.mpr hbl
  refine lv_aload_n hx hb dL_law_575 rfl (lv_at hl 2 rfl) ?_
  refine lv_aload_n hx hb dL_law_576 rfl (lv_at hl 3 rfl) ?_
  refine lv_iload_n hx hb dL_law_577 rfl (lv_at hl 0 rfl) ?_
  refine lv_iconst (v := 1) hx hb dL_law_578 (by decide) ?_
  refine lv_iadd hx hb dL_law_579 ?_
  refine tc (y := 1) (by decide) ?_
  refine va_sld hx hb hX hbl hbA hS (in_c (by decide)) dL_law_580 ?_
  refine tc (y := xs 1) (congrArg xs (by decide)) ?_
  refine ro_V (As := [.int (xs 1)]) (rest := []) hC hE kV_L_53 (c_X11_thinks l D K x fs hfs (xs 1)) hPx 0 10 rfl rfl rfl hl.1 rfl (Nat.le_of_ble_eq_true rfl) ⟨(Nat.le_of_ble_eq_true rfl), (Nat.le_of_ble_eq_true rfl)⟩ ⟨(Nat.le_of_ble_eq_true rfl), (Nat.le_of_ble_eq_true rfl)⟩ dL_law_581 (fun r1 hw1 => ?_)
  refine lv_aload_n hx hb dL_law_584 rfl (lv_at hl 1 rfl) ?_
  refine lv_aload_n hx hb dL_law_585 rfl (lv_at hl 3 rfl) ?_
  refine lv_iload_n hx hb dL_law_586 rfl (lv_at hl 0 rfl) ?_
  refine lv_iconst (v := 1) hx hb dL_law_587 (by decide) ?_
  refine lv_iadd hx hb dL_law_588 ?_
  refine tc (y := 1) (by decide) ?_
  refine va_sld hx hb hX hbl hbA hS (in_c (by decide)) dL_law_589 ?_
  refine tc (y := xs 1) (congrArg xs (by decide)) ?_
  refine ro_V (As := [.int (xs 1)]) (rest := [.int r1]) hC hE kV_L_56 (c_X12_thinks l D K y fm hfm (xs 1)) hPm 0 11 rfl rfl rfl hl.1 rfl (Nat.le_of_ble_eq_true rfl) ⟨(Nat.le_of_ble_eq_true rfl), (Nat.le_of_ble_eq_true rfl)⟩ ⟨(Nat.le_of_ble_eq_true rfl), (Nat.le_of_ble_eq_true rfl)⟩ dL_law_590 (fun r2 hw2 => ?_)
  refine lv_icmp_eq (tgt := 2343) hx hb dL_law_593 (by decide) (fun _ => ?_) (fun h => absurd (hw1.trans hw2.symm) h)
  refine W.widen (k := 1000) (n := 200000) (Nat.le_of_ble_eq_true rfl) (Nat.le_of_ble_eq_true rfl) ?_
  exact law_next hC hr hk hX hbl hS (lv_sub hl [3, 0] rfl)
set_option maxRecDepth 40000 in
set_option maxHeartbeats 4000000 in
theorem law_10 {p : Program} {l : Launch} {e : Env} {s : State} {m : MethodId} {below : List Frame} {meth : Method} {c : Code} {b : Nat} {xs : Nat → Int32} {D : va_G} {K : Nat → ClassId} (hC : CallFix p m c cL_law 4 s #[Value.ref b] wl RL) (hr : meth.sig.returnType = ret) (hk : meth.locks = false) (hX : va_X b 6 xs s s.heap) (hbl : b < s.heap.size) (hE : ev D K s) (x y : Nat → Nat) (fs fm : Nat → Int32) (hfs : ∀ j, j < 4 → fs j = -1) (hfm : ∀ j, j < 4 → fm j = -1) (H : Heap) (locs : List Loc) (hP : va_P D vwCl (fxL K x fs ++ mdL K y fm) H) (hD : va_D (fun q : Nat => s.heap.size ≤ q) (fxL K x fs ++ mdL K y fm)) (hPx : va_P D vwCl (fxL K x fs) H) (hPm : va_P D vwCl (mdL K y fm) H) (hS : va_S (fun q : Nat => s.heap.size ≤ q) s.heap H locs) (ls : Array Slot) (hl : lv_has ls 4 [(3, .int 0), (2, .ref (y 0)), (1, .ref (x 0)), (0, .ref b)]) : W p l e room_1 s m #[Value.ref b] below meth c H locs 900 150000 (lw_Z below #[Value.ref b] s) (F0 m 598 ls []) := by
  have hx := hC.1
  have hb := hC.2.1
  have hown := hC.2.2.2.1
  have hts := hC.2.2.2.2
  have hbA : ¬ (fun q : Nat => s.heap.size ≤ q) b := Nat.not_le.mpr hbl
  refine lv_aload_n hx hb dL_law_598 rfl (lv_at hl 2 rfl) ?_
  refine lv_aload_n hx hb dL_law_599 rfl (lv_at hl 3 rfl) ?_
  refine lv_iload_n hx hb dL_law_600 rfl (lv_at hl 0 rfl) ?_
  refine lv_iconst (v := 1) hx hb dL_law_601 (by decide) ?_
  refine lv_iadd hx hb dL_law_602 ?_
  refine tc (y := 1) (by decide) ?_
  refine va_sld hx hb hX hbl hbA hS (in_c (by decide)) dL_law_603 ?_
  refine tc (y := xs 1) (congrArg xs (by decide)) ?_
  refine lv_aload_n hx hb dL_law_604 rfl (lv_at hl 3 rfl) ?_
  refine lv_iload_n hx hb dL_law_605 rfl (lv_at hl 0 rfl) ?_
  refine lv_iconst (v := 2) hx hb dL_law_606 (by decide) ?_
  refine lv_iadd hx hb dL_law_607 ?_
  refine tc (y := 2) (by decide) ?_
  refine va_sld hx hb hX hbl hbA hS (in_c (by decide)) dL_law_608 ?_
  refine tc (y := xs 2) (congrArg xs (by decide)) ?_
  refine ro_V (As := [.int (xs 1), .int (xs 2)]) (rest := []) hC hE kV_L_57 (c_X11_pupil l D K x fs hfs (xs 1) (xs 2)) hPx 0 10 rfl rfl rfl hl.1 rfl (Nat.le_of_ble_eq_true rfl) ⟨(Nat.le_of_ble_eq_true rfl), (Nat.le_of_ble_eq_true rfl)⟩ ⟨(Nat.le_of_ble_eq_true rfl), (Nat.le_of_ble_eq_true rfl)⟩ dL_law_609 (fun r1 hw1 => ?_)
  refine lv_aload_n hx hb dL_law_612 rfl (lv_at hl 1 rfl) ?_
  refine lv_aload_n hx hb dL_law_613 rfl (lv_at hl 3 rfl) ?_
  refine lv_iload_n hx hb dL_law_614 rfl (lv_at hl 0 rfl) ?_
  refine lv_iconst (v := 1) hx hb dL_law_615 (by decide) ?_
  refine lv_iadd hx hb dL_law_616 ?_
  refine tc (y := 1) (by decide) ?_
  refine va_sld hx hb hX hbl hbA hS (in_c (by decide)) dL_law_617 ?_
  refine tc (y := xs 1) (congrArg xs (by decide)) ?_
  refine lv_aload_n hx hb dL_law_618 rfl (lv_at hl 3 rfl) ?_
  refine lv_iload_n hx hb dL_law_619 rfl (lv_at hl 0 rfl) ?_
  refine lv_iconst (v := 2) hx hb dL_law_620 (by decide) ?_
  refine lv_iadd hx hb dL_law_621 ?_
  refine tc (y := 2) (by decide) ?_
  refine va_sld hx hb hX hbl hbA hS (in_c (by decide)) dL_law_622 ?_
  refine tc (y := xs 2) (congrArg xs (by decide)) ?_
  refine ro_V (As := [.int (xs 1), .int (xs 2)]) (rest := [.int r1]) hC hE kV_L_60 (c_X12_pupil l D K y fm hfm (xs 1) (xs 2)) hPm 0 11 rfl rfl rfl hl.1 rfl (Nat.le_of_ble_eq_true rfl) ⟨(Nat.le_of_ble_eq_true rfl), (Nat.le_of_ble_eq_true rfl)⟩ ⟨(Nat.le_of_ble_eq_true rfl), (Nat.le_of_ble_eq_true rfl)⟩ dL_law_623 (fun r2 hw2 => ?_)
  refine lv_icmp_eq (tgt := 2343) hx hb dL_law_626 (by decide) (fun _ => ?_) (fun h => absurd (hw1.trans hw2.symm) h)
  refine W.widen (k := 1000) (n := 200000) (Nat.le_of_ble_eq_true rfl) (Nat.le_of_ble_eq_true rfl) ?_
  exact law_next hC hr hk hX hbl hS (lv_sub hl [3, 0] rfl)
set_option maxRecDepth 40000 in
set_option maxHeartbeats 4000000 in
theorem law_11 {p : Program} {l : Launch} {e : Env} {s : State} {m : MethodId} {below : List Frame} {meth : Method} {c : Code} {b : Nat} {xs : Nat → Int32} {D : va_G} {K : Nat → ClassId} (hC : CallFix p m c cL_law 4 s #[Value.ref b] wl RL) (hr : meth.sig.returnType = ret) (hk : meth.locks = false) (hX : va_X b 6 xs s s.heap) (hbl : b < s.heap.size) (hE : ev D K s) (x y : Nat → Nat) (fs fm : Nat → Int32) (hfs : ∀ j, j < 4 → fs j = -1) (hfm : ∀ j, j < 4 → fm j = -1) (H : Heap) (locs : List Loc) (hP : va_P D vwCl (fxL K x fs ++ mdL K y fm) H) (hD : va_D (fun q : Nat => s.heap.size ≤ q) (fxL K x fs ++ mdL K y fm)) (hPx : va_P D vwCl (fxL K x fs) H) (hPm : va_P D vwCl (mdL K y fm) H) (hS : va_S (fun q : Nat => s.heap.size ≤ q) s.heap H locs) (ls : Array Slot) (hl : lv_has ls 4 [(3, .int 0), (2, .ref (y 0)), (1, .ref (x 0)), (0, .ref b)]) : W p l e room_1 s m #[Value.ref b] below meth c H locs 900 150000 (lw_Z below #[Value.ref b] s) (F0 m 631 ls []) := by
  have hx := hC.1
  have hb := hC.2.1
  have hown := hC.2.2.2.1
  have hts := hC.2.2.2.2
  have hbA : ¬ (fun q : Nat => s.heap.size ≤ q) b := Nat.not_le.mpr hbl
  refine lv_aload_n hx hb dL_law_631 rfl (lv_at hl 2 rfl) ?_
  refine lv_aload_n hx hb dL_law_632 rfl (lv_at hl 3 rfl) ?_
  refine lv_iload_n hx hb dL_law_633 rfl (lv_at hl 0 rfl) ?_
  refine lv_iconst (v := 1) hx hb dL_law_634 (by decide) ?_
  refine lv_iadd hx hb dL_law_635 ?_
  refine tc (y := 1) (by decide) ?_
  refine va_sld hx hb hX hbl hbA hS (in_c (by decide)) dL_law_636 ?_
  refine tc (y := xs 1) (congrArg xs (by decide)) ?_
  refine lv_aload_n hx hb dL_law_637 rfl (lv_at hl 3 rfl) ?_
  refine lv_iload_n hx hb dL_law_638 rfl (lv_at hl 0 rfl) ?_
  refine lv_iconst (v := 2) hx hb dL_law_639 (by decide) ?_
  refine lv_iadd hx hb dL_law_640 ?_
  refine tc (y := 2) (by decide) ?_
  refine va_sld hx hb hX hbl hbA hS (in_c (by decide)) dL_law_641 ?_
  refine tc (y := xs 2) (congrArg xs (by decide)) ?_
  refine ro_V (As := [.int (xs 1), .int (xs 2)]) (rest := []) hC hE kV_L_61 (c_X11_goes l D K x fs hfs (xs 1) (xs 2)) hPx 0 10 rfl rfl rfl hl.1 rfl (Nat.le_of_ble_eq_true rfl) ⟨(Nat.le_of_ble_eq_true rfl), (Nat.le_of_ble_eq_true rfl)⟩ ⟨(Nat.le_of_ble_eq_true rfl), (Nat.le_of_ble_eq_true rfl)⟩ dL_law_642 (fun r1 hw1 => ?_)
  refine lv_aload_n hx hb dL_law_645 rfl (lv_at hl 1 rfl) ?_
  refine lv_aload_n hx hb dL_law_646 rfl (lv_at hl 3 rfl) ?_
  refine lv_iload_n hx hb dL_law_647 rfl (lv_at hl 0 rfl) ?_
  refine lv_iconst (v := 1) hx hb dL_law_648 (by decide) ?_
  refine lv_iadd hx hb dL_law_649 ?_
  refine tc (y := 1) (by decide) ?_
  refine va_sld hx hb hX hbl hbA hS (in_c (by decide)) dL_law_650 ?_
  refine tc (y := xs 1) (congrArg xs (by decide)) ?_
  refine lv_aload_n hx hb dL_law_651 rfl (lv_at hl 3 rfl) ?_
  refine lv_iload_n hx hb dL_law_652 rfl (lv_at hl 0 rfl) ?_
  refine lv_iconst (v := 2) hx hb dL_law_653 (by decide) ?_
  refine lv_iadd hx hb dL_law_654 ?_
  refine tc (y := 2) (by decide) ?_
  refine va_sld hx hb hX hbl hbA hS (in_c (by decide)) dL_law_655 ?_
  refine tc (y := xs 2) (congrArg xs (by decide)) ?_
  refine ro_V (As := [.int (xs 1), .int (xs 2)]) (rest := [.int r1]) hC hE kV_L_64 (c_X12_goes l D K y fm hfm (xs 1) (xs 2)) hPm 0 11 rfl rfl rfl hl.1 rfl (Nat.le_of_ble_eq_true rfl) ⟨(Nat.le_of_ble_eq_true rfl), (Nat.le_of_ble_eq_true rfl)⟩ ⟨(Nat.le_of_ble_eq_true rfl), (Nat.le_of_ble_eq_true rfl)⟩ dL_law_656 (fun r2 hw2 => ?_)
  refine lv_icmp_eq (tgt := 2343) hx hb dL_law_659 (by decide) (fun _ => ?_) (fun h => absurd (hw1.trans hw2.symm) h)
  refine W.widen (k := 1000) (n := 200000) (Nat.le_of_ble_eq_true rfl) (Nat.le_of_ble_eq_true rfl) ?_
  exact law_next hC hr hk hX hbl hS (lv_sub hl [3, 0] rfl)
set_option maxRecDepth 40000 in
set_option maxHeartbeats 4000000 in
theorem law_12 {p : Program} {l : Launch} {e : Env} {s : State} {m : MethodId} {below : List Frame} {meth : Method} {c : Code} {b : Nat} {xs : Nat → Int32} {D : va_G} {K : Nat → ClassId} (hC : CallFix p m c cL_law 4 s #[Value.ref b] wl RL) (hr : meth.sig.returnType = ret) (hk : meth.locks = false) (hX : va_X b 6 xs s s.heap) (hbl : b < s.heap.size) (hE : ev D K s) (x y : Nat → Nat) (fs fm : Nat → Int32) (hfs : ∀ j, j < 4 → fs j = -1) (hfm : ∀ j, j < 4 → fm j = -1) (H : Heap) (locs : List Loc) (hP : va_P D vwCl (fxL K x fs ++ mdL K y fm) H) (hD : va_D (fun q : Nat => s.heap.size ≤ q) (fxL K x fs ++ mdL K y fm)) (hPx : va_P D vwCl (fxL K x fs) H) (hPm : va_P D vwCl (mdL K y fm) H) (hS : va_S (fun q : Nat => s.heap.size ≤ q) s.heap H locs) (ls : Array Slot) (hl : lv_has ls 4 [(3, .int 0), (2, .ref (y 0)), (1, .ref (x 0)), (0, .ref b)]) : W p l e room_1 s m #[Value.ref b] below meth c H locs 900 150000 (lw_Z below #[Value.ref b] s) (F0 m 664 ls []) := by
  have hx := hC.1
  have hb := hC.2.1
  have hown := hC.2.2.2.1
  have hts := hC.2.2.2.2
  have hbA : ¬ (fun q : Nat => s.heap.size ≤ q) b := Nat.not_le.mpr hbl
  refine lv_aload_n hx hb dL_law_664 rfl (lv_at hl 2 rfl) ?_
  refine ro_V (As := []) (rest := []) hC hE kV_L_65 (c_X11_most l D K x fs hfs) hPx 0 10 rfl rfl rfl hl.1 rfl (Nat.le_of_ble_eq_true rfl) ⟨(Nat.le_of_ble_eq_true rfl), (Nat.le_of_ble_eq_true rfl)⟩ ⟨(Nat.le_of_ble_eq_true rfl), (Nat.le_of_ble_eq_true rfl)⟩ dL_law_665 (fun r1 hw1 => ?_)
  refine lv_aload_n hx hb dL_law_668 rfl (lv_at hl 1 rfl) ?_
  refine ro_V (As := []) (rest := [.int r1]) hC hE kV_L_68 (c_X12_most l D K y fm hfm) hPm 0 11 rfl rfl rfl hl.1 rfl (Nat.le_of_ble_eq_true rfl) ⟨(Nat.le_of_ble_eq_true rfl), (Nat.le_of_ble_eq_true rfl)⟩ ⟨(Nat.le_of_ble_eq_true rfl), (Nat.le_of_ble_eq_true rfl)⟩ dL_law_669 (fun r2 hw2 => ?_)
  refine lv_icmp_eq (tgt := 2343) hx hb dL_law_672 (by decide) (fun _ => ?_) (fun h => absurd (hw1.trans hw2.symm) h)
  refine W.widen (k := 1000) (n := 200000) (Nat.le_of_ble_eq_true rfl) (Nat.le_of_ble_eq_true rfl) ?_
  exact law_next hC hr hk hX hbl hS (lv_sub hl [3, 0] rfl)
set_option maxRecDepth 40000 in
set_option maxHeartbeats 4000000 in
theorem law_13 {p : Program} {l : Launch} {e : Env} {s : State} {m : MethodId} {below : List Frame} {meth : Method} {c : Code} {b : Nat} {xs : Nat → Int32} {D : va_G} {K : Nat → ClassId} (hC : CallFix p m c cL_law 4 s #[Value.ref b] wl RL) (hr : meth.sig.returnType = ret) (hk : meth.locks = false) (hX : va_X b 6 xs s s.heap) (hbl : b < s.heap.size) (hE : ev D K s) (x y : Nat → Nat) (fs fm : Nat → Int32) (hfs : ∀ j, j < 4 → fs j = -1) (hfm : ∀ j, j < 4 → fm j = -1) (H : Heap) (locs : List Loc) (hP : va_P D vwCl (fxL K x fs ++ mdL K y fm) H) (hD : va_D (fun q : Nat => s.heap.size ≤ q) (fxL K x fs ++ mdL K y fm)) (hPx : va_P D vwCl (fxL K x fs) H) (hPm : va_P D vwCl (mdL K y fm) H) (hS : va_S (fun q : Nat => s.heap.size ≤ q) s.heap H locs) (ls : Array Slot) (hl : lv_has ls 4 [(3, .int 0), (2, .ref (y 0)), (1, .ref (x 0)), (0, .ref b)]) : W p l e room_1 s m #[Value.ref b] below meth c H locs 900 150000 (lw_Z below #[Value.ref b] s) (F0 m 677 ls []) := by
  have hx := hC.1
  have hb := hC.2.1
  have hown := hC.2.2.2.1
  have hts := hC.2.2.2.2
  have hbA : ¬ (fun q : Nat => s.heap.size ≤ q) b := Nat.not_le.mpr hbl
  refine lv_aload_n hx hb dL_law_677 rfl (lv_at hl 2 rfl) ?_
  refine lv_aload_n hx hb dL_law_678 rfl (lv_at hl 3 rfl) ?_
  refine lv_iload_n hx hb dL_law_679 rfl (lv_at hl 0 rfl) ?_
  refine lv_iconst (v := 1) hx hb dL_law_680 (by decide) ?_
  refine lv_iadd hx hb dL_law_681 ?_
  refine tc (y := 1) (by decide) ?_
  refine va_sld hx hb hX hbl hbA hS (in_c (by decide)) dL_law_682 ?_
  refine tc (y := xs 1) (congrArg xs (by decide)) ?_
  refine ro_V (As := [.int (xs 1)]) (rest := []) hC hE kV_L_69 (c_X11_who l D K x fs hfs (xs 1)) hPx 0 10 rfl rfl rfl hl.1 rfl (Nat.le_of_ble_eq_true rfl) ⟨(Nat.le_of_ble_eq_true rfl), (Nat.le_of_ble_eq_true rfl)⟩ ⟨(Nat.le_of_ble_eq_true rfl), (Nat.le_of_ble_eq_true rfl)⟩ dL_law_683 (fun r1 hw1 => ?_)
  refine lv_aload_n hx hb dL_law_686 rfl (lv_at hl 1 rfl) ?_
  refine lv_aload_n hx hb dL_law_687 rfl (lv_at hl 3 rfl) ?_
  refine lv_iload_n hx hb dL_law_688 rfl (lv_at hl 0 rfl) ?_
  refine lv_iconst (v := 1) hx hb dL_law_689 (by decide) ?_
  refine lv_iadd hx hb dL_law_690 ?_
  refine tc (y := 1) (by decide) ?_
  refine va_sld hx hb hX hbl hbA hS (in_c (by decide)) dL_law_691 ?_
  refine tc (y := xs 1) (congrArg xs (by decide)) ?_
  refine ro_V (As := [.int (xs 1)]) (rest := [.int r1]) hC hE kV_L_72 (c_X12_who l D K y fm hfm (xs 1)) hPm 0 11 rfl rfl rfl hl.1 rfl (Nat.le_of_ble_eq_true rfl) ⟨(Nat.le_of_ble_eq_true rfl), (Nat.le_of_ble_eq_true rfl)⟩ ⟨(Nat.le_of_ble_eq_true rfl), (Nat.le_of_ble_eq_true rfl)⟩ dL_law_692 (fun r2 hw2 => ?_)
  refine lv_icmp_eq (tgt := 2343) hx hb dL_law_695 (by decide) (fun _ => ?_) (fun h => absurd (hw1.trans hw2.symm) h)
  refine W.widen (k := 1000) (n := 200000) (Nat.le_of_ble_eq_true rfl) (Nat.le_of_ble_eq_true rfl) ?_
  exact law_next hC hr hk hX hbl hS (lv_sub hl [3, 0] rfl)
set_option maxRecDepth 40000 in
set_option maxHeartbeats 4000000 in
theorem law_14 {p : Program} {l : Launch} {e : Env} {s : State} {m : MethodId} {below : List Frame} {meth : Method} {c : Code} {b : Nat} {xs : Nat → Int32} {D : va_G} {K : Nat → ClassId} (hC : CallFix p m c cL_law 4 s #[Value.ref b] wl RL) (hr : meth.sig.returnType = ret) (hk : meth.locks = false) (hX : va_X b 6 xs s s.heap) (hbl : b < s.heap.size) (hE : ev D K s) (x y : Nat → Nat) (fs fm : Nat → Int32) (hfs : ∀ j, j < 4 → fs j = -1) (hfm : ∀ j, j < 4 → fm j = -1) (H : Heap) (locs : List Loc) (hP : va_P D vwCl (fxL K x fs ++ mdL K y fm) H) (hD : va_D (fun q : Nat => s.heap.size ≤ q) (fxL K x fs ++ mdL K y fm)) (hPx : va_P D vwCl (fxL K x fs) H) (hPm : va_P D vwCl (mdL K y fm) H) (hS : va_S (fun q : Nat => s.heap.size ≤ q) s.heap H locs) (ls : Array Slot) (hl : lv_has ls 4 [(3, .int 0), (2, .ref (y 0)), (1, .ref (x 0)), (0, .ref b)]) : W p l e room_1 s m #[Value.ref b] below meth c H locs 900 150000 (lw_Z below #[Value.ref b] s) (F0 m 700 ls []) := by
  have hx := hC.1
  have hb := hC.2.1
  have hown := hC.2.2.2.1
  have hts := hC.2.2.2.2
  have hbA : ¬ (fun q : Nat => s.heap.size ≤ q) b := Nat.not_le.mpr hbl
  refine lv_aload_n hx hb dL_law_700 rfl (lv_at hl 2 rfl) ?_
  refine ro_V (As := []) (rest := []) hC hE kV_L_73 (c_X11_undo l D K x fs hfs) hPx 0 10 rfl rfl rfl hl.1 rfl (Nat.le_of_ble_eq_true rfl) ⟨(Nat.le_of_ble_eq_true rfl), (Nat.le_of_ble_eq_true rfl)⟩ ⟨(Nat.le_of_ble_eq_true rfl), (Nat.le_of_ble_eq_true rfl)⟩ dL_law_701 (fun r1 hw1 => ?_)
  refine lv_aload_n hx hb dL_law_704 rfl (lv_at hl 1 rfl) ?_
  refine ro_V (As := []) (rest := [.int r1]) hC hE kV_L_76 (c_X12_undo l D K y fm hfm) hPm 0 11 rfl rfl rfl hl.1 rfl (Nat.le_of_ble_eq_true rfl) ⟨(Nat.le_of_ble_eq_true rfl), (Nat.le_of_ble_eq_true rfl)⟩ ⟨(Nat.le_of_ble_eq_true rfl), (Nat.le_of_ble_eq_true rfl)⟩ dL_law_705 (fun r2 hw2 => ?_)
  refine lv_icmp_eq (tgt := 2343) hx hb dL_law_708 (by decide) (fun _ => ?_) (fun h => absurd (hw1.trans hw2.symm) h)
  refine W.widen (k := 1000) (n := 200000) (Nat.le_of_ble_eq_true rfl) (Nat.le_of_ble_eq_true rfl) ?_
  exact law_next hC hr hk hX hbl hS (lv_sub hl [3, 0] rfl)
set_option maxRecDepth 40000 in
set_option maxHeartbeats 4000000 in
theorem law_15 {p : Program} {l : Launch} {e : Env} {s : State} {m : MethodId} {below : List Frame} {meth : Method} {c : Code} {b : Nat} {xs : Nat → Int32} {D : va_G} {K : Nat → ClassId} (hC : CallFix p m c cL_law 4 s #[Value.ref b] wl RL) (hr : meth.sig.returnType = ret) (hk : meth.locks = false) (hX : va_X b 6 xs s s.heap) (hbl : b < s.heap.size) (hE : ev D K s) (x y : Nat → Nat) (fs fm : Nat → Int32) (hfs : ∀ j, j < 4 → fs j = -1) (hfm : ∀ j, j < 4 → fm j = -1) (H : Heap) (locs : List Loc) (hP : va_P D vwCl (fxL K x fs ++ mdL K y fm) H) (hD : va_D (fun q : Nat => s.heap.size ≤ q) (fxL K x fs ++ mdL K y fm)) (hPx : va_P D vwCl (fxL K x fs) H) (hPm : va_P D vwCl (mdL K y fm) H) (hS : va_S (fun q : Nat => s.heap.size ≤ q) s.heap H locs) (ls : Array Slot) (hl : lv_has ls 4 [(3, .int 0), (2, .ref (y 0)), (1, .ref (x 0)), (0, .ref b)]) : W p l e room_1 s m #[Value.ref b] below meth c H locs 900 150000 (lw_Z below #[Value.ref b] s) (F0 m 713 ls []) := by
  have hx := hC.1
  have hb := hC.2.1
  have hown := hC.2.2.2.1
  have hts := hC.2.2.2.2
  have hbA : ¬ (fun q : Nat => s.heap.size ≤ q) b := Nat.not_le.mpr hbl
  refine lv_aload_n hx hb dL_law_713 rfl (lv_at hl 2 rfl) ?_
  refine ro_V (As := []) (rest := []) hC hE kV_L_77 (c_X11_anew l D K x fs hfs) hPx 0 10 rfl rfl rfl hl.1 rfl (Nat.le_of_ble_eq_true rfl) ⟨(Nat.le_of_ble_eq_true rfl), (Nat.le_of_ble_eq_true rfl)⟩ ⟨(Nat.le_of_ble_eq_true rfl), (Nat.le_of_ble_eq_true rfl)⟩ dL_law_714 (fun r1 hw1 => ?_)
  refine lv_aload_n hx hb dL_law_717 rfl (lv_at hl 1 rfl) ?_
  refine ro_V (As := []) (rest := [.int r1]) hC hE kV_L_80 (c_X12_anew l D K y fm hfm) hPm 0 11 rfl rfl rfl hl.1 rfl (Nat.le_of_ble_eq_true rfl) ⟨(Nat.le_of_ble_eq_true rfl), (Nat.le_of_ble_eq_true rfl)⟩ ⟨(Nat.le_of_ble_eq_true rfl), (Nat.le_of_ble_eq_true rfl)⟩ dL_law_718 (fun r2 hw2 => ?_)
  refine lv_icmp_eq (tgt := 2343) hx hb dL_law_721 (by decide) (fun _ => ?_) (fun h => absurd (hw1.trans hw2.symm) h)
  refine W.widen (k := 1000) (n := 200000) (Nat.le_of_ble_eq_true rfl) (Nat.le_of_ble_eq_true rfl) ?_
  exact law_next hC hr hk hX hbl hS (lv_sub hl [3, 0] rfl)
