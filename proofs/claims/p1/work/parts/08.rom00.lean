set_option maxRecDepth 20000 in
theorem c_X12_in (l : Launch) (D : va_G) (K : Nat → ClassId) (p0 : Int64) (p1 : Int64) (p2 : Int64) : Ro l D K yX12_in cX12_in 6 (some .boolean) 0 0 [.long p0, .long p1, .long p2] [] (fun r => ((p1 ≤ p0 ∧ p0 ≤ p2) ∧ r = 1) ∨ (¬ (p1 ≤ p0 ∧ p0 ≤ p2) ∧ r = 0)) := by
  refine ro_of (by decide) (Nat.le_of_ble_eq_true rfl) ?_
  intro p e s m below meth c hC hr hk hE hP ls hl
  have hC : CallFix p m c cX12_in 6 s [.long p0, .long p1, .long p2].toArray wl RX12 := hC
  have hx := hC.1
  have hb := hC.2.1
  have hml := hC.2.2.1
  have hown := hC.2.2.2.1
  have hts := hC.2.2.2.2
  have hl : lv_has ls 6 [(0, .long p0), (2, .long p1), (4, .long p2)] := hl
  refine lv_lload_n hx hb dX12_in_0 rfl (lv_at hl 0 rfl) ?_
  refine lv_lload_n hx hb dX12_in_1 rfl (lv_at hl 1 rfl) ?_
  refine W.lcmp hx hb dX12_in_2 ?_
  refine lv_if_lt (tgt := 17) hx hb dX12_in_3 (by decide) (fun c44 => ?_) (fun c44 => ?_)
  · refine lv_iconst (v := 0) hx hb dX12_in_17 (by decide) ?_
    exact ro_zret hC hr hk dX12_in_18 rfl (Or.inr (⟨(fun q => absurd q.1 (by have h := lc_lt c44; rw [Int64.lt_iff_toInt_lt] at h; rw [Int64.le_iff_toInt_le]; omega)), rfl⟩))
  · refine lv_lload_n hx hb dX12_in_6 rfl (lv_at hl 0 rfl) ?_
    refine lv_lload hx hb dX12_in_7 (lv_at hl 2 rfl) ?_
    refine W.lcmp hx hb dX12_in_9 ?_
    refine lv_if_gt (tgt := 17) hx hb dX12_in_10 (by decide) (fun c45 => ?_) (fun c45 => ?_)
    · refine lv_iconst (v := 0) hx hb dX12_in_17 (by decide) ?_
      exact ro_zret hC hr hk dX12_in_18 rfl (Or.inr (⟨(fun q => absurd q.2 (by have h := lc_gt c45; rw [Int64.lt_iff_toInt_lt] at h; rw [Int64.le_iff_toInt_le]; omega)), rfl⟩))
    · refine lv_iconst (v := 1) hx hb dX12_in_13 (by decide) ?_
      refine lv_goto (tgt := 18) hx hb dX12_in_14 (by decide) ?_
      exact ro_zret hC hr hk dX12_in_18 rfl (Or.inl ⟨⟨lc_nlt c44, lc_ngt c45⟩, rfl⟩)
set_option maxRecDepth 20000 in
theorem c_X12_isWood (l : Launch) (D : va_G) (K : Nat → ClassId) (y : Nat → Nat) (fm : Nat → Int32) (hfm : ∀ j, j < 4 → fm j = -1) : Ro l D K yX12_isWood cX12_isWood 1 (some .boolean) 0 0 [.ref (y 0)] (mdL K y fm) (fun r => r = 0) := by
  refine ro_of (by decide) (Nat.le_of_ble_eq_true rfl) ?_
  intro p e s m below meth c hC hr hk hE hP ls hl
  have hC : CallFix p m c cX12_isWood 1 s [.ref (y 0)].toArray wl RX12 := hC
  have hx := hC.1
  have hb := hC.2.1
  have hml := hC.2.2.1
  have hown := hC.2.2.2.1
  have hts := hC.2.2.2.2
  have hl : lv_has ls 1 [(0, .ref (y 0))] := hl
  refine lv_aload_n hx hb dX12_isWood_0 rfl (lv_at hl 0 rfl) ?_
  refine va_get (D := D) (ci := 11) (v := .ref (y 1)) (C := RX12) (T := TX12) (N := 53) hx hb hts in_X12 hown hE.1 hP 0 rfl rfl 1 (by decide) (hts _ w_194) (fun _ h9 => h9) rfl dX12_isWood_1 ?_
  refine lv_iconst (v := 3) hx hb dX12_isWood_4 (by decide) ?_
  refine va_iald hx hb hE.1 hP 1 1 rfl rfl (in_c (by decide)) dX12_isWood_5 ?_
  refine tc (y := 0) rfl ?_
  refine lv_if_le (tgt := 13) hx hb dX12_isWood_6 (by decide) (fun _ => ?_) (fun h => absurd h (by decide))
  refine lv_iconst (v := 0) hx hb dX12_isWood_13 (by decide) ?_
  exact ro_zret hC hr hk dX12_isWood_14 rfl rfl
set_option maxRecDepth 20000 in
theorem c_X12_isPlace (l : Launch) (D : va_G) (K : Nat → ClassId) (y : Nat → Nat) (fm : Nat → Int32) (hfm : ∀ j, j < 4 → fm j = -1) (p0 : Int64) : Ro l D K yX12_isPlace cX12_isPlace 3 (some .boolean) 1 25 [.ref (y 0), .long p0] (mdL K y fm) (fun r => r = 0) := by
  refine ro_of (by decide) (Nat.le_of_ble_eq_true rfl) ?_
  intro p e s m below meth c hC hr hk hE hP ls hl
  have hC : CallFix p m c cX12_isPlace 3 s [.ref (y 0), .long p0].toArray wl RX12 := hC
  have hx := hC.1
  have hb := hC.2.1
  have hml := hC.2.2.1
  have hown := hC.2.2.2.1
  have hts := hC.2.2.2.2
  have hl : lv_has ls 3 [(0, .ref (y 0)), (1, .long p0)] := hl
  refine lv_lload_n hx hb dX12_isPlace_0 rfl (lv_at hl 1 rfl) ?_
  refine lv_lconst (v := 0) hx hb dX12_isPlace_1 (by decide) ?_
  refine lv_aload_n hx hb dX12_isPlace_2 rfl (lv_at hl 0 rfl) ?_
  refine va_get (D := D) (ci := 11) (v := .ref (y 1)) (C := RX12) (T := TX12) (N := 53) hx hb hts in_X12 hown hE.1 hP 0 rfl rfl 1 (by decide) (hts _ w_194) (fun _ h9 => h9) rfl dX12_isPlace_3 ?_
  refine lv_iconst (v := 0) hx hb dX12_isPlace_6 (by decide) ?_
  refine va_iald hx hb hE.1 hP 1 1 rfl rfl (in_c (by decide)) dX12_isPlace_7 ?_
  refine tc (y := 0) rfl ?_
  refine lv_iconst (v := 1) hx hb dX12_isPlace_8 (by decide) ?_
  refine lv_isub hx hb dX12_isPlace_9 ?_
  refine tc (y := (-1)) (by decide) ?_
  refine lv_i2l (v := (-1)) hx hb dX12_isPlace_10 (by decide) ?_
  refine ro_S (As := [.long p0, .long 0, .long (-1)]) (rest := []) hC hE kS_X12_115 (c_X12_in l D K p0 0 (-1)) (hP.sub (ws' := []) [] rfl) rfl hl.1 rfl (Nat.le_of_ble_eq_true rfl) (by decide) (by decide) dX12_isPlace_11 (fun r hq => ?_)
  rcases hq with ⟨h46, rfl⟩ | ⟨h47, rfl⟩
  · exact absurd h46 (in_no (by decide))
  · exact ro_zret hC hr hk dX12_isPlace_14 rfl rfl
set_option maxRecDepth 20000 in
theorem c_X12_areTwo (l : Launch) (D : va_G) (K : Nat → ClassId) (y : Nat → Nat) (fm : Nat → Int32) (hfm : ∀ j, j < 4 → fm j = -1) (p0 : Int32) (p1 : Int32) : Ro l D K yX12_areTwo cX12_areTwo 3 (some .boolean) 2 47 [.ref (y 0), .int p0, .int p1] (mdL K y fm) (fun r => r = 0) := by
  refine ro_of (by decide) (Nat.le_of_ble_eq_true rfl) ?_
  intro p e s m below meth c hC hr hk hE hP ls hl
  have hC : CallFix p m c cX12_areTwo 3 s [.ref (y 0), .int p0, .int p1].toArray wl RX12 := hC
  have hx := hC.1
  have hb := hC.2.1
  have hml := hC.2.2.1
  have hown := hC.2.2.2.1
  have hts := hC.2.2.2.2
  have hl : lv_has ls 3 [(0, .ref (y 0)), (1, .int p0), (2, .int p1)] := hl
  refine lv_aload_n hx hb dX12_areTwo_0 rfl (lv_at hl 0 rfl) ?_
  refine lv_iload_n hx hb dX12_areTwo_1 rfl (lv_at hl 1 rfl) ?_
  refine lv_i2l (v := p0.toInt64) hx hb dX12_areTwo_2 rfl ?_
  refine ro_V (As := [.long p0.toInt64]) (rest := []) hC hE kV_X12_119 (c_X12_isPlace l D K y fm hfm p0.toInt64) hP 0 11 rfl rfl rfl hl.1 rfl (Nat.le_of_ble_eq_true rfl) (by decide) (by decide) dX12_areTwo_3 (fun r hq => ?_)
  subst hq
  refine lv_if_eq (tgt := 22) hx hb dX12_areTwo_6 (by decide) (fun _ => ?_) (fun h => absurd h (by decide))
  refine lv_iconst (v := 0) hx hb dX12_areTwo_22 (by decide) ?_
  exact ro_zret hC hr hk dX12_areTwo_23 rfl rfl
set_option maxRecDepth 20000 in
theorem c_X12_isWind (l : Launch) (D : va_G) (K : Nat → ClassId) (p0 : Int64) : Ro l D K yX12_isWind cX12_isWind 2 (some .boolean) 1 25 [.long p0] [] (fun _ => True) := by
  refine ro_of (by decide) (Nat.le_of_ble_eq_true rfl) ?_
  intro p e s m below meth c hC hr hk hE hP ls hl
  have hC : CallFix p m c cX12_isWind 2 s [.long p0].toArray wl RX12 := hC
  have hx := hC.1
  have hb := hC.2.1
  have hml := hC.2.2.1
  have hown := hC.2.2.2.1
  have hts := hC.2.2.2.2
  have hl : lv_has ls 2 [(0, .long p0)] := hl
  refine lv_lload_n hx hb dX12_isWind_0 rfl (lv_at hl 0 rfl) ?_
  refine lv_lconst (v := 0) hx hb dX12_isWind_1 (by decide) ?_
  refine lv_ldc2 (v := 3) hx hb hown (hts _ w_203) dX12_isWind_2 ?_
  refine ro_S (As := [.long p0, .long 0, .long 3]) (rest := []) hC hE kS_X12_115 (c_X12_in l D K p0 0 3) (hP.sub (ws' := []) [] rfl) rfl hl.1 rfl (Nat.le_of_ble_eq_true rfl) (by decide) (by decide) dX12_isWind_5 (fun r hq => ?_)
  rcases hq with ⟨h48, rfl⟩ | ⟨h49, rfl⟩
  · exact ro_zret hC hr hk dX12_isWind_8 rfl trivial
  · exact ro_zret hC hr hk dX12_isWind_8 rfl trivial
set_option maxRecDepth 20000 in
theorem c_X12_isPupil (l : Launch) (D : va_G) (K : Nat → ClassId) (y : Nat → Nat) (fm : Nat → Int32) (hfm : ∀ j, j < 4 → fm j = -1) (p0 : Int32) : Ro l D K yX12_isPupil cX12_isPupil 2 (some .boolean) 1 25 [.ref (y 0), .int p0] (mdL K y fm) (fun r => r = 0) := by
  refine ro_of (by decide) (Nat.le_of_ble_eq_true rfl) ?_
  intro p e s m below meth c hC hr hk hE hP ls hl
  have hC : CallFix p m c cX12_isPupil 2 s [.ref (y 0), .int p0].toArray wl RX12 := hC
  have hx := hC.1
  have hb := hC.2.1
  have hml := hC.2.2.1
  have hown := hC.2.2.2.1
  have hts := hC.2.2.2.2
  have hl : lv_has ls 2 [(0, .ref (y 0)), (1, .int p0)] := hl
  refine lv_iload_n hx hb dX12_isPupil_0 rfl (lv_at hl 1 rfl) ?_
  refine lv_i2l (v := p0.toInt64) hx hb dX12_isPupil_1 rfl ?_
  refine lv_lconst (v := 0) hx hb dX12_isPupil_2 (by decide) ?_
  refine lv_aload_n hx hb dX12_isPupil_3 rfl (lv_at hl 0 rfl) ?_
  refine va_get (D := D) (ci := 11) (v := .ref (y 1)) (C := RX12) (T := TX12) (N := 53) hx hb hts in_X12 hown hE.1 hP 0 rfl rfl 1 (by decide) (hts _ w_194) (fun _ h9 => h9) rfl dX12_isPupil_4 ?_
  refine lv_iconst (v := 1) hx hb dX12_isPupil_7 (by decide) ?_
  refine va_iald hx hb hE.1 hP 1 1 rfl rfl (in_c (by decide)) dX12_isPupil_8 ?_
  refine tc (y := 0) rfl ?_
  refine lv_iconst (v := 1) hx hb dX12_isPupil_9 (by decide) ?_
  refine lv_isub hx hb dX12_isPupil_10 ?_
  refine tc (y := (-1)) (by decide) ?_
  refine lv_i2l (v := (-1)) hx hb dX12_isPupil_11 (by decide) ?_
  refine ro_S (As := [.long p0.toInt64, .long 0, .long (-1)]) (rest := []) hC hE kS_X12_115 (c_X12_in l D K p0.toInt64 0 (-1)) (hP.sub (ws' := []) [] rfl) rfl hl.1 rfl (Nat.le_of_ble_eq_true rfl) (by decide) (by decide) dX12_isPupil_12 (fun r hq => ?_)
  rcases hq with ⟨h50, rfl⟩ | ⟨h51, rfl⟩
  · exact absurd h50 (in_no (by decide))
  · exact ro_zret hC hr hk dX12_isPupil_15 rfl rfl
set_option maxRecDepth 20000 in
theorem c_X12_allPlaces (l : Launch) (D : va_G) (K : Nat → ClassId) (y : Nat → Nat) (fm : Nat → Int32) (hfm : ∀ j, j < 4 → fm j = -1) : Ro l D K yX12_allPlaces cX12_allPlaces 1 (some .int) 0 0 [.ref (y 0)] (mdL K y fm) (fun r => r = 0) := by
  refine ro_of (by decide) (Nat.le_of_ble_eq_true rfl) ?_
  intro p e s m below meth c hC hr hk hE hP ls hl
  have hC : CallFix p m c cX12_allPlaces 1 s [.ref (y 0)].toArray wl RX12 := hC
  have hx := hC.1
  have hb := hC.2.1
  have hml := hC.2.2.1
  have hown := hC.2.2.2.1
  have hts := hC.2.2.2.2
  have hl : lv_has ls 1 [(0, .ref (y 0))] := hl
  refine lv_iconst (v := 1) hx hb dX12_allPlaces_0 (by decide) ?_
  refine lv_aload_n hx hb dX12_allPlaces_1 rfl (lv_at hl 0 rfl) ?_
  refine va_get (D := D) (ci := 11) (v := .ref (y 1)) (C := RX12) (T := TX12) (N := 53) hx hb hts in_X12 hown hE.1 hP 0 rfl rfl 1 (by decide) (hts _ w_194) (fun _ h9 => h9) rfl dX12_allPlaces_2 ?_
  refine lv_iconst (v := 0) hx hb dX12_allPlaces_5 (by decide) ?_
  refine va_iald hx hb hE.1 hP 1 1 rfl rfl (in_c (by decide)) dX12_allPlaces_6 ?_
  refine tc (y := 0) rfl ?_
  refine lv_ishl hx hb dX12_allPlaces_7 ?_
  refine tc (y := 1) (by decide) ?_
  refine lv_iconst (v := 1) hx hb dX12_allPlaces_8 (by decide) ?_
  refine lv_isub hx hb dX12_allPlaces_9 ?_
  refine tc (y := 0) (by decide) ?_
  exact ro_ret hC hr hk dX12_allPlaces_10 rfl
set_option maxRecDepth 20000 in
theorem c_X12_isSet (l : Launch) (D : va_G) (K : Nat → ClassId) (y : Nat → Nat) (fm : Nat → Int32) (hfm : ∀ j, j < 4 → fm j = -1) (p0 : Int32) : Ro l D K yX12_isSet cX12_isSet 2 (some .boolean) 1 20 [.ref (y 0), .int p0] (mdL K y fm) (fun r => r = 0) := by
  refine ro_of (by decide) (Nat.le_of_ble_eq_true rfl) ?_
  intro p e s m below meth c hC hr hk hE hP ls hl
  have hC : CallFix p m c cX12_isSet 2 s [.ref (y 0), .int p0].toArray wl RX12 := hC
  have hx := hC.1
  have hb := hC.2.1
  have hml := hC.2.2.1
  have hown := hC.2.2.2.1
  have hts := hC.2.2.2.2
  have hl : lv_has ls 2 [(0, .ref (y 0)), (1, .int p0)] := hl
  refine lv_aload_n hx hb dX12_isSet_0 rfl (lv_at hl 0 rfl) ?_
  refine ro_V (As := []) (rest := []) hC hE kV_X12_125 (c_X12_isWood l D K y fm hfm) hP 0 11 rfl rfl rfl hl.1 rfl (Nat.le_of_ble_eq_true rfl) (by decide) (by decide) dX12_isSet_1 (fun r hq => ?_)
  subst hq
  refine lv_if_eq (tgt := 25) hx hb dX12_isSet_4 (by decide) (fun _ => ?_) (fun h => absurd h (by decide))
  refine lv_iconst (v := 0) hx hb dX12_isSet_25 (by decide) ?_
  exact ro_zret hC hr hk dX12_isSet_26 rfl rfl
set_option maxRecDepth 20000 in
theorem c_X12_isSlot (l : Launch) (D : va_G) (K : Nat → ClassId) (p0 : Int32) : Ro l D K yX12_isSlot cX12_isSlot 1 (some .boolean) 1 25 [.int p0] [] (fun r => (vp_in p0 4 ∧ r = 1) ∨ (¬ vp_in p0 4 ∧ r = 0)) := by
  refine ro_of (by decide) (Nat.le_of_ble_eq_true rfl) ?_
  intro p e s m below meth c hC hr hk hE hP ls hl
  have hC : CallFix p m c cX12_isSlot 1 s [.int p0].toArray wl RX12 := hC
  have hx := hC.1
  have hb := hC.2.1
  have hml := hC.2.2.1
  have hown := hC.2.2.2.1
  have hts := hC.2.2.2.2
  have hl : lv_has ls 1 [(0, .int p0)] := hl
  refine lv_iload_n hx hb dX12_isSlot_0 rfl (lv_at hl 0 rfl) ?_
  refine lv_i2l (v := p0.toInt64) hx hb dX12_isSlot_1 rfl ?_
  refine lv_lconst (v := 0) hx hb dX12_isSlot_2 (by decide) ?_
  refine lv_ldc2 (v := 3) hx hb hown (hts _ w_203) dX12_isSlot_3 ?_
  refine ro_S (As := [.long p0.toInt64, .long 0, .long 3]) (rest := []) hC hE kS_X12_115 (c_X12_in l D K p0.toInt64 0 3) (hP.sub (ws' := []) [] rfl) rfl hl.1 rfl (Nat.le_of_ble_eq_true rfl) (by decide) (by decide) dX12_isSlot_6 (fun r hq => ?_)
  rcases hq with ⟨h52, rfl⟩ | ⟨h53, rfl⟩
  · exact ro_zret hC hr hk dX12_isSlot_9 rfl (Or.inl ⟨(iy64 (by decide) h52), rfl⟩)
  · exact ro_zret hC hr hk dX12_isSlot_9 rfl (Or.inr (⟨(in64 (by decide) h53), rfl⟩))
set_option maxRecDepth 20000 in
theorem c_X12_asksWalk (l : Launch) (D : va_G) (K : Nat → ClassId) (y : Nat → Nat) (fm : Nat → Int32) (hfm : ∀ j, j < 4 → fm j = -1) (p0 : Int32) (p1 : Int32) : Ro l D K yX12_asksWalk cX12_asksWalk 4 (some .int) 2 46 [.ref (y 0), .int p0, .int p1] (mdL K y fm) (fun r => r = (-2)) := by
  refine ro_of (by decide) (Nat.le_of_ble_eq_true rfl) ?_
  intro p e s m below meth c hC hr hk hE hP ls hl
  have hC : CallFix p m c cX12_asksWalk 4 s [.ref (y 0), .int p0, .int p1].toArray wl RX12 := hC
  have hx := hC.1
  have hb := hC.2.1
  have hml := hC.2.2.1
  have hown := hC.2.2.2.1
  have hts := hC.2.2.2.2
  have hl : lv_has ls 4 [(0, .ref (y 0)), (1, .int p0), (2, .int p1)] := hl
  refine lv_iload_n hx hb dX12_asksWalk_0 rfl (lv_at hl 1 rfl) ?_
  refine ro_S (As := [.int p0]) (rest := []) hC hE kS_X12_334 (c_X12_isSlot l D K p0) (hP.sub (ws' := []) [] rfl) rfl hl.1 rfl (Nat.le_of_ble_eq_true rfl) (by decide) (by decide) dX12_asksWalk_1 (fun r hq => ?_)
  rcases hq with ⟨h54, rfl⟩ | ⟨h55, rfl⟩
  · refine lv_if_eq (tgt := 15) hx hb dX12_asksWalk_4 (by decide) (fun h => absurd h (by decide)) (fun _ => ?_)
    refine lv_aload_n hx hb dX12_asksWalk_7 rfl (lv_at hl 0 rfl) ?_
    refine lv_iload_n hx hb dX12_asksWalk_8 rfl (lv_at hl 2 rfl) ?_
    refine ro_V (As := [.int p1]) (rest := []) hC hE kV_X12_310 (c_X12_isPupil l D K y fm hfm p1) hP 0 11 rfl rfl rfl hl.1 rfl (Nat.le_of_ble_eq_true rfl) (by decide) (by decide) dX12_asksWalk_9 (fun r hq => ?_)
    subst hq
    refine lv_if_ne (tgt := 18) hx hb dX12_asksWalk_12 (by decide) (fun h => absurd h (by decide)) (fun _ => ?_)
    refine lv_bipush (v := (-2)) hx hb dX12_asksWalk_15 (by decide) ?_
    exact ro_ret hC hr hk dX12_asksWalk_17 rfl
  · refine lv_if_eq (tgt := 15) hx hb dX12_asksWalk_4 (by decide) (fun _ => ?_) (fun h => absurd h (by decide))
    refine lv_bipush (v := (-2)) hx hb dX12_asksWalk_15 (by decide) ?_
    exact ro_ret hC hr hk dX12_asksWalk_17 rfl
set_option maxRecDepth 20000 in
theorem c_X12_asksRead (l : Launch) (D : va_G) (K : Nat → ClassId) (y : Nat → Nat) (fm : Nat → Int32) (hfm : ∀ j, j < 4 → fm j = -1) (p0 : Int32) : Ro l D K yX12_asksRead cX12_asksRead 3 (some .int) 2 45 [.ref (y 0), .int p0] (mdL K y fm) (fun r => r = (-2)) := by
  refine ro_of (by decide) (Nat.le_of_ble_eq_true rfl) ?_
  intro p e s m below meth c hC hr hk hE hP ls hl
  have hC : CallFix p m c cX12_asksRead 3 s [.ref (y 0), .int p0].toArray wl RX12 := hC
  have hx := hC.1
  have hb := hC.2.1
  have hml := hC.2.2.1
  have hown := hC.2.2.2.1
  have hts := hC.2.2.2.2
  have hl : lv_has ls 3 [(0, .ref (y 0)), (1, .int p0)] := hl
  refine lv_iload_n hx hb dX12_asksRead_0 rfl (lv_at hl 1 rfl) ?_
  refine ro_S (As := [.int p0]) (rest := []) hC hE kS_X12_334 (c_X12_isSlot l D K p0) (hP.sub (ws' := []) [] rfl) rfl hl.1 rfl (Nat.le_of_ble_eq_true rfl) (by decide) (by decide) dX12_asksRead_1 (fun r hq => ?_)
  rcases hq with ⟨h56, rfl⟩ | ⟨h57, rfl⟩
  · refine lv_if_eq (tgt := 14) hx hb dX12_asksRead_4 (by decide) (fun h => absurd h (by decide)) (fun _ => ?_)
    refine lv_aload_n hx hb dX12_asksRead_7 rfl (lv_at hl 0 rfl) ?_
    refine ro_V (As := []) (rest := []) hC hE kV_X12_125 (c_X12_isWood l D K y fm hfm) hP 0 11 rfl rfl rfl hl.1 rfl (Nat.le_of_ble_eq_true rfl) (by decide) (by decide) dX12_asksRead_8 (fun r hq => ?_)
    subst hq
    refine lv_if_ne (tgt := 17) hx hb dX12_asksRead_11 (by decide) (fun h => absurd h (by decide)) (fun _ => ?_)
    refine lv_bipush (v := (-2)) hx hb dX12_asksRead_14 (by decide) ?_
    exact ro_ret hC hr hk dX12_asksRead_16 rfl
  · refine lv_if_eq (tgt := 14) hx hb dX12_asksRead_4 (by decide) (fun _ => ?_) (fun h => absurd h (by decide))
    refine lv_bipush (v := (-2)) hx hb dX12_asksRead_14 (by decide) ?_
    exact ro_ret hC hr hk dX12_asksRead_16 rfl
set_option maxRecDepth 20000 in
theorem c_X12_isDrawn (l : Launch) (D : va_G) (K : Nat → ClassId) (y : Nat → Nat) (fm : Nat → Int32) (hfm : ∀ j, j < 4 → fm j = -1) (p0 : Int32) (p1 : Int32) (p2 : Int32) : Ro l D K yX12_isDrawn cX12_isDrawn 4 (some .boolean) 2 46 [.ref (y 0), .int p0, .int p1, .int p2] (mdL K y fm) (fun r => r = 0) := by
  refine ro_of (by decide) (Nat.le_of_ble_eq_true rfl) ?_
  intro p e s m below meth c hC hr hk hE hP ls hl
  have hC : CallFix p m c cX12_isDrawn 4 s [.ref (y 0), .int p0, .int p1, .int p2].toArray wl RX12 := hC
  have hx := hC.1
  have hb := hC.2.1
  have hml := hC.2.2.1
  have hown := hC.2.2.2.1
  have hts := hC.2.2.2.2
  have hl : lv_has ls 4 [(0, .ref (y 0)), (1, .int p0), (2, .int p1), (3, .int p2)] := hl
  refine lv_iload_n hx hb dX12_isDrawn_0 rfl (lv_at hl 1 rfl) ?_
  refine lv_i2l (v := p0.toInt64) hx hb dX12_isDrawn_1 rfl ?_
  refine lv_lconst (v := 0) hx hb dX12_isDrawn_2 (by decide) ?_
  refine lv_ldc2 (v := 2000000000) hx hb hown (hts _ w_215) dX12_isDrawn_3 ?_
  refine ro_S (As := [.long p0.toInt64, .long 0, .long 2000000000]) (rest := []) hC hE kS_X12_115 (c_X12_in l D K p0.toInt64 0 2000000000) (hP.sub (ws' := []) [] rfl) rfl hl.1 rfl (Nat.le_of_ble_eq_true rfl) (by decide) (by decide) dX12_isDrawn_6 (fun r hq => ?_)
  rcases hq with ⟨h58, rfl⟩ | ⟨h59, rfl⟩
  · refine lv_if_eq (tgt := 36) hx hb dX12_isDrawn_9 (by decide) (fun h => absurd h (by decide)) (fun _ => ?_)
    refine lv_aload_n hx hb dX12_isDrawn_12 rfl (lv_at hl 0 rfl) ?_
    refine lv_iload_n hx hb dX12_isDrawn_13 rfl (lv_at hl 2 rfl) ?_
    refine ro_V (As := [.int p1]) (rest := []) hC hE kV_X12_310 (c_X12_isPupil l D K y fm hfm p1) hP 0 11 rfl rfl rfl hl.1 rfl (Nat.le_of_ble_eq_true rfl) (by decide) (by decide) dX12_isDrawn_14 (fun r hq => ?_)
    subst hq
    refine lv_if_eq (tgt := 36) hx hb dX12_isDrawn_17 (by decide) (fun _ => ?_) (fun h => absurd h (by decide))
    refine lv_iconst (v := 0) hx hb dX12_isDrawn_36 (by decide) ?_
    exact ro_zret hC hr hk dX12_isDrawn_37 rfl rfl
  · refine lv_if_eq (tgt := 36) hx hb dX12_isDrawn_9 (by decide) (fun _ => ?_) (fun h => absurd h (by decide))
    refine lv_iconst (v := 0) hx hb dX12_isDrawn_36 (by decide) ?_
    exact ro_zret hC hr hk dX12_isDrawn_37 rfl rfl
set_option maxRecDepth 20000 in
theorem c_X12_leads (l : Launch) (D : va_G) (K : Nat → ClassId) (y : Nat → Nat) (fm : Nat → Int32) (hfm : ∀ j, j < 4 → fm j = -1) (p0 : Int32) (p1 : Int32) : Ro l D K yX12_leads cX12_leads 3 (some .int) 2 47 [.ref (y 0), .int p0, .int p1] (mdL K y fm) (fun r => r = (-2)) := by
  refine ro_of (by decide) (Nat.le_of_ble_eq_true rfl) ?_
  intro p e s m below meth c hC hr hk hE hP ls hl
  have hC : CallFix p m c cX12_leads 3 s [.ref (y 0), .int p0, .int p1].toArray wl RX12 := hC
  have hx := hC.1
  have hb := hC.2.1
  have hml := hC.2.2.1
  have hown := hC.2.2.2.1
  have hts := hC.2.2.2.2
  have hl : lv_has ls 3 [(0, .ref (y 0)), (1, .int p0), (2, .int p1)] := hl
  refine lv_aload_n hx hb dX12_leads_0 rfl (lv_at hl 0 rfl) ?_
  refine lv_iload_n hx hb dX12_leads_1 rfl (lv_at hl 1 rfl) ?_
  refine lv_i2l (v := p0.toInt64) hx hb dX12_leads_2 rfl ?_
  refine ro_V (As := [.long p0.toInt64]) (rest := []) hC hE kV_X12_119 (c_X12_isPlace l D K y fm hfm p0.toInt64) hP 0 11 rfl rfl rfl hl.1 rfl (Nat.le_of_ble_eq_true rfl) (by decide) (by decide) dX12_leads_3 (fun r hq => ?_)
  subst hq
  refine lv_if_eq (tgt := 26) hx hb dX12_leads_6 (by decide) (fun _ => ?_) (fun h => absurd h (by decide))
  refine lv_bipush (v := (-2)) hx hb dX12_leads_26 (by decide) ?_
  exact ro_ret hC hr hk dX12_leads_28 rfl
set_option maxRecDepth 20000 in
theorem c_X12_mark (l : Launch) (D : va_G) (K : Nat → ClassId) (y : Nat → Nat) (fm : Nat → Int32) (hfm : ∀ j, j < 4 → fm j = -1) (p0 : Int32) : Ro l D K yX12_mark cX12_mark 2 (some .int) 2 47 [.ref (y 0), .int p0] (mdL K y fm) (fun r => r = (-2)) := by
  refine ro_of (by decide) (Nat.le_of_ble_eq_true rfl) ?_
  intro p e s m below meth c hC hr hk hE hP ls hl
  have hC : CallFix p m c cX12_mark 2 s [.ref (y 0), .int p0].toArray wl RX12 := hC
  have hx := hC.1
  have hb := hC.2.1
  have hml := hC.2.2.1
  have hown := hC.2.2.2.1
  have hts := hC.2.2.2.2
  have hl : lv_has ls 2 [(0, .ref (y 0)), (1, .int p0)] := hl
  refine lv_aload_n hx hb dX12_mark_0 rfl (lv_at hl 0 rfl) ?_
  refine lv_iload_n hx hb dX12_mark_1 rfl (lv_at hl 1 rfl) ?_
  refine lv_i2l (v := p0.toInt64) hx hb dX12_mark_2 rfl ?_
  refine ro_V (As := [.long p0.toInt64]) (rest := []) hC hE kV_X12_119 (c_X12_isPlace l D K y fm hfm p0.toInt64) hP 0 11 rfl rfl rfl hl.1 rfl (Nat.le_of_ble_eq_true rfl) (by decide) (by decide) dX12_mark_3 (fun r hq => ?_)
  subst hq
  refine lv_if_eq (tgt := 17) hx hb dX12_mark_6 (by decide) (fun _ => ?_) (fun h => absurd h (by decide))
  refine lv_bipush (v := (-2)) hx hb dX12_mark_17 (by decide) ?_
  exact ro_ret hC hr hk dX12_mark_19 rfl
set_option maxRecDepth 20000 in
theorem c_X12_becomes (l : Launch) (D : va_G) (K : Nat → ClassId) (y : Nat → Nat) (fm : Nat → Int32) (hfm : ∀ j, j < 4 → fm j = -1) (p0 : Int32) (p1 : Int32) : Ro l D K yX12_becomes cX12_becomes 3 (some .int) 2 41 [.ref (y 0), .int p0, .int p1] (mdL K y fm) (fun r => r = (-2)) := by
  refine ro_of (by decide) (Nat.le_of_ble_eq_true rfl) ?_
  intro p e s m below meth c hC hr hk hE hP ls hl
  have hC : CallFix p m c cX12_becomes 3 s [.ref (y 0), .int p0, .int p1].toArray wl RX12 := hC
  have hx := hC.1
  have hb := hC.2.1
  have hml := hC.2.2.1
  have hown := hC.2.2.2.1
  have hts := hC.2.2.2.2
  have hl : lv_has ls 3 [(0, .ref (y 0)), (1, .int p0), (2, .int p1)] := hl
  refine lv_aload_n hx hb dX12_becomes_0 rfl (lv_at hl 0 rfl) ?_
  refine lv_iload_n hx hb dX12_becomes_1 rfl (lv_at hl 1 rfl) ?_
  refine ro_V (As := [.int p0]) (rest := []) hC hE kV_X12_282 (c_X12_isSet l D K y fm hfm p0) hP 0 11 rfl rfl rfl hl.1 rfl (Nat.le_of_ble_eq_true rfl) (by decide) (by decide) dX12_becomes_2 (fun r hq => ?_)
  subst hq
  refine lv_if_eq (tgt := 25) hx hb dX12_becomes_5 (by decide) (fun _ => ?_) (fun h => absurd h (by decide))
  refine lv_bipush (v := (-2)) hx hb dX12_becomes_25 (by decide) ?_
  exact ro_ret hC hr hk dX12_becomes_27 rfl
set_option maxRecDepth 20000 in
theorem c_X12_seen (l : Launch) (D : va_G) (K : Nat → ClassId) (y : Nat → Nat) (fm : Nat → Int32) (hfm : ∀ j, j < 4 → fm j = -1) (p0 : Int32) (p1 : Int32) : Ro l D K yX12_seen cX12_seen 3 (some .int) 2 41 [.ref (y 0), .int p0, .int p1] (mdL K y fm) (fun r => r = (-2)) := by
  refine ro_of (by decide) (Nat.le_of_ble_eq_true rfl) ?_
  intro p e s m below meth c hC hr hk hE hP ls hl
  have hC : CallFix p m c cX12_seen 3 s [.ref (y 0), .int p0, .int p1].toArray wl RX12 := hC
  have hx := hC.1
  have hb := hC.2.1
  have hml := hC.2.2.1
  have hown := hC.2.2.2.1
  have hts := hC.2.2.2.2
  have hl : lv_has ls 3 [(0, .ref (y 0)), (1, .int p0), (2, .int p1)] := hl
  refine lv_aload_n hx hb dX12_seen_0 rfl (lv_at hl 0 rfl) ?_
  refine lv_iload_n hx hb dX12_seen_1 rfl (lv_at hl 1 rfl) ?_
  refine ro_V (As := [.int p0]) (rest := []) hC hE kV_X12_282 (c_X12_isSet l D K y fm hfm p0) hP 0 11 rfl rfl rfl hl.1 rfl (Nat.le_of_ble_eq_true rfl) (by decide) (by decide) dX12_seen_2 (fun r hq => ?_)
  subst hq
  refine lv_if_eq (tgt := 29) hx hb dX12_seen_5 (by decide) (fun _ => ?_) (fun h => absurd h (by decide))
  refine lv_bipush (v := (-2)) hx hb dX12_seen_29 (by decide) ?_
  exact ro_ret hC hr hk dX12_seen_31 rfl
set_option maxRecDepth 20000 in
theorem c_X12_where (l : Launch) (D : va_G) (K : Nat → ClassId) (y : Nat → Nat) (fm : Nat → Int32) (hfm : ∀ j, j < 4 → fm j = -1) (p0 : Int32) : Ro l D K yX12_where cX12_where 2 (some .int) 2 46 [.ref (y 0), .int p0] (mdL K y fm) (fun r => r = (-2)) := by
  refine ro_of (by decide) (Nat.le_of_ble_eq_true rfl) ?_
  intro p e s m below meth c hC hr hk hE hP ls hl
  have hC : CallFix p m c cX12_where 2 s [.ref (y 0), .int p0].toArray wl RX12 := hC
  have hx := hC.1
  have hb := hC.2.1
  have hml := hC.2.2.1
  have hown := hC.2.2.2.1
  have hts := hC.2.2.2.2
  have hl : lv_has ls 2 [(0, .ref (y 0)), (1, .int p0)] := hl
  refine lv_aload_n hx hb dX12_where_0 rfl (lv_at hl 0 rfl) ?_
  refine lv_iload_n hx hb dX12_where_1 rfl (lv_at hl 1 rfl) ?_
  refine ro_V (As := [.int p0]) (rest := []) hC hE kV_X12_310 (c_X12_isPupil l D K y fm hfm p0) hP 0 11 rfl rfl rfl hl.1 rfl (Nat.le_of_ble_eq_true rfl) (by decide) (by decide) dX12_where_2 (fun r hq => ?_)
  subst hq
  refine lv_if_eq (tgt := 16) hx hb dX12_where_5 (by decide) (fun _ => ?_) (fun h => absurd h (by decide))
  refine lv_bipush (v := (-2)) hx hb dX12_where_16 (by decide) ?_
  exact ro_ret hC hr hk dX12_where_18 rfl
set_option maxRecDepth 20000 in
theorem c_X12_thinks (l : Launch) (D : va_G) (K : Nat → ClassId) (y : Nat → Nat) (fm : Nat → Int32) (hfm : ∀ j, j < 4 → fm j = -1) (p0 : Int32) : Ro l D K yX12_thinks cX12_thinks 2 (some .int) 2 46 [.ref (y 0), .int p0] (mdL K y fm) (fun r => r = (-2)) := by
  refine ro_of (by decide) (Nat.le_of_ble_eq_true rfl) ?_
  intro p e s m below meth c hC hr hk hE hP ls hl
  have hC : CallFix p m c cX12_thinks 2 s [.ref (y 0), .int p0].toArray wl RX12 := hC
  have hx := hC.1
  have hb := hC.2.1
  have hml := hC.2.2.1
  have hown := hC.2.2.2.1
  have hts := hC.2.2.2.2
  have hl : lv_has ls 2 [(0, .ref (y 0)), (1, .int p0)] := hl
  refine lv_aload_n hx hb dX12_thinks_0 rfl (lv_at hl 0 rfl) ?_
  refine lv_iload_n hx hb dX12_thinks_1 rfl (lv_at hl 1 rfl) ?_
  refine ro_V (As := [.int p0]) (rest := []) hC hE kV_X12_310 (c_X12_isPupil l D K y fm hfm p0) hP 0 11 rfl rfl rfl hl.1 rfl (Nat.le_of_ble_eq_true rfl) (by decide) (by decide) dX12_thinks_2 (fun r hq => ?_)
  subst hq
  refine lv_if_eq (tgt := 16) hx hb dX12_thinks_5 (by decide) (fun _ => ?_) (fun h => absurd h (by decide))
  refine lv_bipush (v := (-2)) hx hb dX12_thinks_16 (by decide) ?_
  exact ro_ret hC hr hk dX12_thinks_18 rfl
set_option maxRecDepth 20000 in
theorem c_X12_pupil (l : Launch) (D : va_G) (K : Nat → ClassId) (y : Nat → Nat) (fm : Nat → Int32) (hfm : ∀ j, j < 4 → fm j = -1) (p0 : Int32) (p1 : Int32) : Ro l D K yX12_pupil cX12_pupil 3 (some .int) 2 46 [.ref (y 0), .int p0, .int p1] (mdL K y fm) (fun r => r = (-2)) := by
  refine ro_of (by decide) (Nat.le_of_ble_eq_true rfl) ?_
  intro p e s m below meth c hC hr hk hE hP ls hl
  have hC : CallFix p m c cX12_pupil 3 s [.ref (y 0), .int p0, .int p1].toArray wl RX12 := hC
  have hx := hC.1
  have hb := hC.2.1
  have hml := hC.2.2.1
  have hown := hC.2.2.2.1
  have hts := hC.2.2.2.2
  have hl : lv_has ls 3 [(0, .ref (y 0)), (1, .int p0), (2, .int p1)] := hl
  refine lv_aload_n hx hb dX12_pupil_0 rfl (lv_at hl 0 rfl) ?_
  refine lv_iload_n hx hb dX12_pupil_1 rfl (lv_at hl 1 rfl) ?_
  refine ro_V (As := [.int p0]) (rest := []) hC hE kV_X12_310 (c_X12_isPupil l D K y fm hfm p0) hP 0 11 rfl rfl rfl hl.1 rfl (Nat.le_of_ble_eq_true rfl) (by decide) (by decide) dX12_pupil_2 (fun r hq => ?_)
  subst hq
  refine lv_if_eq (tgt := 20) hx hb dX12_pupil_5 (by decide) (fun _ => ?_) (fun h => absurd h (by decide))
  refine lv_bipush (v := (-2)) hx hb dX12_pupil_20 (by decide) ?_
  exact ro_ret hC hr hk dX12_pupil_22 rfl
set_option maxRecDepth 20000 in
theorem c_X12_goes (l : Launch) (D : va_G) (K : Nat → ClassId) (y : Nat → Nat) (fm : Nat → Int32) (hfm : ∀ j, j < 4 → fm j = -1) (p0 : Int32) (p1 : Int32) : Ro l D K yX12_goes cX12_goes 4 (some .int) 2 46 [.ref (y 0), .int p0, .int p1] (mdL K y fm) (fun r => r = (-2)) := by
  refine ro_of (by decide) (Nat.le_of_ble_eq_true rfl) ?_
  intro p e s m below meth c hC hr hk hE hP ls hl
  have hC : CallFix p m c cX12_goes 4 s [.ref (y 0), .int p0, .int p1].toArray wl RX12 := hC
  have hx := hC.1
  have hb := hC.2.1
  have hml := hC.2.2.1
  have hown := hC.2.2.2.1
  have hts := hC.2.2.2.2
  have hl : lv_has ls 4 [(0, .ref (y 0)), (1, .int p0), (2, .int p1)] := hl
  refine lv_aload_n hx hb dX12_goes_0 rfl (lv_at hl 0 rfl) ?_
  refine lv_iload_n hx hb dX12_goes_1 rfl (lv_at hl 1 rfl) ?_
  refine ro_V (As := [.int p0]) (rest := []) hC hE kV_X12_310 (c_X12_isPupil l D K y fm hfm p0) hP 0 11 rfl rfl rfl hl.1 rfl (Nat.le_of_ble_eq_true rfl) (by decide) (by decide) dX12_goes_2 (fun r hq => ?_)
  subst hq
  refine lv_if_eq (tgt := 16) hx hb dX12_goes_5 (by decide) (fun _ => ?_) (fun h => absurd h (by decide))
  refine lv_bipush (v := (-2)) hx hb dX12_goes_16 (by decide) ?_
  exact ro_ret hC hr hk dX12_goes_18 rfl
set_option maxRecDepth 20000 in
theorem c_X12_most (l : Launch) (D : va_G) (K : Nat → ClassId) (y : Nat → Nat) (fm : Nat → Int32) (hfm : ∀ j, j < 4 → fm j = -1) : Ro l D K yX12_most cX12_most 5 (some .int) 1 20 [.ref (y 0)] (mdL K y fm) (fun r => r = (-2)) := by
  refine ro_of (by decide) (Nat.le_of_ble_eq_true rfl) ?_
  intro p e s m below meth c hC hr hk hE hP ls hl
  have hC : CallFix p m c cX12_most 5 s [.ref (y 0)].toArray wl RX12 := hC
  have hx := hC.1
  have hb := hC.2.1
  have hml := hC.2.2.1
  have hown := hC.2.2.2.1
  have hts := hC.2.2.2.2
  have hl : lv_has ls 5 [(0, .ref (y 0))] := hl
  refine lv_aload_n hx hb dX12_most_0 rfl (lv_at hl 0 rfl) ?_
  refine ro_V (As := []) (rest := []) hC hE kV_X12_125 (c_X12_isWood l D K y fm hfm) hP 0 11 rfl rfl rfl hl.1 rfl (Nat.le_of_ble_eq_true rfl) (by decide) (by decide) dX12_most_1 (fun r hq => ?_)
  subst hq
  refine lv_if_ne (tgt := 10) hx hb dX12_most_4 (by decide) (fun h => absurd h (by decide)) (fun _ => ?_)
  refine lv_bipush (v := (-2)) hx hb dX12_most_7 (by decide) ?_
  exact ro_ret hC hr hk dX12_most_9 rfl
set_option maxRecDepth 20000 in
theorem c_X12_who (l : Launch) (D : va_G) (K : Nat → ClassId) (y : Nat → Nat) (fm : Nat → Int32) (hfm : ∀ j, j < 4 → fm j = -1) (p0 : Int32) : Ro l D K yX12_who cX12_who 4 (some .int) 1 20 [.ref (y 0), .int p0] (mdL K y fm) (fun r => r = (-2)) := by
  refine ro_of (by decide) (Nat.le_of_ble_eq_true rfl) ?_
  intro p e s m below meth c hC hr hk hE hP ls hl
  have hC : CallFix p m c cX12_who 4 s [.ref (y 0), .int p0].toArray wl RX12 := hC
  have hx := hC.1
  have hb := hC.2.1
  have hml := hC.2.2.1
  have hown := hC.2.2.2.1
  have hts := hC.2.2.2.2
  have hl : lv_has ls 4 [(0, .ref (y 0)), (1, .int p0)] := hl
  refine lv_aload_n hx hb dX12_who_0 rfl (lv_at hl 0 rfl) ?_
  refine ro_V (As := []) (rest := []) hC hE kV_X12_125 (c_X12_isWood l D K y fm hfm) hP 0 11 rfl rfl rfl hl.1 rfl (Nat.le_of_ble_eq_true rfl) (by decide) (by decide) dX12_who_1 (fun r hq => ?_)
  subst hq
  refine lv_if_eq (tgt := 17) hx hb dX12_who_4 (by decide) (fun _ => ?_) (fun h => absurd h (by decide))
  refine lv_bipush (v := (-2)) hx hb dX12_who_17 (by decide) ?_
  exact ro_ret hC hr hk dX12_who_19 rfl
set_option maxRecDepth 20000 in
theorem c_X12_undo (l : Launch) (D : va_G) (K : Nat → ClassId) (y : Nat → Nat) (fm : Nat → Int32) (hfm : ∀ j, j < 4 → fm j = -1) : Ro l D K yX12_undo cX12_undo 1 (some .int) 1 20 [.ref (y 0)] (mdL K y fm) (fun r => r = (-2)) := by
  refine ro_of (by decide) (Nat.le_of_ble_eq_true rfl) ?_
  intro p e s m below meth c hC hr hk hE hP ls hl
  have hC : CallFix p m c cX12_undo 1 s [.ref (y 0)].toArray wl RX12 := hC
  have hx := hC.1
  have hb := hC.2.1
  have hml := hC.2.2.1
  have hown := hC.2.2.2.1
  have hts := hC.2.2.2.2
  have hl : lv_has ls 1 [(0, .ref (y 0))] := hl
  refine lv_aload_n hx hb dX12_undo_0 rfl (lv_at hl 0 rfl) ?_
  refine ro_V (As := []) (rest := []) hC hE kV_X12_125 (c_X12_isWood l D K y fm hfm) hP 0 11 rfl rfl rfl hl.1 rfl (Nat.le_of_ble_eq_true rfl) (by decide) (by decide) dX12_undo_1 (fun r hq => ?_)
  subst hq
  refine lv_if_ne (tgt := 10) hx hb dX12_undo_4 (by decide) (fun h => absurd h (by decide)) (fun _ => ?_)
  refine lv_bipush (v := (-2)) hx hb dX12_undo_7 (by decide) ?_
  exact ro_ret hC hr hk dX12_undo_9 rfl
set_option maxRecDepth 20000 in
theorem c_X12_anew (l : Launch) (D : va_G) (K : Nat → ClassId) (y : Nat → Nat) (fm : Nat → Int32) (hfm : ∀ j, j < 4 → fm j = -1) : Ro l D K yX12_anew cX12_anew 2 (some .int) 1 20 [.ref (y 0)] (mdL K y fm) (fun r => r = (-2)) := by
  refine ro_of (by decide) (Nat.le_of_ble_eq_true rfl) ?_
  intro p e s m below meth c hC hr hk hE hP ls hl
  have hC : CallFix p m c cX12_anew 2 s [.ref (y 0)].toArray wl RX12 := hC
  have hx := hC.1
  have hb := hC.2.1
  have hml := hC.2.2.1
  have hown := hC.2.2.2.1
  have hts := hC.2.2.2.2
  have hl : lv_has ls 2 [(0, .ref (y 0))] := hl
  refine lv_aload_n hx hb dX12_anew_0 rfl (lv_at hl 0 rfl) ?_
  refine ro_V (As := []) (rest := []) hC hE kV_X12_125 (c_X12_isWood l D K y fm hfm) hP 0 11 rfl rfl rfl hl.1 rfl (Nat.le_of_ble_eq_true rfl) (by decide) (by decide) dX12_anew_1 (fun r hq => ?_)
  subst hq
  refine lv_if_ne (tgt := 10) hx hb dX12_anew_4 (by decide) (fun h => absurd h (by decide)) (fun _ => ?_)
  refine lv_bipush (v := (-2)) hx hb dX12_anew_7 (by decide) ?_
  exact ro_ret hC hr hk dX12_anew_9 rfl
set_option maxRecDepth 20000 in
theorem c_X12_would (l : Launch) (D : va_G) (K : Nat → ClassId) (y : Nat → Nat) (fm : Nat → Int32) (hfm : ∀ j, j < 4 → fm j = -1) (p0 : Int32) (p1 : Int32) : Ro l D K yX12_would cX12_would 4 (some .int) 3 69 [.ref (y 0), .int p0, .int p1] (mdL K y fm) (fun r => r = (-2)) := by
  refine ro_of (by decide) (Nat.le_of_ble_eq_true rfl) ?_
  intro p e s m below meth c hC hr hk hE hP ls hl
  have hC : CallFix p m c cX12_would 4 s [.ref (y 0), .int p0, .int p1].toArray wl RX12 := hC
  have hx := hC.1
  have hb := hC.2.1
  have hml := hC.2.2.1
  have hown := hC.2.2.2.1
  have hts := hC.2.2.2.2
  have hl : lv_has ls 4 [(0, .ref (y 0)), (1, .int p0), (2, .int p1)] := hl
  refine lv_aload_n hx hb dX12_would_0 rfl (lv_at hl 0 rfl) ?_
  refine lv_iload_n hx hb dX12_would_1 rfl (lv_at hl 1 rfl) ?_
  refine lv_iload_n hx hb dX12_would_2 rfl (lv_at hl 2 rfl) ?_
  refine ro_V (As := [.int p0, .int p1]) (rest := []) hC hE kV_X12_353 (c_X12_asksWalk l D K y fm hfm p0 p1) hP 0 11 rfl rfl rfl hl.1 rfl (Nat.le_of_ble_eq_true rfl) (by decide) (by decide) dX12_would_3 (fun r hq => ?_)
  subst hq
  refine lv_istore_n (lv' := [(3, .int (-2)), (0, .ref (y 0)), (1, .int p0), (2, .int p1)]) hx hb dX12_would_6 rfl hl (by decide) rfl (fun ls hl => ?_)
  refine lv_iload_n hx hb dX12_would_7 rfl (lv_at hl 0 rfl) ?_
  refine lv_if_ge (tgt := 13) hx hb dX12_would_8 (by decide) (fun h => absurd h (by decide)) (fun _ => ?_)
  refine lv_iload_n hx hb dX12_would_11 rfl (lv_at hl 0 rfl) ?_
  exact ro_ret hC hr hk dX12_would_12 rfl
set_option maxRecDepth 20000 in
theorem c_X12_think (l : Launch) (D : va_G) (K : Nat → ClassId) (y : Nat → Nat) (fm : Nat → Int32) (hfm : ∀ j, j < 4 → fm j = -1) (p0 : Int32) (p1 : Int32) : Ro l D K yX12_think cX12_think 4 (some .int) 3 69 [.ref (y 0), .int p0, .int p1] (mdL K y fm) (fun r => r = (-2)) := by
  refine ro_of (by decide) (Nat.le_of_ble_eq_true rfl) ?_
  intro p e s m below meth c hC hr hk hE hP ls hl
  have hC : CallFix p m c cX12_think 4 s [.ref (y 0), .int p0, .int p1].toArray wl RX12 := hC
  have hx := hC.1
  have hb := hC.2.1
  have hml := hC.2.2.1
  have hown := hC.2.2.2.1
  have hts := hC.2.2.2.2
  have hl : lv_has ls 4 [(0, .ref (y 0)), (1, .int p0), (2, .int p1)] := hl
  refine lv_aload_n hx hb dX12_think_0 rfl (lv_at hl 0 rfl) ?_
  refine lv_iload_n hx hb dX12_think_1 rfl (lv_at hl 1 rfl) ?_
  refine lv_iload_n hx hb dX12_think_2 rfl (lv_at hl 2 rfl) ?_
  refine ro_V (As := [.int p0, .int p1]) (rest := []) hC hE kV_X12_353 (c_X12_asksWalk l D K y fm hfm p0 p1) hP 0 11 rfl rfl rfl hl.1 rfl (Nat.le_of_ble_eq_true rfl) (by decide) (by decide) dX12_think_3 (fun r hq => ?_)
  subst hq
  refine lv_istore_n (lv' := [(3, .int (-2)), (0, .ref (y 0)), (1, .int p0), (2, .int p1)]) hx hb dX12_think_6 rfl hl (by decide) rfl (fun ls hl => ?_)
  refine lv_iload_n hx hb dX12_think_7 rfl (lv_at hl 0 rfl) ?_
  refine lv_if_ge (tgt := 13) hx hb dX12_think_8 (by decide) (fun h => absurd h (by decide)) (fun _ => ?_)
  refine lv_iload_n hx hb dX12_think_11 rfl (lv_at hl 0 rfl) ?_
  exact ro_ret hC hr hk dX12_think_12 rfl
set_option maxRecDepth 20000 in
theorem c_X12_knows (l : Launch) (D : va_G) (K : Nat → ClassId) (y : Nat → Nat) (fm : Nat → Int32) (hfm : ∀ j, j < 4 → fm j = -1) (p0 : Int32) (p1 : Int32) : Ro l D K yX12_knows cX12_knows 4 (some .int) 3 69 [.ref (y 0), .int p0, .int p1] (mdL K y fm) (fun r => r = (-2)) := by
  refine ro_of (by decide) (Nat.le_of_ble_eq_true rfl) ?_
  intro p e s m below meth c hC hr hk hE hP ls hl
  have hC : CallFix p m c cX12_knows 4 s [.ref (y 0), .int p0, .int p1].toArray wl RX12 := hC
  have hx := hC.1
  have hb := hC.2.1
  have hml := hC.2.2.1
  have hown := hC.2.2.2.1
  have hts := hC.2.2.2.2
  have hl : lv_has ls 4 [(0, .ref (y 0)), (1, .int p0), (2, .int p1)] := hl
  refine lv_aload_n hx hb dX12_knows_0 rfl (lv_at hl 0 rfl) ?_
  refine lv_iload_n hx hb dX12_knows_1 rfl (lv_at hl 1 rfl) ?_
  refine lv_iload_n hx hb dX12_knows_2 rfl (lv_at hl 2 rfl) ?_
  refine ro_V (As := [.int p0, .int p1]) (rest := []) hC hE kV_X12_353 (c_X12_asksWalk l D K y fm hfm p0 p1) hP 0 11 rfl rfl rfl hl.1 rfl (Nat.le_of_ble_eq_true rfl) (by decide) (by decide) dX12_knows_3 (fun r hq => ?_)
  subst hq
  refine lv_istore_n (lv' := [(3, .int (-2)), (0, .ref (y 0)), (1, .int p0), (2, .int p1)]) hx hb dX12_knows_6 rfl hl (by decide) rfl (fun ls hl => ?_)
  refine lv_iload_n hx hb dX12_knows_7 rfl (lv_at hl 0 rfl) ?_
  refine lv_if_ge (tgt := 13) hx hb dX12_knows_8 (by decide) (fun h => absurd h (by decide)) (fun _ => ?_)
  refine lv_iload_n hx hb dX12_knows_11 rfl (lv_at hl 0 rfl) ?_
  exact ro_ret hC hr hk dX12_knows_12 rfl
set_option maxRecDepth 20000 in
theorem c_X12_loses (l : Launch) (D : va_G) (K : Nat → ClassId) (y : Nat → Nat) (fm : Nat → Int32) (hfm : ∀ j, j < 4 → fm j = -1) (p0 : Int32) (p1 : Int32) : Ro l D K yX12_loses cX12_loses 4 (some .int) 3 69 [.ref (y 0), .int p0, .int p1] (mdL K y fm) (fun r => r = (-2)) := by
  refine ro_of (by decide) (Nat.le_of_ble_eq_true rfl) ?_
  intro p e s m below meth c hC hr hk hE hP ls hl
  have hC : CallFix p m c cX12_loses 4 s [.ref (y 0), .int p0, .int p1].toArray wl RX12 := hC
  have hx := hC.1
  have hb := hC.2.1
  have hml := hC.2.2.1
  have hown := hC.2.2.2.1
  have hts := hC.2.2.2.2
  have hl : lv_has ls 4 [(0, .ref (y 0)), (1, .int p0), (2, .int p1)] := hl
  refine lv_aload_n hx hb dX12_loses_0 rfl (lv_at hl 0 rfl) ?_
  refine lv_iload_n hx hb dX12_loses_1 rfl (lv_at hl 1 rfl) ?_
  refine lv_iload_n hx hb dX12_loses_2 rfl (lv_at hl 2 rfl) ?_
  refine ro_V (As := [.int p0, .int p1]) (rest := []) hC hE kV_X12_353 (c_X12_asksWalk l D K y fm hfm p0 p1) hP 0 11 rfl rfl rfl hl.1 rfl (Nat.le_of_ble_eq_true rfl) (by decide) (by decide) dX12_loses_3 (fun r hq => ?_)
  subst hq
  refine lv_istore_n (lv' := [(3, .int (-2)), (0, .ref (y 0)), (1, .int p0), (2, .int p1)]) hx hb dX12_loses_6 rfl hl (by decide) rfl (fun ls hl => ?_)
  refine lv_iload_n hx hb dX12_loses_7 rfl (lv_at hl 0 rfl) ?_
  refine lv_if_ge (tgt := 13) hx hb dX12_loses_8 (by decide) (fun h => absurd h (by decide)) (fun _ => ?_)
  refine lv_iload_n hx hb dX12_loses_11 rfl (lv_at hl 0 rfl) ?_
  exact ro_ret hC hr hk dX12_loses_12 rfl
set_option maxRecDepth 20000 in
theorem c_X12_doubts (l : Launch) (D : va_G) (K : Nat → ClassId) (y : Nat → Nat) (fm : Nat → Int32) (hfm : ∀ j, j < 4 → fm j = -1) (p0 : Int32) (p1 : Int32) : Ro l D K yX12_doubts cX12_doubts 4 (some .int) 3 69 [.ref (y 0), .int p0, .int p1] (mdL K y fm) (fun r => r = (-2)) := by
  refine ro_of (by decide) (Nat.le_of_ble_eq_true rfl) ?_
  intro p e s m below meth c hC hr hk hE hP ls hl
  have hC : CallFix p m c cX12_doubts 4 s [.ref (y 0), .int p0, .int p1].toArray wl RX12 := hC
  have hx := hC.1
  have hb := hC.2.1
  have hml := hC.2.2.1
  have hown := hC.2.2.2.1
  have hts := hC.2.2.2.2
  have hl : lv_has ls 4 [(0, .ref (y 0)), (1, .int p0), (2, .int p1)] := hl
  refine lv_aload_n hx hb dX12_doubts_0 rfl (lv_at hl 0 rfl) ?_
  refine lv_iload_n hx hb dX12_doubts_1 rfl (lv_at hl 1 rfl) ?_
  refine lv_iload_n hx hb dX12_doubts_2 rfl (lv_at hl 2 rfl) ?_
  refine ro_V (As := [.int p0, .int p1]) (rest := []) hC hE kV_X12_353 (c_X12_asksWalk l D K y fm hfm p0 p1) hP 0 11 rfl rfl rfl hl.1 rfl (Nat.le_of_ble_eq_true rfl) (by decide) (by decide) dX12_doubts_3 (fun r hq => ?_)
  subst hq
  refine lv_istore_n (lv' := [(3, .int (-2)), (0, .ref (y 0)), (1, .int p0), (2, .int p1)]) hx hb dX12_doubts_6 rfl hl (by decide) rfl (fun ls hl => ?_)
  refine lv_iload_n hx hb dX12_doubts_7 rfl (lv_at hl 0 rfl) ?_
  refine lv_if_ge (tgt := 13) hx hb dX12_doubts_8 (by decide) (fun h => absurd h (by decide)) (fun _ => ?_)
  refine lv_iload_n hx hb dX12_doubts_11 rfl (lv_at hl 0 rfl) ?_
  exact ro_ret hC hr hk dX12_doubts_12 rfl
set_option maxRecDepth 20000 in
theorem c_X12_blur (l : Launch) (D : va_G) (K : Nat → ClassId) (y : Nat → Nat) (fm : Nat → Int32) (hfm : ∀ j, j < 4 → fm j = -1) (p0 : Int32) (p1 : Int32) : Ro l D K yX12_blur cX12_blur 3 (some .int) 2 46 [.ref (y 0), .int p0, .int p1] (mdL K y fm) (fun r => r = (-2)) := by
  refine ro_of (by decide) (Nat.le_of_ble_eq_true rfl) ?_
  intro p e s m below meth c hC hr hk hE hP ls hl
  have hC : CallFix p m c cX12_blur 3 s [.ref (y 0), .int p0, .int p1].toArray wl RX12 := hC
  have hx := hC.1
  have hb := hC.2.1
  have hml := hC.2.2.1
  have hown := hC.2.2.2.1
  have hts := hC.2.2.2.2
  have hl : lv_has ls 3 [(0, .ref (y 0)), (1, .int p0), (2, .int p1)] := hl
  refine lv_aload_n hx hb dX12_blur_0 rfl (lv_at hl 0 rfl) ?_
  refine lv_iload_n hx hb dX12_blur_1 rfl (lv_at hl 1 rfl) ?_
  refine ro_V (As := [.int p0]) (rest := []) hC hE kV_X12_310 (c_X12_isPupil l D K y fm hfm p0) hP 0 11 rfl rfl rfl hl.1 rfl (Nat.le_of_ble_eq_true rfl) (by decide) (by decide) dX12_blur_2 (fun r hq => ?_)
  subst hq
  refine lv_if_eq (tgt := 27) hx hb dX12_blur_5 (by decide) (fun _ => ?_) (fun h => absurd h (by decide))
  refine lv_bipush (v := (-2)) hx hb dX12_blur_27 (by decide) ?_
  exact ro_ret hC hr hk dX12_blur_29 rfl
set_option maxRecDepth 20000 in
theorem c_X12_blurs (l : Launch) (D : va_G) (K : Nat → ClassId) (y : Nat → Nat) (fm : Nat → Int32) (hfm : ∀ j, j < 4 → fm j = -1) (p0 : Int32) (p1 : Int32) (p2 : Int32) : Ro l D K yX12_blurs cX12_blurs 4 (some .int) 2 46 [.ref (y 0), .int p0, .int p1, .int p2] (mdL K y fm) (fun r => r = (-2)) := by
  refine ro_of (by decide) (Nat.le_of_ble_eq_true rfl) ?_
  intro p e s m below meth c hC hr hk hE hP ls hl
  have hC : CallFix p m c cX12_blurs 4 s [.ref (y 0), .int p0, .int p1, .int p2].toArray wl RX12 := hC
  have hx := hC.1
  have hb := hC.2.1
  have hml := hC.2.2.1
  have hown := hC.2.2.2.1
  have hts := hC.2.2.2.2
  have hl : lv_has ls 4 [(0, .ref (y 0)), (1, .int p0), (2, .int p1), (3, .int p2)] := hl
  refine lv_aload_n hx hb dX12_blurs_0 rfl (lv_at hl 0 rfl) ?_
  refine lv_iload_n hx hb dX12_blurs_1 rfl (lv_at hl 1 rfl) ?_
  refine ro_V (As := [.int p0]) (rest := []) hC hE kV_X12_310 (c_X12_isPupil l D K y fm hfm p0) hP 0 11 rfl rfl rfl hl.1 rfl (Nat.le_of_ble_eq_true rfl) (by decide) (by decide) dX12_blurs_2 (fun r hq => ?_)
  subst hq
  refine lv_if_eq (tgt := 28) hx hb dX12_blurs_5 (by decide) (fun _ => ?_) (fun h => absurd h (by decide))
  refine lv_bipush (v := (-2)) hx hb dX12_blurs_28 (by decide) ?_
  exact ro_ret hC hr hk dX12_blurs_30 rfl
set_option maxRecDepth 20000 in
theorem c_X12_stray (l : Launch) (D : va_G) (K : Nat → ClassId) (y : Nat → Nat) (fm : Nat → Int32) (hfm : ∀ j, j < 4 → fm j = -1) (p0 : Int32) : Ro l D K yX12_stray cX12_stray 2 (some .int) 2 46 [.ref (y 0), .int p0] (mdL K y fm) (fun r => r = (-2)) := by
  refine ro_of (by decide) (Nat.le_of_ble_eq_true rfl) ?_
  intro p e s m below meth c hC hr hk hE hP ls hl
  have hC : CallFix p m c cX12_stray 2 s [.ref (y 0), .int p0].toArray wl RX12 := hC
  have hx := hC.1
  have hb := hC.2.1
  have hml := hC.2.2.1
  have hown := hC.2.2.2.1
  have hts := hC.2.2.2.2
  have hl : lv_has ls 2 [(0, .ref (y 0)), (1, .int p0)] := hl
  refine lv_aload_n hx hb dX12_stray_0 rfl (lv_at hl 0 rfl) ?_
  refine lv_iload_n hx hb dX12_stray_1 rfl (lv_at hl 1 rfl) ?_
  refine ro_V (As := [.int p0]) (rest := []) hC hE kV_X12_310 (c_X12_isPupil l D K y fm hfm p0) hP 0 11 rfl rfl rfl hl.1 rfl (Nat.le_of_ble_eq_true rfl) (by decide) (by decide) dX12_stray_2 (fun r hq => ?_)
  subst hq
  refine lv_if_eq (tgt := 22) hx hb dX12_stray_5 (by decide) (fun _ => ?_) (fun h => absurd h (by decide))
  refine lv_bipush (v := (-2)) hx hb dX12_stray_22 (by decide) ?_
  exact ro_ret hC hr hk dX12_stray_24 rfl
set_option maxRecDepth 20000 in
theorem c_X12_strays (l : Launch) (D : va_G) (K : Nat → ClassId) (y : Nat → Nat) (fm : Nat → Int32) (hfm : ∀ j, j < 4 → fm j = -1) (p0 : Int32) (p1 : Int32) : Ro l D K yX12_strays cX12_strays 3 (some .int) 2 46 [.ref (y 0), .int p0, .int p1] (mdL K y fm) (fun r => r = (-2)) := by
  refine ro_of (by decide) (Nat.le_of_ble_eq_true rfl) ?_
  intro p e s m below meth c hC hr hk hE hP ls hl
  have hC : CallFix p m c cX12_strays 3 s [.ref (y 0), .int p0, .int p1].toArray wl RX12 := hC
  have hx := hC.1
  have hb := hC.2.1
  have hml := hC.2.2.1
  have hown := hC.2.2.2.1
  have hts := hC.2.2.2.2
  have hl : lv_has ls 3 [(0, .ref (y 0)), (1, .int p0), (2, .int p1)] := hl
  refine lv_aload_n hx hb dX12_strays_0 rfl (lv_at hl 0 rfl) ?_
  refine lv_iload_n hx hb dX12_strays_1 rfl (lv_at hl 1 rfl) ?_
  refine ro_V (As := [.int p0]) (rest := []) hC hE kV_X12_310 (c_X12_isPupil l D K y fm hfm p0) hP 0 11 rfl rfl rfl hl.1 rfl (Nat.le_of_ble_eq_true rfl) (by decide) (by decide) dX12_strays_2 (fun r hq => ?_)
  subst hq
  refine lv_if_eq (tgt := 23) hx hb dX12_strays_5 (by decide) (fun _ => ?_) (fun h => absurd h (by decide))
  refine lv_bipush (v := (-2)) hx hb dX12_strays_23 (by decide) ?_
  exact ro_ret hC hr hk dX12_strays_25 rfl
set_option maxRecDepth 20000 in
theorem c_X12_home (l : Launch) (D : va_G) (K : Nat → ClassId) (y : Nat → Nat) (fm : Nat → Int32) (hfm : ∀ j, j < 4 → fm j = -1) (p0 : Int32) : Ro l D K yX12_home cX12_home 2 (some .int) 2 46 [.ref (y 0), .int p0] (mdL K y fm) (fun r => r = (-2)) := by
  refine ro_of (by decide) (Nat.le_of_ble_eq_true rfl) ?_
  intro p e s m below meth c hC hr hk hE hP ls hl
  have hC : CallFix p m c cX12_home 2 s [.ref (y 0), .int p0].toArray wl RX12 := hC
  have hx := hC.1
  have hb := hC.2.1
  have hml := hC.2.2.1
  have hown := hC.2.2.2.1
  have hts := hC.2.2.2.2
  have hl : lv_has ls 2 [(0, .ref (y 0)), (1, .int p0)] := hl
  refine lv_aload_n hx hb dX12_home_0 rfl (lv_at hl 0 rfl) ?_
  refine lv_iload_n hx hb dX12_home_1 rfl (lv_at hl 1 rfl) ?_
  refine ro_V (As := [.int p0]) (rest := []) hC hE kV_X12_310 (c_X12_isPupil l D K y fm hfm p0) hP 0 11 rfl rfl rfl hl.1 rfl (Nat.le_of_ble_eq_true rfl) (by decide) (by decide) dX12_home_2 (fun r hq => ?_)
  subst hq
  refine lv_if_eq (tgt := 22) hx hb dX12_home_5 (by decide) (fun _ => ?_) (fun h => absurd h (by decide))
  refine lv_bipush (v := (-2)) hx hb dX12_home_22 (by decide) ?_
  exact ro_ret hC hr hk dX12_home_24 rfl
set_option maxRecDepth 20000 in
theorem c_X12_homes (l : Launch) (D : va_G) (K : Nat → ClassId) (y : Nat → Nat) (fm : Nat → Int32) (hfm : ∀ j, j < 4 → fm j = -1) (p0 : Int32) (p1 : Int32) : Ro l D K yX12_homes cX12_homes 3 (some .int) 2 46 [.ref (y 0), .int p0, .int p1] (mdL K y fm) (fun r => r = (-2)) := by
  refine ro_of (by decide) (Nat.le_of_ble_eq_true rfl) ?_
  intro p e s m below meth c hC hr hk hE hP ls hl
  have hC : CallFix p m c cX12_homes 3 s [.ref (y 0), .int p0, .int p1].toArray wl RX12 := hC
  have hx := hC.1
  have hb := hC.2.1
  have hml := hC.2.2.1
  have hown := hC.2.2.2.1
  have hts := hC.2.2.2.2
  have hl : lv_has ls 3 [(0, .ref (y 0)), (1, .int p0), (2, .int p1)] := hl
  refine lv_aload_n hx hb dX12_homes_0 rfl (lv_at hl 0 rfl) ?_
  refine lv_iload_n hx hb dX12_homes_1 rfl (lv_at hl 1 rfl) ?_
  refine ro_V (As := [.int p0]) (rest := []) hC hE kV_X12_310 (c_X12_isPupil l D K y fm hfm p0) hP 0 11 rfl rfl rfl hl.1 rfl (Nat.le_of_ble_eq_true rfl) (by decide) (by decide) dX12_homes_2 (fun r hq => ?_)
  subst hq
  refine lv_if_eq (tgt := 23) hx hb dX12_homes_5 (by decide) (fun _ => ?_) (fun h => absurd h (by decide))
  refine lv_bipush (v := (-2)) hx hb dX12_homes_23 (by decide) ?_
  exact ro_ret hC hr hk dX12_homes_25 rfl
set_option maxRecDepth 20000 in
theorem c_X12_states (l : Launch) (D : va_G) (K : Nat → ClassId) (y : Nat → Nat) (fm : Nat → Int32) (hfm : ∀ j, j < 4 → fm j = -1) (p0 : Int32) : Ro l D K yX12_states cX12_states 2 (some .int) 2 46 [.ref (y 0), .int p0] (mdL K y fm) (fun r => r = (-2)) := by
  refine ro_of (by decide) (Nat.le_of_ble_eq_true rfl) ?_
  intro p e s m below meth c hC hr hk hE hP ls hl
  have hC : CallFix p m c cX12_states 2 s [.ref (y 0), .int p0].toArray wl RX12 := hC
  have hx := hC.1
  have hb := hC.2.1
  have hml := hC.2.2.1
  have hown := hC.2.2.2.1
  have hts := hC.2.2.2.2
  have hl : lv_has ls 2 [(0, .ref (y 0)), (1, .int p0)] := hl
  refine lv_aload_n hx hb dX12_states_0 rfl (lv_at hl 0 rfl) ?_
  refine lv_iload_n hx hb dX12_states_1 rfl (lv_at hl 1 rfl) ?_
  refine ro_V (As := [.int p0]) (rest := []) hC hE kV_X12_310 (c_X12_isPupil l D K y fm hfm p0) hP 0 11 rfl rfl rfl hl.1 rfl (Nat.le_of_ble_eq_true rfl) (by decide) (by decide) dX12_states_2 (fun r hq => ?_)
  subst hq
  refine lv_if_ne (tgt := 11) hx hb dX12_states_5 (by decide) (fun h => absurd h (by decide)) (fun _ => ?_)
  refine lv_bipush (v := (-2)) hx hb dX12_states_8 (by decide) ?_
  exact ro_ret hC hr hk dX12_states_10 rfl
set_option maxRecDepth 20000 in
theorem c_X12_plan (l : Launch) (D : va_G) (K : Nat → ClassId) (y : Nat → Nat) (fm : Nat → Int32) (hfm : ∀ j, j < 4 → fm j = -1) (p0 : Int32) : Ro l D K yX12_plan cX12_plan 3 (some .int) 2 41 [.ref (y 0), .int p0] (mdL K y fm) (fun r => r = (-2)) := by
  refine ro_of (by decide) (Nat.le_of_ble_eq_true rfl) ?_
  intro p e s m below meth c hC hr hk hE hP ls hl
  have hC : CallFix p m c cX12_plan 3 s [.ref (y 0), .int p0].toArray wl RX12 := hC
  have hx := hC.1
  have hb := hC.2.1
  have hml := hC.2.2.1
  have hown := hC.2.2.2.1
  have hts := hC.2.2.2.2
  have hl : lv_has ls 3 [(0, .ref (y 0)), (1, .int p0)] := hl
  refine lv_aload_n hx hb dX12_plan_0 rfl (lv_at hl 0 rfl) ?_
  refine lv_iload_n hx hb dX12_plan_1 rfl (lv_at hl 1 rfl) ?_
  refine ro_V (As := [.int p0]) (rest := []) hC hE kV_X12_282 (c_X12_isSet l D K y fm hfm p0) hP 0 11 rfl rfl rfl hl.1 rfl (Nat.le_of_ble_eq_true rfl) (by decide) (by decide) dX12_plan_2 (fun r hq => ?_)
  subst hq
  refine lv_if_ne (tgt := 11) hx hb dX12_plan_5 (by decide) (fun h => absurd h (by decide)) (fun _ => ?_)
  refine lv_bipush (v := (-2)) hx hb dX12_plan_8 (by decide) ?_
  exact ro_ret hC hr hk dX12_plan_10 rfl
set_option maxRecDepth 20000 in
theorem c_X12_first (l : Launch) (D : va_G) (K : Nat → ClassId) (y : Nat → Nat) (fm : Nat → Int32) (hfm : ∀ j, j < 4 → fm j = -1) (p0 : Int32) : Ro l D K yX12_first cX12_first 3 (some .int) 2 41 [.ref (y 0), .int p0] (mdL K y fm) (fun r => r = (-2)) := by
  refine ro_of (by decide) (Nat.le_of_ble_eq_true rfl) ?_
  intro p e s m below meth c hC hr hk hE hP ls hl
  have hC : CallFix p m c cX12_first 3 s [.ref (y 0), .int p0].toArray wl RX12 := hC
  have hx := hC.1
  have hb := hC.2.1
  have hml := hC.2.2.1
  have hown := hC.2.2.2.1
  have hts := hC.2.2.2.2
  have hl : lv_has ls 3 [(0, .ref (y 0)), (1, .int p0)] := hl
  refine lv_aload_n hx hb dX12_first_0 rfl (lv_at hl 0 rfl) ?_
  refine lv_iload_n hx hb dX12_first_1 rfl (lv_at hl 1 rfl) ?_
  refine ro_V (As := [.int p0]) (rest := []) hC hE kV_X12_282 (c_X12_isSet l D K y fm hfm p0) hP 0 11 rfl rfl rfl hl.1 rfl (Nat.le_of_ble_eq_true rfl) (by decide) (by decide) dX12_first_2 (fun r hq => ?_)
  subst hq
  refine lv_if_ne (tgt := 11) hx hb dX12_first_5 (by decide) (fun h => absurd h (by decide)) (fun _ => ?_)
  refine lv_bipush (v := (-2)) hx hb dX12_first_8 (by decide) ?_
  exact ro_ret hC hr hk dX12_first_10 rfl
set_option maxRecDepth 20000 in
theorem c_X12_hardest (l : Launch) (D : va_G) (K : Nat → ClassId) (y : Nat → Nat) (fm : Nat → Int32) (hfm : ∀ j, j < 4 → fm j = -1) : Ro l D K yX12_hardest cX12_hardest 5 (some .int) 1 20 [.ref (y 0)] (mdL K y fm) (fun r => r = (-2)) := by
  refine ro_of (by decide) (Nat.le_of_ble_eq_true rfl) ?_
  intro p e s m below meth c hC hr hk hE hP ls hl
  have hC : CallFix p m c cX12_hardest 5 s [.ref (y 0)].toArray wl RX12 := hC
  have hx := hC.1
  have hb := hC.2.1
  have hml := hC.2.2.1
  have hown := hC.2.2.2.1
  have hts := hC.2.2.2.2
  have hl : lv_has ls 5 [(0, .ref (y 0))] := hl
  refine lv_aload_n hx hb dX12_hardest_0 rfl (lv_at hl 0 rfl) ?_
  refine ro_V (As := []) (rest := []) hC hE kV_X12_125 (c_X12_isWood l D K y fm hfm) hP 0 11 rfl rfl rfl hl.1 rfl (Nat.le_of_ble_eq_true rfl) (by decide) (by decide) dX12_hardest_1 (fun r hq => ?_)
  subst hq
  refine lv_if_ne (tgt := 10) hx hb dX12_hardest_4 (by decide) (fun h => absurd h (by decide)) (fun _ => ?_)
  refine lv_bipush (v := (-2)) hx hb dX12_hardest_7 (by decide) ?_
  exact ro_ret hC hr hk dX12_hardest_9 rfl
set_option maxRecDepth 20000 in
theorem c_X12_alike (l : Launch) (D : va_G) (K : Nat → ClassId) (y : Nat → Nat) (fm : Nat → Int32) (hfm : ∀ j, j < 4 → fm j = -1) (p0 : Int32) (p1 : Int32) : Ro l D K yX12_alike cX12_alike 3 (some .int) 3 69 [.ref (y 0), .int p0, .int p1] (mdL K y fm) (fun r => r = (-2)) := by
  refine ro_of (by decide) (Nat.le_of_ble_eq_true rfl) ?_
  intro p e s m below meth c hC hr hk hE hP ls hl
  have hC : CallFix p m c cX12_alike 3 s [.ref (y 0), .int p0, .int p1].toArray wl RX12 := hC
  have hx := hC.1
  have hb := hC.2.1
  have hml := hC.2.2.1
  have hown := hC.2.2.2.1
  have hts := hC.2.2.2.2
  have hl : lv_has ls 3 [(0, .ref (y 0)), (1, .int p0), (2, .int p1)] := hl
  refine lv_aload_n hx hb dX12_alike_0 rfl (lv_at hl 0 rfl) ?_
  refine lv_iload_n hx hb dX12_alike_1 rfl (lv_at hl 1 rfl) ?_
  refine lv_iload_n hx hb dX12_alike_2 rfl (lv_at hl 2 rfl) ?_
  refine ro_V (As := [.int p0, .int p1]) (rest := []) hC hE kV_X12_394 (c_X12_areTwo l D K y fm hfm p0 p1) hP 0 11 rfl rfl rfl hl.1 rfl (Nat.le_of_ble_eq_true rfl) (by decide) (by decide) dX12_alike_3 (fun r hq => ?_)
  subst hq
  refine lv_if_ne (tgt := 12) hx hb dX12_alike_6 (by decide) (fun h => absurd h (by decide)) (fun _ => ?_)
  refine lv_bipush (v := (-2)) hx hb dX12_alike_9 (by decide) ?_
  exact ro_ret hC hr hk dX12_alike_11 rfl
