set_option maxRecDepth 20000 in
theorem c_X12_kinds (l : Launch) (D : va_G) (K : Nat → ClassId) (y : Nat → Nat) (fm : Nat → Int32) (hfm : ∀ j, j < 4 → fm j = -1) : Ro l D K yX12_kinds cX12_kinds 1 (some .int) 1 20 [.ref (y 0)] (mdL K y fm) (fun r => r = (-2)) := by
  refine ro_of (by decide) (Nat.le_of_ble_eq_true rfl) ?_
  intro p e s m below meth c hC hr hk hE hP ls hl
  have hC : CallFix p m c cX12_kinds 1 s [.ref (y 0)].toArray wl RX12 := hC
  have hx := hC.1
  have hb := hC.2.1
  have hml := hC.2.2.1
  have hown := hC.2.2.2.1
  have hts := hC.2.2.2.2
  have hl : lv_has ls 1 [(0, .ref (y 0))] := hl
  refine lv_aload_n hx hb dX12_kinds_0 rfl (lv_at hl 0 rfl) ?_
  refine ro_V (As := []) (rest := []) hC hE kV_X12_125 (c_X12_isWood l D K y fm hfm) hP 0 11 rfl rfl rfl hl.1 rfl (Nat.le_of_ble_eq_true rfl) (by decide) (by decide) dX12_kinds_1 (fun r hq => ?_)
  subst hq
  refine lv_if_eq (tgt := 15) hx hb dX12_kinds_4 (by decide) (fun _ => ?_) (fun h => absurd h (by decide))
  refine lv_bipush (v := (-2)) hx hb dX12_kinds_15 (by decide) ?_
  exact ro_ret hC hr hk dX12_kinds_17 rfl
set_option maxRecDepth 20000 in
theorem c_X12_tells (l : Launch) (D : va_G) (K : Nat → ClassId) (y : Nat → Nat) (fm : Nat → Int32) (hfm : ∀ j, j < 4 → fm j = -1) (p0 : Int32) (p1 : Int32) : Ro l D K yX12_tells cX12_tells 4 (some .int) 3 69 [.ref (y 0), .int p0, .int p1] (mdL K y fm) (fun r => r = (-2)) := by
  refine ro_of (by decide) (Nat.le_of_ble_eq_true rfl) ?_
  intro p e s m below meth c hC hr hk hE hP ls hl
  have hC : CallFix p m c cX12_tells 4 s [.ref (y 0), .int p0, .int p1].toArray wl RX12 := hC
  have hx := hC.1
  have hb := hC.2.1
  have hml := hC.2.2.1
  have hown := hC.2.2.2.1
  have hts := hC.2.2.2.2
  have hl : lv_has ls 4 [(0, .ref (y 0)), (1, .int p0), (2, .int p1)] := hl
  refine lv_aload_n hx hb dX12_tells_0 rfl (lv_at hl 0 rfl) ?_
  refine lv_iload_n hx hb dX12_tells_1 rfl (lv_at hl 1 rfl) ?_
  refine lv_iload_n hx hb dX12_tells_2 rfl (lv_at hl 2 rfl) ?_
  refine ro_V (As := [.int p0, .int p1]) (rest := []) hC hE kV_X12_394 (c_X12_areTwo l D K y fm hfm p0 p1) hP 0 11 rfl rfl rfl hl.1 rfl (Nat.le_of_ble_eq_true rfl) (by decide) (by decide) dX12_tells_3 (fun r hq => ?_)
  subst hq
  refine lv_if_ne (tgt := 12) hx hb dX12_tells_6 (by decide) (fun h => absurd h (by decide)) (fun _ => ?_)
  refine lv_bipush (v := (-2)) hx hb dX12_tells_9 (by decide) ?_
  exact ro_ret hC hr hk dX12_tells_11 rfl
set_option maxRecDepth 20000 in
theorem c_X12_told_ (l : Launch) (D : va_G) (K : Nat → ClassId) (y : Nat → Nat) (fm : Nat → Int32) (hfm : ∀ j, j < 4 → fm j = -1) (p0 : Int32) (p1 : Int32) (p2 : Int32) : Ro l D K yX12_told_ cX12_told_ 5 (some .int) 3 69 [.ref (y 0), .int p0, .int p1, .int p2] (mdL K y fm) (fun r => r = (-2)) := by
  refine ro_of (by decide) (Nat.le_of_ble_eq_true rfl) ?_
  intro p e s m below meth c hC hr hk hE hP ls hl
  have hC : CallFix p m c cX12_told_ 5 s [.ref (y 0), .int p0, .int p1, .int p2].toArray wl RX12 := hC
  have hx := hC.1
  have hb := hC.2.1
  have hml := hC.2.2.1
  have hown := hC.2.2.2.1
  have hts := hC.2.2.2.2
  have hl : lv_has ls 5 [(0, .ref (y 0)), (1, .int p0), (2, .int p1), (3, .int p2)] := hl
  refine lv_aload_n hx hb dX12_told__0 rfl (lv_at hl 0 rfl) ?_
  refine lv_iload_n hx hb dX12_told__1 rfl (lv_at hl 1 rfl) ?_
  refine lv_iload_n hx hb dX12_told__2 rfl (lv_at hl 2 rfl) ?_
  refine ro_V (As := [.int p0, .int p1]) (rest := []) hC hE kV_X12_394 (c_X12_areTwo l D K y fm hfm p0 p1) hP 0 11 rfl rfl rfl hl.1 rfl (Nat.le_of_ble_eq_true rfl) (by decide) (by decide) dX12_told__3 (fun r hq => ?_)
  subst hq
  refine lv_if_ne (tgt := 12) hx hb dX12_told__6 (by decide) (fun h => absurd h (by decide)) (fun _ => ?_)
  refine lv_bipush (v := (-2)) hx hb dX12_told__9 (by decide) ?_
  exact ro_ret hC hr hk dX12_told__11 rfl
set_option maxRecDepth 20000 in
theorem c_X12_bares (l : Launch) (D : va_G) (K : Nat → ClassId) (y : Nat → Nat) (fm : Nat → Int32) (hfm : ∀ j, j < 4 → fm j = -1) (p0 : Int32) (p1 : Int32) : Ro l D K yX12_bares cX12_bares 3 (some .int) 3 69 [.ref (y 0), .int p0, .int p1] (mdL K y fm) (fun r => r = (-2)) := by
  refine ro_of (by decide) (Nat.le_of_ble_eq_true rfl) ?_
  intro p e s m below meth c hC hr hk hE hP ls hl
  have hC : CallFix p m c cX12_bares 3 s [.ref (y 0), .int p0, .int p1].toArray wl RX12 := hC
  have hx := hC.1
  have hb := hC.2.1
  have hml := hC.2.2.1
  have hown := hC.2.2.2.1
  have hts := hC.2.2.2.2
  have hl : lv_has ls 3 [(0, .ref (y 0)), (1, .int p0), (2, .int p1)] := hl
  refine lv_aload_n hx hb dX12_bares_0 rfl (lv_at hl 0 rfl) ?_
  refine lv_iload_n hx hb dX12_bares_1 rfl (lv_at hl 1 rfl) ?_
  refine lv_iload_n hx hb dX12_bares_2 rfl (lv_at hl 2 rfl) ?_
  refine ro_V (As := [.int p0, .int p1]) (rest := []) hC hE kV_X12_394 (c_X12_areTwo l D K y fm hfm p0 p1) hP 0 11 rfl rfl rfl hl.1 rfl (Nat.le_of_ble_eq_true rfl) (by decide) (by decide) dX12_bares_3 (fun r hq => ?_)
  subst hq
  refine lv_if_eq (tgt := 21) hx hb dX12_bares_6 (by decide) (fun _ => ?_) (fun h => absurd h (by decide))
  refine lv_bipush (v := (-2)) hx hb dX12_bares_21 (by decide) ?_
  exact ro_ret hC hr hk dX12_bares_23 rfl
set_option maxRecDepth 20000 in
theorem c_X12_bared (l : Launch) (D : va_G) (K : Nat → ClassId) (y : Nat → Nat) (fm : Nat → Int32) (hfm : ∀ j, j < 4 → fm j = -1) (p0 : Int32) (p1 : Int32) : Ro l D K yX12_bared cX12_bared 3 (some .int) 3 69 [.ref (y 0), .int p0, .int p1] (mdL K y fm) (fun r => r = (-2)) := by
  refine ro_of (by decide) (Nat.le_of_ble_eq_true rfl) ?_
  intro p e s m below meth c hC hr hk hE hP ls hl
  have hC : CallFix p m c cX12_bared 3 s [.ref (y 0), .int p0, .int p1].toArray wl RX12 := hC
  have hx := hC.1
  have hb := hC.2.1
  have hml := hC.2.2.1
  have hown := hC.2.2.2.1
  have hts := hC.2.2.2.2
  have hl : lv_has ls 3 [(0, .ref (y 0)), (1, .int p0), (2, .int p1)] := hl
  refine lv_aload_n hx hb dX12_bared_0 rfl (lv_at hl 0 rfl) ?_
  refine lv_iload_n hx hb dX12_bared_1 rfl (lv_at hl 1 rfl) ?_
  refine lv_iload_n hx hb dX12_bared_2 rfl (lv_at hl 2 rfl) ?_
  refine ro_V (As := [.int p0, .int p1]) (rest := []) hC hE kV_X12_394 (c_X12_areTwo l D K y fm hfm p0 p1) hP 0 11 rfl rfl rfl hl.1 rfl (Nat.le_of_ble_eq_true rfl) (by decide) (by decide) dX12_bared_3 (fun r hq => ?_)
  subst hq
  refine lv_if_eq (tgt := 18) hx hb dX12_bared_6 (by decide) (fun _ => ?_) (fun h => absurd h (by decide))
  refine lv_bipush (v := (-2)) hx hb dX12_bared_18 (by decide) ?_
  exact ro_ret hC hr hk dX12_bared_20 rfl
set_option maxRecDepth 20000 in
theorem c_X12_gather (l : Launch) (D : va_G) (K : Nat → ClassId) (y : Nat → Nat) (fm : Nat → Int32) (hfm : ∀ j, j < 4 → fm j = -1) (p0 : Int32) : Ro l D K yX12_gather cX12_gather 3 (some .int) 2 41 [.ref (y 0), .int p0] (mdL K y fm) (fun r => r = (-2)) := by
  refine ro_of (by decide) (Nat.le_of_ble_eq_true rfl) ?_
  intro p e s m below meth c hC hr hk hE hP ls hl
  have hC : CallFix p m c cX12_gather 3 s [.ref (y 0), .int p0].toArray wl RX12 := hC
  have hx := hC.1
  have hb := hC.2.1
  have hml := hC.2.2.1
  have hown := hC.2.2.2.1
  have hts := hC.2.2.2.2
  have hl : lv_has ls 3 [(0, .ref (y 0)), (1, .int p0)] := hl
  refine lv_aload_n hx hb dX12_gather_0 rfl (lv_at hl 0 rfl) ?_
  refine lv_iload_n hx hb dX12_gather_1 rfl (lv_at hl 1 rfl) ?_
  refine ro_V (As := [.int p0]) (rest := []) hC hE kV_X12_282 (c_X12_isSet l D K y fm hfm p0) hP 0 11 rfl rfl rfl hl.1 rfl (Nat.le_of_ble_eq_true rfl) (by decide) (by decide) dX12_gather_2 (fun r hq => ?_)
  subst hq
  refine lv_if_ne (tgt := 11) hx hb dX12_gather_5 (by decide) (fun h => absurd h (by decide)) (fun _ => ?_)
  refine lv_bipush (v := (-2)) hx hb dX12_gather_8 (by decide) ?_
  exact ro_ret hC hr hk dX12_gather_10 rfl
set_option maxRecDepth 20000 in
theorem c_X12_gathers (l : Launch) (D : va_G) (K : Nat → ClassId) (y : Nat → Nat) (fm : Nat → Int32) (hfm : ∀ j, j < 4 → fm j = -1) (p0 : Int32) (p1 : Int32) : Ro l D K yX12_gathers cX12_gathers 4 (some .int) 2 41 [.ref (y 0), .int p0, .int p1] (mdL K y fm) (fun r => r = (-2)) := by
  refine ro_of (by decide) (Nat.le_of_ble_eq_true rfl) ?_
  intro p e s m below meth c hC hr hk hE hP ls hl
  have hC : CallFix p m c cX12_gathers 4 s [.ref (y 0), .int p0, .int p1].toArray wl RX12 := hC
  have hx := hC.1
  have hb := hC.2.1
  have hml := hC.2.2.1
  have hown := hC.2.2.2.1
  have hts := hC.2.2.2.2
  have hl : lv_has ls 4 [(0, .ref (y 0)), (1, .int p0), (2, .int p1)] := hl
  refine lv_aload_n hx hb dX12_gathers_0 rfl (lv_at hl 0 rfl) ?_
  refine lv_iload_n hx hb dX12_gathers_1 rfl (lv_at hl 1 rfl) ?_
  refine ro_V (As := [.int p0]) (rest := []) hC hE kV_X12_282 (c_X12_isSet l D K y fm hfm p0) hP 0 11 rfl rfl rfl hl.1 rfl (Nat.le_of_ble_eq_true rfl) (by decide) (by decide) dX12_gathers_2 (fun r hq => ?_)
  subst hq
  refine lv_if_ne (tgt := 11) hx hb dX12_gathers_5 (by decide) (fun h => absurd h (by decide)) (fun _ => ?_)
  refine lv_bipush (v := (-2)) hx hb dX12_gathers_8 (by decide) ?_
  exact ro_ret hC hr hk dX12_gathers_10 rfl
set_option maxRecDepth 20000 in
theorem c_X12_roundabout (l : Launch) (D : va_G) (K : Nat → ClassId) (y : Nat → Nat) (fm : Nat → Int32) (hfm : ∀ j, j < 4 → fm j = -1) (p0 : Int32) : Ro l D K yX12_roundabout cX12_roundabout 4 (some .int) 2 41 [.ref (y 0), .int p0] (mdL K y fm) (fun r => r = (-2)) := by
  refine ro_of (by decide) (Nat.le_of_ble_eq_true rfl) ?_
  intro p e s m below meth c hC hr hk hE hP ls hl
  have hC : CallFix p m c cX12_roundabout 4 s [.ref (y 0), .int p0].toArray wl RX12 := hC
  have hx := hC.1
  have hb := hC.2.1
  have hml := hC.2.2.1
  have hown := hC.2.2.2.1
  have hts := hC.2.2.2.2
  have hl : lv_has ls 4 [(0, .ref (y 0)), (1, .int p0)] := hl
  refine lv_aload_n hx hb dX12_roundabout_0 rfl (lv_at hl 0 rfl) ?_
  refine lv_iload_n hx hb dX12_roundabout_1 rfl (lv_at hl 1 rfl) ?_
  refine ro_V (As := [.int p0]) (rest := []) hC hE kV_X12_282 (c_X12_isSet l D K y fm hfm p0) hP 0 11 rfl rfl rfl hl.1 rfl (Nat.le_of_ble_eq_true rfl) (by decide) (by decide) dX12_roundabout_2 (fun r hq => ?_)
  subst hq
  refine lv_if_ne (tgt := 11) hx hb dX12_roundabout_5 (by decide) (fun h => absurd h (by decide)) (fun _ => ?_)
  refine lv_bipush (v := (-2)) hx hb dX12_roundabout_8 (by decide) ?_
  exact ro_ret hC hr hk dX12_roundabout_10 rfl
set_option maxRecDepth 20000 in
theorem c_X12_meet (l : Launch) (D : va_G) (K : Nat → ClassId) (y : Nat → Nat) (fm : Nat → Int32) (hfm : ∀ j, j < 4 → fm j = -1) (p0 : Int32) (p1 : Int32) : Ro l D K yX12_meet cX12_meet 3 (some .int) 3 69 [.ref (y 0), .int p0, .int p1] (mdL K y fm) (fun r => r = (-2)) := by
  refine ro_of (by decide) (Nat.le_of_ble_eq_true rfl) ?_
  intro p e s m below meth c hC hr hk hE hP ls hl
  have hC : CallFix p m c cX12_meet 3 s [.ref (y 0), .int p0, .int p1].toArray wl RX12 := hC
  have hx := hC.1
  have hb := hC.2.1
  have hml := hC.2.2.1
  have hown := hC.2.2.2.1
  have hts := hC.2.2.2.2
  have hl : lv_has ls 3 [(0, .ref (y 0)), (1, .int p0), (2, .int p1)] := hl
  refine lv_aload_n hx hb dX12_meet_0 rfl (lv_at hl 0 rfl) ?_
  refine lv_iload_n hx hb dX12_meet_1 rfl (lv_at hl 1 rfl) ?_
  refine lv_iload_n hx hb dX12_meet_2 rfl (lv_at hl 2 rfl) ?_
  refine ro_V (As := [.int p0, .int p1]) (rest := []) hC hE kV_X12_394 (c_X12_areTwo l D K y fm hfm p0 p1) hP 0 11 rfl rfl rfl hl.1 rfl (Nat.le_of_ble_eq_true rfl) (by decide) (by decide) dX12_meet_3 (fun r hq => ?_)
  subst hq
  refine lv_if_ne (tgt := 12) hx hb dX12_meet_6 (by decide) (fun h => absurd h (by decide)) (fun _ => ?_)
  refine lv_bipush (v := (-2)) hx hb dX12_meet_9 (by decide) ?_
  exact ro_ret hC hr hk dX12_meet_11 rfl
set_option maxRecDepth 20000 in
theorem c_X12_met (l : Launch) (D : va_G) (K : Nat → ClassId) (y : Nat → Nat) (fm : Nat → Int32) (hfm : ∀ j, j < 4 → fm j = -1) (p0 : Int32) (p1 : Int32) : Ro l D K yX12_met cX12_met 4 (some .int) 3 69 [.ref (y 0), .int p0, .int p1] (mdL K y fm) (fun r => r = (-2)) := by
  refine ro_of (by decide) (Nat.le_of_ble_eq_true rfl) ?_
  intro p e s m below meth c hC hr hk hE hP ls hl
  have hC : CallFix p m c cX12_met 4 s [.ref (y 0), .int p0, .int p1].toArray wl RX12 := hC
  have hx := hC.1
  have hb := hC.2.1
  have hml := hC.2.2.1
  have hown := hC.2.2.2.1
  have hts := hC.2.2.2.2
  have hl : lv_has ls 4 [(0, .ref (y 0)), (1, .int p0), (2, .int p1)] := hl
  refine lv_aload_n hx hb dX12_met_0 rfl (lv_at hl 0 rfl) ?_
  refine lv_iload_n hx hb dX12_met_1 rfl (lv_at hl 1 rfl) ?_
  refine lv_iload_n hx hb dX12_met_2 rfl (lv_at hl 2 rfl) ?_
  refine ro_V (As := [.int p0, .int p1]) (rest := []) hC hE kV_X12_394 (c_X12_areTwo l D K y fm hfm p0 p1) hP 0 11 rfl rfl rfl hl.1 rfl (Nat.le_of_ble_eq_true rfl) (by decide) (by decide) dX12_met_3 (fun r hq => ?_)
  subst hq
  refine lv_if_ne (tgt := 12) hx hb dX12_met_6 (by decide) (fun h => absurd h (by decide)) (fun _ => ?_)
  refine lv_bipush (v := (-2)) hx hb dX12_met_9 (by decide) ?_
  exact ro_ret hC hr hk dX12_met_11 rfl
set_option maxRecDepth 20000 in
theorem c_X12_read (l : Launch) (D : va_G) (K : Nat → ClassId) (y : Nat → Nat) (fm : Nat → Int32) (hfm : ∀ j, j < 4 → fm j = -1) (p0 : Int32) : Ro l D K yX12_read cX12_read 3 (some .int) 3 67 [.ref (y 0), .int p0] (mdL K y fm) (fun r => r = (-2)) := by
  refine ro_of (by decide) (Nat.le_of_ble_eq_true rfl) ?_
  intro p e s m below meth c hC hr hk hE hP ls hl
  have hC : CallFix p m c cX12_read 3 s [.ref (y 0), .int p0].toArray wl RX12 := hC
  have hx := hC.1
  have hb := hC.2.1
  have hml := hC.2.2.1
  have hown := hC.2.2.2.1
  have hts := hC.2.2.2.2
  have hl : lv_has ls 3 [(0, .ref (y 0)), (1, .int p0)] := hl
  refine lv_aload_n hx hb dX12_read_0 rfl (lv_at hl 0 rfl) ?_
  refine lv_iload_n hx hb dX12_read_1 rfl (lv_at hl 1 rfl) ?_
  refine ro_V (As := [.int p0]) (rest := []) hC hE kV_X12_426 (c_X12_asksRead l D K y fm hfm p0) hP 0 11 rfl rfl rfl hl.1 rfl (Nat.le_of_ble_eq_true rfl) (by decide) (by decide) dX12_read_2 (fun r hq => ?_)
  subst hq
  refine lv_istore_n (lv' := [(2, .int (-2)), (0, .ref (y 0)), (1, .int p0)]) hx hb dX12_read_5 rfl hl (by decide) rfl (fun ls hl => ?_)
  refine lv_iload_n hx hb dX12_read_6 rfl (lv_at hl 0 rfl) ?_
  refine lv_if_ge (tgt := 14) hx hb dX12_read_7 (by decide) (fun h => absurd h (by decide)) (fun _ => ?_)
  refine lv_iload_n hx hb dX12_read_10 rfl (lv_at hl 0 rfl) ?_
  refine lv_goto (tgt := 23) hx hb dX12_read_11 (by decide) ?_
  exact ro_ret hC hr hk dX12_read_23 rfl
set_option maxRecDepth 20000 in
theorem c_X12_began (l : Launch) (D : va_G) (K : Nat → ClassId) (y : Nat → Nat) (fm : Nat → Int32) (hfm : ∀ j, j < 4 → fm j = -1) (p0 : Int32) : Ro l D K yX12_began cX12_began 5 (some .int) 3 67 [.ref (y 0), .int p0] (mdL K y fm) (fun r => r = (-2)) := by
  refine ro_of (by decide) (Nat.le_of_ble_eq_true rfl) ?_
  intro p e s m below meth c hC hr hk hE hP ls hl
  have hC : CallFix p m c cX12_began 5 s [.ref (y 0), .int p0].toArray wl RX12 := hC
  have hx := hC.1
  have hb := hC.2.1
  have hml := hC.2.2.1
  have hown := hC.2.2.2.1
  have hts := hC.2.2.2.2
  have hl : lv_has ls 5 [(0, .ref (y 0)), (1, .int p0)] := hl
  refine lv_aload_n hx hb dX12_began_0 rfl (lv_at hl 0 rfl) ?_
  refine lv_iload_n hx hb dX12_began_1 rfl (lv_at hl 1 rfl) ?_
  refine ro_V (As := [.int p0]) (rest := []) hC hE kV_X12_426 (c_X12_asksRead l D K y fm hfm p0) hP 0 11 rfl rfl rfl hl.1 rfl (Nat.le_of_ble_eq_true rfl) (by decide) (by decide) dX12_began_2 (fun r hq => ?_)
  subst hq
  refine lv_istore_n (lv' := [(2, .int (-2)), (0, .ref (y 0)), (1, .int p0)]) hx hb dX12_began_5 rfl hl (by decide) rfl (fun ls hl => ?_)
  refine lv_iload_n hx hb dX12_began_6 rfl (lv_at hl 0 rfl) ?_
  refine lv_if_ge (tgt := 12) hx hb dX12_began_7 (by decide) (fun h => absurd h (by decide)) (fun _ => ?_)
  refine lv_iload_n hx hb dX12_began_10 rfl (lv_at hl 0 rfl) ?_
  exact ro_ret hC hr hk dX12_began_11 rfl
set_option maxRecDepth 20000 in
theorem c_X12_ask (l : Launch) (D : va_G) (K : Nat → ClassId) (y : Nat → Nat) (fm : Nat → Int32) (hfm : ∀ j, j < 4 → fm j = -1) (p0 : Int32) : Ro l D K yX12_ask cX12_ask 3 (some .int) 3 67 [.ref (y 0), .int p0] (mdL K y fm) (fun r => r = (-2)) := by
  refine ro_of (by decide) (Nat.le_of_ble_eq_true rfl) ?_
  intro p e s m below meth c hC hr hk hE hP ls hl
  have hC : CallFix p m c cX12_ask 3 s [.ref (y 0), .int p0].toArray wl RX12 := hC
  have hx := hC.1
  have hb := hC.2.1
  have hml := hC.2.2.1
  have hown := hC.2.2.2.1
  have hts := hC.2.2.2.2
  have hl : lv_has ls 3 [(0, .ref (y 0)), (1, .int p0)] := hl
  refine lv_aload_n hx hb dX12_ask_0 rfl (lv_at hl 0 rfl) ?_
  refine lv_iload_n hx hb dX12_ask_1 rfl (lv_at hl 1 rfl) ?_
  refine ro_V (As := [.int p0]) (rest := []) hC hE kV_X12_426 (c_X12_asksRead l D K y fm hfm p0) hP 0 11 rfl rfl rfl hl.1 rfl (Nat.le_of_ble_eq_true rfl) (by decide) (by decide) dX12_ask_2 (fun r hq => ?_)
  subst hq
  refine lv_istore_n (lv' := [(2, .int (-2)), (0, .ref (y 0)), (1, .int p0)]) hx hb dX12_ask_5 rfl hl (by decide) rfl (fun ls hl => ?_)
  refine lv_iload_n hx hb dX12_ask_6 rfl (lv_at hl 0 rfl) ?_
  refine lv_if_ge (tgt := 14) hx hb dX12_ask_7 (by decide) (fun h => absurd h (by decide)) (fun _ => ?_)
  refine lv_iload_n hx hb dX12_ask_10 rfl (lv_at hl 0 rfl) ?_
  refine lv_goto (tgt := 27) hx hb dX12_ask_11 (by decide) ?_
  exact ro_ret hC hr hk dX12_ask_27 rfl
set_option maxRecDepth 20000 in
theorem c_X12_leaves (l : Launch) (D : va_G) (K : Nat → ClassId) (y : Nat → Nat) (fm : Nat → Int32) (hfm : ∀ j, j < 4 → fm j = -1) (p0 : Int32) : Ro l D K yX12_leaves cX12_leaves 4 (some .int) 3 67 [.ref (y 0), .int p0] (mdL K y fm) (fun r => r = (-2)) := by
  refine ro_of (by decide) (Nat.le_of_ble_eq_true rfl) ?_
  intro p e s m below meth c hC hr hk hE hP ls hl
  have hC : CallFix p m c cX12_leaves 4 s [.ref (y 0), .int p0].toArray wl RX12 := hC
  have hx := hC.1
  have hb := hC.2.1
  have hml := hC.2.2.1
  have hown := hC.2.2.2.1
  have hts := hC.2.2.2.2
  have hl : lv_has ls 4 [(0, .ref (y 0)), (1, .int p0)] := hl
  refine lv_aload_n hx hb dX12_leaves_0 rfl (lv_at hl 0 rfl) ?_
  refine lv_iload_n hx hb dX12_leaves_1 rfl (lv_at hl 1 rfl) ?_
  refine ro_V (As := [.int p0]) (rest := []) hC hE kV_X12_426 (c_X12_asksRead l D K y fm hfm p0) hP 0 11 rfl rfl rfl hl.1 rfl (Nat.le_of_ble_eq_true rfl) (by decide) (by decide) dX12_leaves_2 (fun r hq => ?_)
  subst hq
  refine lv_istore_n (lv' := [(2, .int (-2)), (0, .ref (y 0)), (1, .int p0)]) hx hb dX12_leaves_5 rfl hl (by decide) rfl (fun ls hl => ?_)
  refine lv_iload_n hx hb dX12_leaves_6 rfl (lv_at hl 0 rfl) ?_
  refine lv_if_ge (tgt := 12) hx hb dX12_leaves_7 (by decide) (fun h => absurd h (by decide)) (fun _ => ?_)
  refine lv_iload_n hx hb dX12_leaves_10 rfl (lv_at hl 0 rfl) ?_
  exact ro_ret hC hr hk dX12_leaves_11 rfl
set_option maxRecDepth 20000 in
theorem c_X12_course (l : Launch) (D : va_G) (K : Nat → ClassId) (y : Nat → Nat) (fm : Nat → Int32) (hfm : ∀ j, j < 4 → fm j = -1) (p0 : Int32) (p1 : Int32) : Ro l D K yX12_course cX12_course 4 (some .int) 3 69 [.ref (y 0), .int p0, .int p1] (mdL K y fm) (fun r => r = (-2)) := by
  refine ro_of (by decide) (Nat.le_of_ble_eq_true rfl) ?_
  intro p e s m below meth c hC hr hk hE hP ls hl
  have hC : CallFix p m c cX12_course 4 s [.ref (y 0), .int p0, .int p1].toArray wl RX12 := hC
  have hx := hC.1
  have hb := hC.2.1
  have hml := hC.2.2.1
  have hown := hC.2.2.2.1
  have hts := hC.2.2.2.2
  have hl : lv_has ls 4 [(0, .ref (y 0)), (1, .int p0), (2, .int p1)] := hl
  refine lv_aload_n hx hb dX12_course_0 rfl (lv_at hl 0 rfl) ?_
  refine lv_iload_n hx hb dX12_course_1 rfl (lv_at hl 1 rfl) ?_
  refine lv_iload_n hx hb dX12_course_2 rfl (lv_at hl 2 rfl) ?_
  refine ro_V (As := [.int p0, .int p1]) (rest := []) hC hE kV_X12_353 (c_X12_asksWalk l D K y fm hfm p0 p1) hP 0 11 rfl rfl rfl hl.1 rfl (Nat.le_of_ble_eq_true rfl) (by decide) (by decide) dX12_course_3 (fun r hq => ?_)
  subst hq
  refine lv_istore_n (lv' := [(3, .int (-2)), (0, .ref (y 0)), (1, .int p0), (2, .int p1)]) hx hb dX12_course_6 rfl hl (by decide) rfl (fun ls hl => ?_)
  refine lv_iload_n hx hb dX12_course_7 rfl (lv_at hl 0 rfl) ?_
  refine lv_if_ge (tgt := 13) hx hb dX12_course_8 (by decide) (fun h => absurd h (by decide)) (fun _ => ?_)
  refine lv_iload_n hx hb dX12_course_11 rfl (lv_at hl 0 rfl) ?_
  exact ro_ret hC hr hk dX12_course_12 rfl
set_option maxRecDepth 20000 in
theorem c_X12_lesson (l : Launch) (D : va_G) (K : Nat → ClassId) (y : Nat → Nat) (fm : Nat → Int32) (hfm : ∀ j, j < 4 → fm j = -1) (p0 : Int32) (p1 : Int32) (p2 : Int32) : Ro l D K yX12_lesson cX12_lesson 5 (some .int) 3 69 [.ref (y 0), .int p0, .int p1, .int p2] (mdL K y fm) (fun r => r = (-2)) := by
  refine ro_of (by decide) (Nat.le_of_ble_eq_true rfl) ?_
  intro p e s m below meth c hC hr hk hE hP ls hl
  have hC : CallFix p m c cX12_lesson 5 s [.ref (y 0), .int p0, .int p1, .int p2].toArray wl RX12 := hC
  have hx := hC.1
  have hb := hC.2.1
  have hml := hC.2.2.1
  have hown := hC.2.2.2.1
  have hts := hC.2.2.2.2
  have hl : lv_has ls 5 [(0, .ref (y 0)), (1, .int p0), (2, .int p1), (3, .int p2)] := hl
  refine lv_aload_n hx hb dX12_lesson_0 rfl (lv_at hl 0 rfl) ?_
  refine lv_iload_n hx hb dX12_lesson_1 rfl (lv_at hl 1 rfl) ?_
  refine lv_iload_n hx hb dX12_lesson_2 rfl (lv_at hl 2 rfl) ?_
  refine ro_V (As := [.int p0, .int p1]) (rest := []) hC hE kV_X12_353 (c_X12_asksWalk l D K y fm hfm p0 p1) hP 0 11 rfl rfl rfl hl.1 rfl (Nat.le_of_ble_eq_true rfl) (by decide) (by decide) dX12_lesson_3 (fun r hq => ?_)
  subst hq
  refine lv_istore (lv' := [(4, .int (-2)), (0, .ref (y 0)), (1, .int p0), (2, .int p1), (3, .int p2)]) hx hb dX12_lesson_6 hl (by decide) rfl (fun ls hl => ?_)
  refine lv_iload hx hb dX12_lesson_8 (lv_at hl 0 rfl) ?_
  refine lv_if_ge (tgt := 16) hx hb dX12_lesson_10 (by decide) (fun h => absurd h (by decide)) (fun _ => ?_)
  refine lv_iload hx hb dX12_lesson_13 (lv_at hl 0 rfl) ?_
  exact ro_ret hC hr hk dX12_lesson_15 rfl
set_option maxRecDepth 20000 in
theorem c_X12_spoilt (l : Launch) (D : va_G) (K : Nat → ClassId) (y : Nat → Nat) (fm : Nat → Int32) (hfm : ∀ j, j < 4 → fm j = -1) (p0 : Int32) (p1 : Int32) : Ro l D K yX12_spoilt cX12_spoilt 4 (some .int) 3 69 [.ref (y 0), .int p0, .int p1] (mdL K y fm) (fun r => r = (-2)) := by
  refine ro_of (by decide) (Nat.le_of_ble_eq_true rfl) ?_
  intro p e s m below meth c hC hr hk hE hP ls hl
  have hC : CallFix p m c cX12_spoilt 4 s [.ref (y 0), .int p0, .int p1].toArray wl RX12 := hC
  have hx := hC.1
  have hb := hC.2.1
  have hml := hC.2.2.1
  have hown := hC.2.2.2.1
  have hts := hC.2.2.2.2
  have hl : lv_has ls 4 [(0, .ref (y 0)), (1, .int p0), (2, .int p1)] := hl
  refine lv_aload_n hx hb dX12_spoilt_0 rfl (lv_at hl 0 rfl) ?_
  refine lv_iload_n hx hb dX12_spoilt_1 rfl (lv_at hl 1 rfl) ?_
  refine lv_iload_n hx hb dX12_spoilt_2 rfl (lv_at hl 2 rfl) ?_
  refine ro_V (As := [.int p0, .int p1]) (rest := []) hC hE kV_X12_353 (c_X12_asksWalk l D K y fm hfm p0 p1) hP 0 11 rfl rfl rfl hl.1 rfl (Nat.le_of_ble_eq_true rfl) (by decide) (by decide) dX12_spoilt_3 (fun r hq => ?_)
  subst hq
  refine lv_istore_n (lv' := [(3, .int (-2)), (0, .ref (y 0)), (1, .int p0), (2, .int p1)]) hx hb dX12_spoilt_6 rfl hl (by decide) rfl (fun ls hl => ?_)
  refine lv_iload_n hx hb dX12_spoilt_7 rfl (lv_at hl 0 rfl) ?_
  refine lv_if_ge (tgt := 13) hx hb dX12_spoilt_8 (by decide) (fun h => absurd h (by decide)) (fun _ => ?_)
  refine lv_iload_n hx hb dX12_spoilt_11 rfl (lv_at hl 0 rfl) ?_
  exact ro_ret hC hr hk dX12_spoilt_12 rfl
set_option maxRecDepth 20000 in
theorem c_X12_route (l : Launch) (D : va_G) (K : Nat → ClassId) (y : Nat → Nat) (fm : Nat → Int32) (hfm : ∀ j, j < 4 → fm j = -1) (p0 : Int32) (p1 : Int32) : Ro l D K yX12_route cX12_route 3 (some .int) 3 69 [.ref (y 0), .int p0, .int p1] (mdL K y fm) (fun r => r = (-2)) := by
  refine ro_of (by decide) (Nat.le_of_ble_eq_true rfl) ?_
  intro p e s m below meth c hC hr hk hE hP ls hl
  have hC : CallFix p m c cX12_route 3 s [.ref (y 0), .int p0, .int p1].toArray wl RX12 := hC
  have hx := hC.1
  have hb := hC.2.1
  have hml := hC.2.2.1
  have hown := hC.2.2.2.1
  have hts := hC.2.2.2.2
  have hl : lv_has ls 3 [(0, .ref (y 0)), (1, .int p0), (2, .int p1)] := hl
  refine lv_aload_n hx hb dX12_route_0 rfl (lv_at hl 0 rfl) ?_
  refine lv_iload_n hx hb dX12_route_1 rfl (lv_at hl 1 rfl) ?_
  refine lv_iload_n hx hb dX12_route_2 rfl (lv_at hl 2 rfl) ?_
  refine ro_V (As := [.int p0, .int p1]) (rest := []) hC hE kV_X12_394 (c_X12_areTwo l D K y fm hfm p0 p1) hP 0 11 rfl rfl rfl hl.1 rfl (Nat.le_of_ble_eq_true rfl) (by decide) (by decide) dX12_route_3 (fun r hq => ?_)
  subst hq
  refine lv_if_ne (tgt := 12) hx hb dX12_route_6 (by decide) (fun h => absurd h (by decide)) (fun _ => ?_)
  refine lv_bipush (v := (-2)) hx hb dX12_route_9 (by decide) ?_
  exact ro_ret hC hr hk dX12_route_11 rfl
set_option maxRecDepth 20000 in
theorem c_X12_dark (l : Launch) (D : va_G) (K : Nat → ClassId) (y : Nat → Nat) (fm : Nat → Int32) (hfm : ∀ j, j < 4 → fm j = -1) (p0 : Int32) (p1 : Int32) : Ro l D K yX12_dark cX12_dark 3 (some .int) 3 69 [.ref (y 0), .int p0, .int p1] (mdL K y fm) (fun r => r = (-2)) := by
  refine ro_of (by decide) (Nat.le_of_ble_eq_true rfl) ?_
  intro p e s m below meth c hC hr hk hE hP ls hl
  have hC : CallFix p m c cX12_dark 3 s [.ref (y 0), .int p0, .int p1].toArray wl RX12 := hC
  have hx := hC.1
  have hb := hC.2.1
  have hml := hC.2.2.1
  have hown := hC.2.2.2.1
  have hts := hC.2.2.2.2
  have hl : lv_has ls 3 [(0, .ref (y 0)), (1, .int p0), (2, .int p1)] := hl
  refine lv_aload_n hx hb dX12_dark_0 rfl (lv_at hl 0 rfl) ?_
  refine lv_iload_n hx hb dX12_dark_1 rfl (lv_at hl 1 rfl) ?_
  refine lv_iload_n hx hb dX12_dark_2 rfl (lv_at hl 2 rfl) ?_
  refine ro_V (As := [.int p0, .int p1]) (rest := []) hC hE kV_X12_394 (c_X12_areTwo l D K y fm hfm p0 p1) hP 0 11 rfl rfl rfl hl.1 rfl (Nat.le_of_ble_eq_true rfl) (by decide) (by decide) dX12_dark_3 (fun r hq => ?_)
  subst hq
  refine lv_if_ne (tgt := 12) hx hb dX12_dark_6 (by decide) (fun h => absurd h (by decide)) (fun _ => ?_)
  refine lv_bipush (v := (-2)) hx hb dX12_dark_9 (by decide) ?_
  exact ro_ret hC hr hk dX12_dark_11 rfl
set_option maxRecDepth 20000 in
theorem c_X12_detour (l : Launch) (D : va_G) (K : Nat → ClassId) (y : Nat → Nat) (fm : Nat → Int32) (hfm : ∀ j, j < 4 → fm j = -1) (p0 : Int32) (p1 : Int32) : Ro l D K yX12_detour cX12_detour 3 (some .int) 3 69 [.ref (y 0), .int p0, .int p1] (mdL K y fm) (fun r => r = (-2)) := by
  refine ro_of (by decide) (Nat.le_of_ble_eq_true rfl) ?_
  intro p e s m below meth c hC hr hk hE hP ls hl
  have hC : CallFix p m c cX12_detour 3 s [.ref (y 0), .int p0, .int p1].toArray wl RX12 := hC
  have hx := hC.1
  have hb := hC.2.1
  have hml := hC.2.2.1
  have hown := hC.2.2.2.1
  have hts := hC.2.2.2.2
  have hl : lv_has ls 3 [(0, .ref (y 0)), (1, .int p0), (2, .int p1)] := hl
  refine lv_aload_n hx hb dX12_detour_0 rfl (lv_at hl 0 rfl) ?_
  refine lv_iload_n hx hb dX12_detour_1 rfl (lv_at hl 1 rfl) ?_
  refine lv_iload_n hx hb dX12_detour_2 rfl (lv_at hl 2 rfl) ?_
  refine ro_V (As := [.int p0, .int p1]) (rest := []) hC hE kV_X12_394 (c_X12_areTwo l D K y fm hfm p0 p1) hP 0 11 rfl rfl rfl hl.1 rfl (Nat.le_of_ble_eq_true rfl) (by decide) (by decide) dX12_detour_3 (fun r hq => ?_)
  subst hq
  refine lv_if_ne (tgt := 12) hx hb dX12_detour_6 (by decide) (fun h => absurd h (by decide)) (fun _ => ?_)
  refine lv_bipush (v := (-2)) hx hb dX12_detour_9 (by decide) ?_
  exact ro_ret hC hr hk dX12_detour_11 rfl
set_option maxRecDepth 20000 in
theorem c_X12_fog (l : Launch) (D : va_G) (K : Nat → ClassId) (y : Nat → Nat) (fm : Nat → Int32) (hfm : ∀ j, j < 4 → fm j = -1) (p0 : Int32) (p1 : Int32) (p2 : Int32) (p3 : Int32) : Ro l D K yX12_fog cX12_fog 6 (some .int) 3 69 [.ref (y 0), .int p0, .int p1, .int p2, .int p3] (mdL K y fm) (fun r => r = (-2)) := by
  refine ro_of (by decide) (Nat.le_of_ble_eq_true rfl) ?_
  intro p e s m below meth c hC hr hk hE hP ls hl
  have hC : CallFix p m c cX12_fog 6 s [.ref (y 0), .int p0, .int p1, .int p2, .int p3].toArray wl RX12 := hC
  have hx := hC.1
  have hb := hC.2.1
  have hml := hC.2.2.1
  have hown := hC.2.2.2.1
  have hts := hC.2.2.2.2
  have hl : lv_has ls 6 [(0, .ref (y 0)), (1, .int p0), (2, .int p1), (3, .int p2), (4, .int p3)] := hl
  refine lv_aload_n hx hb dX12_fog_0 rfl (lv_at hl 0 rfl) ?_
  refine lv_iload_n hx hb dX12_fog_1 rfl (lv_at hl 1 rfl) ?_
  refine lv_iload_n hx hb dX12_fog_2 rfl (lv_at hl 2 rfl) ?_
  refine ro_V (As := [.int p0, .int p1]) (rest := []) hC hE kV_X12_394 (c_X12_areTwo l D K y fm hfm p0 p1) hP 0 11 rfl rfl rfl hl.1 rfl (Nat.le_of_ble_eq_true rfl) (by decide) (by decide) dX12_fog_3 (fun r hq => ?_)
  subst hq
  refine lv_if_eq (tgt := 32) hx hb dX12_fog_6 (by decide) (fun _ => ?_) (fun h => absurd h (by decide))
  refine lv_bipush (v := (-2)) hx hb dX12_fog_32 (by decide) ?_
  exact ro_ret hC hr hk dX12_fog_34 rfl
set_option maxRecDepth 20000 in
theorem c_X12_likely (l : Launch) (D : va_G) (K : Nat → ClassId) (y : Nat → Nat) (fm : Nat → Int32) (hfm : ∀ j, j < 4 → fm j = -1) (p0 : Int32) (p1 : Int32) : Ro l D K yX12_likely cX12_likely 5 (some .int) 2 47 [.ref (y 0), .int p0, .int p1] (mdL K y fm) (fun r => r = (-2)) := by
  refine ro_of (by decide) (Nat.le_of_ble_eq_true rfl) ?_
  intro p e s m below meth c hC hr hk hE hP ls hl
  have hC : CallFix p m c cX12_likely 5 s [.ref (y 0), .int p0, .int p1].toArray wl RX12 := hC
  have hx := hC.1
  have hb := hC.2.1
  have hml := hC.2.2.1
  have hown := hC.2.2.2.1
  have hts := hC.2.2.2.2
  have hl : lv_has ls 5 [(0, .ref (y 0)), (1, .int p0), (2, .int p1)] := hl
  refine lv_aload_n hx hb dX12_likely_0 rfl (lv_at hl 0 rfl) ?_
  refine lv_iload_n hx hb dX12_likely_1 rfl (lv_at hl 1 rfl) ?_
  refine lv_i2l (v := p0.toInt64) hx hb dX12_likely_2 rfl ?_
  refine ro_V (As := [.long p0.toInt64]) (rest := []) hC hE kV_X12_119 (c_X12_isPlace l D K y fm hfm p0.toInt64) hP 0 11 rfl rfl rfl hl.1 rfl (Nat.le_of_ble_eq_true rfl) (by decide) (by decide) dX12_likely_3 (fun r hq => ?_)
  subst hq
  refine lv_if_eq (tgt := 21) hx hb dX12_likely_6 (by decide) (fun _ => ?_) (fun h => absurd h (by decide))
  refine lv_bipush (v := (-2)) hx hb dX12_likely_21 (by decide) ?_
  exact ro_ret hC hr hk dX12_likely_23 rfl
set_option maxRecDepth 20000 in
theorem c_X12_can (l : Launch) (D : va_G) (K : Nat → ClassId) (y : Nat → Nat) (fm : Nat → Int32) (hfm : ∀ j, j < 4 → fm j = -1) (p0 : Int32) (p1 : Int32) : Ro l D K yX12_can cX12_can 5 (some .int) 2 47 [.ref (y 0), .int p0, .int p1] (mdL K y fm) (fun r => r = (-2)) := by
  refine ro_of (by decide) (Nat.le_of_ble_eq_true rfl) ?_
  intro p e s m below meth c hC hr hk hE hP ls hl
  have hC : CallFix p m c cX12_can 5 s [.ref (y 0), .int p0, .int p1].toArray wl RX12 := hC
  have hx := hC.1
  have hb := hC.2.1
  have hml := hC.2.2.1
  have hown := hC.2.2.2.1
  have hts := hC.2.2.2.2
  have hl : lv_has ls 5 [(0, .ref (y 0)), (1, .int p0), (2, .int p1)] := hl
  refine lv_aload_n hx hb dX12_can_0 rfl (lv_at hl 0 rfl) ?_
  refine lv_iload_n hx hb dX12_can_1 rfl (lv_at hl 1 rfl) ?_
  refine lv_i2l (v := p0.toInt64) hx hb dX12_can_2 rfl ?_
  refine ro_V (As := [.long p0.toInt64]) (rest := []) hC hE kV_X12_119 (c_X12_isPlace l D K y fm hfm p0.toInt64) hP 0 11 rfl rfl rfl hl.1 rfl (Nat.le_of_ble_eq_true rfl) (by decide) (by decide) dX12_can_3 (fun r hq => ?_)
  subst hq
  refine lv_if_eq (tgt := 21) hx hb dX12_can_6 (by decide) (fun _ => ?_) (fun h => absurd h (by decide))
  refine lv_bipush (v := (-2)) hx hb dX12_can_21 (by decide) ?_
  exact ro_ret hC hr hk dX12_can_23 rfl
set_option maxRecDepth 20000 in
theorem c_X12_lead (l : Launch) (D : va_G) (K : Nat → ClassId) (y : Nat → Nat) (fm : Nat → Int32) (hfm : ∀ j, j < 4 → fm j = -1) (p0 : Int32) (p1 : Int32) (p2 : Int32) : Ro l D K yX12_lead cX12_lead 5 (some .int) 3 69 [.ref (y 0), .int p0, .int p1, .int p2] (mdL K y fm) (fun r => r = (-2)) := by
  refine ro_of (by decide) (Nat.le_of_ble_eq_true rfl) ?_
  intro p e s m below meth c hC hr hk hE hP ls hl
  have hC : CallFix p m c cX12_lead 5 s [.ref (y 0), .int p0, .int p1, .int p2].toArray wl RX12 := hC
  have hx := hC.1
  have hb := hC.2.1
  have hml := hC.2.2.1
  have hown := hC.2.2.2.1
  have hts := hC.2.2.2.2
  have hl : lv_has ls 5 [(0, .ref (y 0)), (1, .int p0), (2, .int p1), (3, .int p2)] := hl
  refine lv_aload_n hx hb dX12_lead_0 rfl (lv_at hl 0 rfl) ?_
  refine lv_iload_n hx hb dX12_lead_1 rfl (lv_at hl 1 rfl) ?_
  refine lv_iload_n hx hb dX12_lead_2 rfl (lv_at hl 3 rfl) ?_
  refine ro_V (As := [.int p0, .int p2]) (rest := []) hC hE kV_X12_394 (c_X12_areTwo l D K y fm hfm p0 p2) hP 0 11 rfl rfl rfl hl.1 rfl (Nat.le_of_ble_eq_true rfl) (by decide) (by decide) dX12_lead_3 (fun r hq => ?_)
  subst hq
  refine lv_if_eq (tgt := 17) hx hb dX12_lead_6 (by decide) (fun _ => ?_) (fun h => absurd h (by decide))
  refine lv_bipush (v := (-2)) hx hb dX12_lead_17 (by decide) ?_
  exact ro_ret hC hr hk dX12_lead_19 rfl
set_option maxRecDepth 20000 in
theorem c_X12_marks (l : Launch) (D : va_G) (K : Nat → ClassId) (y : Nat → Nat) (fm : Nat → Int32) (hfm : ∀ j, j < 4 → fm j = -1) (p0 : Int32) (p1 : Int32) : Ro l D K yX12_marks cX12_marks 4 (some .int) 2 47 [.ref (y 0), .int p0, .int p1] (mdL K y fm) (fun r => r = (-2)) := by
  refine ro_of (by decide) (Nat.le_of_ble_eq_true rfl) ?_
  intro p e s m below meth c hC hr hk hE hP ls hl
  have hC : CallFix p m c cX12_marks 4 s [.ref (y 0), .int p0, .int p1].toArray wl RX12 := hC
  have hx := hC.1
  have hb := hC.2.1
  have hml := hC.2.2.1
  have hown := hC.2.2.2.1
  have hts := hC.2.2.2.2
  have hl : lv_has ls 4 [(0, .ref (y 0)), (1, .int p0), (2, .int p1)] := hl
  refine lv_aload_n hx hb dX12_marks_0 rfl (lv_at hl 0 rfl) ?_
  refine lv_iload_n hx hb dX12_marks_1 rfl (lv_at hl 1 rfl) ?_
  refine lv_i2l (v := p0.toInt64) hx hb dX12_marks_2 rfl ?_
  refine ro_V (As := [.long p0.toInt64]) (rest := []) hC hE kV_X12_119 (c_X12_isPlace l D K y fm hfm p0.toInt64) hP 0 11 rfl rfl rfl hl.1 rfl (Nat.le_of_ble_eq_true rfl) (by decide) (by decide) dX12_marks_3 (fun r hq => ?_)
  subst hq
  refine lv_if_eq (tgt := 21) hx hb dX12_marks_6 (by decide) (fun _ => ?_) (fun h => absurd h (by decide))
  refine lv_bipush (v := (-2)) hx hb dX12_marks_21 (by decide) ?_
  exact ro_ret hC hr hk dX12_marks_23 rfl
set_option maxRecDepth 20000 in
theorem c_X12_drawn (l : Launch) (D : va_G) (K : Nat → ClassId) (y : Nat → Nat) (fm : Nat → Int32) (hfm : ∀ j, j < 4 → fm j = -1) (p0 : Int32) (p1 : Int32) (p2 : Int32) (p3 : Int32) : Ro l D K yX12_drawn cX12_drawn 5 (some .int) 3 69 [.ref (y 0), .int p0, .int p1, .int p2, .int p3] (mdL K y fm) (fun r => r = (-2)) := by
  refine ro_of (by decide) (Nat.le_of_ble_eq_true rfl) ?_
  intro p e s m below meth c hC hr hk hE hP ls hl
  have hC : CallFix p m c cX12_drawn 5 s [.ref (y 0), .int p0, .int p1, .int p2, .int p3].toArray wl RX12 := hC
  have hx := hC.1
  have hb := hC.2.1
  have hml := hC.2.2.1
  have hown := hC.2.2.2.1
  have hts := hC.2.2.2.2
  have hl : lv_has ls 5 [(0, .ref (y 0)), (1, .int p0), (2, .int p1), (3, .int p2), (4, .int p3)] := hl
  refine lv_aload_n hx hb dX12_drawn_0 rfl (lv_at hl 0 rfl) ?_
  refine lv_iload_n hx hb dX12_drawn_1 rfl (lv_at hl 1 rfl) ?_
  refine lv_iload_n hx hb dX12_drawn_2 rfl (lv_at hl 2 rfl) ?_
  refine lv_iload_n hx hb dX12_drawn_3 rfl (lv_at hl 3 rfl) ?_
  refine ro_V (As := [.int p0, .int p1, .int p2]) (rest := []) hC hE kV_X12_485 (c_X12_isDrawn l D K y fm hfm p0 p1 p2) hP 0 11 rfl rfl rfl hl.1 rfl (Nat.le_of_ble_eq_true rfl) (by decide) (by decide) dX12_drawn_4 (fun r hq => ?_)
  subst hq
  refine lv_if_eq (tgt := 23) hx hb dX12_drawn_7 (by decide) (fun _ => ?_) (fun h => absurd h (by decide))
  refine lv_bipush (v := (-2)) hx hb dX12_drawn_23 (by decide) ?_
  exact ro_ret hC hr hk dX12_drawn_25 rfl
set_option maxRecDepth 20000 in
theorem c_X12_luck (l : Launch) (D : va_G) (K : Nat → ClassId) (y : Nat → Nat) (fm : Nat → Int32) (hfm : ∀ j, j < 4 → fm j = -1) (p0 : Int32) (p1 : Int32) (p2 : Int32) (p3 : Int32) : Ro l D K yX12_luck cX12_luck 7 (some .int) 3 69 [.ref (y 0), .int p0, .int p1, .int p2, .int p3] (mdL K y fm) (fun r => r = (-2)) := by
  refine ro_of (by decide) (Nat.le_of_ble_eq_true rfl) ?_
  intro p e s m below meth c hC hr hk hE hP ls hl
  have hC : CallFix p m c cX12_luck 7 s [.ref (y 0), .int p0, .int p1, .int p2, .int p3].toArray wl RX12 := hC
  have hx := hC.1
  have hb := hC.2.1
  have hml := hC.2.2.1
  have hown := hC.2.2.2.1
  have hts := hC.2.2.2.2
  have hl : lv_has ls 7 [(0, .ref (y 0)), (1, .int p0), (2, .int p1), (3, .int p2), (4, .int p3)] := hl
  refine lv_aload_n hx hb dX12_luck_0 rfl (lv_at hl 0 rfl) ?_
  refine lv_iload_n hx hb dX12_luck_1 rfl (lv_at hl 1 rfl) ?_
  refine lv_iload_n hx hb dX12_luck_2 rfl (lv_at hl 3 rfl) ?_
  refine lv_iload hx hb dX12_luck_3 (lv_at hl 4 rfl) ?_
  refine ro_V (As := [.int p0, .int p2, .int p3]) (rest := []) hC hE kV_X12_485 (c_X12_isDrawn l D K y fm hfm p0 p2 p3) hP 0 11 rfl rfl rfl hl.1 rfl (Nat.le_of_ble_eq_true rfl) (by decide) (by decide) dX12_luck_5 (fun r hq => ?_)
  subst hq
  refine lv_if_eq (tgt := 23) hx hb dX12_luck_8 (by decide) (fun _ => ?_) (fun h => absurd h (by decide))
  refine lv_bipush (v := (-2)) hx hb dX12_luck_23 (by decide) ?_
  exact ro_ret hC hr hk dX12_luck_25 rfl
set_option maxRecDepth 20000 in
theorem c_X12_fault (l : Launch) (D : va_G) (K : Nat → ClassId) (y : Nat → Nat) (fm : Nat → Int32) (hfm : ∀ j, j < 4 → fm j = -1) (p0 : Int32) : Ro l D K yX12_fault cX12_fault 2 (some .int) 0 0 [.ref (y 0), .int p0] (mdL K y fm) (fun r => (p0 = 0 ∧ r = 0) ∨ (¬ p0 = 0 ∧ r = (-1))) := by
  refine ro_of (by decide) (Nat.le_of_ble_eq_true rfl) ?_
  intro p e s m below meth c hC hr hk hE hP ls hl
  have hC : CallFix p m c cX12_fault 2 s [.ref (y 0), .int p0].toArray wl RX12 := hC
  have hx := hC.1
  have hb := hC.2.1
  have hml := hC.2.2.1
  have hown := hC.2.2.2.1
  have hts := hC.2.2.2.2
  have hl : lv_has ls 2 [(0, .ref (y 0)), (1, .int p0)] := hl
  refine lv_iload_n hx hb dX12_fault_0 rfl (lv_at hl 1 rfl) ?_
  refine lv_if_ne (tgt := 11) hx hb dX12_fault_1 (by decide) (fun c60 => ?_) (fun c60 => ?_)
  · refine lv_iload_n hx hb dX12_fault_11 rfl (lv_at hl 1 rfl) ?_
    refine lv_iconst (v := 1) hx hb dX12_fault_12 (by decide) ?_
    refine lv_icmp_ne (tgt := 23) hx hb dX12_fault_13 (by decide) (fun c61 => ?_) (fun c61 => ?_)
    · refine lv_iconst (v := (-1)) hx hb dX12_fault_23 (by decide) ?_
      exact ro_ret hC hr hk dX12_fault_24 (Or.inr (⟨c60, rfl⟩))
    · refine lv_aload_n hx hb dX12_fault_16 rfl (lv_at hl 0 rfl) ?_
      refine va_get (D := D) (ci := 11) (v := .int (-1)) (C := RX12) (T := TX12) (N := 53) hx hb hts in_X12 hown hE.1 hP 0 rfl rfl 13 (by decide) (hts _ w_236) (fun _ h9 => h9) rfl dX12_fault_17 ?_
      refine lv_goto (tgt := 24) hx hb dX12_fault_20 (by decide) ?_
      exact ro_ret hC hr hk dX12_fault_24 (Or.inr (⟨c60, rfl⟩))
  · refine lv_aload_n hx hb dX12_fault_4 rfl (lv_at hl 0 rfl) ?_
    refine va_get (D := D) (ci := 11) (v := .int 0) (C := RX12) (T := TX12) (N := 53) hx hb hts in_X12 hown hE.1 hP 0 rfl rfl 12 (by decide) (hts _ w_237) (fun _ h9 => h9) rfl dX12_fault_5 ?_
    refine lv_goto (tgt := 24) hx hb dX12_fault_8 (by decide) ?_
    exact ro_ret hC hr hk dX12_fault_24 (Or.inl ⟨c60, rfl⟩)
set_option maxRecDepth 20000 in
theorem c_X12_count (l : Launch) (D : va_G) (K : Nat → ClassId) (y : Nat → Nat) (fm : Nat → Int32) (hfm : ∀ j, j < 4 → fm j = -1) (p0 : Int32) : Ro l D K yX12_count cX12_count 5 (some .int) 0 0 [.ref (y 0), .int p0] (mdL K y fm) (fun r => (vp_in p0 9 ∧ r = 0) ∨ (¬ vp_in p0 9 ∧ r = (-1))) := by
  refine ro_of (by decide) (Nat.le_of_ble_eq_true rfl) ?_
  intro p e s m below meth c hC hr hk hE hP ls hl
  have hC : CallFix p m c cX12_count 5 s [.ref (y 0), .int p0].toArray wl RX12 := hC
  have hx := hC.1
  have hb := hC.2.1
  have hml := hC.2.2.1
  have hown := hC.2.2.2.1
  have hts := hC.2.2.2.2
  have hl : lv_has ls 5 [(0, .ref (y 0)), (1, .int p0)] := hl
  refine lv_iconst (v := 0) hx hb dX12_count_0 (by decide) ?_
  refine lv_istore_n (lv' := [(2, .int 0), (0, .ref (y 0)), (1, .int p0)]) hx hb dX12_count_1 rfl hl (by decide) rfl (fun ls hl => ?_)
  refine lv_iload_n hx hb dX12_count_2 rfl (lv_at hl 2 rfl) ?_
  by_cases h9 : vp_in p0 9
  · obtain ⟨j, hj, rfl⟩ := vp_in_of h9 (by decide)
    rcases (show j = 0 ∨ j = 1 ∨ j = 2 ∨ j = 3 ∨ j = 4 ∨ j = 5 ∨ j = 6 ∨ j = 7 ∨ j = 8 by omega) with rfl | rfl | rfl | rfl | rfl | rfl | rfl | rfl | rfl
    · refine lv_tableIn (off := 49) (tgt := 52) hx hb dX12_count_3 (by decide) (by decide) (by decide +kernel) (by decide) ?_
      refine lv_aload_n hx hb dX12_count_52 rfl (lv_at hl 1 rfl) ?_
      refine va_get (D := D) (ci := 11) (v := .ref (y 1)) (C := RX12) (T := TX12) (N := 53) hx hb hts in_X12 hown hE.1 hP 0 rfl rfl 1 (by decide) (hts _ w_194) (fun _ h9 => h9) rfl dX12_count_53 ?_
      refine lv_iconst (v := 0) hx hb dX12_count_56 (by decide) ?_
      refine va_iald hx hb hE.1 hP 1 1 rfl rfl (in_c (by decide)) dX12_count_57 ?_
      refine tc (y := 0) rfl ?_
      exact ro_ret hC hr hk dX12_count_58 (Or.inl ⟨(vp_in_nI (by decide) (by decide)), rfl⟩)
    · refine lv_tableIn (off := 56) (tgt := 59) hx hb dX12_count_3 (by decide) (by decide) (by decide +kernel) (by decide) ?_
      refine lv_iconst (v := 0) hx hb dX12_count_59 (by decide) ?_
      refine lv_istore_n (lv' := [(3, .int 0), (2, .int 0), (0, .ref (y 0)), (1, .int (nI 1))]) hx hb dX12_count_60 rfl hl (by decide) rfl (fun ls hl => ?_)
      refine lv_iload_n hx hb dX12_count_61 rfl (lv_at hl 0 rfl) ?_
      refine lv_aload_n hx hb dX12_count_62 rfl (lv_at hl 2 rfl) ?_
      refine va_get (D := D) (ci := 11) (v := .ref (y 1)) (C := RX12) (T := TX12) (N := 53) hx hb hts in_X12 hown hE.1 hP 0 rfl rfl 1 (by decide) (hts _ w_194) (fun _ h9 => h9) rfl dX12_count_63 ?_
      refine lv_iconst (v := 0) hx hb dX12_count_66 (by decide) ?_
      refine va_iald hx hb hE.1 hP 1 1 rfl rfl (in_c (by decide)) dX12_count_67 ?_
      refine tc (y := 0) rfl ?_
      refine lv_icmp_ge (tgt := 111) hx hb dX12_count_68 (by decide) (fun _ => ?_) (fun h => absurd h (by decide))
      refine lv_iload_n hx hb dX12_count_111 rfl (lv_at hl 1 rfl) ?_
      exact ro_ret hC hr hk dX12_count_112 (Or.inl ⟨(vp_in_nI (by decide) (by decide)), rfl⟩)
    · refine lv_tableIn (off := 110) (tgt := 113) hx hb dX12_count_3 (by decide) (by decide) (by decide +kernel) (by decide) ?_
      refine lv_iconst (v := 0) hx hb dX12_count_113 (by decide) ?_
      refine lv_istore_n (lv' := [(3, .int 0), (2, .int 0), (0, .ref (y 0)), (1, .int (nI 2))]) hx hb dX12_count_114 rfl hl (by decide) rfl (fun ls hl => ?_)
      refine lv_iload_n hx hb dX12_count_115 rfl (lv_at hl 0 rfl) ?_
      refine lv_aload_n hx hb dX12_count_116 rfl (lv_at hl 2 rfl) ?_
      refine va_get (D := D) (ci := 11) (v := .ref (y 1)) (C := RX12) (T := TX12) (N := 53) hx hb hts in_X12 hown hE.1 hP 0 rfl rfl 1 (by decide) (hts _ w_194) (fun _ h9 => h9) rfl dX12_count_117 ?_
      refine lv_iconst (v := 0) hx hb dX12_count_120 (by decide) ?_
      refine va_iald hx hb hE.1 hP 1 1 rfl rfl (in_c (by decide)) dX12_count_121 ?_
      refine tc (y := 0) rfl ?_
      refine lv_icmp_ge (tgt := 147) hx hb dX12_count_122 (by decide) (fun _ => ?_) (fun h => absurd h (by decide))
      refine lv_iload_n hx hb dX12_count_147 rfl (lv_at hl 1 rfl) ?_
      exact ro_ret hC hr hk dX12_count_148 (Or.inl ⟨(vp_in_nI (by decide) (by decide)), rfl⟩)
    · refine lv_tableIn (off := 146) (tgt := 149) hx hb dX12_count_3 (by decide) (by decide) (by decide +kernel) (by decide) ?_
      refine lv_aload_n hx hb dX12_count_149 rfl (lv_at hl 1 rfl) ?_
      refine va_get (D := D) (ci := 11) (v := .ref (y 1)) (C := RX12) (T := TX12) (N := 53) hx hb hts in_X12 hown hE.1 hP 0 rfl rfl 1 (by decide) (hts _ w_194) (fun _ h9 => h9) rfl dX12_count_150 ?_
      refine lv_iconst (v := 1) hx hb dX12_count_153 (by decide) ?_
      refine va_iald hx hb hE.1 hP 1 1 rfl rfl (in_c (by decide)) dX12_count_154 ?_
      refine tc (y := 0) rfl ?_
      exact ro_ret hC hr hk dX12_count_155 (Or.inl ⟨(vp_in_nI (by decide) (by decide)), rfl⟩)
    · refine lv_tableIn (off := 153) (tgt := 156) hx hb dX12_count_3 (by decide) (by decide) (by decide +kernel) (by decide) ?_
      refine lv_aload_n hx hb dX12_count_156 rfl (lv_at hl 1 rfl) ?_
      refine va_get (D := D) (ci := 11) (v := .ref (y 1)) (C := RX12) (T := TX12) (N := 53) hx hb hts in_X12 hown hE.1 hP 0 rfl rfl 1 (by decide) (hts _ w_194) (fun _ h9 => h9) rfl dX12_count_157 ?_
      refine lv_iconst (v := 2) hx hb dX12_count_160 (by decide) ?_
      refine va_iald hx hb hE.1 hP 1 1 rfl rfl (in_c (by decide)) dX12_count_161 ?_
      refine tc (y := 0) rfl ?_
      exact ro_ret hC hr hk dX12_count_162 (Or.inl ⟨(vp_in_nI (by decide) (by decide)), rfl⟩)
    · refine lv_tableIn (off := 160) (tgt := 163) hx hb dX12_count_3 (by decide) (by decide) (by decide +kernel) (by decide) ?_
      refine lv_aload_n hx hb dX12_count_163 rfl (lv_at hl 1 rfl) ?_
      refine va_get (D := D) (ci := 11) (v := .ref (y 1)) (C := RX12) (T := TX12) (N := 53) hx hb hts in_X12 hown hE.1 hP 0 rfl rfl 1 (by decide) (hts _ w_194) (fun _ h9 => h9) rfl dX12_count_164 ?_
      refine lv_iconst (v := 3) hx hb dX12_count_167 (by decide) ?_
      refine va_iald hx hb hE.1 hP 1 1 rfl rfl (in_c (by decide)) dX12_count_168 ?_
      refine tc (y := 0) rfl ?_
      exact ro_ret hC hr hk dX12_count_169 (Or.inl ⟨(vp_in_nI (by decide) (by decide)), rfl⟩)
    · refine lv_tableIn (off := 167) (tgt := 170) hx hb dX12_count_3 (by decide) (by decide) (by decide +kernel) (by decide) ?_
      refine lv_aload_n hx hb dX12_count_170 rfl (lv_at hl 1 rfl) ?_
      refine va_get (D := D) (ci := 11) (v := .int 0) (C := RX12) (T := TX12) (N := 53) hx hb hts in_X12 hown hE.1 hP 0 rfl rfl 5 (by decide) (hts _ w_238) (fun _ h9 => h9) rfl dX12_count_171 ?_
      exact ro_ret hC hr hk dX12_count_174 (Or.inl ⟨(vp_in_nI (by decide) (by decide)), rfl⟩)
    · refine lv_tableIn (off := 172) (tgt := 175) hx hb dX12_count_3 (by decide) (by decide) (by decide +kernel) (by decide) ?_
      refine lv_aload_n hx hb dX12_count_175 rfl (lv_at hl 1 rfl) ?_
      refine va_get (D := D) (ci := 11) (v := .ref (y 1)) (C := RX12) (T := TX12) (N := 53) hx hb hts in_X12 hown hE.1 hP 0 rfl rfl 1 (by decide) (hts _ w_194) (fun _ h9 => h9) rfl dX12_count_176 ?_
      refine lv_iconst (v := 4) hx hb dX12_count_179 (by decide) ?_
      refine va_iald hx hb hE.1 hP 1 1 rfl rfl (in_c (by decide)) dX12_count_180 ?_
      refine tc (y := 0) rfl ?_
      exact ro_ret hC hr hk dX12_count_181 (Or.inl ⟨(vp_in_nI (by decide) (by decide)), rfl⟩)
    · refine lv_tableIn (off := 179) (tgt := 182) hx hb dX12_count_3 (by decide) (by decide) (by decide +kernel) (by decide) ?_
      refine lv_iconst (v := 0) hx hb dX12_count_182 (by decide) ?_
      refine lv_istore_n (lv' := [(3, .int 0), (2, .int 0), (0, .ref (y 0)), (1, .int (nI 8))]) hx hb dX12_count_183 rfl hl (by decide) rfl (fun ls hl => ?_)
      refine lv_iload_n hx hb dX12_count_184 rfl (lv_at hl 0 rfl) ?_
      refine lv_iconst (v := 4) hx hb dX12_count_185 (by decide) ?_
      refine lv_icmp_ge (tgt := 213) hx hb dX12_count_186 (by decide) (fun h => absurd h (by decide)) (fun _ => ?_)
      refine lv_iload_n hx hb dX12_count_189 rfl (lv_at hl 1 rfl) ?_
      refine lv_aload_n hx hb dX12_count_190 rfl (lv_at hl 2 rfl) ?_
      refine va_get (D := D) (ci := 11) (v := .ref (y 7)) (C := RX12) (T := TX12) (N := 53) hx hb hts in_X12 hown hE.1 hP 0 rfl rfl 49 (by decide) (hts _ w_239) (fun _ h9 => h9) rfl dX12_count_191 ?_
      refine lv_iload_n hx hb dX12_count_194 rfl (lv_at hl 0 rfl) ?_
      refine va_iald hx hb hE.1 hP 7 1 rfl rfl (in_c (by decide)) dX12_count_195 ?_
      refine tc (y := (-1)) (hfm _ (by decide)) ?_
      refine lv_iconst (v := (-1)) hx hb dX12_count_196 (by decide) ?_
      refine lv_icmp_ne (tgt := 204) hx hb dX12_count_197 (by decide) (fun h => absurd h (by decide)) (fun _ => ?_)
      refine lv_iconst (v := 0) hx hb dX12_count_200 (by decide) ?_
      refine lv_goto (tgt := 205) hx hb dX12_count_201 (by decide) ?_
      refine lv_iadd hx hb dX12_count_205 ?_
      refine tc (y := 0) (by decide) ?_
      refine lv_istore_n (lv' := [(2, .int 0), (3, .int 0), (0, .ref (y 0)), (1, .int (nI 8))]) hx hb dX12_count_206 rfl hl (by decide) rfl (fun ls hl => ?_)
      refine lv_iinc (v := 1) (lv' := [(3, .int 1), (2, .int 0), (0, .ref (y 0)), (1, .int (nI 8))]) hx hb dX12_count_207 hl (k := 1) rfl (by decide) (by decide) rfl (fun ls hl => ?_)
      refine lv_goto (tgt := 184) hx hb dX12_count_210 (by decide) ?_
      refine lv_iload_n hx hb dX12_count_184 rfl (lv_at hl 0 rfl) ?_
      refine lv_iconst (v := 4) hx hb dX12_count_185 (by decide) ?_
      refine lv_icmp_ge (tgt := 213) hx hb dX12_count_186 (by decide) (fun h => absurd h (by decide)) (fun _ => ?_)
      refine lv_iload_n hx hb dX12_count_189 rfl (lv_at hl 1 rfl) ?_
      refine lv_aload_n hx hb dX12_count_190 rfl (lv_at hl 2 rfl) ?_
      refine va_get (D := D) (ci := 11) (v := .ref (y 7)) (C := RX12) (T := TX12) (N := 53) hx hb hts in_X12 hown hE.1 hP 0 rfl rfl 49 (by decide) (hts _ w_239) (fun _ h9 => h9) rfl dX12_count_191 ?_
      refine lv_iload_n hx hb dX12_count_194 rfl (lv_at hl 0 rfl) ?_
      refine va_iald hx hb hE.1 hP 7 1 rfl rfl (in_c (by decide)) dX12_count_195 ?_
      refine tc (y := (-1)) (hfm _ (by decide)) ?_
      refine lv_iconst (v := (-1)) hx hb dX12_count_196 (by decide) ?_
      refine lv_icmp_ne (tgt := 204) hx hb dX12_count_197 (by decide) (fun h => absurd h (by decide)) (fun _ => ?_)
      refine lv_iconst (v := 0) hx hb dX12_count_200 (by decide) ?_
      refine lv_goto (tgt := 205) hx hb dX12_count_201 (by decide) ?_
      refine lv_iadd hx hb dX12_count_205 ?_
      refine tc (y := 0) (by decide) ?_
      refine lv_istore_n (lv' := [(2, .int 0), (3, .int 1), (0, .ref (y 0)), (1, .int (nI 8))]) hx hb dX12_count_206 rfl hl (by decide) rfl (fun ls hl => ?_)
      refine lv_iinc (v := 2) (lv' := [(3, .int 2), (2, .int 0), (0, .ref (y 0)), (1, .int (nI 8))]) hx hb dX12_count_207 hl (k := 1) rfl (by decide) (by decide) rfl (fun ls hl => ?_)
      refine lv_goto (tgt := 184) hx hb dX12_count_210 (by decide) ?_
      refine lv_iload_n hx hb dX12_count_184 rfl (lv_at hl 0 rfl) ?_
      refine lv_iconst (v := 4) hx hb dX12_count_185 (by decide) ?_
      refine lv_icmp_ge (tgt := 213) hx hb dX12_count_186 (by decide) (fun h => absurd h (by decide)) (fun _ => ?_)
      refine lv_iload_n hx hb dX12_count_189 rfl (lv_at hl 1 rfl) ?_
      refine lv_aload_n hx hb dX12_count_190 rfl (lv_at hl 2 rfl) ?_
      refine va_get (D := D) (ci := 11) (v := .ref (y 7)) (C := RX12) (T := TX12) (N := 53) hx hb hts in_X12 hown hE.1 hP 0 rfl rfl 49 (by decide) (hts _ w_239) (fun _ h9 => h9) rfl dX12_count_191 ?_
      refine lv_iload_n hx hb dX12_count_194 rfl (lv_at hl 0 rfl) ?_
      refine va_iald hx hb hE.1 hP 7 1 rfl rfl (in_c (by decide)) dX12_count_195 ?_
      refine tc (y := (-1)) (hfm _ (by decide)) ?_
      refine lv_iconst (v := (-1)) hx hb dX12_count_196 (by decide) ?_
      refine lv_icmp_ne (tgt := 204) hx hb dX12_count_197 (by decide) (fun h => absurd h (by decide)) (fun _ => ?_)
      refine lv_iconst (v := 0) hx hb dX12_count_200 (by decide) ?_
      refine lv_goto (tgt := 205) hx hb dX12_count_201 (by decide) ?_
      refine lv_iadd hx hb dX12_count_205 ?_
      refine tc (y := 0) (by decide) ?_
      refine lv_istore_n (lv' := [(2, .int 0), (3, .int 2), (0, .ref (y 0)), (1, .int (nI 8))]) hx hb dX12_count_206 rfl hl (by decide) rfl (fun ls hl => ?_)
      refine lv_iinc (v := 3) (lv' := [(3, .int 3), (2, .int 0), (0, .ref (y 0)), (1, .int (nI 8))]) hx hb dX12_count_207 hl (k := 1) rfl (by decide) (by decide) rfl (fun ls hl => ?_)
      refine lv_goto (tgt := 184) hx hb dX12_count_210 (by decide) ?_
      refine lv_iload_n hx hb dX12_count_184 rfl (lv_at hl 0 rfl) ?_
      refine lv_iconst (v := 4) hx hb dX12_count_185 (by decide) ?_
      refine lv_icmp_ge (tgt := 213) hx hb dX12_count_186 (by decide) (fun h => absurd h (by decide)) (fun _ => ?_)
      refine lv_iload_n hx hb dX12_count_189 rfl (lv_at hl 1 rfl) ?_
      refine lv_aload_n hx hb dX12_count_190 rfl (lv_at hl 2 rfl) ?_
      refine va_get (D := D) (ci := 11) (v := .ref (y 7)) (C := RX12) (T := TX12) (N := 53) hx hb hts in_X12 hown hE.1 hP 0 rfl rfl 49 (by decide) (hts _ w_239) (fun _ h9 => h9) rfl dX12_count_191 ?_
      refine lv_iload_n hx hb dX12_count_194 rfl (lv_at hl 0 rfl) ?_
      refine va_iald hx hb hE.1 hP 7 1 rfl rfl (in_c (by decide)) dX12_count_195 ?_
      refine tc (y := (-1)) (hfm _ (by decide)) ?_
      refine lv_iconst (v := (-1)) hx hb dX12_count_196 (by decide) ?_
      refine lv_icmp_ne (tgt := 204) hx hb dX12_count_197 (by decide) (fun h => absurd h (by decide)) (fun _ => ?_)
      refine lv_iconst (v := 0) hx hb dX12_count_200 (by decide) ?_
      refine lv_goto (tgt := 205) hx hb dX12_count_201 (by decide) ?_
      refine lv_iadd hx hb dX12_count_205 ?_
      refine tc (y := 0) (by decide) ?_
      refine lv_istore_n (lv' := [(2, .int 0), (3, .int 3), (0, .ref (y 0)), (1, .int (nI 8))]) hx hb dX12_count_206 rfl hl (by decide) rfl (fun ls hl => ?_)
      refine lv_iinc (v := 4) (lv' := [(3, .int 4), (2, .int 0), (0, .ref (y 0)), (1, .int (nI 8))]) hx hb dX12_count_207 hl (k := 1) rfl (by decide) (by decide) rfl (fun ls hl => ?_)
      refine lv_goto (tgt := 184) hx hb dX12_count_210 (by decide) ?_
      refine lv_iload_n hx hb dX12_count_184 rfl (lv_at hl 0 rfl) ?_
      refine lv_iconst (v := 4) hx hb dX12_count_185 (by decide) ?_
      refine lv_icmp_ge (tgt := 213) hx hb dX12_count_186 (by decide) (fun _ => ?_) (fun h => absurd h (by decide))
      refine lv_iload_n hx hb dX12_count_213 rfl (lv_at hl 1 rfl) ?_
      exact ro_ret hC hr hk dX12_count_214 (Or.inl ⟨(vp_in_nI (by decide) (by decide)), rfl⟩)
  · refine lv_tableOut (tgt := 215) hx hb dX12_count_3 (tab_out h9) (by decide) ?_
    refine lv_iconst (v := (-1)) hx hb dX12_count_215 (by decide) ?_
    exact ro_ret hC hr hk dX12_count_216 (Or.inr (⟨h9, rfl⟩))
set_option maxRecDepth 20000 in
theorem c_X12_back (l : Launch) (D : va_G) (K : Nat → ClassId) (y : Nat → Nat) (fm : Nat → Int32) (hfm : ∀ j, j < 4 → fm j = -1) (p0 : Int32) : Ro l D K yX12_back cX12_back 3 (some .int) 1 25 [.ref (y 0), .int p0] (mdL K y fm) (fun r => (vp_in p0 3 ∧ r = (-6)) ∨ (¬ vp_in p0 3 ∧ r = (-2))) := by
  refine ro_of (by decide) (Nat.le_of_ble_eq_true rfl) ?_
  intro p e s m below meth c hC hr hk hE hP ls hl
  have hC : CallFix p m c cX12_back 3 s [.ref (y 0), .int p0].toArray wl RX12 := hC
  have hx := hC.1
  have hb := hC.2.1
  have hml := hC.2.2.1
  have hown := hC.2.2.2.1
  have hts := hC.2.2.2.2
  have hl : lv_has ls 3 [(0, .ref (y 0)), (1, .int p0)] := hl
  refine lv_iload_n hx hb dX12_back_0 rfl (lv_at hl 1 rfl) ?_
  refine lv_i2l (v := p0.toInt64) hx hb dX12_back_1 rfl ?_
  refine lv_lconst (v := 0) hx hb dX12_back_2 (by decide) ?_
  refine lv_ldc2 (v := 2) hx hb hown (hts _ w_240) dX12_back_3 ?_
  refine ro_S (As := [.long p0.toInt64, .long 0, .long 2]) (rest := []) hC hE kS_X12_115 (c_X12_in l D K p0.toInt64 0 2) (hP.sub (ws' := []) [] rfl) rfl hl.1 rfl (Nat.le_of_ble_eq_true rfl) (by decide) (by decide) dX12_back_6 (fun r hq => ?_)
  rcases hq with ⟨h62, rfl⟩ | ⟨h63, rfl⟩
  · refine lv_if_ne (tgt := 15) hx hb dX12_back_9 (by decide) (fun _ => ?_) (fun h => absurd h (by decide))
    refine lv_aload_n hx hb dX12_back_15 rfl (lv_at hl 0 rfl) ?_
    refine va_get (D := D) (ci := 11) (v := .ref (y 3)) (C := RX12) (T := TX12) (N := 53) hx hb hts in_X12 hown hE.1 hP 0 rfl rfl 3 (by decide) (hts _ w_241) (fun _ h9 => h9) rfl dX12_back_16 ?_
    refine lv_iload_n hx hb dX12_back_19 rfl (lv_at hl 1 rfl) ?_
    refine va_zald hx hb hE.1 hP 3 3 rfl rfl (iy64 (by decide) h62) dX12_back_20 ?_
    refine tc (y := 0) rfl ?_
    refine lv_if_ne (tgt := 27) hx hb dX12_back_21 (by decide) (fun h => absurd h (by decide)) (fun _ => ?_)
    refine lv_bipush (v := (-6)) hx hb dX12_back_24 (by decide) ?_
    exact ro_ret hC hr hk dX12_back_26 (Or.inl ⟨(iy64 (by decide) h62), rfl⟩)
  · refine lv_if_ne (tgt := 15) hx hb dX12_back_9 (by decide) (fun h => absurd h (by decide)) (fun _ => ?_)
    refine lv_bipush (v := (-2)) hx hb dX12_back_12 (by decide) ?_
    exact ro_ret hC hr hk dX12_back_14 (Or.inr (⟨(in64 (by decide) h63), rfl⟩))
set_option maxRecDepth 20000 in
theorem c_X12_write (l : Launch) (D : va_G) (K : Nat → ClassId) (y : Nat → Nat) (fm : Nat → Int32) (hfm : ∀ j, j < 4 → fm j = -1) (p0 : Int32) (p1 : Int32) (p2 : Int64) : Ro l D K yX12_write cX12_write 5 (some .int) 2 45 [.ref (y 0), .int p0, .int p1, .long p2] (mdL K y fm) (fun r => (vp_in p0 4 ∧ r = (-6)) ∨ (¬ vp_in p0 4 ∧ r = (-2))) := by
  refine ro_of (by decide) (Nat.le_of_ble_eq_true rfl) ?_
  intro p e s m below meth c hC hr hk hE hP ls hl
  have hC : CallFix p m c cX12_write 5 s [.ref (y 0), .int p0, .int p1, .long p2].toArray wl RX12 := hC
  have hx := hC.1
  have hb := hC.2.1
  have hml := hC.2.2.1
  have hown := hC.2.2.2.1
  have hts := hC.2.2.2.2
  have hl : lv_has ls 5 [(0, .ref (y 0)), (1, .int p0), (2, .int p1), (3, .long p2)] := hl
  refine lv_iload_n hx hb dX12_write_0 rfl (lv_at hl 1 rfl) ?_
  refine ro_S (As := [.int p0]) (rest := []) hC hE kS_X12_334 (c_X12_isSlot l D K p0) (hP.sub (ws' := []) [] rfl) rfl hl.1 rfl (Nat.le_of_ble_eq_true rfl) (by decide) (by decide) dX12_write_1 (fun r hq => ?_)
  rcases hq with ⟨h64, rfl⟩ | ⟨h65, rfl⟩
  · refine lv_if_ne (tgt := 10) hx hb dX12_write_4 (by decide) (fun _ => ?_) (fun h => absurd h (by decide))
    refine lv_aload_n hx hb dX12_write_10 rfl (lv_at hl 0 rfl) ?_
    refine va_get (D := D) (ci := 11) (v := .ref (y 7)) (C := RX12) (T := TX12) (N := 53) hx hb hts in_X12 hown hE.1 hP 0 rfl rfl 49 (by decide) (hts _ w_239) (fun _ h9 => h9) rfl dX12_write_11 ?_
    refine lv_iload_n hx hb dX12_write_14 rfl (lv_at hl 1 rfl) ?_
    refine va_iald hx hb hE.1 hP 7 1 rfl rfl h64 dX12_write_15 ?_
    refine tc (y := (-1)) (hfm _ (in_lt h64)) ?_
    refine lv_iconst (v := (-1)) hx hb dX12_write_16 (by decide) ?_
    refine lv_icmp_ne (tgt := 23) hx hb dX12_write_17 (by decide) (fun h => absurd h (by decide)) (fun _ => ?_)
    refine lv_bipush (v := (-6)) hx hb dX12_write_20 (by decide) ?_
    exact ro_ret hC hr hk dX12_write_22 (Or.inl ⟨h64, rfl⟩)
  · refine lv_if_ne (tgt := 10) hx hb dX12_write_4 (by decide) (fun h => absurd h (by decide)) (fun _ => ?_)
    refine lv_bipush (v := (-2)) hx hb dX12_write_7 (by decide) ?_
    exact ro_ret hC hr hk dX12_write_9 (Or.inr (⟨h65, rfl⟩))
set_option maxRecDepth 20000 in
theorem c_X12_paste (l : Launch) (D : va_G) (K : Nat → ClassId) (y : Nat → Nat) (fm : Nat → Int32) (hfm : ∀ j, j < 4 → fm j = -1) (p0 : Int32) (p1 : Int32) (p2 : Int32) (p3 : Int32) (p4 : Int32) : Ro l D K yX12_paste cX12_paste 7 (some .int) 2 45 [.ref (y 0), .int p0, .int p1, .int p2, .int p3, .int p4] (mdL K y fm) (fun r => ((vp_in p0 4 ∧ vp_in p2 4) ∧ r = (-6)) ∨ (¬ (vp_in p0 4 ∧ vp_in p2 4) ∧ r = (-2))) := by
  refine ro_of (by decide) (Nat.le_of_ble_eq_true rfl) ?_
  intro p e s m below meth c hC hr hk hE hP ls hl
  have hC : CallFix p m c cX12_paste 7 s [.ref (y 0), .int p0, .int p1, .int p2, .int p3, .int p4].toArray wl RX12 := hC
  have hx := hC.1
  have hb := hC.2.1
  have hml := hC.2.2.1
  have hown := hC.2.2.2.1
  have hts := hC.2.2.2.2
  have hl : lv_has ls 7 [(0, .ref (y 0)), (1, .int p0), (2, .int p1), (3, .int p2), (4, .int p3), (5, .int p4)] := hl
  refine lv_iload_n hx hb dX12_paste_0 rfl (lv_at hl 1 rfl) ?_
  refine ro_S (As := [.int p0]) (rest := []) hC hE kS_X12_334 (c_X12_isSlot l D K p0) (hP.sub (ws' := []) [] rfl) rfl hl.1 rfl (Nat.le_of_ble_eq_true rfl) (by decide) (by decide) dX12_paste_1 (fun r hq => ?_)
  rcases hq with ⟨h66, rfl⟩ | ⟨h67, rfl⟩
  · refine lv_if_eq (tgt := 14) hx hb dX12_paste_4 (by decide) (fun h => absurd h (by decide)) (fun _ => ?_)
    refine lv_iload_n hx hb dX12_paste_7 rfl (lv_at hl 3 rfl) ?_
    refine ro_S (As := [.int p2]) (rest := []) hC hE kS_X12_334 (c_X12_isSlot l D K p2) (hP.sub (ws' := []) [] rfl) rfl hl.1 rfl (Nat.le_of_ble_eq_true rfl) (by decide) (by decide) dX12_paste_8 (fun r hq => ?_)
    rcases hq with ⟨h68, rfl⟩ | ⟨h69, rfl⟩
    · refine lv_if_ne (tgt := 17) hx hb dX12_paste_11 (by decide) (fun _ => ?_) (fun h => absurd h (by decide))
      refine lv_aload_n hx hb dX12_paste_17 rfl (lv_at hl 0 rfl) ?_
      refine va_get (D := D) (ci := 11) (v := .ref (y 7)) (C := RX12) (T := TX12) (N := 53) hx hb hts in_X12 hown hE.1 hP 0 rfl rfl 49 (by decide) (hts _ w_239) (fun _ h9 => h9) rfl dX12_paste_18 ?_
      refine lv_iload_n hx hb dX12_paste_21 rfl (lv_at hl 1 rfl) ?_
      refine va_iald hx hb hE.1 hP 7 1 rfl rfl h66 dX12_paste_22 ?_
      refine tc (y := (-1)) (hfm _ (in_lt h66)) ?_
      refine lv_iconst (v := (-1)) hx hb dX12_paste_23 (by decide) ?_
      refine lv_icmp_eq (tgt := 37) hx hb dX12_paste_24 (by decide) (fun _ => ?_) (fun h => absurd h (by decide))
      refine lv_bipush (v := (-6)) hx hb dX12_paste_37 (by decide) ?_
      exact ro_ret hC hr hk dX12_paste_39 (Or.inl ⟨⟨h66, h68⟩, rfl⟩)
    · refine lv_if_ne (tgt := 17) hx hb dX12_paste_11 (by decide) (fun h => absurd h (by decide)) (fun _ => ?_)
      refine lv_bipush (v := (-2)) hx hb dX12_paste_14 (by decide) ?_
      exact ro_ret hC hr hk dX12_paste_16 (Or.inr (⟨(fun q => h69 q.2), rfl⟩))
  · refine lv_if_eq (tgt := 14) hx hb dX12_paste_4 (by decide) (fun _ => ?_) (fun h => absurd h (by decide))
    refine lv_bipush (v := (-2)) hx hb dX12_paste_14 (by decide) ?_
    exact ro_ret hC hr hk dX12_paste_16 (Or.inr (⟨(fun q => h67 q.1), rfl⟩))
