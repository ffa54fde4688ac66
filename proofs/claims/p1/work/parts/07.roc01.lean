set_option maxRecDepth 20000 in
theorem c_X11_stray (l : Launch) (D : va_G) (K : Nat → ClassId) (x : Nat → Nat) (fs : Nat → Int32) (hfs : ∀ j, j < 4 → fs j = -1) (p0 : Int32) : Ro l D K yX11_stray cX11_stray 2 (some .int) 3 65 [.ref (x 0), .int p0] (fxL K x fs) (fun r => r = (-2)) := by
  refine ro_of (by decide) (Nat.le_of_ble_eq_true rfl) ?_
  intro p e s m below meth c hC hr hk hE hP ls hl
  have hC : CallFix p m c cX11_stray 2 s [.ref (x 0), .int p0].toArray wl RX11 := hC
  have hx := hC.1
  have hb := hC.2.1
  have hml := hC.2.2.1
  have hown := hC.2.2.2.1
  have hts := hC.2.2.2.2
  have hl : lv_has ls 2 [(0, .ref (x 0)), (1, .int p0)] := hl
  refine lv_aload_n hx hb dX11_stray_0 rfl (lv_at hl 0 rfl) ?_
  refine lv_iload_n hx hb dX11_stray_1 rfl (lv_at hl 1 rfl) ?_
  refine lv_iconst (v := 2) hx hb dX11_stray_2 (by decide) ?_
  refine lv_iconst (v := 0) hx hb dX11_stray_3 (by decide) ?_
  refine ro_V (As := [.int p0, .int 2, .int 0]) (rest := []) hC hE kV_X11_212 (c_X11_seek l D K x fs hfs p0 2 0) hP 0 10 rfl rfl rfl hl.1 rfl (Nat.le_of_ble_eq_true rfl) (by decide) (by decide) dX11_stray_4 (fun r hq => ?_)
  subst hq
  refine lv_if_eq (tgt := 20) hx hb dX11_stray_7 (by decide) (fun _ => ?_) (fun h => absurd h (by decide))
  refine lv_bipush (v := (-2)) hx hb dX11_stray_20 (by decide) ?_
  exact ro_ret hC hr hk dX11_stray_22 rfl
set_option maxRecDepth 20000 in
theorem c_X11_strays (l : Launch) (D : va_G) (K : Nat → ClassId) (x : Nat → Nat) (fs : Nat → Int32) (hfs : ∀ j, j < 4 → fs j = -1) (p0 : Int32) (p1 : Int32) : Ro l D K yX11_strays cX11_strays 3 (some .int) 3 65 [.ref (x 0), .int p0, .int p1] (fxL K x fs) (fun r => r = (-2)) := by
  refine ro_of (by decide) (Nat.le_of_ble_eq_true rfl) ?_
  intro p e s m below meth c hC hr hk hE hP ls hl
  have hC : CallFix p m c cX11_strays 3 s [.ref (x 0), .int p0, .int p1].toArray wl RX11 := hC
  have hx := hC.1
  have hb := hC.2.1
  have hml := hC.2.2.1
  have hown := hC.2.2.2.1
  have hts := hC.2.2.2.2
  have hl : lv_has ls 3 [(0, .ref (x 0)), (1, .int p0), (2, .int p1)] := hl
  refine lv_aload_n hx hb dX11_strays_0 rfl (lv_at hl 0 rfl) ?_
  refine lv_iload_n hx hb dX11_strays_1 rfl (lv_at hl 1 rfl) ?_
  refine lv_iconst (v := 2) hx hb dX11_strays_2 (by decide) ?_
  refine lv_iconst (v := 0) hx hb dX11_strays_3 (by decide) ?_
  refine ro_V (As := [.int p0, .int 2, .int 0]) (rest := []) hC hE kV_X11_212 (c_X11_seek l D K x fs hfs p0 2 0) hP 0 10 rfl rfl rfl hl.1 rfl (Nat.le_of_ble_eq_true rfl) (by decide) (by decide) dX11_strays_4 (fun r hq => ?_)
  subst hq
  refine lv_if_eq (tgt := 21) hx hb dX11_strays_7 (by decide) (fun _ => ?_) (fun h => absurd h (by decide))
  refine lv_bipush (v := (-2)) hx hb dX11_strays_21 (by decide) ?_
  exact ro_ret hC hr hk dX11_strays_23 rfl
set_option maxRecDepth 20000 in
theorem c_X11_home (l : Launch) (D : va_G) (K : Nat → ClassId) (x : Nat → Nat) (fs : Nat → Int32) (hfs : ∀ j, j < 4 → fs j = -1) (p0 : Int32) : Ro l D K yX11_home cX11_home 2 (some .int) 3 65 [.ref (x 0), .int p0] (fxL K x fs) (fun r => r = (-2)) := by
  refine ro_of (by decide) (Nat.le_of_ble_eq_true rfl) ?_
  intro p e s m below meth c hC hr hk hE hP ls hl
  have hC : CallFix p m c cX11_home 2 s [.ref (x 0), .int p0].toArray wl RX11 := hC
  have hx := hC.1
  have hb := hC.2.1
  have hml := hC.2.2.1
  have hown := hC.2.2.2.1
  have hts := hC.2.2.2.2
  have hl : lv_has ls 2 [(0, .ref (x 0)), (1, .int p0)] := hl
  refine lv_aload_n hx hb dX11_home_0 rfl (lv_at hl 0 rfl) ?_
  refine lv_iload_n hx hb dX11_home_1 rfl (lv_at hl 1 rfl) ?_
  refine lv_iconst (v := 3) hx hb dX11_home_2 (by decide) ?_
  refine lv_iconst (v := 0) hx hb dX11_home_3 (by decide) ?_
  refine ro_V (As := [.int p0, .int 3, .int 0]) (rest := []) hC hE kV_X11_212 (c_X11_seek l D K x fs hfs p0 3 0) hP 0 10 rfl rfl rfl hl.1 rfl (Nat.le_of_ble_eq_true rfl) (by decide) (by decide) dX11_home_4 (fun r hq => ?_)
  subst hq
  refine lv_if_eq (tgt := 20) hx hb dX11_home_7 (by decide) (fun _ => ?_) (fun h => absurd h (by decide))
  refine lv_bipush (v := (-2)) hx hb dX11_home_20 (by decide) ?_
  exact ro_ret hC hr hk dX11_home_22 rfl
set_option maxRecDepth 20000 in
theorem c_X11_homes (l : Launch) (D : va_G) (K : Nat → ClassId) (x : Nat → Nat) (fs : Nat → Int32) (hfs : ∀ j, j < 4 → fs j = -1) (p0 : Int32) (p1 : Int32) : Ro l D K yX11_homes cX11_homes 3 (some .int) 3 65 [.ref (x 0), .int p0, .int p1] (fxL K x fs) (fun r => r = (-2)) := by
  refine ro_of (by decide) (Nat.le_of_ble_eq_true rfl) ?_
  intro p e s m below meth c hC hr hk hE hP ls hl
  have hC : CallFix p m c cX11_homes 3 s [.ref (x 0), .int p0, .int p1].toArray wl RX11 := hC
  have hx := hC.1
  have hb := hC.2.1
  have hml := hC.2.2.1
  have hown := hC.2.2.2.1
  have hts := hC.2.2.2.2
  have hl : lv_has ls 3 [(0, .ref (x 0)), (1, .int p0), (2, .int p1)] := hl
  refine lv_aload_n hx hb dX11_homes_0 rfl (lv_at hl 0 rfl) ?_
  refine lv_iload_n hx hb dX11_homes_1 rfl (lv_at hl 1 rfl) ?_
  refine lv_iconst (v := 3) hx hb dX11_homes_2 (by decide) ?_
  refine lv_iconst (v := 0) hx hb dX11_homes_3 (by decide) ?_
  refine ro_V (As := [.int p0, .int 3, .int 0]) (rest := []) hC hE kV_X11_212 (c_X11_seek l D K x fs hfs p0 3 0) hP 0 10 rfl rfl rfl hl.1 rfl (Nat.le_of_ble_eq_true rfl) (by decide) (by decide) dX11_homes_4 (fun r hq => ?_)
  subst hq
  refine lv_if_eq (tgt := 21) hx hb dX11_homes_7 (by decide) (fun _ => ?_) (fun h => absurd h (by decide))
  refine lv_bipush (v := (-2)) hx hb dX11_homes_21 (by decide) ?_
  exact ro_ret hC hr hk dX11_homes_23 rfl
set_option maxRecDepth 20000 in
theorem c_X11_states (l : Launch) (D : va_G) (K : Nat → ClassId) (x : Nat → Nat) (fs : Nat → Int32) (hfs : ∀ j, j < 4 → fs j = -1) (p0 : Int32) : Ro l D K yX11_states cX11_states 2 (some .int) 3 65 [.ref (x 0), .int p0] (fxL K x fs) (fun r => r = (-2)) := by
  refine ro_of (by decide) (Nat.le_of_ble_eq_true rfl) ?_
  intro p e s m below meth c hC hr hk hE hP ls hl
  have hC : CallFix p m c cX11_states 2 s [.ref (x 0), .int p0].toArray wl RX11 := hC
  have hx := hC.1
  have hb := hC.2.1
  have hml := hC.2.2.1
  have hown := hC.2.2.2.1
  have hts := hC.2.2.2.2
  have hl : lv_has ls 2 [(0, .ref (x 0)), (1, .int p0)] := hl
  refine lv_aload_n hx hb dX11_states_0 rfl (lv_at hl 0 rfl) ?_
  refine lv_iload_n hx hb dX11_states_1 rfl (lv_at hl 1 rfl) ?_
  refine lv_iconst (v := 0) hx hb dX11_states_2 (by decide) ?_
  refine lv_iconst (v := 0) hx hb dX11_states_3 (by decide) ?_
  refine ro_V (As := [.int p0, .int 0, .int 0]) (rest := []) hC hE kV_X11_212 (c_X11_seek l D K x fs hfs p0 0 0) hP 0 10 rfl rfl rfl hl.1 rfl (Nat.le_of_ble_eq_true rfl) (by decide) (by decide) dX11_states_4 (fun r hq => ?_)
  subst hq
  refine lv_if_eq (tgt := 20) hx hb dX11_states_7 (by decide) (fun _ => ?_) (fun h => absurd h (by decide))
  refine lv_bipush (v := (-2)) hx hb dX11_states_20 (by decide) ?_
  exact ro_ret hC hr hk dX11_states_22 rfl
set_option maxRecDepth 20000 in
theorem c_X11_plan (l : Launch) (D : va_G) (K : Nat → ClassId) (x : Nat → Nat) (fs : Nat → Int32) (hfs : ∀ j, j < 4 → fs j = -1) (p0 : Int32) : Ro l D K yX11_plan cX11_plan 2 (some .int) 2 41 [.ref (x 0), .int p0] (fxL K x fs) (fun r => r = (-2)) := by
  refine ro_of (by decide) (Nat.le_of_ble_eq_true rfl) ?_
  intro p e s m below meth c hC hr hk hE hP ls hl
  have hC : CallFix p m c cX11_plan 2 s [.ref (x 0), .int p0].toArray wl RX11 := hC
  have hx := hC.1
  have hb := hC.2.1
  have hml := hC.2.2.1
  have hown := hC.2.2.2.1
  have hts := hC.2.2.2.2
  have hl : lv_has ls 2 [(0, .ref (x 0)), (1, .int p0)] := hl
  refine lv_aload_n hx hb dX11_plan_0 rfl (lv_at hl 0 rfl) ?_
  refine va_get (D := D) (ci := 10) (v := .ref (x 2)) (C := RX11) (T := TX11) (N := 12) hx hb hts in_X11 hown hE.1 hP 0 rfl rfl 1 (by decide) (hts _ w_52) (fun _ h9 => h9) rfl dX11_plan_1 ?_
  refine lv_iload_n hx hb dX11_plan_4 rfl (lv_at hl 1 rfl) ?_
  refine ro_V (As := [.int p0]) (rest := []) hC hE kV_X11_140 (c_X10_hasSet l D K (x 2) (fun k => x (10 + k)) p0) (hP.sub (ws' := [(x 2, .inr (9, [.ref (x 10), .ref (x 11), .ref (x 12), .ref (x 13), .ref (x 14), .ref (x 15), .ref (x 16), .ref (x 17), .int 0, .int 0, .int 0, .int 0]))]) [2] rfl) 0 9 rfl rfl rfl hl.1 rfl (Nat.le_of_ble_eq_true rfl) (by decide) (by decide) dX11_plan_5 (fun r hq => ?_)
  subst hq
  refine lv_if_ne (tgt := 14) hx hb dX11_plan_8 (by decide) (fun h => absurd h (by decide)) (fun _ => ?_)
  refine lv_bipush (v := (-2)) hx hb dX11_plan_11 (by decide) ?_
  exact ro_ret hC hr hk dX11_plan_13 rfl
set_option maxRecDepth 20000 in
theorem c_X11_first (l : Launch) (D : va_G) (K : Nat → ClassId) (x : Nat → Nat) (fs : Nat → Int32) (hfs : ∀ j, j < 4 → fs j = -1) (p0 : Int32) : Ro l D K yX11_first cX11_first 2 (some .int) 2 41 [.ref (x 0), .int p0] (fxL K x fs) (fun r => r = (-2)) := by
  refine ro_of (by decide) (Nat.le_of_ble_eq_true rfl) ?_
  intro p e s m below meth c hC hr hk hE hP ls hl
  have hC : CallFix p m c cX11_first 2 s [.ref (x 0), .int p0].toArray wl RX11 := hC
  have hx := hC.1
  have hb := hC.2.1
  have hml := hC.2.2.1
  have hown := hC.2.2.2.1
  have hts := hC.2.2.2.2
  have hl : lv_has ls 2 [(0, .ref (x 0)), (1, .int p0)] := hl
  refine lv_aload_n hx hb dX11_first_0 rfl (lv_at hl 0 rfl) ?_
  refine va_get (D := D) (ci := 10) (v := .ref (x 2)) (C := RX11) (T := TX11) (N := 12) hx hb hts in_X11 hown hE.1 hP 0 rfl rfl 1 (by decide) (hts _ w_52) (fun _ h9 => h9) rfl dX11_first_1 ?_
  refine lv_iload_n hx hb dX11_first_4 rfl (lv_at hl 1 rfl) ?_
  refine ro_V (As := [.int p0]) (rest := []) hC hE kV_X11_140 (c_X10_hasSet l D K (x 2) (fun k => x (10 + k)) p0) (hP.sub (ws' := [(x 2, .inr (9, [.ref (x 10), .ref (x 11), .ref (x 12), .ref (x 13), .ref (x 14), .ref (x 15), .ref (x 16), .ref (x 17), .int 0, .int 0, .int 0, .int 0]))]) [2] rfl) 0 9 rfl rfl rfl hl.1 rfl (Nat.le_of_ble_eq_true rfl) (by decide) (by decide) dX11_first_5 (fun r hq => ?_)
  subst hq
  refine lv_if_ne (tgt := 14) hx hb dX11_first_8 (by decide) (fun h => absurd h (by decide)) (fun _ => ?_)
  refine lv_bipush (v := (-2)) hx hb dX11_first_11 (by decide) ?_
  exact ro_ret hC hr hk dX11_first_13 rfl
set_option maxRecDepth 20000 in
theorem c_X11_hardest (l : Launch) (D : va_G) (K : Nat → ClassId) (x : Nat → Nat) (fs : Nat → Int32) (hfs : ∀ j, j < 4 → fs j = -1) : Ro l D K yX11_hardest cX11_hardest 4 (some .int) 1 20 [.ref (x 0)] (fxL K x fs) (fun r => r = (-2)) := by
  refine ro_of (by decide) (Nat.le_of_ble_eq_true rfl) ?_
  intro p e s m below meth c hC hr hk hE hP ls hl
  have hC : CallFix p m c cX11_hardest 4 s [.ref (x 0)].toArray wl RX11 := hC
  have hx := hC.1
  have hb := hC.2.1
  have hml := hC.2.2.1
  have hown := hC.2.2.2.1
  have hts := hC.2.2.2.2
  have hl : lv_has ls 4 [(0, .ref (x 0))] := hl
  refine lv_aload_n hx hb dX11_hardest_0 rfl (lv_at hl 0 rfl) ?_
  refine va_get (D := D) (ci := 10) (v := .ref (x 2)) (C := RX11) (T := TX11) (N := 12) hx hb hts in_X11 hown hE.1 hP 0 rfl rfl 1 (by decide) (hts _ w_52) (fun _ h9 => h9) rfl dX11_hardest_1 ?_
  refine ro_V (As := []) (rest := []) hC hE kV_X11_185 (c_X10_stands l D K (x 2) (fun k => x (10 + k))) (hP.sub (ws' := [(x 2, .inr (9, [.ref (x 10), .ref (x 11), .ref (x 12), .ref (x 13), .ref (x 14), .ref (x 15), .ref (x 16), .ref (x 17), .int 0, .int 0, .int 0, .int 0]))]) [2] rfl) 0 9 rfl rfl rfl hl.1 rfl (Nat.le_of_ble_eq_true rfl) (by decide) (by decide) dX11_hardest_4 (fun r hq => ?_)
  subst hq
  refine lv_if_ne (tgt := 13) hx hb dX11_hardest_7 (by decide) (fun h => absurd h (by decide)) (fun _ => ?_)
  refine lv_bipush (v := (-2)) hx hb dX11_hardest_10 (by decide) ?_
  exact ro_ret hC hr hk dX11_hardest_12 rfl
set_option maxRecDepth 20000 in
theorem c_X11_alike (l : Launch) (D : va_G) (K : Nat → ClassId) (x : Nat → Nat) (fs : Nat → Int32) (hfs : ∀ j, j < 4 → fs j = -1) (p0 : Int32) (p1 : Int32) : Ro l D K yX11_alike cX11_alike 3 (some .int) 2 43 [.ref (x 0), .int p0, .int p1] (fxL K x fs) (fun r => r = (-2)) := by
  refine ro_of (by decide) (Nat.le_of_ble_eq_true rfl) ?_
  intro p e s m below meth c hC hr hk hE hP ls hl
  have hC : CallFix p m c cX11_alike 3 s [.ref (x 0), .int p0, .int p1].toArray wl RX11 := hC
  have hx := hC.1
  have hb := hC.2.1
  have hml := hC.2.2.1
  have hown := hC.2.2.2.1
  have hts := hC.2.2.2.2
  have hl : lv_has ls 3 [(0, .ref (x 0)), (1, .int p0), (2, .int p1)] := hl
  refine lv_aload_n hx hb dX11_alike_0 rfl (lv_at hl 0 rfl) ?_
  refine lv_iload_n hx hb dX11_alike_1 rfl (lv_at hl 1 rfl) ?_
  refine lv_iload_n hx hb dX11_alike_2 rfl (lv_at hl 2 rfl) ?_
  refine ro_V (As := [.int p0, .int p1]) (rest := []) hC hE kV_X11_236 (c_X11_arePlaces l D K x fs hfs p0 p1) hP 0 10 rfl rfl rfl hl.1 rfl (Nat.le_of_ble_eq_true rfl) (by decide) (by decide) dX11_alike_3 (fun r hq => ?_)
  subst hq
  refine lv_if_ne (tgt := 12) hx hb dX11_alike_6 (by decide) (fun h => absurd h (by decide)) (fun _ => ?_)
  refine lv_bipush (v := (-2)) hx hb dX11_alike_9 (by decide) ?_
  exact ro_ret hC hr hk dX11_alike_11 rfl
set_option maxRecDepth 20000 in
theorem c_X11_kinds (l : Launch) (D : va_G) (K : Nat → ClassId) (x : Nat → Nat) (fs : Nat → Int32) (hfs : ∀ j, j < 4 → fs j = -1) : Ro l D K yX11_kinds cX11_kinds 5 (some .int) 1 20 [.ref (x 0)] (fxL K x fs) (fun r => r = (-2)) := by
  refine ro_of (by decide) (Nat.le_of_ble_eq_true rfl) ?_
  intro p e s m below meth c hC hr hk hE hP ls hl
  have hC : CallFix p m c cX11_kinds 5 s [.ref (x 0)].toArray wl RX11 := hC
  have hx := hC.1
  have hb := hC.2.1
  have hml := hC.2.2.1
  have hown := hC.2.2.2.1
  have hts := hC.2.2.2.2
  have hl : lv_has ls 5 [(0, .ref (x 0))] := hl
  refine lv_aload_n hx hb dX11_kinds_0 rfl (lv_at hl 0 rfl) ?_
  refine va_get (D := D) (ci := 10) (v := .ref (x 2)) (C := RX11) (T := TX11) (N := 12) hx hb hts in_X11 hown hE.1 hP 0 rfl rfl 1 (by decide) (hts _ w_52) (fun _ h9 => h9) rfl dX11_kinds_1 ?_
  refine ro_V (As := []) (rest := []) hC hE kV_X11_185 (c_X10_stands l D K (x 2) (fun k => x (10 + k))) (hP.sub (ws' := [(x 2, .inr (9, [.ref (x 10), .ref (x 11), .ref (x 12), .ref (x 13), .ref (x 14), .ref (x 15), .ref (x 16), .ref (x 17), .int 0, .int 0, .int 0, .int 0]))]) [2] rfl) 0 9 rfl rfl rfl hl.1 rfl (Nat.le_of_ble_eq_true rfl) (by decide) (by decide) dX11_kinds_4 (fun r hq => ?_)
  subst hq
  refine lv_if_ne (tgt := 13) hx hb dX11_kinds_7 (by decide) (fun h => absurd h (by decide)) (fun _ => ?_)
  refine lv_bipush (v := (-2)) hx hb dX11_kinds_10 (by decide) ?_
  exact ro_ret hC hr hk dX11_kinds_12 rfl
set_option maxRecDepth 20000 in
theorem c_X11_tells (l : Launch) (D : va_G) (K : Nat → ClassId) (x : Nat → Nat) (fs : Nat → Int32) (hfs : ∀ j, j < 4 → fs j = -1) (p0 : Int32) (p1 : Int32) : Ro l D K yX11_tells cX11_tells 3 (some .int) 2 43 [.ref (x 0), .int p0, .int p1] (fxL K x fs) (fun r => r = (-2)) := by
  refine ro_of (by decide) (Nat.le_of_ble_eq_true rfl) ?_
  intro p e s m below meth c hC hr hk hE hP ls hl
  have hC : CallFix p m c cX11_tells 3 s [.ref (x 0), .int p0, .int p1].toArray wl RX11 := hC
  have hx := hC.1
  have hb := hC.2.1
  have hml := hC.2.2.1
  have hown := hC.2.2.2.1
  have hts := hC.2.2.2.2
  have hl : lv_has ls 3 [(0, .ref (x 0)), (1, .int p0), (2, .int p1)] := hl
  refine lv_aload_n hx hb dX11_tells_0 rfl (lv_at hl 0 rfl) ?_
  refine lv_iload_n hx hb dX11_tells_1 rfl (lv_at hl 1 rfl) ?_
  refine lv_iload_n hx hb dX11_tells_2 rfl (lv_at hl 2 rfl) ?_
  refine ro_V (As := [.int p0, .int p1]) (rest := []) hC hE kV_X11_236 (c_X11_arePlaces l D K x fs hfs p0 p1) hP 0 10 rfl rfl rfl hl.1 rfl (Nat.le_of_ble_eq_true rfl) (by decide) (by decide) dX11_tells_3 (fun r hq => ?_)
  subst hq
  refine lv_if_ne (tgt := 12) hx hb dX11_tells_6 (by decide) (fun h => absurd h (by decide)) (fun _ => ?_)
  refine lv_bipush (v := (-2)) hx hb dX11_tells_9 (by decide) ?_
  exact ro_ret hC hr hk dX11_tells_11 rfl
set_option maxRecDepth 20000 in
theorem c_X11_told (l : Launch) (D : va_G) (K : Nat → ClassId) (x : Nat → Nat) (fs : Nat → Int32) (hfs : ∀ j, j < 4 → fs j = -1) (p0 : Int32) (p1 : Int32) (p2 : Int32) : Ro l D K yX11_told cX11_told 4 (some .int) 2 43 [.ref (x 0), .int p0, .int p1, .int p2] (fxL K x fs) (fun r => r = (-2)) := by
  refine ro_of (by decide) (Nat.le_of_ble_eq_true rfl) ?_
  intro p e s m below meth c hC hr hk hE hP ls hl
  have hC : CallFix p m c cX11_told 4 s [.ref (x 0), .int p0, .int p1, .int p2].toArray wl RX11 := hC
  have hx := hC.1
  have hb := hC.2.1
  have hml := hC.2.2.1
  have hown := hC.2.2.2.1
  have hts := hC.2.2.2.2
  have hl : lv_has ls 4 [(0, .ref (x 0)), (1, .int p0), (2, .int p1), (3, .int p2)] := hl
  refine lv_aload_n hx hb dX11_told_0 rfl (lv_at hl 0 rfl) ?_
  refine lv_iload_n hx hb dX11_told_1 rfl (lv_at hl 1 rfl) ?_
  refine lv_iload_n hx hb dX11_told_2 rfl (lv_at hl 2 rfl) ?_
  refine ro_V (As := [.int p0, .int p1]) (rest := []) hC hE kV_X11_236 (c_X11_arePlaces l D K x fs hfs p0 p1) hP 0 10 rfl rfl rfl hl.1 rfl (Nat.le_of_ble_eq_true rfl) (by decide) (by decide) dX11_told_3 (fun r hq => ?_)
  subst hq
  refine lv_if_ne (tgt := 12) hx hb dX11_told_6 (by decide) (fun h => absurd h (by decide)) (fun _ => ?_)
  refine lv_bipush (v := (-2)) hx hb dX11_told_9 (by decide) ?_
  exact ro_ret hC hr hk dX11_told_11 rfl
set_option maxRecDepth 20000 in
theorem c_X11_bares (l : Launch) (D : va_G) (K : Nat → ClassId) (x : Nat → Nat) (fs : Nat → Int32) (hfs : ∀ j, j < 4 → fs j = -1) (p0 : Int32) (p1 : Int32) : Ro l D K yX11_bares cX11_bares 3 (some .int) 2 43 [.ref (x 0), .int p0, .int p1] (fxL K x fs) (fun r => r = (-2)) := by
  refine ro_of (by decide) (Nat.le_of_ble_eq_true rfl) ?_
  intro p e s m below meth c hC hr hk hE hP ls hl
  have hC : CallFix p m c cX11_bares 3 s [.ref (x 0), .int p0, .int p1].toArray wl RX11 := hC
  have hx := hC.1
  have hb := hC.2.1
  have hml := hC.2.2.1
  have hown := hC.2.2.2.1
  have hts := hC.2.2.2.2
  have hl : lv_has ls 3 [(0, .ref (x 0)), (1, .int p0), (2, .int p1)] := hl
  refine lv_aload_n hx hb dX11_bares_0 rfl (lv_at hl 0 rfl) ?_
  refine lv_iload_n hx hb dX11_bares_1 rfl (lv_at hl 1 rfl) ?_
  refine lv_iload_n hx hb dX11_bares_2 rfl (lv_at hl 2 rfl) ?_
  refine ro_V (As := [.int p0, .int p1]) (rest := []) hC hE kV_X11_236 (c_X11_arePlaces l D K x fs hfs p0 p1) hP 0 10 rfl rfl rfl hl.1 rfl (Nat.le_of_ble_eq_true rfl) (by decide) (by decide) dX11_bares_3 (fun r hq => ?_)
  subst hq
  refine lv_if_eq (tgt := 21) hx hb dX11_bares_6 (by decide) (fun _ => ?_) (fun h => absurd h (by decide))
  refine lv_bipush (v := (-2)) hx hb dX11_bares_21 (by decide) ?_
  exact ro_ret hC hr hk dX11_bares_23 rfl
set_option maxRecDepth 20000 in
theorem c_X11_bared (l : Launch) (D : va_G) (K : Nat → ClassId) (x : Nat → Nat) (fs : Nat → Int32) (hfs : ∀ j, j < 4 → fs j = -1) (p0 : Int32) (p1 : Int32) : Ro l D K yX11_bared cX11_bared 3 (some .int) 2 43 [.ref (x 0), .int p0, .int p1] (fxL K x fs) (fun r => r = (-2)) := by
  refine ro_of (by decide) (Nat.le_of_ble_eq_true rfl) ?_
  intro p e s m below meth c hC hr hk hE hP ls hl
  have hC : CallFix p m c cX11_bared 3 s [.ref (x 0), .int p0, .int p1].toArray wl RX11 := hC
  have hx := hC.1
  have hb := hC.2.1
  have hml := hC.2.2.1
  have hown := hC.2.2.2.1
  have hts := hC.2.2.2.2
  have hl : lv_has ls 3 [(0, .ref (x 0)), (1, .int p0), (2, .int p1)] := hl
  refine lv_aload_n hx hb dX11_bared_0 rfl (lv_at hl 0 rfl) ?_
  refine lv_iload_n hx hb dX11_bared_1 rfl (lv_at hl 1 rfl) ?_
  refine lv_iload_n hx hb dX11_bared_2 rfl (lv_at hl 2 rfl) ?_
  refine ro_V (As := [.int p0, .int p1]) (rest := []) hC hE kV_X11_236 (c_X11_arePlaces l D K x fs hfs p0 p1) hP 0 10 rfl rfl rfl hl.1 rfl (Nat.le_of_ble_eq_true rfl) (by decide) (by decide) dX11_bared_3 (fun r hq => ?_)
  subst hq
  refine lv_if_eq (tgt := 18) hx hb dX11_bared_6 (by decide) (fun _ => ?_) (fun h => absurd h (by decide))
  refine lv_bipush (v := (-2)) hx hb dX11_bared_18 (by decide) ?_
  exact ro_ret hC hr hk dX11_bared_20 rfl
set_option maxRecDepth 20000 in
theorem c_X11_gather (l : Launch) (D : va_G) (K : Nat → ClassId) (x : Nat → Nat) (fs : Nat → Int32) (hfs : ∀ j, j < 4 → fs j = -1) (p0 : Int32) : Ro l D K yX11_gather cX11_gather 2 (some .int) 2 41 [.ref (x 0), .int p0] (fxL K x fs) (fun r => r = (-2)) := by
  refine ro_of (by decide) (Nat.le_of_ble_eq_true rfl) ?_
  intro p e s m below meth c hC hr hk hE hP ls hl
  have hC : CallFix p m c cX11_gather 2 s [.ref (x 0), .int p0].toArray wl RX11 := hC
  have hx := hC.1
  have hb := hC.2.1
  have hml := hC.2.2.1
  have hown := hC.2.2.2.1
  have hts := hC.2.2.2.2
  have hl : lv_has ls 2 [(0, .ref (x 0)), (1, .int p0)] := hl
  refine lv_aload_n hx hb dX11_gather_0 rfl (lv_at hl 0 rfl) ?_
  refine va_get (D := D) (ci := 10) (v := .ref (x 2)) (C := RX11) (T := TX11) (N := 12) hx hb hts in_X11 hown hE.1 hP 0 rfl rfl 1 (by decide) (hts _ w_52) (fun _ h9 => h9) rfl dX11_gather_1 ?_
  refine lv_iload_n hx hb dX11_gather_4 rfl (lv_at hl 1 rfl) ?_
  refine ro_V (As := [.int p0]) (rest := []) hC hE kV_X11_140 (c_X10_hasSet l D K (x 2) (fun k => x (10 + k)) p0) (hP.sub (ws' := [(x 2, .inr (9, [.ref (x 10), .ref (x 11), .ref (x 12), .ref (x 13), .ref (x 14), .ref (x 15), .ref (x 16), .ref (x 17), .int 0, .int 0, .int 0, .int 0]))]) [2] rfl) 0 9 rfl rfl rfl hl.1 rfl (Nat.le_of_ble_eq_true rfl) (by decide) (by decide) dX11_gather_5 (fun r hq => ?_)
  subst hq
  refine lv_if_ne (tgt := 14) hx hb dX11_gather_8 (by decide) (fun h => absurd h (by decide)) (fun _ => ?_)
  refine lv_bipush (v := (-2)) hx hb dX11_gather_11 (by decide) ?_
  exact ro_ret hC hr hk dX11_gather_13 rfl
set_option maxRecDepth 20000 in
theorem c_X11_gathers (l : Launch) (D : va_G) (K : Nat → ClassId) (x : Nat → Nat) (fs : Nat → Int32) (hfs : ∀ j, j < 4 → fs j = -1) (p0 : Int32) (p1 : Int32) : Ro l D K yX11_gathers cX11_gathers 3 (some .int) 2 41 [.ref (x 0), .int p0, .int p1] (fxL K x fs) (fun r => r = (-2)) := by
  refine ro_of (by decide) (Nat.le_of_ble_eq_true rfl) ?_
  intro p e s m below meth c hC hr hk hE hP ls hl
  have hC : CallFix p m c cX11_gathers 3 s [.ref (x 0), .int p0, .int p1].toArray wl RX11 := hC
  have hx := hC.1
  have hb := hC.2.1
  have hml := hC.2.2.1
  have hown := hC.2.2.2.1
  have hts := hC.2.2.2.2
  have hl : lv_has ls 3 [(0, .ref (x 0)), (1, .int p0), (2, .int p1)] := hl
  refine lv_aload_n hx hb dX11_gathers_0 rfl (lv_at hl 0 rfl) ?_
  refine va_get (D := D) (ci := 10) (v := .ref (x 2)) (C := RX11) (T := TX11) (N := 12) hx hb hts in_X11 hown hE.1 hP 0 rfl rfl 1 (by decide) (hts _ w_52) (fun _ h9 => h9) rfl dX11_gathers_1 ?_
  refine lv_iload_n hx hb dX11_gathers_4 rfl (lv_at hl 1 rfl) ?_
  refine ro_V (As := [.int p0]) (rest := []) hC hE kV_X11_140 (c_X10_hasSet l D K (x 2) (fun k => x (10 + k)) p0) (hP.sub (ws' := [(x 2, .inr (9, [.ref (x 10), .ref (x 11), .ref (x 12), .ref (x 13), .ref (x 14), .ref (x 15), .ref (x 16), .ref (x 17), .int 0, .int 0, .int 0, .int 0]))]) [2] rfl) 0 9 rfl rfl rfl hl.1 rfl (Nat.le_of_ble_eq_true rfl) (by decide) (by decide) dX11_gathers_5 (fun r hq => ?_)
  subst hq
  refine lv_if_ne (tgt := 14) hx hb dX11_gathers_8 (by decide) (fun h => absurd h (by decide)) (fun _ => ?_)
  refine lv_bipush (v := (-2)) hx hb dX11_gathers_11 (by decide) ?_
  exact ro_ret hC hr hk dX11_gathers_13 rfl
set_option maxRecDepth 20000 in
theorem c_X11_roundabout (l : Launch) (D : va_G) (K : Nat → ClassId) (x : Nat → Nat) (fs : Nat → Int32) (hfs : ∀ j, j < 4 → fs j = -1) (p0 : Int32) : Ro l D K yX11_roundabout cX11_roundabout 2 (some .int) 2 41 [.ref (x 0), .int p0] (fxL K x fs) (fun r => r = (-2)) := by
  refine ro_of (by decide) (Nat.le_of_ble_eq_true rfl) ?_
  intro p e s m below meth c hC hr hk hE hP ls hl
  have hC : CallFix p m c cX11_roundabout 2 s [.ref (x 0), .int p0].toArray wl RX11 := hC
  have hx := hC.1
  have hb := hC.2.1
  have hml := hC.2.2.1
  have hown := hC.2.2.2.1
  have hts := hC.2.2.2.2
  have hl : lv_has ls 2 [(0, .ref (x 0)), (1, .int p0)] := hl
  refine lv_aload_n hx hb dX11_roundabout_0 rfl (lv_at hl 0 rfl) ?_
  refine va_get (D := D) (ci := 10) (v := .ref (x 2)) (C := RX11) (T := TX11) (N := 12) hx hb hts in_X11 hown hE.1 hP 0 rfl rfl 1 (by decide) (hts _ w_52) (fun _ h9 => h9) rfl dX11_roundabout_1 ?_
  refine lv_iload_n hx hb dX11_roundabout_4 rfl (lv_at hl 1 rfl) ?_
  refine ro_V (As := [.int p0]) (rest := []) hC hE kV_X11_140 (c_X10_hasSet l D K (x 2) (fun k => x (10 + k)) p0) (hP.sub (ws' := [(x 2, .inr (9, [.ref (x 10), .ref (x 11), .ref (x 12), .ref (x 13), .ref (x 14), .ref (x 15), .ref (x 16), .ref (x 17), .int 0, .int 0, .int 0, .int 0]))]) [2] rfl) 0 9 rfl rfl rfl hl.1 rfl (Nat.le_of_ble_eq_true rfl) (by decide) (by decide) dX11_roundabout_5 (fun r hq => ?_)
  subst hq
  refine lv_if_ne (tgt := 14) hx hb dX11_roundabout_8 (by decide) (fun h => absurd h (by decide)) (fun _ => ?_)
  refine lv_bipush (v := (-2)) hx hb dX11_roundabout_11 (by decide) ?_
  exact ro_ret hC hr hk dX11_roundabout_13 rfl
set_option maxRecDepth 20000 in
theorem c_X11_meet (l : Launch) (D : va_G) (K : Nat → ClassId) (x : Nat → Nat) (fs : Nat → Int32) (hfs : ∀ j, j < 4 → fs j = -1) (p0 : Int32) (p1 : Int32) : Ro l D K yX11_meet cX11_meet 3 (some .int) 2 43 [.ref (x 0), .int p0, .int p1] (fxL K x fs) (fun r => r = (-2)) := by
  refine ro_of (by decide) (Nat.le_of_ble_eq_true rfl) ?_
  intro p e s m below meth c hC hr hk hE hP ls hl
  have hC : CallFix p m c cX11_meet 3 s [.ref (x 0), .int p0, .int p1].toArray wl RX11 := hC
  have hx := hC.1
  have hb := hC.2.1
  have hml := hC.2.2.1
  have hown := hC.2.2.2.1
  have hts := hC.2.2.2.2
  have hl : lv_has ls 3 [(0, .ref (x 0)), (1, .int p0), (2, .int p1)] := hl
  refine lv_aload_n hx hb dX11_meet_0 rfl (lv_at hl 0 rfl) ?_
  refine lv_iload_n hx hb dX11_meet_1 rfl (lv_at hl 1 rfl) ?_
  refine lv_iload_n hx hb dX11_meet_2 rfl (lv_at hl 2 rfl) ?_
  refine ro_V (As := [.int p0, .int p1]) (rest := []) hC hE kV_X11_236 (c_X11_arePlaces l D K x fs hfs p0 p1) hP 0 10 rfl rfl rfl hl.1 rfl (Nat.le_of_ble_eq_true rfl) (by decide) (by decide) dX11_meet_3 (fun r hq => ?_)
  subst hq
  refine lv_if_ne (tgt := 12) hx hb dX11_meet_6 (by decide) (fun h => absurd h (by decide)) (fun _ => ?_)
  refine lv_bipush (v := (-2)) hx hb dX11_meet_9 (by decide) ?_
  exact ro_ret hC hr hk dX11_meet_11 rfl
set_option maxRecDepth 20000 in
theorem c_X11_met (l : Launch) (D : va_G) (K : Nat → ClassId) (x : Nat → Nat) (fs : Nat → Int32) (hfs : ∀ j, j < 4 → fs j = -1) (p0 : Int32) (p1 : Int32) : Ro l D K yX11_met cX11_met 4 (some .int) 2 43 [.ref (x 0), .int p0, .int p1] (fxL K x fs) (fun r => r = (-2)) := by
  refine ro_of (by decide) (Nat.le_of_ble_eq_true rfl) ?_
  intro p e s m below meth c hC hr hk hE hP ls hl
  have hC : CallFix p m c cX11_met 4 s [.ref (x 0), .int p0, .int p1].toArray wl RX11 := hC
  have hx := hC.1
  have hb := hC.2.1
  have hml := hC.2.2.1
  have hown := hC.2.2.2.1
  have hts := hC.2.2.2.2
  have hl : lv_has ls 4 [(0, .ref (x 0)), (1, .int p0), (2, .int p1)] := hl
  refine lv_aload_n hx hb dX11_met_0 rfl (lv_at hl 0 rfl) ?_
  refine lv_iload_n hx hb dX11_met_1 rfl (lv_at hl 1 rfl) ?_
  refine lv_iload_n hx hb dX11_met_2 rfl (lv_at hl 2 rfl) ?_
  refine ro_V (As := [.int p0, .int p1]) (rest := []) hC hE kV_X11_236 (c_X11_arePlaces l D K x fs hfs p0 p1) hP 0 10 rfl rfl rfl hl.1 rfl (Nat.le_of_ble_eq_true rfl) (by decide) (by decide) dX11_met_3 (fun r hq => ?_)
  subst hq
  refine lv_if_ne (tgt := 12) hx hb dX11_met_6 (by decide) (fun h => absurd h (by decide)) (fun _ => ?_)
  refine lv_bipush (v := (-2)) hx hb dX11_met_9 (by decide) ?_
  exact ro_ret hC hr hk dX11_met_11 rfl
set_option maxRecDepth 20000 in
theorem c_X11_read (l : Launch) (D : va_G) (K : Nat → ClassId) (x : Nat → Nat) (fs : Nat → Int32) (hfs : ∀ j, j < 4 → fs j = -1) (p0 : Int32) : Ro l D K yX11_read cX11_read 3 (some .int) 2 42 [.ref (x 0), .int p0] (fxL K x fs) (fun r => r = (-2)) := by
  refine ro_of (by decide) (Nat.le_of_ble_eq_true rfl) ?_
  intro p e s m below meth c hC hr hk hE hP ls hl
  have hC : CallFix p m c cX11_read 3 s [.ref (x 0), .int p0].toArray wl RX11 := hC
  have hx := hC.1
  have hb := hC.2.1
  have hml := hC.2.2.1
  have hown := hC.2.2.2.1
  have hts := hC.2.2.2.2
  have hl : lv_has ls 3 [(0, .ref (x 0)), (1, .int p0)] := hl
  refine lv_aload_n hx hb dX11_read_0 rfl (lv_at hl 0 rfl) ?_
  refine lv_iload_n hx hb dX11_read_1 rfl (lv_at hl 1 rfl) ?_
  refine ro_V (As := [.int p0]) (rest := []) hC hE kV_X11_269 (c_X11_refuseReading l D K x fs hfs p0) hP 0 10 rfl rfl rfl hl.1 rfl (Nat.le_of_ble_eq_true rfl) (by decide) (by decide) dX11_read_2 (fun r hq => ?_)
  subst hq
  refine lv_istore_n (lv' := [(2, .int (-2)), (0, .ref (x 0)), (1, .int p0)]) hx hb dX11_read_5 rfl hl (by decide) rfl (fun ls hl => ?_)
  refine lv_iload_n hx hb dX11_read_6 rfl (lv_at hl 0 rfl) ?_
  refine lv_if_eq (tgt := 14) hx hb dX11_read_7 (by decide) (fun h => absurd h (by decide)) (fun _ => ?_)
  refine lv_iload_n hx hb dX11_read_10 rfl (lv_at hl 0 rfl) ?_
  refine lv_goto (tgt := 26) hx hb dX11_read_11 (by decide) ?_
  exact ro_ret hC hr hk dX11_read_26 rfl
set_option maxRecDepth 20000 in
theorem c_X11_began (l : Launch) (D : va_G) (K : Nat → ClassId) (x : Nat → Nat) (fs : Nat → Int32) (hfs : ∀ j, j < 4 → fs j = -1) (p0 : Int32) : Ro l D K yX11_began cX11_began 5 (some .int) 2 42 [.ref (x 0), .int p0] (fxL K x fs) (fun r => r = (-2)) := by
  refine ro_of (by decide) (Nat.le_of_ble_eq_true rfl) ?_
  intro p e s m below meth c hC hr hk hE hP ls hl
  have hC : CallFix p m c cX11_began 5 s [.ref (x 0), .int p0].toArray wl RX11 := hC
  have hx := hC.1
  have hb := hC.2.1
  have hml := hC.2.2.1
  have hown := hC.2.2.2.1
  have hts := hC.2.2.2.2
  have hl : lv_has ls 5 [(0, .ref (x 0)), (1, .int p0)] := hl
  refine lv_aload_n hx hb dX11_began_0 rfl (lv_at hl 0 rfl) ?_
  refine lv_iload_n hx hb dX11_began_1 rfl (lv_at hl 1 rfl) ?_
  refine ro_V (As := [.int p0]) (rest := []) hC hE kV_X11_269 (c_X11_refuseReading l D K x fs hfs p0) hP 0 10 rfl rfl rfl hl.1 rfl (Nat.le_of_ble_eq_true rfl) (by decide) (by decide) dX11_began_2 (fun r hq => ?_)
  subst hq
  refine lv_istore_n (lv' := [(2, .int (-2)), (0, .ref (x 0)), (1, .int p0)]) hx hb dX11_began_5 rfl hl (by decide) rfl (fun ls hl => ?_)
  refine lv_iload_n hx hb dX11_began_6 rfl (lv_at hl 0 rfl) ?_
  refine lv_if_eq (tgt := 12) hx hb dX11_began_7 (by decide) (fun h => absurd h (by decide)) (fun _ => ?_)
  refine lv_iload_n hx hb dX11_began_10 rfl (lv_at hl 0 rfl) ?_
  exact ro_ret hC hr hk dX11_began_11 rfl
set_option maxRecDepth 20000 in
theorem c_X11_ask (l : Launch) (D : va_G) (K : Nat → ClassId) (x : Nat → Nat) (fs : Nat → Int32) (hfs : ∀ j, j < 4 → fs j = -1) (p0 : Int32) : Ro l D K yX11_ask cX11_ask 3 (some .int) 2 42 [.ref (x 0), .int p0] (fxL K x fs) (fun r => r = (-2)) := by
  refine ro_of (by decide) (Nat.le_of_ble_eq_true rfl) ?_
  intro p e s m below meth c hC hr hk hE hP ls hl
  have hC : CallFix p m c cX11_ask 3 s [.ref (x 0), .int p0].toArray wl RX11 := hC
  have hx := hC.1
  have hb := hC.2.1
  have hml := hC.2.2.1
  have hown := hC.2.2.2.1
  have hts := hC.2.2.2.2
  have hl : lv_has ls 3 [(0, .ref (x 0)), (1, .int p0)] := hl
  refine lv_aload_n hx hb dX11_ask_0 rfl (lv_at hl 0 rfl) ?_
  refine lv_iload_n hx hb dX11_ask_1 rfl (lv_at hl 1 rfl) ?_
  refine ro_V (As := [.int p0]) (rest := []) hC hE kV_X11_269 (c_X11_refuseReading l D K x fs hfs p0) hP 0 10 rfl rfl rfl hl.1 rfl (Nat.le_of_ble_eq_true rfl) (by decide) (by decide) dX11_ask_2 (fun r hq => ?_)
  subst hq
  refine lv_istore_n (lv' := [(2, .int (-2)), (0, .ref (x 0)), (1, .int p0)]) hx hb dX11_ask_5 rfl hl (by decide) rfl (fun ls hl => ?_)
  refine lv_iload_n hx hb dX11_ask_6 rfl (lv_at hl 0 rfl) ?_
  refine lv_if_eq (tgt := 14) hx hb dX11_ask_7 (by decide) (fun h => absurd h (by decide)) (fun _ => ?_)
  refine lv_iload_n hx hb dX11_ask_10 rfl (lv_at hl 0 rfl) ?_
  refine lv_goto (tgt := 30) hx hb dX11_ask_11 (by decide) ?_
  exact ro_ret hC hr hk dX11_ask_30 rfl
set_option maxRecDepth 20000 in
theorem c_X11_leaves (l : Launch) (D : va_G) (K : Nat → ClassId) (x : Nat → Nat) (fs : Nat → Int32) (hfs : ∀ j, j < 4 → fs j = -1) (p0 : Int32) : Ro l D K yX11_leaves cX11_leaves 4 (some .int) 2 42 [.ref (x 0), .int p0] (fxL K x fs) (fun r => r = (-2)) := by
  refine ro_of (by decide) (Nat.le_of_ble_eq_true rfl) ?_
  intro p e s m below meth c hC hr hk hE hP ls hl
  have hC : CallFix p m c cX11_leaves 4 s [.ref (x 0), .int p0].toArray wl RX11 := hC
  have hx := hC.1
  have hb := hC.2.1
  have hml := hC.2.2.1
  have hown := hC.2.2.2.1
  have hts := hC.2.2.2.2
  have hl : lv_has ls 4 [(0, .ref (x 0)), (1, .int p0)] := hl
  refine lv_aload_n hx hb dX11_leaves_0 rfl (lv_at hl 0 rfl) ?_
  refine lv_iload_n hx hb dX11_leaves_1 rfl (lv_at hl 1 rfl) ?_
  refine ro_V (As := [.int p0]) (rest := []) hC hE kV_X11_269 (c_X11_refuseReading l D K x fs hfs p0) hP 0 10 rfl rfl rfl hl.1 rfl (Nat.le_of_ble_eq_true rfl) (by decide) (by decide) dX11_leaves_2 (fun r hq => ?_)
  subst hq
  refine lv_istore_n (lv' := [(2, .int (-2)), (0, .ref (x 0)), (1, .int p0)]) hx hb dX11_leaves_5 rfl hl (by decide) rfl (fun ls hl => ?_)
  refine lv_iload_n hx hb dX11_leaves_6 rfl (lv_at hl 0 rfl) ?_
  refine lv_if_eq (tgt := 12) hx hb dX11_leaves_7 (by decide) (fun h => absurd h (by decide)) (fun _ => ?_)
  refine lv_iload_n hx hb dX11_leaves_10 rfl (lv_at hl 0 rfl) ?_
  exact ro_ret hC hr hk dX11_leaves_11 rfl
set_option maxRecDepth 20000 in
theorem c_X11_course (l : Launch) (D : va_G) (K : Nat → ClassId) (x : Nat → Nat) (fs : Nat → Int32) (hfs : ∀ j, j < 4 → fs j = -1) (p0 : Int32) (p1 : Int32) : Ro l D K yX11_course cX11_course 4 (some .int) 3 65 [.ref (x 0), .int p0, .int p1] (fxL K x fs) (fun r => r = (-2)) := by
  refine ro_of (by decide) (Nat.le_of_ble_eq_true rfl) ?_
  intro p e s m below meth c hC hr hk hE hP ls hl
  have hC : CallFix p m c cX11_course 4 s [.ref (x 0), .int p0, .int p1].toArray wl RX11 := hC
  have hx := hC.1
  have hb := hC.2.1
  have hml := hC.2.2.1
  have hown := hC.2.2.2.1
  have hts := hC.2.2.2.2
  have hl : lv_has ls 4 [(0, .ref (x 0)), (1, .int p0), (2, .int p1)] := hl
  refine lv_aload_n hx hb dX11_course_0 rfl (lv_at hl 0 rfl) ?_
  refine lv_iload_n hx hb dX11_course_1 rfl (lv_at hl 1 rfl) ?_
  refine lv_iload_n hx hb dX11_course_2 rfl (lv_at hl 2 rfl) ?_
  refine ro_V (As := [.int p0, .int p1]) (rest := []) hC hE kV_X11_191 (c_X11_refuseWalk l D K x fs hfs p0 p1) hP 0 10 rfl rfl rfl hl.1 rfl (Nat.le_of_ble_eq_true rfl) (by decide) (by decide) dX11_course_3 (fun r hq => ?_)
  subst hq
  refine lv_istore_n (lv' := [(3, .int (-2)), (0, .ref (x 0)), (1, .int p0), (2, .int p1)]) hx hb dX11_course_6 rfl hl (by decide) rfl (fun ls hl => ?_)
  refine lv_iload_n hx hb dX11_course_7 rfl (lv_at hl 0 rfl) ?_
  refine lv_if_eq (tgt := 13) hx hb dX11_course_8 (by decide) (fun h => absurd h (by decide)) (fun _ => ?_)
  refine lv_iload_n hx hb dX11_course_11 rfl (lv_at hl 0 rfl) ?_
  exact ro_ret hC hr hk dX11_course_12 rfl
set_option maxRecDepth 20000 in
theorem c_X11_lesson (l : Launch) (D : va_G) (K : Nat → ClassId) (x : Nat → Nat) (fs : Nat → Int32) (hfs : ∀ j, j < 4 → fs j = -1) (p0 : Int32) (p1 : Int32) (p2 : Int32) : Ro l D K yX11_lesson cX11_lesson 5 (some .int) 3 65 [.ref (x 0), .int p0, .int p1, .int p2] (fxL K x fs) (fun r => r = (-2)) := by
  refine ro_of (by decide) (Nat.le_of_ble_eq_true rfl) ?_
  intro p e s m below meth c hC hr hk hE hP ls hl
  have hC : CallFix p m c cX11_lesson 5 s [.ref (x 0), .int p0, .int p1, .int p2].toArray wl RX11 := hC
  have hx := hC.1
  have hb := hC.2.1
  have hml := hC.2.2.1
  have hown := hC.2.2.2.1
  have hts := hC.2.2.2.2
  have hl : lv_has ls 5 [(0, .ref (x 0)), (1, .int p0), (2, .int p1), (3, .int p2)] := hl
  refine lv_aload_n hx hb dX11_lesson_0 rfl (lv_at hl 0 rfl) ?_
  refine lv_iload_n hx hb dX11_lesson_1 rfl (lv_at hl 1 rfl) ?_
  refine lv_iload_n hx hb dX11_lesson_2 rfl (lv_at hl 2 rfl) ?_
  refine ro_V (As := [.int p0, .int p1]) (rest := []) hC hE kV_X11_191 (c_X11_refuseWalk l D K x fs hfs p0 p1) hP 0 10 rfl rfl rfl hl.1 rfl (Nat.le_of_ble_eq_true rfl) (by decide) (by decide) dX11_lesson_3 (fun r hq => ?_)
  subst hq
  refine lv_istore (lv' := [(4, .int (-2)), (0, .ref (x 0)), (1, .int p0), (2, .int p1), (3, .int p2)]) hx hb dX11_lesson_6 hl (by decide) rfl (fun ls hl => ?_)
  refine lv_iload hx hb dX11_lesson_8 (lv_at hl 0 rfl) ?_
  refine lv_if_eq (tgt := 16) hx hb dX11_lesson_10 (by decide) (fun h => absurd h (by decide)) (fun _ => ?_)
  refine lv_iload hx hb dX11_lesson_13 (lv_at hl 0 rfl) ?_
  exact ro_ret hC hr hk dX11_lesson_15 rfl
set_option maxRecDepth 20000 in
theorem c_X11_spoilt (l : Launch) (D : va_G) (K : Nat → ClassId) (x : Nat → Nat) (fs : Nat → Int32) (hfs : ∀ j, j < 4 → fs j = -1) (p0 : Int32) (p1 : Int32) : Ro l D K yX11_spoilt cX11_spoilt 4 (some .int) 3 65 [.ref (x 0), .int p0, .int p1] (fxL K x fs) (fun r => r = (-2)) := by
  refine ro_of (by decide) (Nat.le_of_ble_eq_true rfl) ?_
  intro p e s m below meth c hC hr hk hE hP ls hl
  have hC : CallFix p m c cX11_spoilt 4 s [.ref (x 0), .int p0, .int p1].toArray wl RX11 := hC
  have hx := hC.1
  have hb := hC.2.1
  have hml := hC.2.2.1
  have hown := hC.2.2.2.1
  have hts := hC.2.2.2.2
  have hl : lv_has ls 4 [(0, .ref (x 0)), (1, .int p0), (2, .int p1)] := hl
  refine lv_aload_n hx hb dX11_spoilt_0 rfl (lv_at hl 0 rfl) ?_
  refine lv_iload_n hx hb dX11_spoilt_1 rfl (lv_at hl 1 rfl) ?_
  refine lv_iload_n hx hb dX11_spoilt_2 rfl (lv_at hl 2 rfl) ?_
  refine ro_V (As := [.int p0, .int p1]) (rest := []) hC hE kV_X11_191 (c_X11_refuseWalk l D K x fs hfs p0 p1) hP 0 10 rfl rfl rfl hl.1 rfl (Nat.le_of_ble_eq_true rfl) (by decide) (by decide) dX11_spoilt_3 (fun r hq => ?_)
  subst hq
  refine lv_istore_n (lv' := [(3, .int (-2)), (0, .ref (x 0)), (1, .int p0), (2, .int p1)]) hx hb dX11_spoilt_6 rfl hl (by decide) rfl (fun ls hl => ?_)
  refine lv_iload_n hx hb dX11_spoilt_7 rfl (lv_at hl 0 rfl) ?_
  refine lv_if_eq (tgt := 13) hx hb dX11_spoilt_8 (by decide) (fun h => absurd h (by decide)) (fun _ => ?_)
  refine lv_iload_n hx hb dX11_spoilt_11 rfl (lv_at hl 0 rfl) ?_
  exact ro_ret hC hr hk dX11_spoilt_12 rfl
set_option maxRecDepth 20000 in
theorem c_X11_route (l : Launch) (D : va_G) (K : Nat → ClassId) (x : Nat → Nat) (fs : Nat → Int32) (hfs : ∀ j, j < 4 → fs j = -1) (p0 : Int32) (p1 : Int32) : Ro l D K yX11_route cX11_route 3 (some .int) 2 43 [.ref (x 0), .int p0, .int p1] (fxL K x fs) (fun r => r = (-2)) := by
  refine ro_of (by decide) (Nat.le_of_ble_eq_true rfl) ?_
  intro p e s m below meth c hC hr hk hE hP ls hl
  have hC : CallFix p m c cX11_route 3 s [.ref (x 0), .int p0, .int p1].toArray wl RX11 := hC
  have hx := hC.1
  have hb := hC.2.1
  have hml := hC.2.2.1
  have hown := hC.2.2.2.1
  have hts := hC.2.2.2.2
  have hl : lv_has ls 3 [(0, .ref (x 0)), (1, .int p0), (2, .int p1)] := hl
  refine lv_aload_n hx hb dX11_route_0 rfl (lv_at hl 0 rfl) ?_
  refine lv_iload_n hx hb dX11_route_1 rfl (lv_at hl 1 rfl) ?_
  refine lv_iload_n hx hb dX11_route_2 rfl (lv_at hl 2 rfl) ?_
  refine ro_V (As := [.int p0, .int p1]) (rest := []) hC hE kV_X11_236 (c_X11_arePlaces l D K x fs hfs p0 p1) hP 0 10 rfl rfl rfl hl.1 rfl (Nat.le_of_ble_eq_true rfl) (by decide) (by decide) dX11_route_3 (fun r hq => ?_)
  subst hq
  refine lv_if_eq (tgt := 26) hx hb dX11_route_6 (by decide) (fun _ => ?_) (fun h => absurd h (by decide))
  refine lv_bipush (v := (-2)) hx hb dX11_route_26 (by decide) ?_
  exact ro_ret hC hr hk dX11_route_28 rfl
set_option maxRecDepth 20000 in
theorem c_X11_dark (l : Launch) (D : va_G) (K : Nat → ClassId) (x : Nat → Nat) (fs : Nat → Int32) (hfs : ∀ j, j < 4 → fs j = -1) (p0 : Int32) (p1 : Int32) : Ro l D K yX11_dark cX11_dark 4 (some .int) 2 43 [.ref (x 0), .int p0, .int p1] (fxL K x fs) (fun r => r = (-2)) := by
  refine ro_of (by decide) (Nat.le_of_ble_eq_true rfl) ?_
  intro p e s m below meth c hC hr hk hE hP ls hl
  have hC : CallFix p m c cX11_dark 4 s [.ref (x 0), .int p0, .int p1].toArray wl RX11 := hC
  have hx := hC.1
  have hb := hC.2.1
  have hml := hC.2.2.1
  have hown := hC.2.2.2.1
  have hts := hC.2.2.2.2
  have hl : lv_has ls 4 [(0, .ref (x 0)), (1, .int p0), (2, .int p1)] := hl
  refine lv_aload_n hx hb dX11_dark_0 rfl (lv_at hl 0 rfl) ?_
  refine lv_iload_n hx hb dX11_dark_1 rfl (lv_at hl 1 rfl) ?_
  refine lv_iload_n hx hb dX11_dark_2 rfl (lv_at hl 2 rfl) ?_
  refine ro_V (As := [.int p0, .int p1]) (rest := []) hC hE kV_X11_236 (c_X11_arePlaces l D K x fs hfs p0 p1) hP 0 10 rfl rfl rfl hl.1 rfl (Nat.le_of_ble_eq_true rfl) (by decide) (by decide) dX11_dark_3 (fun r hq => ?_)
  subst hq
  refine lv_if_ne (tgt := 12) hx hb dX11_dark_6 (by decide) (fun h => absurd h (by decide)) (fun _ => ?_)
  refine lv_bipush (v := (-2)) hx hb dX11_dark_9 (by decide) ?_
  exact ro_ret hC hr hk dX11_dark_11 rfl
set_option maxRecDepth 20000 in
theorem c_X11_detour (l : Launch) (D : va_G) (K : Nat → ClassId) (x : Nat → Nat) (fs : Nat → Int32) (hfs : ∀ j, j < 4 → fs j = -1) (p0 : Int32) (p1 : Int32) : Ro l D K yX11_detour cX11_detour 4 (some .int) 2 43 [.ref (x 0), .int p0, .int p1] (fxL K x fs) (fun r => r = (-2)) := by
  refine ro_of (by decide) (Nat.le_of_ble_eq_true rfl) ?_
  intro p e s m below meth c hC hr hk hE hP ls hl
  have hC : CallFix p m c cX11_detour 4 s [.ref (x 0), .int p0, .int p1].toArray wl RX11 := hC
  have hx := hC.1
  have hb := hC.2.1
  have hml := hC.2.2.1
  have hown := hC.2.2.2.1
  have hts := hC.2.2.2.2
  have hl : lv_has ls 4 [(0, .ref (x 0)), (1, .int p0), (2, .int p1)] := hl
  refine lv_aload_n hx hb dX11_detour_0 rfl (lv_at hl 0 rfl) ?_
  refine lv_iload_n hx hb dX11_detour_1 rfl (lv_at hl 1 rfl) ?_
  refine lv_iload_n hx hb dX11_detour_2 rfl (lv_at hl 2 rfl) ?_
  refine ro_V (As := [.int p0, .int p1]) (rest := []) hC hE kV_X11_236 (c_X11_arePlaces l D K x fs hfs p0 p1) hP 0 10 rfl rfl rfl hl.1 rfl (Nat.le_of_ble_eq_true rfl) (by decide) (by decide) dX11_detour_3 (fun r hq => ?_)
  subst hq
  refine lv_if_ne (tgt := 12) hx hb dX11_detour_6 (by decide) (fun h => absurd h (by decide)) (fun _ => ?_)
  refine lv_bipush (v := (-2)) hx hb dX11_detour_9 (by decide) ?_
  exact ro_ret hC hr hk dX11_detour_11 rfl
set_option maxRecDepth 20000 in
theorem c_X11_fog (l : Launch) (D : va_G) (K : Nat → ClassId) (x : Nat → Nat) (fs : Nat → Int32) (hfs : ∀ j, j < 4 → fs j = -1) (p0 : Int32) (p1 : Int32) (p2 : Int32) (p3 : Int32) : Ro l D K yX11_fog cX11_fog 7 (some .int) 2 43 [.ref (x 0), .int p0, .int p1, .int p2, .int p3] (fxL K x fs) (fun r => r = (-2)) := by
  refine ro_of (by decide) (Nat.le_of_ble_eq_true rfl) ?_
  intro p e s m below meth c hC hr hk hE hP ls hl
  have hC : CallFix p m c cX11_fog 7 s [.ref (x 0), .int p0, .int p1, .int p2, .int p3].toArray wl RX11 := hC
  have hx := hC.1
  have hb := hC.2.1
  have hml := hC.2.2.1
  have hown := hC.2.2.2.1
  have hts := hC.2.2.2.2
  have hl : lv_has ls 7 [(0, .ref (x 0)), (1, .int p0), (2, .int p1), (3, .int p2), (4, .int p3)] := hl
  refine lv_aload_n hx hb dX11_fog_0 rfl (lv_at hl 0 rfl) ?_
  refine lv_iload_n hx hb dX11_fog_1 rfl (lv_at hl 1 rfl) ?_
  refine lv_iload_n hx hb dX11_fog_2 rfl (lv_at hl 2 rfl) ?_
  refine ro_V (As := [.int p0, .int p1]) (rest := []) hC hE kV_X11_236 (c_X11_arePlaces l D K x fs hfs p0 p1) hP 0 10 rfl rfl rfl hl.1 rfl (Nat.le_of_ble_eq_true rfl) (by decide) (by decide) dX11_fog_3 (fun r hq => ?_)
  subst hq
  refine lv_if_eq (tgt := 27) hx hb dX11_fog_6 (by decide) (fun _ => ?_) (fun h => absurd h (by decide))
  refine lv_bipush (v := (-2)) hx hb dX11_fog_27 (by decide) ?_
  exact ro_ret hC hr hk dX11_fog_29 rfl
set_option maxRecDepth 20000 in
theorem c_X11_likely (l : Launch) (D : va_G) (K : Nat → ClassId) (x : Nat → Nat) (fs : Nat → Int32) (hfs : ∀ j, j < 4 → fs j = -1) (p0 : Int32) (p1 : Int32) : Ro l D K yX11_likely cX11_likely 5 (some .int) 1 21 [.ref (x 0), .int p0, .int p1] (fxL K x fs) (fun r => r = (-2)) := by
  refine ro_of (by decide) (Nat.le_of_ble_eq_true rfl) ?_
  intro p e s m below meth c hC hr hk hE hP ls hl
  have hC : CallFix p m c cX11_likely 5 s [.ref (x 0), .int p0, .int p1].toArray wl RX11 := hC
  have hx := hC.1
  have hb := hC.2.1
  have hml := hC.2.2.1
  have hown := hC.2.2.2.1
  have hts := hC.2.2.2.2
  have hl : lv_has ls 5 [(0, .ref (x 0)), (1, .int p0), (2, .int p1)] := hl
  refine lv_aload_n hx hb dX11_likely_0 rfl (lv_at hl 0 rfl) ?_
  refine va_get (D := D) (ci := 10) (v := .ref (x 2)) (C := RX11) (T := TX11) (N := 12) hx hb hts in_X11 hown hE.1 hP 0 rfl rfl 1 (by decide) (hts _ w_52) (fun _ h9 => h9) rfl dX11_likely_1 ?_
  refine lv_iload_n hx hb dX11_likely_4 rfl (lv_at hl 1 rfl) ?_
  refine ro_V (As := [.int p0]) (rest := []) hC hE kV_X11_126 (c_X10_hasPlace l D K (x 2) (fun k => x (10 + k)) p0) (hP.sub (ws' := [(x 2, .inr (9, [.ref (x 10), .ref (x 11), .ref (x 12), .ref (x 13), .ref (x 14), .ref (x 15), .ref (x 16), .ref (x 17), .int 0, .int 0, .int 0, .int 0]))]) [2] rfl) 0 9 rfl rfl rfl hl.1 rfl (Nat.le_of_ble_eq_true rfl) (by decide) (by decide) dX11_likely_5 (fun r hq => ?_)
  subst hq
  refine lv_if_eq (tgt := 18) hx hb dX11_likely_8 (by decide) (fun _ => ?_) (fun h => absurd h (by decide))
  refine lv_bipush (v := (-2)) hx hb dX11_likely_18 (by decide) ?_
  exact ro_ret hC hr hk dX11_likely_20 rfl
set_option maxRecDepth 20000 in
theorem c_X11_can (l : Launch) (D : va_G) (K : Nat → ClassId) (x : Nat → Nat) (fs : Nat → Int32) (hfs : ∀ j, j < 4 → fs j = -1) (p0 : Int32) (p1 : Int32) : Ro l D K yX11_can cX11_can 3 (some .int) 1 21 [.ref (x 0), .int p0, .int p1] (fxL K x fs) (fun r => r = (-2)) := by
  refine ro_of (by decide) (Nat.le_of_ble_eq_true rfl) ?_
  intro p e s m below meth c hC hr hk hE hP ls hl
  have hC : CallFix p m c cX11_can 3 s [.ref (x 0), .int p0, .int p1].toArray wl RX11 := hC
  have hx := hC.1
  have hb := hC.2.1
  have hml := hC.2.2.1
  have hown := hC.2.2.2.1
  have hts := hC.2.2.2.2
  have hl : lv_has ls 3 [(0, .ref (x 0)), (1, .int p0), (2, .int p1)] := hl
  refine lv_aload_n hx hb dX11_can_0 rfl (lv_at hl 0 rfl) ?_
  refine va_get (D := D) (ci := 10) (v := .ref (x 2)) (C := RX11) (T := TX11) (N := 12) hx hb hts in_X11 hown hE.1 hP 0 rfl rfl 1 (by decide) (hts _ w_52) (fun _ h9 => h9) rfl dX11_can_1 ?_
  refine lv_iload_n hx hb dX11_can_4 rfl (lv_at hl 1 rfl) ?_
  refine ro_V (As := [.int p0]) (rest := []) hC hE kV_X11_126 (c_X10_hasPlace l D K (x 2) (fun k => x (10 + k)) p0) (hP.sub (ws' := [(x 2, .inr (9, [.ref (x 10), .ref (x 11), .ref (x 12), .ref (x 13), .ref (x 14), .ref (x 15), .ref (x 16), .ref (x 17), .int 0, .int 0, .int 0, .int 0]))]) [2] rfl) 0 9 rfl rfl rfl hl.1 rfl (Nat.le_of_ble_eq_true rfl) (by decide) (by decide) dX11_can_5 (fun r hq => ?_)
  subst hq
  refine lv_if_eq (tgt := 27) hx hb dX11_can_8 (by decide) (fun _ => ?_) (fun h => absurd h (by decide))
  refine lv_bipush (v := (-2)) hx hb dX11_can_27 (by decide) ?_
  exact ro_ret hC hr hk dX11_can_29 rfl
set_option maxRecDepth 20000 in
theorem c_X11_lead (l : Launch) (D : va_G) (K : Nat → ClassId) (x : Nat → Nat) (fs : Nat → Int32) (hfs : ∀ j, j < 4 → fs j = -1) (p0 : Int32) (p1 : Int32) (p2 : Int32) : Ro l D K yX11_lead cX11_lead 5 (some .int) 2 43 [.ref (x 0), .int p0, .int p1, .int p2] (fxL K x fs) (fun r => r = (-2)) := by
  refine ro_of (by decide) (Nat.le_of_ble_eq_true rfl) ?_
  intro p e s m below meth c hC hr hk hE hP ls hl
  have hC : CallFix p m c cX11_lead 5 s [.ref (x 0), .int p0, .int p1, .int p2].toArray wl RX11 := hC
  have hx := hC.1
  have hb := hC.2.1
  have hml := hC.2.2.1
  have hown := hC.2.2.2.1
  have hts := hC.2.2.2.2
  have hl : lv_has ls 5 [(0, .ref (x 0)), (1, .int p0), (2, .int p1), (3, .int p2)] := hl
  refine lv_aload_n hx hb dX11_lead_0 rfl (lv_at hl 0 rfl) ?_
  refine lv_iload_n hx hb dX11_lead_1 rfl (lv_at hl 1 rfl) ?_
  refine lv_iload_n hx hb dX11_lead_2 rfl (lv_at hl 3 rfl) ?_
  refine ro_V (As := [.int p0, .int p2]) (rest := []) hC hE kV_X11_236 (c_X11_arePlaces l D K x fs hfs p0 p2) hP 0 10 rfl rfl rfl hl.1 rfl (Nat.le_of_ble_eq_true rfl) (by decide) (by decide) dX11_lead_3 (fun r hq => ?_)
  subst hq
  refine lv_if_eq (tgt := 16) hx hb dX11_lead_6 (by decide) (fun _ => ?_) (fun h => absurd h (by decide))
  refine lv_bipush (v := (-2)) hx hb dX11_lead_16 (by decide) ?_
  exact ro_ret hC hr hk dX11_lead_18 rfl
set_option maxRecDepth 20000 in
theorem c_X11_marks (l : Launch) (D : va_G) (K : Nat → ClassId) (x : Nat → Nat) (fs : Nat → Int32) (hfs : ∀ j, j < 4 → fs j = -1) (p0 : Int32) (p1 : Int32) : Ro l D K yX11_marks cX11_marks 4 (some .int) 1 21 [.ref (x 0), .int p0, .int p1] (fxL K x fs) (fun r => r = (-2)) := by
  refine ro_of (by decide) (Nat.le_of_ble_eq_true rfl) ?_
  intro p e s m below meth c hC hr hk hE hP ls hl
  have hC : CallFix p m c cX11_marks 4 s [.ref (x 0), .int p0, .int p1].toArray wl RX11 := hC
  have hx := hC.1
  have hb := hC.2.1
  have hml := hC.2.2.1
  have hown := hC.2.2.2.1
  have hts := hC.2.2.2.2
  have hl : lv_has ls 4 [(0, .ref (x 0)), (1, .int p0), (2, .int p1)] := hl
  refine lv_aload_n hx hb dX11_marks_0 rfl (lv_at hl 0 rfl) ?_
  refine va_get (D := D) (ci := 10) (v := .ref (x 2)) (C := RX11) (T := TX11) (N := 12) hx hb hts in_X11 hown hE.1 hP 0 rfl rfl 1 (by decide) (hts _ w_52) (fun _ h9 => h9) rfl dX11_marks_1 ?_
  refine lv_iload_n hx hb dX11_marks_4 rfl (lv_at hl 1 rfl) ?_
  refine ro_V (As := [.int p0]) (rest := []) hC hE kV_X11_126 (c_X10_hasPlace l D K (x 2) (fun k => x (10 + k)) p0) (hP.sub (ws' := [(x 2, .inr (9, [.ref (x 10), .ref (x 11), .ref (x 12), .ref (x 13), .ref (x 14), .ref (x 15), .ref (x 16), .ref (x 17), .int 0, .int 0, .int 0, .int 0]))]) [2] rfl) 0 9 rfl rfl rfl hl.1 rfl (Nat.le_of_ble_eq_true rfl) (by decide) (by decide) dX11_marks_5 (fun r hq => ?_)
  subst hq
  refine lv_if_eq (tgt := 18) hx hb dX11_marks_8 (by decide) (fun _ => ?_) (fun h => absurd h (by decide))
  refine lv_bipush (v := (-2)) hx hb dX11_marks_18 (by decide) ?_
  exact ro_ret hC hr hk dX11_marks_20 rfl
set_option maxRecDepth 20000 in
theorem c_X11_drawn (l : Launch) (D : va_G) (K : Nat → ClassId) (x : Nat → Nat) (fs : Nat → Int32) (hfs : ∀ j, j < 4 → fs j = -1) (p0 : Int32) (p1 : Int32) (p2 : Int32) (p3 : Int32) : Ro l D K yX11_drawn cX11_drawn 6 (some .int) 2 42 [.ref (x 0), .int p0, .int p1, .int p2, .int p3] (fxL K x fs) (fun r => r = (-2)) := by
  refine ro_of (by decide) (Nat.le_of_ble_eq_true rfl) ?_
  intro p e s m below meth c hC hr hk hE hP ls hl
  have hC : CallFix p m c cX11_drawn 6 s [.ref (x 0), .int p0, .int p1, .int p2, .int p3].toArray wl RX11 := hC
  have hx := hC.1
  have hb := hC.2.1
  have hml := hC.2.2.1
  have hown := hC.2.2.2.1
  have hts := hC.2.2.2.2
  have hl : lv_has ls 6 [(0, .ref (x 0)), (1, .int p0), (2, .int p1), (3, .int p2), (4, .int p3)] := hl
  refine lv_iload_n hx hb dX11_drawn_0 rfl (lv_at hl 1 rfl) ?_
  refine lv_iload_n hx hb dX11_drawn_1 rfl (lv_at hl 3 rfl) ?_
  refine ro_S (As := [.int p0, .int p2]) (rest := []) hC hE kS_X11_328 (c_X11_isDraw l D K p0 p2) (hP.sub (ws' := []) [] rfl) rfl hl.1 rfl (Nat.le_of_ble_eq_true rfl) (by decide) (by decide) dX11_drawn_2 (fun r26 _ => ?_)
  refine lv_if_eq (tgt := 27) hx hb dX11_drawn_5 (by decide) (fun c27 => ?_) (fun c27 => ?_)
  · refine lv_bipush (v := (-2)) hx hb dX11_drawn_27 (by decide) ?_
    exact ro_ret hC hr hk dX11_drawn_29 rfl
  · refine lv_iload hx hb dX11_drawn_8 (lv_at hl 4 rfl) ?_
    refine lv_if_lt (tgt := 27) hx hb dX11_drawn_10 (by decide) (fun c28 => ?_) (fun c28 => ?_)
    · refine lv_bipush (v := (-2)) hx hb dX11_drawn_27 (by decide) ?_
      exact ro_ret hC hr hk dX11_drawn_29 rfl
    · refine lv_iload hx hb dX11_drawn_13 (lv_at hl 4 rfl) ?_
      refine lv_iconst (v := 2) hx hb dX11_drawn_15 (by decide) ?_
      refine lv_icmp_gt (tgt := 27) hx hb dX11_drawn_16 (by decide) (fun c29 => ?_) (fun c29 => ?_)
      · refine lv_bipush (v := (-2)) hx hb dX11_drawn_27 (by decide) ?_
        exact ro_ret hC hr hk dX11_drawn_29 rfl
      · refine lv_aload_n hx hb dX11_drawn_19 rfl (lv_at hl 0 rfl) ?_
        refine lv_iload_n hx hb dX11_drawn_20 rfl (lv_at hl 2 rfl) ?_
        refine ro_V (As := [.int p1]) (rest := []) hC hE kV_X11_152 (c_X11_stand l D K x fs hfs p1) hP 0 10 rfl rfl rfl hl.1 rfl (Nat.le_of_ble_eq_true rfl) (by decide) (by decide) dX11_drawn_21 (fun r hq => ?_)
        subst hq
        refine lv_if_ne (tgt := 30) hx hb dX11_drawn_24 (by decide) (fun h => absurd h (by decide)) (fun _ => ?_)
        refine lv_bipush (v := (-2)) hx hb dX11_drawn_27 (by decide) ?_
        exact ro_ret hC hr hk dX11_drawn_29 rfl
set_option maxRecDepth 20000 in
theorem c_X11_luck (l : Launch) (D : va_G) (K : Nat → ClassId) (x : Nat → Nat) (fs : Nat → Int32) (hfs : ∀ j, j < 4 → fs j = -1) (p0 : Int32) (p1 : Int32) (p2 : Int32) (p3 : Int32) : Ro l D K yX11_luck cX11_luck 7 (some .int) 1 21 [.ref (x 0), .int p0, .int p1, .int p2, .int p3] (fxL K x fs) (fun r => r = (-2)) := by
  refine ro_of (by decide) (Nat.le_of_ble_eq_true rfl) ?_
  intro p e s m below meth c hC hr hk hE hP ls hl
  have hC : CallFix p m c cX11_luck 7 s [.ref (x 0), .int p0, .int p1, .int p2, .int p3].toArray wl RX11 := hC
  have hx := hC.1
  have hb := hC.2.1
  have hml := hC.2.2.1
  have hown := hC.2.2.2.1
  have hts := hC.2.2.2.2
  have hl : lv_has ls 7 [(0, .ref (x 0)), (1, .int p0), (2, .int p1), (3, .int p2), (4, .int p3)] := hl
  refine lv_iload_n hx hb dX11_luck_0 rfl (lv_at hl 1 rfl) ?_
  refine lv_iload hx hb dX11_luck_1 (lv_at hl 4 rfl) ?_
  refine ro_S (As := [.int p0, .int p3]) (rest := []) hC hE kS_X11_328 (c_X11_isDraw l D K p0 p3) (hP.sub (ws' := []) [] rfl) rfl hl.1 rfl (Nat.le_of_ble_eq_true rfl) (by decide) (by decide) dX11_luck_3 (fun r30 _ => ?_)
  refine lv_if_eq (tgt := 31) hx hb dX11_luck_6 (by decide) (fun c31 => ?_) (fun c31 => ?_)
  · refine lv_bipush (v := (-2)) hx hb dX11_luck_31 (by decide) ?_
    exact ro_ret hC hr hk dX11_luck_33 rfl
  · refine lv_iload_n hx hb dX11_luck_9 rfl (lv_at hl 2 rfl) ?_
    refine lv_iconst (v := 1) hx hb dX11_luck_10 (by decide) ?_
    refine lv_icmp_lt (tgt := 31) hx hb dX11_luck_11 (by decide) (fun c32 => ?_) (fun c32 => ?_)
    · refine lv_bipush (v := (-2)) hx hb dX11_luck_31 (by decide) ?_
      exact ro_ret hC hr hk dX11_luck_33 rfl
    · refine lv_iload_n hx hb dX11_luck_14 rfl (lv_at hl 2 rfl) ?_
      refine lv_bipush (v := 20) hx hb dX11_luck_15 (by decide) ?_
      refine lv_icmp_gt (tgt := 31) hx hb dX11_luck_17 (by decide) (fun c33 => ?_) (fun c33 => ?_)
      · refine lv_bipush (v := (-2)) hx hb dX11_luck_31 (by decide) ?_
        exact ro_ret hC hr hk dX11_luck_33 rfl
      · refine lv_aload_n hx hb dX11_luck_20 rfl (lv_at hl 0 rfl) ?_
        refine va_get (D := D) (ci := 10) (v := .ref (x 2)) (C := RX11) (T := TX11) (N := 12) hx hb hts in_X11 hown hE.1 hP 0 rfl rfl 1 (by decide) (hts _ w_52) (fun _ h9 => h9) rfl dX11_luck_21 ?_
        refine lv_iload_n hx hb dX11_luck_24 rfl (lv_at hl 3 rfl) ?_
        refine ro_V (As := [.int p2]) (rest := []) hC hE kV_X11_334 (c_X10_hasPupil l D K (x 2) (fun k => x (10 + k)) p2) (hP.sub (ws' := [(x 2, .inr (9, [.ref (x 10), .ref (x 11), .ref (x 12), .ref (x 13), .ref (x 14), .ref (x 15), .ref (x 16), .ref (x 17), .int 0, .int 0, .int 0, .int 0]))]) [2] rfl) 0 9 rfl rfl rfl hl.1 rfl (Nat.le_of_ble_eq_true rfl) (by decide) (by decide) dX11_luck_25 (fun r hq => ?_)
        subst hq
        refine lv_if_ne (tgt := 34) hx hb dX11_luck_28 (by decide) (fun h => absurd h (by decide)) (fun _ => ?_)
        refine lv_bipush (v := (-2)) hx hb dX11_luck_31 (by decide) ?_
        exact ro_ret hC hr hk dX11_luck_33 rfl
set_option maxRecDepth 20000 in
theorem c_X11_fault (l : Launch) (D : va_G) (K : Nat → ClassId) (x : Nat → Nat) (fs : Nat → Int32) (hfs : ∀ j, j < 4 → fs j = -1) (p0 : Int32) : Ro l D K yX11_fault cX11_fault 2 (some .int) 0 0 [.ref (x 0), .int p0] (fxL K x fs) (fun r => (p0 = 0 ∧ r = 0) ∨ (¬ p0 = 0 ∧ r = (-1))) := by
  refine ro_of (by decide) (Nat.le_of_ble_eq_true rfl) ?_
  intro p e s m below meth c hC hr hk hE hP ls hl
  have hC : CallFix p m c cX11_fault 2 s [.ref (x 0), .int p0].toArray wl RX11 := hC
  have hx := hC.1
  have hb := hC.2.1
  have hml := hC.2.2.1
  have hown := hC.2.2.2.1
  have hts := hC.2.2.2.2
  have hl : lv_has ls 2 [(0, .ref (x 0)), (1, .int p0)] := hl
  refine lv_iload_n hx hb dX11_fault_0 rfl (lv_at hl 1 rfl) ?_
  refine lv_if_ne (tgt := 12) hx hb dX11_fault_1 (by decide) (fun c34 => ?_) (fun c34 => ?_)
  · refine lv_iload_n hx hb dX11_fault_12 rfl (lv_at hl 1 rfl) ?_
    refine lv_iconst (v := 1) hx hb dX11_fault_13 (by decide) ?_
    refine lv_icmp_ne (tgt := 27) hx hb dX11_fault_14 (by decide) (fun c35 => ?_) (fun c35 => ?_)
    · refine lv_iconst (v := (-1)) hx hb dX11_fault_27 (by decide) ?_
      exact ro_ret hC hr hk dX11_fault_28 (Or.inr (⟨c34, rfl⟩))
    · refine lv_aload_n hx hb dX11_fault_17 rfl (lv_at hl 0 rfl) ?_
      refine va_get (D := D) (ci := 10) (v := .ref (x 1)) (C := RX11) (T := TX11) (N := 12) hx hb hts in_X11 hown hE.1 hP 0 rfl rfl 0 (by decide) (hts _ w_96) (fun _ h9 => h9) rfl dX11_fault_18 ?_
      refine va_get (D := D) (ci := 4) (v := .int (-1)) (C := RX4) (T := TX4) (N := 10) hx hb hts in_X4 hown hE.1 hP 1 rfl rfl 3 (by decide) (hts _ w_107) (fun _ h9 => h9) rfl dX11_fault_21 ?_
      refine lv_goto (tgt := 28) hx hb dX11_fault_24 (by decide) ?_
      exact ro_ret hC hr hk dX11_fault_28 (Or.inr (⟨c34, rfl⟩))
  · refine lv_aload_n hx hb dX11_fault_4 rfl (lv_at hl 0 rfl) ?_
    refine va_get (D := D) (ci := 10) (v := .ref (x 1)) (C := RX11) (T := TX11) (N := 12) hx hb hts in_X11 hown hE.1 hP 0 rfl rfl 0 (by decide) (hts _ w_96) (fun _ h9 => h9) rfl dX11_fault_5 ?_
    refine va_get (D := D) (ci := 4) (v := .int 0) (C := RX4) (T := TX4) (N := 10) hx hb hts in_X4 hown hE.1 hP 1 rfl rfl 2 (by decide) (hts _ w_108) (fun _ h9 => h9) rfl dX11_fault_8 ?_
    exact ro_ret hC hr hk dX11_fault_11 (Or.inl ⟨c34, rfl⟩)
set_option maxRecDepth 20000 in
theorem c_X11_count (l : Launch) (D : va_G) (K : Nat → ClassId) (x : Nat → Nat) (fs : Nat → Int32) (hfs : ∀ j, j < 4 → fs j = -1) (p0 : Int32) : Ro l D K yX11_count cX11_count 2 (some .int) 3 63 [.ref (x 0), .int p0] (fxL K x fs) (fun r => (vp_in p0 9 ∧ r = 0) ∨ (¬ vp_in p0 9 ∧ r = (-1))) := by
  refine ro_of (by decide) (Nat.le_of_ble_eq_true rfl) ?_
  intro p e s m below meth c hC hr hk hE hP ls hl
  have hC : CallFix p m c cX11_count 2 s [.ref (x 0), .int p0].toArray wl RX11 := hC
  have hx := hC.1
  have hb := hC.2.1
  have hml := hC.2.2.1
  have hown := hC.2.2.2.1
  have hts := hC.2.2.2.2
  have hl : lv_has ls 2 [(0, .ref (x 0)), (1, .int p0)] := hl
  refine lv_iload_n hx hb dX11_count_0 rfl (lv_at hl 1 rfl) ?_
  by_cases h9 : vp_in p0 9
  · obtain ⟨j, hj, rfl⟩ := vp_in_of h9 (by decide)
    rcases (show j = 0 ∨ j = 1 ∨ j = 2 ∨ j = 3 ∨ j = 4 ∨ j = 5 ∨ j = 6 ∨ j = 7 ∨ j = 8 by omega) with rfl | rfl | rfl | rfl | rfl | rfl | rfl | rfl | rfl
    · refine lv_tableIn (off := 51) (tgt := 52) hx hb dX11_count_1 (by decide) (by decide) (by decide +kernel) (by decide) ?_
      refine lv_aload_n hx hb dX11_count_52 rfl (lv_at hl 0 rfl) ?_
      refine va_get (D := D) (ci := 10) (v := .ref (x 2)) (C := RX11) (T := TX11) (N := 12) hx hb hts in_X11 hown hE.1 hP 0 rfl rfl 1 (by decide) (hts _ w_52) (fun _ h9 => h9) rfl dX11_count_53 ?_
      refine va_get (D := D) (ci := 9) (v := .int 0) (C := RX10) (T := TX10) (N := 12) hx hb hts in_X10 hown hE.1 hP 2 rfl rfl 8 (by decide) (hts _ w_109) (fun _ h9 => h9) rfl dX11_count_56 ?_
      exact ro_ret hC hr hk dX11_count_59 (Or.inl ⟨(vp_in_nI (by decide) (by decide)), rfl⟩)
    · refine lv_tableIn (off := 59) (tgt := 60) hx hb dX11_count_1 (by decide) (by decide) (by decide +kernel) (by decide) ?_
      refine lv_aload_n hx hb dX11_count_60 rfl (lv_at hl 0 rfl) ?_
      refine va_get (D := D) (ci := 10) (v := .ref (x 2)) (C := RX11) (T := TX11) (N := 12) hx hb hts in_X11 hown hE.1 hP 0 rfl rfl 1 (by decide) (hts _ w_52) (fun _ h9 => h9) rfl dX11_count_61 ?_
      refine ro_V (As := []) (rest := []) hC hE kV_X11_337 (c_X10_waysElsewhere l D K (x 2) (fun k => x (10 + k))) (hP.sub (ws' := [(x 2, .inr (9, [.ref (x 10), .ref (x 11), .ref (x 12), .ref (x 13), .ref (x 14), .ref (x 15), .ref (x 16), .ref (x 17), .int 0, .int 0, .int 0, .int 0]))]) [2] rfl) 0 9 rfl rfl rfl hl.1 rfl (Nat.le_of_ble_eq_true rfl) (by decide) (by decide) dX11_count_64 (fun r hq => ?_)
      subst hq
      exact ro_ret hC hr hk dX11_count_67 (Or.inl ⟨(vp_in_nI (by decide) (by decide)), rfl⟩)
    · refine lv_tableIn (off := 67) (tgt := 68) hx hb dX11_count_1 (by decide) (by decide) (by decide +kernel) (by decide) ?_
      refine lv_aload_n hx hb dX11_count_68 rfl (lv_at hl 0 rfl) ?_
      refine va_get (D := D) (ci := 10) (v := .ref (x 2)) (C := RX11) (T := TX11) (N := 12) hx hb hts in_X11 hown hE.1 hP 0 rfl rfl 1 (by decide) (hts _ w_52) (fun _ h9 => h9) rfl dX11_count_69 ?_
      refine ro_V (As := []) (rest := []) hC hE kV_X11_340 (c_X10_marked l D K (x 2) (fun k => x (10 + k))) (hP.sub (ws' := [(x 2, .inr (9, [.ref (x 10), .ref (x 11), .ref (x 12), .ref (x 13), .ref (x 14), .ref (x 15), .ref (x 16), .ref (x 17), .int 0, .int 0, .int 0, .int 0]))]) [2] rfl) 0 9 rfl rfl rfl hl.1 rfl (Nat.le_of_ble_eq_true rfl) (by decide) (by decide) dX11_count_72 (fun r hq => ?_)
      subst hq
      refine ro_S (As := [.int 0]) (rest := []) hC hE kS_X11_251 (c_J6_bitCount_0f7a4 l D K) (hP.sub (ws' := []) [] rfl) rfl hl.1 rfl (Nat.le_of_ble_eq_true rfl) (by decide) (by decide) dX11_count_75 (fun r hq => ?_)
      subst hq
      exact ro_ret hC hr hk dX11_count_78 (Or.inl ⟨(vp_in_nI (by decide) (by decide)), rfl⟩)
    · refine lv_tableIn (off := 78) (tgt := 79) hx hb dX11_count_1 (by decide) (by decide) (by decide +kernel) (by decide) ?_
      refine lv_aload_n hx hb dX11_count_79 rfl (lv_at hl 0 rfl) ?_
      refine va_get (D := D) (ci := 10) (v := .ref (x 2)) (C := RX11) (T := TX11) (N := 12) hx hb hts in_X11 hown hE.1 hP 0 rfl rfl 1 (by decide) (hts _ w_52) (fun _ h9 => h9) rfl dX11_count_80 ?_
      refine va_get (D := D) (ci := 9) (v := .int 0) (C := RX10) (T := TX10) (N := 12) hx hb hts in_X10 hown hE.1 hP 2 rfl rfl 9 (by decide) (hts _ w_122) (fun _ h9 => h9) rfl dX11_count_83 ?_
      exact ro_ret hC hr hk dX11_count_86 (Or.inl ⟨(vp_in_nI (by decide) (by decide)), rfl⟩)
    · refine lv_tableIn (off := 86) (tgt := 87) hx hb dX11_count_1 (by decide) (by decide) (by decide +kernel) (by decide) ?_
      refine lv_aload_n hx hb dX11_count_87 rfl (lv_at hl 0 rfl) ?_
      refine va_get (D := D) (ci := 10) (v := .ref (x 2)) (C := RX11) (T := TX11) (N := 12) hx hb hts in_X11 hown hE.1 hP 0 rfl rfl 1 (by decide) (hts _ w_52) (fun _ h9 => h9) rfl dX11_count_88 ?_
      refine va_get (D := D) (ci := 9) (v := .int 0) (C := RX10) (T := TX10) (N := 12) hx hb hts in_X10 hown hE.1 hP 2 rfl rfl 10 (by decide) (hts _ w_123) (fun _ h9 => h9) rfl dX11_count_91 ?_
      exact ro_ret hC hr hk dX11_count_94 (Or.inl ⟨(vp_in_nI (by decide) (by decide)), rfl⟩)
    · refine lv_tableIn (off := 94) (tgt := 95) hx hb dX11_count_1 (by decide) (by decide) (by decide +kernel) (by decide) ?_
      refine lv_aload_n hx hb dX11_count_95 rfl (lv_at hl 0 rfl) ?_
      refine va_get (D := D) (ci := 10) (v := .ref (x 2)) (C := RX11) (T := TX11) (N := 12) hx hb hts in_X11 hown hE.1 hP 0 rfl rfl 1 (by decide) (hts _ w_52) (fun _ h9 => h9) rfl dX11_count_96 ?_
      refine va_get (D := D) (ci := 9) (v := .int 0) (C := RX10) (T := TX10) (N := 12) hx hb hts in_X10 hown hE.1 hP 2 rfl rfl 11 (by decide) (hts _ w_124) (fun _ h9 => h9) rfl dX11_count_99 ?_
      exact ro_ret hC hr hk dX11_count_102 (Or.inl ⟨(vp_in_nI (by decide) (by decide)), rfl⟩)
    · refine lv_tableIn (off := 102) (tgt := 103) hx hb dX11_count_1 (by decide) (by decide) (by decide +kernel) (by decide) ?_
      refine lv_aload_n hx hb dX11_count_103 rfl (lv_at hl 0 rfl) ?_
      refine va_get (D := D) (ci := 10) (v := .ref (x 1)) (C := RX11) (T := TX11) (N := 12) hx hb hts in_X11 hown hE.1 hP 0 rfl rfl 0 (by decide) (hts _ w_96) (fun _ h9 => h9) rfl dX11_count_104 ?_
      refine va_get (D := D) (ci := 4) (v := .int 0) (C := RX4) (T := TX4) (N := 10) hx hb hts in_X4 hown hE.1 hP 1 rfl rfl 1 (by decide) (hts _ w_125) (fun _ h9 => h9) rfl dX11_count_107 ?_
      exact ro_ret hC hr hk dX11_count_110 (Or.inl ⟨(vp_in_nI (by decide) (by decide)), rfl⟩)
    · refine lv_tableIn (off := 110) (tgt := 111) hx hb dX11_count_1 (by decide) (by decide) (by decide +kernel) (by decide) ?_
      refine lv_aload_n hx hb dX11_count_111 rfl (lv_at hl 0 rfl) ?_
      refine va_get (D := D) (ci := 10) (v := .ref (x 3)) (C := RX11) (T := TX11) (N := 12) hx hb hts in_X11 hown hE.1 hP 0 rfl rfl 2 (by decide) (hts _ w_126) (fun _ h9 => h9) rfl dX11_count_112 ?_
      refine va_get (D := D) (ci := 2) (v := .int 0) (C := RX2) (T := TX2) (N := 6) hx hb hts in_X2 hown hE.1 hP 3 rfl rfl 5 (by decide) (hts _ w_133) (fun _ h9 => h9) rfl dX11_count_115 ?_
      exact ro_ret hC hr hk dX11_count_118 (Or.inl ⟨(vp_in_nI (by decide) (by decide)), rfl⟩)
    · refine lv_tableIn (off := 118) (tgt := 119) hx hb dX11_count_1 (by decide) (by decide) (by decide +kernel) (by decide) ?_
      refine lv_aload_n hx hb dX11_count_119 rfl (lv_at hl 0 rfl) ?_
      refine va_get (D := D) (ci := 10) (v := .ref (x 4)) (C := RX11) (T := TX11) (N := 12) hx hb hts in_X11 hown hE.1 hP 0 rfl rfl 4 (by decide) (hts _ w_134) (fun _ h9 => h9) rfl dX11_count_120 ?_
      refine ro_V (As := []) (rest := []) hC hE kV_X11_346 (c_X5_kept l D K (x 4) (fun k => x (23 + k)) fs hfs) (hP.sub (ws' := [(x 4, .inr (5, [.ref (x 23), .ref (x 24), .ref (x 25)])), (x 25, .inl (K 1, 4, .inl fs))]) [4, 25] rfl) 0 5 rfl rfl rfl hl.1 rfl (Nat.le_of_ble_eq_true rfl) (by decide) (by decide) dX11_count_123 (fun r hq => ?_)
      subst hq
      exact ro_ret hC hr hk dX11_count_126 (Or.inl ⟨(vp_in_nI (by decide) (by decide)), rfl⟩)
  · refine lv_tableOut (tgt := 127) hx hb dX11_count_1 (tab_out h9) (by decide) ?_
    refine lv_iconst (v := (-1)) hx hb dX11_count_127 (by decide) ?_
    exact ro_ret hC hr hk dX11_count_128 (Or.inr (⟨h9, rfl⟩))
set_option maxRecDepth 20000 in
theorem c_X11_back (l : Launch) (D : va_G) (K : Nat → ClassId) (x : Nat → Nat) (fs : Nat → Int32) (hfs : ∀ j, j < 4 → fs j = -1) (p0 : Int32) : Ro l D K yX11_back cX11_back 2 (some .int) 0 0 [.ref (x 0), .int p0] (fxL K x fs) (fun r => (vp_in p0 3 ∧ r = (-6)) ∨ (¬ vp_in p0 3 ∧ r = (-2))) := by
  refine ro_of (by decide) (Nat.le_of_ble_eq_true rfl) ?_
  intro p e s m below meth c hC hr hk hE hP ls hl
  have hC : CallFix p m c cX11_back 2 s [.ref (x 0), .int p0].toArray wl RX11 := hC
  have hx := hC.1
  have hb := hC.2.1
  have hml := hC.2.2.1
  have hown := hC.2.2.2.1
  have hts := hC.2.2.2.2
  have hl : lv_has ls 2 [(0, .ref (x 0)), (1, .int p0)] := hl
  refine lv_iload_n hx hb dX11_back_0 rfl (lv_at hl 1 rfl) ?_
  refine lv_if_lt (tgt := 9) hx hb dX11_back_1 (by decide) (fun c36 => ?_) (fun c36 => ?_)
  · refine lv_bipush (v := (-2)) hx hb dX11_back_9 (by decide) ?_
    exact ro_ret hC hr hk dX11_back_11 (Or.inr (⟨(no1 c36), rfl⟩))
  · refine lv_iload_n hx hb dX11_back_4 rfl (lv_at hl 1 rfl) ?_
    refine lv_iconst (v := 3) hx hb dX11_back_5 (by decide) ?_
    refine lv_icmp_lt (tgt := 12) hx hb dX11_back_6 (by decide) (fun c37 => ?_) (fun c37 => ?_)
    · refine lv_aload_n hx hb dX11_back_12 rfl (lv_at hl 0 rfl) ?_
      refine va_get (D := D) (ci := 10) (v := .ref (x 6)) (C := RX11) (T := TX11) (N := 12) hx hb hts in_X11 hown hE.1 hP 0 rfl rfl 10 (by decide) (hts _ w_139) (fun _ h9 => h9) rfl dX11_back_13 ?_
      refine lv_iload_n hx hb dX11_back_16 rfl (lv_at hl 1 rfl) ?_
      refine va_aldq hx hb hE.1 hP 6 4 rfl rfl (yes3 (k := 3) (by decide) c36 c37) dX11_back_17 ?_
      refine W.eq (g2 := F0 m 18 ls ([.null])) rfl ?_
      refine lv_ifnullN (tgt := 30) hx hb dX11_back_18 (by decide) ?_
      refine lv_bipush (v := (-6)) hx hb dX11_back_30 (by decide) ?_
      exact ro_ret hC hr hk dX11_back_32 (Or.inl ⟨(yes3 (k := 3) (by decide) c36 c37), rfl⟩)
    · refine lv_bipush (v := (-2)) hx hb dX11_back_9 (by decide) ?_
      exact ro_ret hC hr hk dX11_back_11 (Or.inr (⟨(no3 (k := 3) (by decide) c37), rfl⟩))
set_option maxRecDepth 20000 in
theorem c_X11_write (l : Launch) (D : va_G) (K : Nat → ClassId) (x : Nat → Nat) (fs : Nat → Int32) (hfs : ∀ j, j < 4 → fs j = -1) (p0 : Int32) (p1 : Int32) (p2 : Int64) : Ro l D K yX11_write cX11_write 5 (some .int) 2 41 [.ref (x 0), .int p0, .int p1, .long p2] (fxL K x fs) (fun r => (vp_in p0 4 ∧ r = (-6)) ∨ (¬ vp_in p0 4 ∧ r = (-2))) := by
  refine ro_of (by decide) (Nat.le_of_ble_eq_true rfl) ?_
  intro p e s m below meth c hC hr hk hE hP ls hl
  have hC : CallFix p m c cX11_write 5 s [.ref (x 0), .int p0, .int p1, .long p2].toArray wl RX11 := hC
  have hx := hC.1
  have hb := hC.2.1
  have hml := hC.2.2.1
  have hown := hC.2.2.2.1
  have hts := hC.2.2.2.2
  have hl : lv_has ls 5 [(0, .ref (x 0)), (1, .int p0), (2, .int p1), (3, .long p2)] := hl
  refine lv_iload_n hx hb dX11_write_0 rfl (lv_at hl 1 rfl) ?_
  refine ro_S (As := [.int p0]) (rest := []) hC hE kS_X11_352 (c_X11_isSlot l D K p0) (hP.sub (ws' := []) [] rfl) rfl hl.1 rfl (Nat.le_of_ble_eq_true rfl) (by decide) (by decide) dX11_write_1 (fun r hq => ?_)
  rcases hq with ⟨h38, rfl⟩ | ⟨h39, rfl⟩
  · refine lv_if_ne (tgt := 10) hx hb dX11_write_4 (by decide) (fun _ => ?_) (fun h => absurd h (by decide))
    refine lv_aload_n hx hb dX11_write_10 rfl (lv_at hl 0 rfl) ?_
    refine va_get (D := D) (ci := 10) (v := .ref (x 4)) (C := RX11) (T := TX11) (N := 12) hx hb hts in_X11 hown hE.1 hP 0 rfl rfl 4 (by decide) (hts _ w_134) (fun _ h9 => h9) rfl dX11_write_11 ?_
    refine lv_iload_n hx hb dX11_write_14 rfl (lv_at hl 1 rfl) ?_
    refine ro_V (As := [.int p0]) (rest := []) hC hE kV_X11_358 (c_X5_has l D K (x 4) (fun k => x (23 + k)) fs hfs p0) (hP.sub (ws' := [(x 4, .inr (5, [.ref (x 23), .ref (x 24), .ref (x 25)])), (x 25, .inl (K 1, 4, .inl fs))]) [4, 25] rfl) 0 5 rfl rfl rfl hl.1 rfl (Nat.le_of_ble_eq_true rfl) (by decide) (by decide) dX11_write_15 (fun r hq => ?_)
    subst hq
    refine lv_if_ne (tgt := 24) hx hb dX11_write_18 (by decide) (fun h => absurd h (by decide)) (fun _ => ?_)
    refine lv_bipush (v := (-6)) hx hb dX11_write_21 (by decide) ?_
    exact ro_ret hC hr hk dX11_write_23 (Or.inl ⟨h38, rfl⟩)
  · refine lv_if_ne (tgt := 10) hx hb dX11_write_4 (by decide) (fun h => absurd h (by decide)) (fun _ => ?_)
    refine lv_bipush (v := (-2)) hx hb dX11_write_7 (by decide) ?_
    exact ro_ret hC hr hk dX11_write_9 (Or.inr (⟨h39, rfl⟩))
