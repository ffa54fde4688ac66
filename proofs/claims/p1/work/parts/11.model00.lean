set_option maxRecDepth 20000 in
theorem c_X12_see (l : Launch) (D : va_G) (K : Nat → ClassId) (y : Nat → Nat) : Ro l D K yX12_see cX12_see 2 (some .int) 0 0 [.ref (y 0), .int 0] [(y 0, .inr (11, [.int 0, .ref (y 1), .ref (y 2), .ref (y 3), .ref (y 4), .int 0, .ref (y 5), .int 0, .int 0, .int 0, .int 0, .int 0, .int 0, .int (-1), .ref (y 6), .int 0, .int 0, .int 0, .int 0, .int 0, .int 0, .ref (y 121), .ref (y 122), .ref (y 123), .ref (y 124), .int 0, .ref (y 126), .ref (y 127), .ref (y 128), .ref (y 129), .ref (y 130), .ref (y 131), .ref (y 132), .ref (y 133), .ref (y 134), .ref (y 135), .ref (y 136), .int 0, .int 0, .int 0, .ref (y 140), .ref (y 141), .ref (y 142), .int 0, .int 0, .ref (y 145), .ref (y 146), .ref (y 147), .int 0, .ref (y 7), .ref (y 8), .ref (y 9), .ref (y 152)]))] (fun r => r = (-1)) := by
  refine ro_of (by decide) (Nat.le_of_ble_eq_true rfl) ?_
  intro p e s m below meth c hC hr hk hE hP ls hl
  have hC : CallFix p m c cX12_see 2 s [.ref (y 0), .int 0].toArray wl RX12 := hC
  have hx := hC.1
  have hb := hC.2.1
  have hml := hC.2.2.1
  have hown := hC.2.2.2.1
  have hts := hC.2.2.2.2
  have hl : lv_has ls 2 [(0, .ref (y 0)), (1, .int 0)] := hl
  refine lv_iload_n hx hb dX12_see_0 rfl (lv_at hl 1 rfl) ?_
  refine lv_aload_n hx hb dX12_see_1 rfl (lv_at hl 0 rfl) ?_
  refine va_get (D := D) (ci := 11) (v := .int 0) (C := RX12) (T := TX12) (N := 53) hx hb hts in_X12 hown hE.1 hP 0 rfl rfl 7 (by decide) (hts _ w_497) (fun _ h9 => h9) rfl dX12_see_2 ?_
  refine lv_icmp_ge (tgt := 21) hx hb dX12_see_5 (by decide) (fun _ => ?_) (fun h => absurd h (by decide))
  refine lv_iconst (v := (-1)) hx hb dX12_see_21 (by decide) ?_
  exact ro_ret hC hr hk dX12_see_22 rfl
set_option maxRecDepth 20000 in
theorem c_X12_good (l : Launch) (D : va_G) (K : Nat → ClassId) (y : Nat → Nat) : Ro l D K yX12_good cX12_good 1 (some .boolean) 0 0 [.ref (y 0)] [(y 0, .inr (11, [.int 0, .ref (y 1), .ref (y 2), .ref (y 3), .ref (y 4), .int 0, .ref (y 5), .int 0, .int 0, .int 0, .int 0, .int 0, .int 0, .int (-1), .ref (y 6), .int 0, .int 0, .int 0, .int 0, .int 0, .int 0, .ref (y 121), .ref (y 122), .ref (y 123), .ref (y 124), .int 0, .ref (y 126), .ref (y 127), .ref (y 128), .ref (y 129), .ref (y 130), .ref (y 131), .ref (y 132), .ref (y 133), .ref (y 134), .ref (y 135), .ref (y 136), .int 0, .int 0, .int 0, .ref (y 140), .ref (y 141), .ref (y 142), .int 0, .int 0, .ref (y 145), .ref (y 146), .ref (y 147), .int 0, .ref (y 7), .ref (y 8), .ref (y 9), .ref (y 152)]))] (fun r => r = 1) := by
  refine ro_of (by decide) (Nat.le_of_ble_eq_true rfl) ?_
  intro p e s m below meth c hC hr hk hE hP ls hl
  have hC : CallFix p m c cX12_good 1 s [.ref (y 0)].toArray wl RX12 := hC
  have hx := hC.1
  have hb := hC.2.1
  have hml := hC.2.2.1
  have hown := hC.2.2.2.1
  have hts := hC.2.2.2.2
  have hl : lv_has ls 1 [(0, .ref (y 0))] := hl
  refine lv_aload_n hx hb dX12_good_0 rfl (lv_at hl 0 rfl) ?_
  refine va_get (D := D) (ci := 11) (v := .int 0) (C := RX12) (T := TX12) (N := 53) hx hb hts in_X12 hown hE.1 hP 0 rfl rfl 12 (by decide) (hts _ w_237) (fun _ h9 => h9) rfl dX12_good_1 ?_
  refine lv_if_ne (tgt := 11) hx hb dX12_good_4 (by decide) (fun h => absurd h (by decide)) (fun _ => ?_)
  refine lv_iconst (v := 1) hx hb dX12_good_7 (by decide) ?_
  refine lv_goto (tgt := 12) hx hb dX12_good_8 (by decide) ?_
  exact ro_zret hC hr hk dX12_good_12 rfl rfl
set_option maxRecDepth 40000 in
set_option maxHeartbeats 4000000 in
theorem c_X12_advance (l : Launch) (D : va_G) (K : Nat → ClassId) (y : Nat → Nat) : Cv (S := Unit) l D K yX12_advance cX12_advance 2 1 21 0 0 [.ref (y 0)] [(y 0, .inr (11, [.int 0, .ref (y 1), .ref (y 2), .ref (y 3), .ref (y 4), .int 0, .ref (y 5), .int 0, .int 0, .int 0, .int 0, .int 0, .int 0, .int (-1), .ref (y 6), .int 0, .int 0, .int 0, .int 0, .int 0, .int 0, .ref (y 121), .ref (y 122), .ref (y 123), .ref (y 124), .int 0, .ref (y 126), .ref (y 127), .ref (y 128), .ref (y 129), .ref (y 130), .ref (y 131), .ref (y 132), .ref (y 133), .ref (y 134), .ref (y 135), .ref (y 136), .int 0, .int 0, .int 0, .ref (y 140), .ref (y 141), .ref (y 142), .int 0, .int 0, .ref (y 145), .ref (y 146), .ref (y 147), .int 0, .ref (y 7), .ref (y 8), .ref (y 9), .ref (y 152)]))] (fun _ => True) (fun _ => [(y 0, .inr (11, [.int 0, .ref (y 1), .ref (y 2), .ref (y 3), .ref (y 4), .int 0, .ref (y 5), .int 0, .int 0, .int 0, .int 0, .int 0, .int 0, .int (-1), .ref (y 6), .int 0, .int 0, .int 0, .int 0, .int 0, .int 0, .ref (y 121), .ref (y 122), .ref (y 123), .ref (y 124), .int 0, .ref (y 126), .ref (y 127), .ref (y 128), .ref (y 129), .ref (y 130), .ref (y 131), .ref (y 132), .ref (y 133), .ref (y 134), .ref (y 135), .ref (y 136), .int 0, .int 0, .int 0, .ref (y 140), .ref (y 141), .ref (y 142), .int 0, .int 0, .ref (y 145), .ref (y 146), .ref (y 147), .int 0, .ref (y 7), .ref (y 8), .ref (y 9), .ref (y 152)]))]) := by
  intro sz
  refine ch_of (y := yX12_advance) (cc := cX12_advance) (maxL := 2) (ret := none) (av := [.ref (y 0)]) (ws := [(y 0, .inr (11, [.int 0, .ref (y 1), .ref (y 2), .ref (y 3), .ref (y 4), .int 0, .ref (y 5), .int 0, .int 0, .int 0, .int 0, .int 0, .int 0, .int (-1), .ref (y 6), .int 0, .int 0, .int 0, .int 0, .int 0, .int 0, .ref (y 121), .ref (y 122), .ref (y 123), .ref (y 124), .int 0, .ref (y 126), .ref (y 127), .ref (y 128), .ref (y 129), .ref (y 130), .ref (y 131), .ref (y 132), .ref (y 133), .ref (y 134), .ref (y 135), .ref (y 136), .int 0, .int 0, .int 0, .ref (y 140), .ref (y 141), .ref (y 142), .int 0, .int 0, .ref (y 145), .ref (y 146), .ref (y 147), .int 0, .ref (y 7), .ref (y 8), .ref (y 9), .ref (y 152)]))]) (D := D) (K := K) (Qc := fun A => va_Qv (S := Unit) (fun _ => True) (chB D A (fun _ => [(y 0, .inr (11, [.int 0, .ref (y 1), .ref (y 2), .ref (y 3), .ref (y 4), .int 0, .ref (y 5), .int 0, .int 0, .int 0, .int 0, .int 0, .int 0, .int (-1), .ref (y 6), .int 0, .int 0, .int 0, .int 0, .int 0, .int 0, .ref (y 121), .ref (y 122), .ref (y 123), .ref (y 124), .int 0, .ref (y 126), .ref (y 127), .ref (y 128), .ref (y 129), .ref (y 130), .ref (y 131), .ref (y 132), .ref (y 133), .ref (y 134), .ref (y 135), .ref (y 136), .int 0, .int 0, .int 0, .ref (y 140), .ref (y 141), .ref (y 142), .int 0, .int 0, .ref (y 145), .ref (y 146), .ref (y 147), .int 0, .ref (y 7), .ref (y 8), .ref (y 9), .ref (y 152)]))])) A) (by decide) (Nat.le_of_ble_eq_true rfl) ?_
  intro p e s m below meth c A hC hr hk hin hE hD hA H locs hP hS ls hl
  replace hC : CallFix p m c cX12_advance 2 s [.ref (y 0)].toArray wl RX12 := hC
  have hx := hC.1
  have hb := hC.2.1
  have hml := hC.2.2.1
  have hown := hC.2.2.2.1
  have hts := hC.2.2.2.2
  replace hl : lv_has ls 2 [(0, .ref (y 0))] := hl
  refine lv_aload_n hx hb dX12_advance_0 rfl (lv_at hl 0 rfl) ?_
  refine lv_aload_n hx hb dX12_advance_1 rfl (lv_at hl 0 rfl) ?_
  refine va_get (D := D) (ci := 11) (v := .int 0) (C := RX12) (T := TX12) (N := 53) hx hb hts in_X12 hown hE.1 hP 0 rfl rfl 8 (by decide) (hts _ w_498) (fun _ h9 => h9) rfl dX12_advance_2 ?_
  refine ro_V (As := [.int 0]) (rest := []) hC hE kV_X12_142 (c_X12_see l D K y) (hP.sub (ws' := [(y 0, .inr (11, [.int 0, .ref (y 1), .ref (y 2), .ref (y 3), .ref (y 4), .int 0, .ref (y 5), .int 0, .int 0, .int 0, .int 0, .int 0, .int 0, .int (-1), .ref (y 6), .int 0, .int 0, .int 0, .int 0, .int 0, .int 0, .ref (y 121), .ref (y 122), .ref (y 123), .ref (y 124), .int 0, .ref (y 126), .ref (y 127), .ref (y 128), .ref (y 129), .ref (y 130), .ref (y 131), .ref (y 132), .ref (y 133), .ref (y 134), .ref (y 135), .ref (y 136), .int 0, .int 0, .int 0, .ref (y 140), .ref (y 141), .ref (y 142), .int 0, .int 0, .ref (y 145), .ref (y 146), .ref (y 147), .int 0, .ref (y 7), .ref (y 8), .ref (y 9), .ref (y 152)]))]) [0] rfl) 0 11 rfl rfl rfl hl.1 rfl (Nat.le_of_ble_eq_true rfl) (by decide) (by decide) dX12_advance_5 (fun r hq => ?_)
  subst hq
  refine lv_bipush (v := 32) hx hb dX12_advance_8 (by decide) ?_
  refine lv_icmp_eq (tgt := 26) hx hb dX12_advance_10 (by decide) (fun h => absurd h (by decide)) (fun _ => ?_)
  refine lv_aload_n hx hb dX12_advance_13 rfl (lv_at hl 0 rfl) ?_
  refine lv_aload_n hx hb dX12_advance_14 rfl (lv_at hl 0 rfl) ?_
  refine va_get (D := D) (ci := 11) (v := .int 0) (C := RX12) (T := TX12) (N := 53) hx hb hts in_X12 hown hE.1 hP 0 rfl rfl 8 (by decide) (hts _ w_498) (fun _ h9 => h9) rfl dX12_advance_15 ?_
  refine ro_V (As := [.int 0]) (rest := []) hC hE kV_X12_142 (c_X12_see l D K y) (hP.sub (ws' := [(y 0, .inr (11, [.int 0, .ref (y 1), .ref (y 2), .ref (y 3), .ref (y 4), .int 0, .ref (y 5), .int 0, .int 0, .int 0, .int 0, .int 0, .int 0, .int (-1), .ref (y 6), .int 0, .int 0, .int 0, .int 0, .int 0, .int 0, .ref (y 121), .ref (y 122), .ref (y 123), .ref (y 124), .int 0, .ref (y 126), .ref (y 127), .ref (y 128), .ref (y 129), .ref (y 130), .ref (y 131), .ref (y 132), .ref (y 133), .ref (y 134), .ref (y 135), .ref (y 136), .int 0, .int 0, .int 0, .ref (y 140), .ref (y 141), .ref (y 142), .int 0, .int 0, .ref (y 145), .ref (y 146), .ref (y 147), .int 0, .ref (y 7), .ref (y 8), .ref (y 9), .ref (y 152)]))]) [0] rfl) 0 11 rfl rfl rfl hl.1 rfl (Nat.le_of_ble_eq_true rfl) (by decide) (by decide) dX12_advance_18 (fun r hq => ?_)
  subst hq
  refine lv_bipush (v := 10) hx hb dX12_advance_21 (by decide) ?_
  refine lv_icmp_ne (tgt := 39) hx hb dX12_advance_23 (by decide) (fun _ => ?_) (fun h => absurd h (by decide))
  refine lv_aload_n hx hb dX12_advance_39 rfl (lv_at hl 0 rfl) ?_
  refine lv_aload_n hx hb dX12_advance_40 rfl (lv_at hl 0 rfl) ?_
  refine va_get (D := D) (ci := 11) (v := .int 0) (C := RX12) (T := TX12) (N := 53) hx hb hts in_X12 hown hE.1 hP 0 rfl rfl 8 (by decide) (hts _ w_498) (fun _ h9 => h9) rfl dX12_advance_41 ?_
  refine va_put (D := D) (ci := 11) (v := .int 0) (ty := .int) (C := RX12) (T := TX12) (N := 53) hx hb hts in_X12 tyX12 tyX12_ok nmX12 hown hE.1 hP hD hS 0 rfl rfl 9 (by decide) (hts _ w_503) (fun _ h9 => h9) rfl (by decide +kernel) rfl rfl (Nat.le_of_ble_eq_true rfl) dX12_advance_44 (fun H locs hP hD hS => ?_)
  replace hP : va_P D vwCl [(y 0, .inr (11, [.int 0, .ref (y 1), .ref (y 2), .ref (y 3), .ref (y 4), .int 0, .ref (y 5), .int 0, .int 0, .int 0, .int 0, .int 0, .int 0, .int (-1), .ref (y 6), .int 0, .int 0, .int 0, .int 0, .int 0, .int 0, .ref (y 121), .ref (y 122), .ref (y 123), .ref (y 124), .int 0, .ref (y 126), .ref (y 127), .ref (y 128), .ref (y 129), .ref (y 130), .ref (y 131), .ref (y 132), .ref (y 133), .ref (y 134), .ref (y 135), .ref (y 136), .int 0, .int 0, .int 0, .ref (y 140), .ref (y 141), .ref (y 142), .int 0, .int 0, .ref (y 145), .ref (y 146), .ref (y 147), .int 0, .ref (y 7), .ref (y 8), .ref (y 9), .ref (y 152)]))] H := hP
  replace hD : va_D A [(y 0, .inr (11, [.int 0, .ref (y 1), .ref (y 2), .ref (y 3), .ref (y 4), .int 0, .ref (y 5), .int 0, .int 0, .int 0, .int 0, .int 0, .int 0, .int (-1), .ref (y 6), .int 0, .int 0, .int 0, .int 0, .int 0, .int 0, .ref (y 121), .ref (y 122), .ref (y 123), .ref (y 124), .int 0, .ref (y 126), .ref (y 127), .ref (y 128), .ref (y 129), .ref (y 130), .ref (y 131), .ref (y 132), .ref (y 133), .ref (y 134), .ref (y 135), .ref (y 136), .int 0, .int 0, .int 0, .ref (y 140), .ref (y 141), .ref (y 142), .int 0, .int 0, .ref (y 145), .ref (y 146), .ref (y 147), .int 0, .ref (y 7), .ref (y 8), .ref (y 9), .ref (y 152)]))] := hD
  refine lv_aload_n hx hb dX12_advance_47 rfl (lv_at hl 0 rfl) ?_
  refine lv_aload_n hx hb dX12_advance_48 rfl (lv_at hl 0 rfl) ?_
  refine va_get (D := D) (ci := 11) (v := .int 0) (C := RX12) (T := TX12) (N := 53) hx hb hts in_X12 hown hE.1 hP 0 rfl rfl 8 (by decide) (hts _ w_498) (fun _ h9 => h9) rfl dX12_advance_49 ?_
  refine ro_V (As := [.int 0]) (rest := []) hC hE kV_X12_142 (c_X12_see l D K y) (hP.sub (ws' := [(y 0, .inr (11, [.int 0, .ref (y 1), .ref (y 2), .ref (y 3), .ref (y 4), .int 0, .ref (y 5), .int 0, .int 0, .int 0, .int 0, .int 0, .int 0, .int (-1), .ref (y 6), .int 0, .int 0, .int 0, .int 0, .int 0, .int 0, .ref (y 121), .ref (y 122), .ref (y 123), .ref (y 124), .int 0, .ref (y 126), .ref (y 127), .ref (y 128), .ref (y 129), .ref (y 130), .ref (y 131), .ref (y 132), .ref (y 133), .ref (y 134), .ref (y 135), .ref (y 136), .int 0, .int 0, .int 0, .ref (y 140), .ref (y 141), .ref (y 142), .int 0, .int 0, .ref (y 145), .ref (y 146), .ref (y 147), .int 0, .ref (y 7), .ref (y 8), .ref (y 9), .ref (y 152)]))]) [0] rfl) 0 11 rfl rfl rfl hl.1 rfl (Nat.le_of_ble_eq_true rfl) (by decide) (by decide) dX12_advance_52 (fun r hq => ?_)
  subst hq
  refine lv_istore_n (lv' := [(1, .int (-1)), (0, .ref (y 0))]) hx hb dX12_advance_55 rfl hl (by decide) rfl (fun ls hl => ?_)
  refine lv_iload_n hx hb dX12_advance_56 rfl (lv_at hl 0 rfl) ?_
  refine lv_iconst (v := (-1)) hx hb dX12_advance_57 (by decide) ?_
  refine lv_icmp_ne (tgt := 69) hx hb dX12_advance_58 (by decide) (fun h => absurd h (by decide)) (fun _ => ?_)
  refine lv_aload_n hx hb dX12_advance_61 rfl (lv_at hl 1 rfl) ?_
  refine lv_iconst (v := 0) hx hb dX12_advance_62 (by decide) ?_
  refine va_put (D := D) (ci := 11) (v := .int 0) (ty := .int) (C := RX12) (T := TX12) (N := 53) hx hb hts in_X12 tyX12 tyX12_ok nmX12 hown hE.1 hP hD hS 0 rfl rfl 10 (by decide) (hts _ w_504) (fun _ h9 => h9) rfl (by decide +kernel) rfl rfl (Nat.le_of_ble_eq_true rfl) dX12_advance_63 (fun H locs hP hD hS => ?_)
  replace hP : va_P D vwCl [(y 0, .inr (11, [.int 0, .ref (y 1), .ref (y 2), .ref (y 3), .ref (y 4), .int 0, .ref (y 5), .int 0, .int 0, .int 0, .int 0, .int 0, .int 0, .int (-1), .ref (y 6), .int 0, .int 0, .int 0, .int 0, .int 0, .int 0, .ref (y 121), .ref (y 122), .ref (y 123), .ref (y 124), .int 0, .ref (y 126), .ref (y 127), .ref (y 128), .ref (y 129), .ref (y 130), .ref (y 131), .ref (y 132), .ref (y 133), .ref (y 134), .ref (y 135), .ref (y 136), .int 0, .int 0, .int 0, .ref (y 140), .ref (y 141), .ref (y 142), .int 0, .int 0, .ref (y 145), .ref (y 146), .ref (y 147), .int 0, .ref (y 7), .ref (y 8), .ref (y 9), .ref (y 152)]))] H := hP
  replace hD : va_D A [(y 0, .inr (11, [.int 0, .ref (y 1), .ref (y 2), .ref (y 3), .ref (y 4), .int 0, .ref (y 5), .int 0, .int 0, .int 0, .int 0, .int 0, .int 0, .int (-1), .ref (y 6), .int 0, .int 0, .int 0, .int 0, .int 0, .int 0, .ref (y 121), .ref (y 122), .ref (y 123), .ref (y 124), .int 0, .ref (y 126), .ref (y 127), .ref (y 128), .ref (y 129), .ref (y 130), .ref (y 131), .ref (y 132), .ref (y 133), .ref (y 134), .ref (y 135), .ref (y 136), .int 0, .int 0, .int 0, .ref (y 140), .ref (y 141), .ref (y 142), .int 0, .int 0, .ref (y 145), .ref (y 146), .ref (y 147), .int 0, .ref (y 7), .ref (y 8), .ref (y 9), .ref (y 152)]))] := hD
  refine lv_goto (tgt := 239) hx hb dX12_advance_66 (by decide) ?_
  refine W.widen (k := 0) (n := 0) (by decide) (by decide) ?_
  exact ch_vret hC hr hk hS dX12_advance_239 () trivial (hP.sub [0] rfl) (hD.sub [0] (by decide) rfl)
set_option maxRecDepth 40000 in
set_option maxHeartbeats 4000000 in
theorem c_X12_feed (l : Launch) (D : va_G) (K : Nat → ClassId) (y : Nat → Nat) (p0 p1 p2 p3 p4 : Int32) : Ci (S := Unit) l D K yX12_feed cX12_feed 7 (some .int) 0 0 0 0 [.ref (y 0), .int p0, .int p1, .int p2, .int p3, .int p4] [(y 0, .inr (11, [.int 0, .ref (y 1), .ref (y 2), .ref (y 3), .ref (y 4), .int 0, .ref (y 5), .int 0, .int 0, .int 0, .int 0, .int 0, .int 0, .int (-1), .ref (y 6), .int 0, .int 0, .int 0, .int 0, .int 0, .int 0, .ref (y 121), .ref (y 122), .ref (y 123), .ref (y 124), .int 0, .ref (y 126), .ref (y 127), .ref (y 128), .ref (y 129), .ref (y 130), .ref (y 131), .ref (y 132), .ref (y 133), .ref (y 134), .ref (y 135), .ref (y 136), .int 0, .int 0, .int 0, .ref (y 140), .ref (y 141), .ref (y 142), .int 0, .int 0, .ref (y 145), .ref (y 146), .ref (y 147), .int 0, .ref (y 7), .ref (y 8), .ref (y 9), .ref (y 152)])), (y 4, .inl (K 0, 1000, .inl (fun _ => 0))), (y 5, .inl (K 1, 5, .inl (fun _ => 0)))] (fun r _ => r = 20) (fun _ => []) := by
  intro sz
  refine ch_of (Qc := fun A => va_Qi (S := Unit) (fun r _ => r = 20) (chB D A (fun _ => [])) A) (by decide) (Nat.le_of_ble_eq_true rfl) ?_
  intro p e s m below meth c A hC hr hk hin hE hD hA H locs hP hS ls hl
  replace hC : CallFix p m c cX12_feed 7 s [.ref (y 0), .int p0, .int p1, .int p2, .int p3, .int p4].toArray wl RX12 := hC
  have hx := hC.1
  have hb := hC.2.1
  have hml := hC.2.2.1
  have hown := hC.2.2.2.1
  have hts := hC.2.2.2.2
  replace hl : lv_has ls 7 [(0, .ref (y 0)), (1, .int p0), (2, .int p1), (3, .int p2), (4, .int p3), (5, .int p4)] := hl
  refine lv_aload_n hx hb dX12_feed_0 rfl (lv_at hl 0 rfl) ?_
  refine va_get (D := D) (ci := 11) (v := .int 0) (C := RX12) (T := TX12) (N := 53) hx hb hts in_X12 hown hE.1 hP 0 rfl rfl 5 (by decide) (hts _ w_238) (fun _ h9 => h9) rfl dX12_feed_1 ?_
  refine lv_bipush (v := 20) hx hb dX12_feed_4 (by decide) ?_
  refine lv_iadd hx hb dX12_feed_6 ?_
  refine tc (y := 20) (by decide) ?_
  refine lv_sipush (v := 1000) hx hb dX12_feed_7 (by decide) ?_
  refine lv_icmp_le (tgt := 15) hx hb dX12_feed_10 (by decide) (fun _ => ?_) (fun h => absurd h (by decide))
  refine lv_aload_n hx hb dX12_feed_15 rfl (lv_at hl 0 rfl) ?_
  refine va_get (D := D) (ci := 11) (v := .ref (y 5)) (C := RX12) (T := TX12) (N := 53) hx hb hts in_X12 hown hE.1 hP 0 rfl rfl 6 (by decide) (hts _ w_403) (fun _ h9 => h9) rfl dX12_feed_16 ?_
  refine lv_iconst (v := 0) hx hb dX12_feed_19 (by decide) ?_
  refine lv_iload_n hx hb dX12_feed_20 rfl (lv_at hl 1 rfl) ?_
  refine sti hx hb hE.1 hP hD hS 2 1 rfl rfl (in_c (by decide)) dX12_feed_21 (fun g304 H locs hP hD hS => ?_)
  replace hP : va_P D vwCl [(y 0, .inr (11, [.int 0, .ref (y 1), .ref (y 2), .ref (y 3), .ref (y 4), .int 0, .ref (y 5), .int 0, .int 0, .int 0, .int 0, .int 0, .int 0, .int (-1), .ref (y 6), .int 0, .int 0, .int 0, .int 0, .int 0, .int 0, .ref (y 121), .ref (y 122), .ref (y 123), .ref (y 124), .int 0, .ref (y 126), .ref (y 127), .ref (y 128), .ref (y 129), .ref (y 130), .ref (y 131), .ref (y 132), .ref (y 133), .ref (y 134), .ref (y 135), .ref (y 136), .int 0, .int 0, .int 0, .ref (y 140), .ref (y 141), .ref (y 142), .int 0, .int 0, .ref (y 145), .ref (y 146), .ref (y 147), .int 0, .ref (y 7), .ref (y 8), .ref (y 9), .ref (y 152)])), (y 4, .inl (K 0, 1000, .inl (fun _ => 0))), (y 5, .inl (K 1, 5, .inl g304))] H := hP
  replace hD : va_D A [(y 0, .inr (11, [.int 0, .ref (y 1), .ref (y 2), .ref (y 3), .ref (y 4), .int 0, .ref (y 5), .int 0, .int 0, .int 0, .int 0, .int 0, .int 0, .int (-1), .ref (y 6), .int 0, .int 0, .int 0, .int 0, .int 0, .int 0, .ref (y 121), .ref (y 122), .ref (y 123), .ref (y 124), .int 0, .ref (y 126), .ref (y 127), .ref (y 128), .ref (y 129), .ref (y 130), .ref (y 131), .ref (y 132), .ref (y 133), .ref (y 134), .ref (y 135), .ref (y 136), .int 0, .int 0, .int 0, .ref (y 140), .ref (y 141), .ref (y 142), .int 0, .int 0, .ref (y 145), .ref (y 146), .ref (y 147), .int 0, .ref (y 7), .ref (y 8), .ref (y 9), .ref (y 152)])), (y 4, .inl (K 0, 1000, .inl (fun _ => 0))), (y 5, .inl (K 1, 5, .inl g304))] := hD
  refine lv_aload_n hx hb dX12_feed_22 rfl (lv_at hl 0 rfl) ?_
  refine va_get (D := D) (ci := 11) (v := .ref (y 5)) (C := RX12) (T := TX12) (N := 53) hx hb hts in_X12 hown hE.1 hP 0 rfl rfl 6 (by decide) (hts _ w_403) (fun _ h9 => h9) rfl dX12_feed_23 ?_
  refine lv_iconst (v := 1) hx hb dX12_feed_26 (by decide) ?_
  refine lv_iload_n hx hb dX12_feed_27 rfl (lv_at hl 2 rfl) ?_
  refine sti hx hb hE.1 hP hD hS 2 1 rfl rfl (in_c (by decide)) dX12_feed_28 (fun g305 H locs hP hD hS => ?_)
  replace hP : va_P D vwCl [(y 0, .inr (11, [.int 0, .ref (y 1), .ref (y 2), .ref (y 3), .ref (y 4), .int 0, .ref (y 5), .int 0, .int 0, .int 0, .int 0, .int 0, .int 0, .int (-1), .ref (y 6), .int 0, .int 0, .int 0, .int 0, .int 0, .int 0, .ref (y 121), .ref (y 122), .ref (y 123), .ref (y 124), .int 0, .ref (y 126), .ref (y 127), .ref (y 128), .ref (y 129), .ref (y 130), .ref (y 131), .ref (y 132), .ref (y 133), .ref (y 134), .ref (y 135), .ref (y 136), .int 0, .int 0, .int 0, .ref (y 140), .ref (y 141), .ref (y 142), .int 0, .int 0, .ref (y 145), .ref (y 146), .ref (y 147), .int 0, .ref (y 7), .ref (y 8), .ref (y 9), .ref (y 152)])), (y 4, .inl (K 0, 1000, .inl (fun _ => 0))), (y 5, .inl (K 1, 5, .inl g305))] H := hP
  replace hD : va_D A [(y 0, .inr (11, [.int 0, .ref (y 1), .ref (y 2), .ref (y 3), .ref (y 4), .int 0, .ref (y 5), .int 0, .int 0, .int 0, .int 0, .int 0, .int 0, .int (-1), .ref (y 6), .int 0, .int 0, .int 0, .int 0, .int 0, .int 0, .ref (y 121), .ref (y 122), .ref (y 123), .ref (y 124), .int 0, .ref (y 126), .ref (y 127), .ref (y 128), .ref (y 129), .ref (y 130), .ref (y 131), .ref (y 132), .ref (y 133), .ref (y 134), .ref (y 135), .ref (y 136), .int 0, .int 0, .int 0, .ref (y 140), .ref (y 141), .ref (y 142), .int 0, .int 0, .ref (y 145), .ref (y 146), .ref (y 147), .int 0, .ref (y 7), .ref (y 8), .ref (y 9), .ref (y 152)])), (y 4, .inl (K 0, 1000, .inl (fun _ => 0))), (y 5, .inl (K 1, 5, .inl g305))] := hD
  refine lv_aload_n hx hb dX12_feed_29 rfl (lv_at hl 0 rfl) ?_
  refine va_get (D := D) (ci := 11) (v := .ref (y 5)) (C := RX12) (T := TX12) (N := 53) hx hb hts in_X12 hown hE.1 hP 0 rfl rfl 6 (by decide) (hts _ w_403) (fun _ h9 => h9) rfl dX12_feed_30 ?_
  refine lv_iconst (v := 2) hx hb dX12_feed_33 (by decide) ?_
  refine lv_iload_n hx hb dX12_feed_34 rfl (lv_at hl 3 rfl) ?_
  refine sti hx hb hE.1 hP hD hS 2 1 rfl rfl (in_c (by decide)) dX12_feed_35 (fun g306 H locs hP hD hS => ?_)
  replace hP : va_P D vwCl [(y 0, .inr (11, [.int 0, .ref (y 1), .ref (y 2), .ref (y 3), .ref (y 4), .int 0, .ref (y 5), .int 0, .int 0, .int 0, .int 0, .int 0, .int 0, .int (-1), .ref (y 6), .int 0, .int 0, .int 0, .int 0, .int 0, .int 0, .ref (y 121), .ref (y 122), .ref (y 123), .ref (y 124), .int 0, .ref (y 126), .ref (y 127), .ref (y 128), .ref (y 129), .ref (y 130), .ref (y 131), .ref (y 132), .ref (y 133), .ref (y 134), .ref (y 135), .ref (y 136), .int 0, .int 0, .int 0, .ref (y 140), .ref (y 141), .ref (y 142), .int 0, .int 0, .ref (y 145), .ref (y 146), .ref (y 147), .int 0, .ref (y 7), .ref (y 8), .ref (y 9), .ref (y 152)])), (y 4, .inl (K 0, 1000, .inl (fun _ => 0))), (y 5, .inl (K 1, 5, .inl g306))] H := hP
  replace hD : va_D A [(y 0, .inr (11, [.int 0, .ref (y 1), .ref (y 2), .ref (y 3), .ref (y 4), .int 0, .ref (y 5), .int 0, .int 0, .int 0, .int 0, .int 0, .int 0, .int (-1), .ref (y 6), .int 0, .int 0, .int 0, .int 0, .int 0, .int 0, .ref (y 121), .ref (y 122), .ref (y 123), .ref (y 124), .int 0, .ref (y 126), .ref (y 127), .ref (y 128), .ref (y 129), .ref (y 130), .ref (y 131), .ref (y 132), .ref (y 133), .ref (y 134), .ref (y 135), .ref (y 136), .int 0, .int 0, .int 0, .ref (y 140), .ref (y 141), .ref (y 142), .int 0, .int 0, .ref (y 145), .ref (y 146), .ref (y 147), .int 0, .ref (y 7), .ref (y 8), .ref (y 9), .ref (y 152)])), (y 4, .inl (K 0, 1000, .inl (fun _ => 0))), (y 5, .inl (K 1, 5, .inl g306))] := hD
  refine lv_aload_n hx hb dX12_feed_36 rfl (lv_at hl 0 rfl) ?_
  refine va_get (D := D) (ci := 11) (v := .ref (y 5)) (C := RX12) (T := TX12) (N := 53) hx hb hts in_X12 hown hE.1 hP 0 rfl rfl 6 (by decide) (hts _ w_403) (fun _ h9 => h9) rfl dX12_feed_37 ?_
  refine lv_iconst (v := 3) hx hb dX12_feed_40 (by decide) ?_
  refine lv_iload hx hb dX12_feed_41 (lv_at hl 4 rfl) ?_
  refine sti hx hb hE.1 hP hD hS 2 1 rfl rfl (in_c (by decide)) dX12_feed_43 (fun g307 H locs hP hD hS => ?_)
  replace hP : va_P D vwCl [(y 0, .inr (11, [.int 0, .ref (y 1), .ref (y 2), .ref (y 3), .ref (y 4), .int 0, .ref (y 5), .int 0, .int 0, .int 0, .int 0, .int 0, .int 0, .int (-1), .ref (y 6), .int 0, .int 0, .int 0, .int 0, .int 0, .int 0, .ref (y 121), .ref (y 122), .ref (y 123), .ref (y 124), .int 0, .ref (y 126), .ref (y 127), .ref (y 128), .ref (y 129), .ref (y 130), .ref (y 131), .ref (y 132), .ref (y 133), .ref (y 134), .ref (y 135), .ref (y 136), .int 0, .int 0, .int 0, .ref (y 140), .ref (y 141), .ref (y 142), .int 0, .int 0, .ref (y 145), .ref (y 146), .ref (y 147), .int 0, .ref (y 7), .ref (y 8), .ref (y 9), .ref (y 152)])), (y 4, .inl (K 0, 1000, .inl (fun _ => 0))), (y 5, .inl (K 1, 5, .inl g307))] H := hP
  replace hD : va_D A [(y 0, .inr (11, [.int 0, .ref (y 1), .ref (y 2), .ref (y 3), .ref (y 4), .int 0, .ref (y 5), .int 0, .int 0, .int 0, .int 0, .int 0, .int 0, .int (-1), .ref (y 6), .int 0, .int 0, .int 0, .int 0, .int 0, .int 0, .ref (y 121), .ref (y 122), .ref (y 123), .ref (y 124), .int 0, .ref (y 126), .ref (y 127), .ref (y 128), .ref (y 129), .ref (y 130), .ref (y 131), .ref (y 132), .ref (y 133), .ref (y 134), .ref (y 135), .ref (y 136), .int 0, .int 0, .int 0, .ref (y 140), .ref (y 141), .ref (y 142), .int 0, .int 0, .ref (y 145), .ref (y 146), .ref (y 147), .int 0, .ref (y 7), .ref (y 8), .ref (y 9), .ref (y 152)])), (y 4, .inl (K 0, 1000, .inl (fun _ => 0))), (y 5, .inl (K 1, 5, .inl g307))] := hD
  refine lv_aload_n hx hb dX12_feed_44 rfl (lv_at hl 0 rfl) ?_
  refine va_get (D := D) (ci := 11) (v := .ref (y 5)) (C := RX12) (T := TX12) (N := 53) hx hb hts in_X12 hown hE.1 hP 0 rfl rfl 6 (by decide) (hts _ w_403) (fun _ h9 => h9) rfl dX12_feed_45 ?_
  refine lv_iconst (v := 4) hx hb dX12_feed_48 (by decide) ?_
  refine lv_iload hx hb dX12_feed_49 (lv_at hl 5 rfl) ?_
  refine sti hx hb hE.1 hP hD hS 2 1 rfl rfl (in_c (by decide)) dX12_feed_51 (fun g308 H locs hP hD hS => ?_)
  replace hP : va_P D vwCl [(y 0, .inr (11, [.int 0, .ref (y 1), .ref (y 2), .ref (y 3), .ref (y 4), .int 0, .ref (y 5), .int 0, .int 0, .int 0, .int 0, .int 0, .int 0, .int (-1), .ref (y 6), .int 0, .int 0, .int 0, .int 0, .int 0, .int 0, .ref (y 121), .ref (y 122), .ref (y 123), .ref (y 124), .int 0, .ref (y 126), .ref (y 127), .ref (y 128), .ref (y 129), .ref (y 130), .ref (y 131), .ref (y 132), .ref (y 133), .ref (y 134), .ref (y 135), .ref (y 136), .int 0, .int 0, .int 0, .ref (y 140), .ref (y 141), .ref (y 142), .int 0, .int 0, .ref (y 145), .ref (y 146), .ref (y 147), .int 0, .ref (y 7), .ref (y 8), .ref (y 9), .ref (y 152)])), (y 4, .inl (K 0, 1000, .inl (fun _ => 0))), (y 5, .inl (K 1, 5, .inl g308))] H := hP
  replace hD : va_D A [(y 0, .inr (11, [.int 0, .ref (y 1), .ref (y 2), .ref (y 3), .ref (y 4), .int 0, .ref (y 5), .int 0, .int 0, .int 0, .int 0, .int 0, .int 0, .int (-1), .ref (y 6), .int 0, .int 0, .int 0, .int 0, .int 0, .int 0, .ref (y 121), .ref (y 122), .ref (y 123), .ref (y 124), .int 0, .ref (y 126), .ref (y 127), .ref (y 128), .ref (y 129), .ref (y 130), .ref (y 131), .ref (y 132), .ref (y 133), .ref (y 134), .ref (y 135), .ref (y 136), .int 0, .int 0, .int 0, .ref (y 140), .ref (y 141), .ref (y 142), .int 0, .int 0, .ref (y 145), .ref (y 146), .ref (y 147), .int 0, .ref (y 7), .ref (y 8), .ref (y 9), .ref (y 152)])), (y 4, .inl (K 0, 1000, .inl (fun _ => 0))), (y 5, .inl (K 1, 5, .inl g308))] := hD
  refine lv_iconst (v := 0) hx hb dX12_feed_52 (by decide) ?_
  refine lv_istore (lv' := [(6, .int 0), (0, .ref (y 0)), (1, .int p0), (2, .int p1), (3, .int p2), (4, .int p3), (5, .int p4)]) hx hb dX12_feed_53 hl (by decide) rfl (fun ls hl => ?_)
  refine lv_iload hx hb dX12_feed_55 (lv_at hl 0 rfl) ?_
  refine lv_bipush (v := 20) hx hb dX12_feed_57 (by decide) ?_
  refine lv_icmp_ge (tgt := 101) hx hb dX12_feed_59 (by decide) (fun h => absurd h (by decide)) (fun _ => ?_)
  refine lv_aload_n hx hb dX12_feed_62 rfl (lv_at hl 1 rfl) ?_
  refine va_get (D := D) (ci := 11) (v := .ref (y 4)) (C := RX12) (T := TX12) (N := 53) hx hb hts in_X12 hown hE.1 hP 0 rfl rfl 4 (by decide) (hts _ w_402) (fun _ h9 => h9) rfl dX12_feed_63 ?_
  refine lv_aload_n hx hb dX12_feed_66 rfl (lv_at hl 1 rfl) ?_
  refine va_get (D := D) (ci := 11) (v := .int 0) (C := RX12) (T := TX12) (N := 53) hx hb hts in_X12 hown hE.1 hP 0 rfl rfl 5 (by decide) (hts _ w_238) (fun _ h9 => h9) rfl dX12_feed_67 ?_
  refine lv_iload hx hb dX12_feed_70 (lv_at hl 0 rfl) ?_
  refine lv_iadd hx hb dX12_feed_72 ?_
  refine tc (y := 0) (by decide) ?_
  refine lv_aload_n hx hb dX12_feed_73 rfl (lv_at hl 1 rfl) ?_
  refine va_get (D := D) (ci := 11) (v := .ref (y 5)) (C := RX12) (T := TX12) (N := 53) hx hb hts in_X12 hown hE.1 hP 0 rfl rfl 6 (by decide) (hts _ w_403) (fun _ h9 => h9) rfl dX12_feed_74 ?_
  refine lv_iload hx hb dX12_feed_77 (lv_at hl 0 rfl) ?_
  refine lv_iconst (v := 4) hx hb dX12_feed_79 (by decide) ?_
  refine lv_idiv hx hb dX12_feed_80 (by decide) ?_
  refine tc (y := 0) (by decide) ?_
  refine va_iald hx hb hE.1 hP 2 1 rfl rfl (in_c (by decide)) dX12_feed_81 ?_
  refine lv_topi (fun v309 ev309 => ?_)
  refine lv_bipush (v := 24) hx hb dX12_feed_82 (by decide) ?_
  refine lv_bipush (v := 8) hx hb dX12_feed_84 (by decide) ?_
  refine lv_iload hx hb dX12_feed_86 (lv_at hl 0 rfl) ?_
  refine lv_iconst (v := 4) hx hb dX12_feed_88 (by decide) ?_
  refine lv_irem hx hb dX12_feed_89 (by decide) ?_
  refine tc (y := 0) (by decide) ?_
  refine lv_imul hx hb dX12_feed_90 ?_
  refine tc (y := 0) (by decide) ?_
  refine lv_isub hx hb dX12_feed_91 ?_
  refine tc (y := 24) (by decide) ?_
  refine lv_ishr hx hb dX12_feed_92 ?_
  refine lv_topi (fun v310 ev310 => ?_)
  refine lv_i2b hx hb dX12_feed_93 rfl ?_
  refine lv_topi (fun v311 ev311 => ?_)
  refine stb hx hb hE.1 hP hD hS 1 0 rfl rfl (in_c (by decide)) dX12_feed_94 (fun g312 H locs hP hD hS => ?_)
  replace hP : va_P D vwCl [(y 0, .inr (11, [.int 0, .ref (y 1), .ref (y 2), .ref (y 3), .ref (y 4), .int 0, .ref (y 5), .int 0, .int 0, .int 0, .int 0, .int 0, .int 0, .int (-1), .ref (y 6), .int 0, .int 0, .int 0, .int 0, .int 0, .int 0, .ref (y 121), .ref (y 122), .ref (y 123), .ref (y 124), .int 0, .ref (y 126), .ref (y 127), .ref (y 128), .ref (y 129), .ref (y 130), .ref (y 131), .ref (y 132), .ref (y 133), .ref (y 134), .ref (y 135), .ref (y 136), .int 0, .int 0, .int 0, .ref (y 140), .ref (y 141), .ref (y 142), .int 0, .int 0, .ref (y 145), .ref (y 146), .ref (y 147), .int 0, .ref (y 7), .ref (y 8), .ref (y 9), .ref (y 152)])), (y 4, .inl (K 0, 1000, .inl g312)), (y 5, .inl (K 1, 5, .inl g308))] H := hP
  replace hD : va_D A [(y 0, .inr (11, [.int 0, .ref (y 1), .ref (y 2), .ref (y 3), .ref (y 4), .int 0, .ref (y 5), .int 0, .int 0, .int 0, .int 0, .int 0, .int 0, .int (-1), .ref (y 6), .int 0, .int 0, .int 0, .int 0, .int 0, .int 0, .ref (y 121), .ref (y 122), .ref (y 123), .ref (y 124), .int 0, .ref (y 126), .ref (y 127), .ref (y 128), .ref (y 129), .ref (y 130), .ref (y 131), .ref (y 132), .ref (y 133), .ref (y 134), .ref (y 135), .ref (y 136), .int 0, .int 0, .int 0, .ref (y 140), .ref (y 141), .ref (y 142), .int 0, .int 0, .ref (y 145), .ref (y 146), .ref (y 147), .int 0, .ref (y 7), .ref (y 8), .ref (y 9), .ref (y 152)])), (y 4, .inl (K 0, 1000, .inl g312)), (y 5, .inl (K 1, 5, .inl g308))] := hD
  refine lv_iinc (v := 1) (lv' := [(6, .int 1), (0, .ref (y 0)), (1, .int p0), (2, .int p1), (3, .int p2), (4, .int p3), (5, .int p4)]) hx hb dX12_feed_95 hl (k := 0) rfl (by decide) (by decide) rfl (fun ls hl => ?_)
  refine lv_goto (tgt := 55) hx hb dX12_feed_98 (by decide) ?_
  refine lv_iload hx hb dX12_feed_55 (lv_at hl 0 rfl) ?_
  refine lv_bipush (v := 20) hx hb dX12_feed_57 (by decide) ?_
  refine lv_icmp_ge (tgt := 101) hx hb dX12_feed_59 (by decide) (fun h => absurd h (by decide)) (fun _ => ?_)
  refine lv_aload_n hx hb dX12_feed_62 rfl (lv_at hl 1 rfl) ?_
  refine va_get (D := D) (ci := 11) (v := .ref (y 4)) (C := RX12) (T := TX12) (N := 53) hx hb hts in_X12 hown hE.1 hP 0 rfl rfl 4 (by decide) (hts _ w_402) (fun _ h9 => h9) rfl dX12_feed_63 ?_
  refine lv_aload_n hx hb dX12_feed_66 rfl (lv_at hl 1 rfl) ?_
  refine va_get (D := D) (ci := 11) (v := .int 0) (C := RX12) (T := TX12) (N := 53) hx hb hts in_X12 hown hE.1 hP 0 rfl rfl 5 (by decide) (hts _ w_238) (fun _ h9 => h9) rfl dX12_feed_67 ?_
  refine lv_iload hx hb dX12_feed_70 (lv_at hl 0 rfl) ?_
  refine lv_iadd hx hb dX12_feed_72 ?_
  refine tc (y := 1) (by decide) ?_
  refine lv_aload_n hx hb dX12_feed_73 rfl (lv_at hl 1 rfl) ?_
  refine va_get (D := D) (ci := 11) (v := .ref (y 5)) (C := RX12) (T := TX12) (N := 53) hx hb hts in_X12 hown hE.1 hP 0 rfl rfl 6 (by decide) (hts _ w_403) (fun _ h9 => h9) rfl dX12_feed_74 ?_
  refine lv_iload hx hb dX12_feed_77 (lv_at hl 0 rfl) ?_
  refine lv_iconst (v := 4) hx hb dX12_feed_79 (by decide) ?_
  refine lv_idiv hx hb dX12_feed_80 (by decide) ?_
  refine tc (y := 0) (by decide) ?_
  refine va_iald hx hb hE.1 hP 2 1 rfl rfl (in_c (by decide)) dX12_feed_81 ?_
  refine lv_topi (fun v313 ev313 => ?_)
  refine lv_bipush (v := 24) hx hb dX12_feed_82 (by decide) ?_
  refine lv_bipush (v := 8) hx hb dX12_feed_84 (by decide) ?_
  refine lv_iload hx hb dX12_feed_86 (lv_at hl 0 rfl) ?_
  refine lv_iconst (v := 4) hx hb dX12_feed_88 (by decide) ?_
  refine lv_irem hx hb dX12_feed_89 (by decide) ?_
  refine tc (y := 1) (by decide) ?_
  refine lv_imul hx hb dX12_feed_90 ?_
  refine tc (y := 8) (by decide) ?_
  refine lv_isub hx hb dX12_feed_91 ?_
  refine tc (y := 16) (by decide) ?_
  refine lv_ishr hx hb dX12_feed_92 ?_
  refine lv_topi (fun v314 ev314 => ?_)
  refine lv_i2b hx hb dX12_feed_93 rfl ?_
  refine lv_topi (fun v315 ev315 => ?_)
  refine stb hx hb hE.1 hP hD hS 1 0 rfl rfl (in_c (by decide)) dX12_feed_94 (fun g316 H locs hP hD hS => ?_)
  replace hP : va_P D vwCl [(y 0, .inr (11, [.int 0, .ref (y 1), .ref (y 2), .ref (y 3), .ref (y 4), .int 0, .ref (y 5), .int 0, .int 0, .int 0, .int 0, .int 0, .int 0, .int (-1), .ref (y 6), .int 0, .int 0, .int 0, .int 0, .int 0, .int 0, .ref (y 121), .ref (y 122), .ref (y 123), .ref (y 124), .int 0, .ref (y 126), .ref (y 127), .ref (y 128), .ref (y 129), .ref (y 130), .ref (y 131), .ref (y 132), .ref (y 133), .ref (y 134), .ref (y 135), .ref (y 136), .int 0, .int 0, .int 0, .ref (y 140), .ref (y 141), .ref (y 142), .int 0, .int 0, .ref (y 145), .ref (y 146), .ref (y 147), .int 0, .ref (y 7), .ref (y 8), .ref (y 9), .ref (y 152)])), (y 4, .inl (K 0, 1000, .inl g316)), (y 5, .inl (K 1, 5, .inl g308))] H := hP
  replace hD : va_D A [(y 0, .inr (11, [.int 0, .ref (y 1), .ref (y 2), .ref (y 3), .ref (y 4), .int 0, .ref (y 5), .int 0, .int 0, .int 0, .int 0, .int 0, .int 0, .int (-1), .ref (y 6), .int 0, .int 0, .int 0, .int 0, .int 0, .int 0, .ref (y 121), .ref (y 122), .ref (y 123), .ref (y 124), .int 0, .ref (y 126), .ref (y 127), .ref (y 128), .ref (y 129), .ref (y 130), .ref (y 131), .ref (y 132), .ref (y 133), .ref (y 134), .ref (y 135), .ref (y 136), .int 0, .int 0, .int 0, .ref (y 140), .ref (y 141), .ref (y 142), .int 0, .int 0, .ref (y 145), .ref (y 146), .ref (y 147), .int 0, .ref (y 7), .ref (y 8), .ref (y 9), .ref (y 152)])), (y 4, .inl (K 0, 1000, .inl g316)), (y 5, .inl (K 1, 5, .inl g308))] := hD
  refine lv_iinc (v := 2) (lv' := [(6, .int 2), (0, .ref (y 0)), (1, .int p0), (2, .int p1), (3, .int p2), (4, .int p3), (5, .int p4)]) hx hb dX12_feed_95 hl (k := 0) rfl (by decide) (by decide) rfl (fun ls hl => ?_)
  refine lv_goto (tgt := 55) hx hb dX12_feed_98 (by decide) ?_
  refine lv_iload hx hb dX12_feed_55 (lv_at hl 0 rfl) ?_
  refine lv_bipush (v := 20) hx hb dX12_feed_57 (by decide) ?_
  refine lv_icmp_ge (tgt := 101) hx hb dX12_feed_59 (by decide) (fun h => absurd h (by decide)) (fun _ => ?_)
  refine lv_aload_n hx hb dX12_feed_62 rfl (lv_at hl 1 rfl) ?_
  refine va_get (D := D) (ci := 11) (v := .ref (y 4)) (C := RX12) (T := TX12) (N := 53) hx hb hts in_X12 hown hE.1 hP 0 rfl rfl 4 (by decide) (hts _ w_402) (fun _ h9 => h9) rfl dX12_feed_63 ?_
  refine lv_aload_n hx hb dX12_feed_66 rfl (lv_at hl 1 rfl) ?_
  refine va_get (D := D) (ci := 11) (v := .int 0) (C := RX12) (T := TX12) (N := 53) hx hb hts in_X12 hown hE.1 hP 0 rfl rfl 5 (by decide) (hts _ w_238) (fun _ h9 => h9) rfl dX12_feed_67 ?_
  refine lv_iload hx hb dX12_feed_70 (lv_at hl 0 rfl) ?_
  refine lv_iadd hx hb dX12_feed_72 ?_
  refine tc (y := 2) (by decide) ?_
  refine lv_aload_n hx hb dX12_feed_73 rfl (lv_at hl 1 rfl) ?_
  refine va_get (D := D) (ci := 11) (v := .ref (y 5)) (C := RX12) (T := TX12) (N := 53) hx hb hts in_X12 hown hE.1 hP 0 rfl rfl 6 (by decide) (hts _ w_403) (fun _ h9 => h9) rfl dX12_feed_74 ?_
  refine lv_iload hx hb dX12_feed_77 (lv_at hl 0 rfl) ?_
  refine lv_iconst (v := 4) hx hb dX12_feed_79 (by decide) ?_
  refine lv_idiv hx hb dX12_feed_80 (by decide) ?_
  refine tc (y := 0) (by decide) ?_
  refine va_iald hx hb hE.1 hP 2 1 rfl rfl (in_c (by decide)) dX12_feed_81 ?_
  refine lv_topi (fun v317 ev317 => ?_)
  refine lv_bipush (v := 24) hx hb dX12_feed_82 (by decide) ?_
  refine lv_bipush (v := 8) hx hb dX12_feed_84 (by decide) ?_
  refine lv_iload hx hb dX12_feed_86 (lv_at hl 0 rfl) ?_
  refine lv_iconst (v := 4) hx hb dX12_feed_88 (by decide) ?_
  refine lv_irem hx hb dX12_feed_89 (by decide) ?_
  refine tc (y := 2) (by decide) ?_
  refine lv_imul hx hb dX12_feed_90 ?_
  refine tc (y := 16) (by decide) ?_
  refine lv_isub hx hb dX12_feed_91 ?_
  refine tc (y := 8) (by decide) ?_
  refine lv_ishr hx hb dX12_feed_92 ?_
  refine lv_topi (fun v318 ev318 => ?_)
  refine lv_i2b hx hb dX12_feed_93 rfl ?_
  refine lv_topi (fun v319 ev319 => ?_)
  refine stb hx hb hE.1 hP hD hS 1 0 rfl rfl (in_c (by decide)) dX12_feed_94 (fun g320 H locs hP hD hS => ?_)
  replace hP : va_P D vwCl [(y 0, .inr (11, [.int 0, .ref (y 1), .ref (y 2), .ref (y 3), .ref (y 4), .int 0, .ref (y 5), .int 0, .int 0, .int 0, .int 0, .int 0, .int 0, .int (-1), .ref (y 6), .int 0, .int 0, .int 0, .int 0, .int 0, .int 0, .ref (y 121), .ref (y 122), .ref (y 123), .ref (y 124), .int 0, .ref (y 126), .ref (y 127), .ref (y 128), .ref (y 129), .ref (y 130), .ref (y 131), .ref (y 132), .ref (y 133), .ref (y 134), .ref (y 135), .ref (y 136), .int 0, .int 0, .int 0, .ref (y 140), .ref (y 141), .ref (y 142), .int 0, .int 0, .ref (y 145), .ref (y 146), .ref (y 147), .int 0, .ref (y 7), .ref (y 8), .ref (y 9), .ref (y 152)])), (y 4, .inl (K 0, 1000, .inl g320)), (y 5, .inl (K 1, 5, .inl g308))] H := hP
  replace hD : va_D A [(y 0, .inr (11, [.int 0, .ref (y 1), .ref (y 2), .ref (y 3), .ref (y 4), .int 0, .ref (y 5), .int 0, .int 0, .int 0, .int 0, .int 0, .int 0, .int (-1), .ref (y 6), .int 0, .int 0, .int 0, .int 0, .int 0, .int 0, .ref (y 121), .ref (y 122), .ref (y 123), .ref (y 124), .int 0, .ref (y 126), .ref (y 127), .ref (y 128), .ref (y 129), .ref (y 130), .ref (y 131), .ref (y 132), .ref (y 133), .ref (y 134), .ref (y 135), .ref (y 136), .int 0, .int 0, .int 0, .ref (y 140), .ref (y 141), .ref (y 142), .int 0, .int 0, .ref (y 145), .ref (y 146), .ref (y 147), .int 0, .ref (y 7), .ref (y 8), .ref (y 9), .ref (y 152)])), (y 4, .inl (K 0, 1000, .inl g320)), (y 5, .inl (K 1, 5, .inl g308))] := hD
  refine lv_iinc (v := 3) (lv' := [(6, .int 3), (0, .ref (y 0)), (1, .int p0), (2, .int p1), (3, .int p2), (4, .int p3), (5, .int p4)]) hx hb dX12_feed_95 hl (k := 0) rfl (by decide) (by decide) rfl (fun ls hl => ?_)
  refine lv_goto (tgt := 55) hx hb dX12_feed_98 (by decide) ?_
  refine lv_iload hx hb dX12_feed_55 (lv_at hl 0 rfl) ?_
  refine lv_bipush (v := 20) hx hb dX12_feed_57 (by decide) ?_
  refine lv_icmp_ge (tgt := 101) hx hb dX12_feed_59 (by decide) (fun h => absurd h (by decide)) (fun _ => ?_)
  refine lv_aload_n hx hb dX12_feed_62 rfl (lv_at hl 1 rfl) ?_
  refine va_get (D := D) (ci := 11) (v := .ref (y 4)) (C := RX12) (T := TX12) (N := 53) hx hb hts in_X12 hown hE.1 hP 0 rfl rfl 4 (by decide) (hts _ w_402) (fun _ h9 => h9) rfl dX12_feed_63 ?_
  refine lv_aload_n hx hb dX12_feed_66 rfl (lv_at hl 1 rfl) ?_
  refine va_get (D := D) (ci := 11) (v := .int 0) (C := RX12) (T := TX12) (N := 53) hx hb hts in_X12 hown hE.1 hP 0 rfl rfl 5 (by decide) (hts _ w_238) (fun _ h9 => h9) rfl dX12_feed_67 ?_
  refine lv_iload hx hb dX12_feed_70 (lv_at hl 0 rfl) ?_
  refine lv_iadd hx hb dX12_feed_72 ?_
  refine tc (y := 3) (by decide) ?_
  refine lv_aload_n hx hb dX12_feed_73 rfl (lv_at hl 1 rfl) ?_
  refine va_get (D := D) (ci := 11) (v := .ref (y 5)) (C := RX12) (T := TX12) (N := 53) hx hb hts in_X12 hown hE.1 hP 0 rfl rfl 6 (by decide) (hts _ w_403) (fun _ h9 => h9) rfl dX12_feed_74 ?_
  refine lv_iload hx hb dX12_feed_77 (lv_at hl 0 rfl) ?_
  refine lv_iconst (v := 4) hx hb dX12_feed_79 (by decide) ?_
  refine lv_idiv hx hb dX12_feed_80 (by decide) ?_
  refine tc (y := 0) (by decide) ?_
  refine va_iald hx hb hE.1 hP 2 1 rfl rfl (in_c (by decide)) dX12_feed_81 ?_
  refine lv_topi (fun v321 ev321 => ?_)
  refine lv_bipush (v := 24) hx hb dX12_feed_82 (by decide) ?_
  refine lv_bipush (v := 8) hx hb dX12_feed_84 (by decide) ?_
  refine lv_iload hx hb dX12_feed_86 (lv_at hl 0 rfl) ?_
  refine lv_iconst (v := 4) hx hb dX12_feed_88 (by decide) ?_
  refine lv_irem hx hb dX12_feed_89 (by decide) ?_
  refine tc (y := 3) (by decide) ?_
  refine lv_imul hx hb dX12_feed_90 ?_
  refine tc (y := 24) (by decide) ?_
  refine lv_isub hx hb dX12_feed_91 ?_
  refine tc (y := 0) (by decide) ?_
  refine lv_ishr hx hb dX12_feed_92 ?_
  refine lv_topi (fun v322 ev322 => ?_)
  refine lv_i2b hx hb dX12_feed_93 rfl ?_
  refine lv_topi (fun v323 ev323 => ?_)
  refine stb hx hb hE.1 hP hD hS 1 0 rfl rfl (in_c (by decide)) dX12_feed_94 (fun g324 H locs hP hD hS => ?_)
  replace hP : va_P D vwCl [(y 0, .inr (11, [.int 0, .ref (y 1), .ref (y 2), .ref (y 3), .ref (y 4), .int 0, .ref (y 5), .int 0, .int 0, .int 0, .int 0, .int 0, .int 0, .int (-1), .ref (y 6), .int 0, .int 0, .int 0, .int 0, .int 0, .int 0, .ref (y 121), .ref (y 122), .ref (y 123), .ref (y 124), .int 0, .ref (y 126), .ref (y 127), .ref (y 128), .ref (y 129), .ref (y 130), .ref (y 131), .ref (y 132), .ref (y 133), .ref (y 134), .ref (y 135), .ref (y 136), .int 0, .int 0, .int 0, .ref (y 140), .ref (y 141), .ref (y 142), .int 0, .int 0, .ref (y 145), .ref (y 146), .ref (y 147), .int 0, .ref (y 7), .ref (y 8), .ref (y 9), .ref (y 152)])), (y 4, .inl (K 0, 1000, .inl g324)), (y 5, .inl (K 1, 5, .inl g308))] H := hP
  replace hD : va_D A [(y 0, .inr (11, [.int 0, .ref (y 1), .ref (y 2), .ref (y 3), .ref (y 4), .int 0, .ref (y 5), .int 0, .int 0, .int 0, .int 0, .int 0, .int 0, .int (-1), .ref (y 6), .int 0, .int 0, .int 0, .int 0, .int 0, .int 0, .ref (y 121), .ref (y 122), .ref (y 123), .ref (y 124), .int 0, .ref (y 126), .ref (y 127), .ref (y 128), .ref (y 129), .ref (y 130), .ref (y 131), .ref (y 132), .ref (y 133), .ref (y 134), .ref (y 135), .ref (y 136), .int 0, .int 0, .int 0, .ref (y 140), .ref (y 141), .ref (y 142), .int 0, .int 0, .ref (y 145), .ref (y 146), .ref (y 147), .int 0, .ref (y 7), .ref (y 8), .ref (y 9), .ref (y 152)])), (y 4, .inl (K 0, 1000, .inl g324)), (y 5, .inl (K 1, 5, .inl g308))] := hD
  refine lv_iinc (v := 4) (lv' := [(6, .int 4), (0, .ref (y 0)), (1, .int p0), (2, .int p1), (3, .int p2), (4, .int p3), (5, .int p4)]) hx hb dX12_feed_95 hl (k := 0) rfl (by decide) (by decide) rfl (fun ls hl => ?_)
  refine lv_goto (tgt := 55) hx hb dX12_feed_98 (by decide) ?_
  refine lv_iload hx hb dX12_feed_55 (lv_at hl 0 rfl) ?_
  refine lv_bipush (v := 20) hx hb dX12_feed_57 (by decide) ?_
  refine lv_icmp_ge (tgt := 101) hx hb dX12_feed_59 (by decide) (fun h => absurd h (by decide)) (fun _ => ?_)
  refine lv_aload_n hx hb dX12_feed_62 rfl (lv_at hl 1 rfl) ?_
  refine va_get (D := D) (ci := 11) (v := .ref (y 4)) (C := RX12) (T := TX12) (N := 53) hx hb hts in_X12 hown hE.1 hP 0 rfl rfl 4 (by decide) (hts _ w_402) (fun _ h9 => h9) rfl dX12_feed_63 ?_
  refine lv_aload_n hx hb dX12_feed_66 rfl (lv_at hl 1 rfl) ?_
  refine va_get (D := D) (ci := 11) (v := .int 0) (C := RX12) (T := TX12) (N := 53) hx hb hts in_X12 hown hE.1 hP 0 rfl rfl 5 (by decide) (hts _ w_238) (fun _ h9 => h9) rfl dX12_feed_67 ?_
  refine lv_iload hx hb dX12_feed_70 (lv_at hl 0 rfl) ?_
  refine lv_iadd hx hb dX12_feed_72 ?_
  refine tc (y := 4) (by decide) ?_
  refine lv_aload_n hx hb dX12_feed_73 rfl (lv_at hl 1 rfl) ?_
  refine va_get (D := D) (ci := 11) (v := .ref (y 5)) (C := RX12) (T := TX12) (N := 53) hx hb hts in_X12 hown hE.1 hP 0 rfl rfl 6 (by decide) (hts _ w_403) (fun _ h9 => h9) rfl dX12_feed_74 ?_
  refine lv_iload hx hb dX12_feed_77 (lv_at hl 0 rfl) ?_
  refine lv_iconst (v := 4) hx hb dX12_feed_79 (by decide) ?_
  refine lv_idiv hx hb dX12_feed_80 (by decide) ?_
  refine tc (y := 1) (by decide) ?_
  refine va_iald hx hb hE.1 hP 2 1 rfl rfl (in_c (by decide)) dX12_feed_81 ?_
  refine lv_topi (fun v325 ev325 => ?_)
  refine lv_bipush (v := 24) hx hb dX12_feed_82 (by decide) ?_
  refine lv_bipush (v := 8) hx hb dX12_feed_84 (by decide) ?_
  refine lv_iload hx hb dX12_feed_86 (lv_at hl 0 rfl) ?_
  refine lv_iconst (v := 4) hx hb dX12_feed_88 (by decide) ?_
  refine lv_irem hx hb dX12_feed_89 (by decide) ?_
  refine tc (y := 0) (by decide) ?_
  refine lv_imul hx hb dX12_feed_90 ?_
  refine tc (y := 0) (by decide) ?_
  refine lv_isub hx hb dX12_feed_91 ?_
  refine tc (y := 24) (by decide) ?_
  refine lv_ishr hx hb dX12_feed_92 ?_
  refine lv_topi (fun v326 ev326 => ?_)
  refine lv_i2b hx hb dX12_feed_93 rfl ?_
  refine lv_topi (fun v327 ev327 => ?_)
  refine stb hx hb hE.1 hP hD hS 1 0 rfl rfl (in_c (by decide)) dX12_feed_94 (fun g328 H locs hP hD hS => ?_)
  replace hP : va_P D vwCl [(y 0, .inr (11, [.int 0, .ref (y 1), .ref (y 2), .ref (y 3), .ref (y 4), .int 0, .ref (y 5), .int 0, .int 0, .int 0, .int 0, .int 0, .int 0, .int (-1), .ref (y 6), .int 0, .int 0, .int 0, .int 0, .int 0, .int 0, .ref (y 121), .ref (y 122), .ref (y 123), .ref (y 124), .int 0, .ref (y 126), .ref (y 127), .ref (y 128), .ref (y 129), .ref (y 130), .ref (y 131), .ref (y 132), .ref (y 133), .ref (y 134), .ref (y 135), .ref (y 136), .int 0, .int 0, .int 0, .ref (y 140), .ref (y 141), .ref (y 142), .int 0, .int 0, .ref (y 145), .ref (y 146), .ref (y 147), .int 0, .ref (y 7), .ref (y 8), .ref (y 9), .ref (y 152)])), (y 4, .inl (K 0, 1000, .inl g328)), (y 5, .inl (K 1, 5, .inl g308))] H := hP
  replace hD : va_D A [(y 0, .inr (11, [.int 0, .ref (y 1), .ref (y 2), .ref (y 3), .ref (y 4), .int 0, .ref (y 5), .int 0, .int 0, .int 0, .int 0, .int 0, .int 0, .int (-1), .ref (y 6), .int 0, .int 0, .int 0, .int 0, .int 0, .int 0, .ref (y 121), .ref (y 122), .ref (y 123), .ref (y 124), .int 0, .ref (y 126), .ref (y 127), .ref (y 128), .ref (y 129), .ref (y 130), .ref (y 131), .ref (y 132), .ref (y 133), .ref (y 134), .ref (y 135), .ref (y 136), .int 0, .int 0, .int 0, .ref (y 140), .ref (y 141), .ref (y 142), .int 0, .int 0, .ref (y 145), .ref (y 146), .ref (y 147), .int 0, .ref (y 7), .ref (y 8), .ref (y 9), .ref (y 152)])), (y 4, .inl (K 0, 1000, .inl g328)), (y 5, .inl (K 1, 5, .inl g308))] := hD
  refine lv_iinc (v := 5) (lv' := [(6, .int 5), (0, .ref (y 0)), (1, .int p0), (2, .int p1), (3, .int p2), (4, .int p3), (5, .int p4)]) hx hb dX12_feed_95 hl (k := 0) rfl (by decide) (by decide) rfl (fun ls hl => ?_)
  refine lv_goto (tgt := 55) hx hb dX12_feed_98 (by decide) ?_
  refine lv_iload hx hb dX12_feed_55 (lv_at hl 0 rfl) ?_
  refine lv_bipush (v := 20) hx hb dX12_feed_57 (by decide) ?_
  refine lv_icmp_ge (tgt := 101) hx hb dX12_feed_59 (by decide) (fun h => absurd h (by decide)) (fun _ => ?_)
  refine lv_aload_n hx hb dX12_feed_62 rfl (lv_at hl 1 rfl) ?_
  refine va_get (D := D) (ci := 11) (v := .ref (y 4)) (C := RX12) (T := TX12) (N := 53) hx hb hts in_X12 hown hE.1 hP 0 rfl rfl 4 (by decide) (hts _ w_402) (fun _ h9 => h9) rfl dX12_feed_63 ?_
  refine lv_aload_n hx hb dX12_feed_66 rfl (lv_at hl 1 rfl) ?_
  refine va_get (D := D) (ci := 11) (v := .int 0) (C := RX12) (T := TX12) (N := 53) hx hb hts in_X12 hown hE.1 hP 0 rfl rfl 5 (by decide) (hts _ w_238) (fun _ h9 => h9) rfl dX12_feed_67 ?_
  refine lv_iload hx hb dX12_feed_70 (lv_at hl 0 rfl) ?_
  refine lv_iadd hx hb dX12_feed_72 ?_
  refine tc (y := 5) (by decide) ?_
  refine lv_aload_n hx hb dX12_feed_73 rfl (lv_at hl 1 rfl) ?_
  refine va_get (D := D) (ci := 11) (v := .ref (y 5)) (C := RX12) (T := TX12) (N := 53) hx hb hts in_X12 hown hE.1 hP 0 rfl rfl 6 (by decide) (hts _ w_403) (fun _ h9 => h9) rfl dX12_feed_74 ?_
  refine lv_iload hx hb dX12_feed_77 (lv_at hl 0 rfl) ?_
  refine lv_iconst (v := 4) hx hb dX12_feed_79 (by decide) ?_
  refine lv_idiv hx hb dX12_feed_80 (by decide) ?_
  refine tc (y := 1) (by decide) ?_
  refine va_iald hx hb hE.1 hP 2 1 rfl rfl (in_c (by decide)) dX12_feed_81 ?_
  refine lv_topi (fun v329 ev329 => ?_)
  refine lv_bipush (v := 24) hx hb dX12_feed_82 (by decide) ?_
  refine lv_bipush (v := 8) hx hb dX12_feed_84 (by decide) ?_
  refine lv_iload hx hb dX12_feed_86 (lv_at hl 0 rfl) ?_
  refine lv_iconst (v := 4) hx hb dX12_feed_88 (by decide) ?_
  refine lv_irem hx hb dX12_feed_89 (by decide) ?_
  refine tc (y := 1) (by decide) ?_
  refine lv_imul hx hb dX12_feed_90 ?_
  refine tc (y := 8) (by decide) ?_
  refine lv_isub hx hb dX12_feed_91 ?_
  refine tc (y := 16) (by decide) ?_
  refine lv_ishr hx hb dX12_feed_92 ?_
  refine lv_topi (fun v330 ev330 => ?_)
  refine lv_i2b hx hb dX12_feed_93 rfl ?_
  refine lv_topi (fun v331 ev331 => ?_)
  refine stb hx hb hE.1 hP hD hS 1 0 rfl rfl (in_c (by decide)) dX12_feed_94 (fun g332 H locs hP hD hS => ?_)
  replace hP : va_P D vwCl [(y 0, .inr (11, [.int 0, .ref (y 1), .ref (y 2), .ref (y 3), .ref (y 4), .int 0, .ref (y 5), .int 0, .int 0, .int 0, .int 0, .int 0, .int 0, .int (-1), .ref (y 6), .int 0, .int 0, .int 0, .int 0, .int 0, .int 0, .ref (y 121), .ref (y 122), .ref (y 123), .ref (y 124), .int 0, .ref (y 126), .ref (y 127), .ref (y 128), .ref (y 129), .ref (y 130), .ref (y 131), .ref (y 132), .ref (y 133), .ref (y 134), .ref (y 135), .ref (y 136), .int 0, .int 0, .int 0, .ref (y 140), .ref (y 141), .ref (y 142), .int 0, .int 0, .ref (y 145), .ref (y 146), .ref (y 147), .int 0, .ref (y 7), .ref (y 8), .ref (y 9), .ref (y 152)])), (y 4, .inl (K 0, 1000, .inl g332)), (y 5, .inl (K 1, 5, .inl g308))] H := hP
  replace hD : va_D A [(y 0, .inr (11, [.int 0, .ref (y 1), .ref (y 2), .ref (y 3), .ref (y 4), .int 0, .ref (y 5), .int 0, .int 0, .int 0, .int 0, .int 0, .int 0, .int (-1), .ref (y 6), .int 0, .int 0, .int 0, .int 0, .int 0, .int 0, .ref (y 121), .ref (y 122), .ref (y 123), .ref (y 124), .int 0, .ref (y 126), .ref (y 127), .ref (y 128), .ref (y 129), .ref (y 130), .ref (y 131), .ref (y 132), .ref (y 133), .ref (y 134), .ref (y 135), .ref (y 136), .int 0, .int 0, .int 0, .ref (y 140), .ref (y 141), .ref (y 142), .int 0, .int 0, .ref (y 145), .ref (y 146), .ref (y 147), .int 0, .ref (y 7), .ref (y 8), .ref (y 9), .ref (y 152)])), (y 4, .inl (K 0, 1000, .inl g332)), (y 5, .inl (K 1, 5, .inl g308))] := hD
  refine lv_iinc (v := 6) (lv' := [(6, .int 6), (0, .ref (y 0)), (1, .int p0), (2, .int p1), (3, .int p2), (4, .int p3), (5, .int p4)]) hx hb dX12_feed_95 hl (k := 0) rfl (by decide) (by decide) rfl (fun ls hl => ?_)
  refine lv_goto (tgt := 55) hx hb dX12_feed_98 (by decide) ?_
  refine lv_iload hx hb dX12_feed_55 (lv_at hl 0 rfl) ?_
  refine lv_bipush (v := 20) hx hb dX12_feed_57 (by decide) ?_
  refine lv_icmp_ge (tgt := 101) hx hb dX12_feed_59 (by decide) (fun h => absurd h (by decide)) (fun _ => ?_)
  refine lv_aload_n hx hb dX12_feed_62 rfl (lv_at hl 1 rfl) ?_
  refine va_get (D := D) (ci := 11) (v := .ref (y 4)) (C := RX12) (T := TX12) (N := 53) hx hb hts in_X12 hown hE.1 hP 0 rfl rfl 4 (by decide) (hts _ w_402) (fun _ h9 => h9) rfl dX12_feed_63 ?_
  refine lv_aload_n hx hb dX12_feed_66 rfl (lv_at hl 1 rfl) ?_
  refine va_get (D := D) (ci := 11) (v := .int 0) (C := RX12) (T := TX12) (N := 53) hx hb hts in_X12 hown hE.1 hP 0 rfl rfl 5 (by decide) (hts _ w_238) (fun _ h9 => h9) rfl dX12_feed_67 ?_
  refine lv_iload hx hb dX12_feed_70 (lv_at hl 0 rfl) ?_
  refine lv_iadd hx hb dX12_feed_72 ?_
  refine tc (y := 6) (by decide) ?_
  refine lv_aload_n hx hb dX12_feed_73 rfl (lv_at hl 1 rfl) ?_
  refine va_get (D := D) (ci := 11) (v := .ref (y 5)) (C := RX12) (T := TX12) (N := 53) hx hb hts in_X12 hown hE.1 hP 0 rfl rfl 6 (by decide) (hts _ w_403) (fun _ h9 => h9) rfl dX12_feed_74 ?_
  refine lv_iload hx hb dX12_feed_77 (lv_at hl 0 rfl) ?_
  refine lv_iconst (v := 4) hx hb dX12_feed_79 (by decide) ?_
  refine lv_idiv hx hb dX12_feed_80 (by decide) ?_
  refine tc (y := 1) (by decide) ?_
  refine va_iald hx hb hE.1 hP 2 1 rfl rfl (in_c (by decide)) dX12_feed_81 ?_
  refine lv_topi (fun v333 ev333 => ?_)
  refine lv_bipush (v := 24) hx hb dX12_feed_82 (by decide) ?_
  refine lv_bipush (v := 8) hx hb dX12_feed_84 (by decide) ?_
  refine lv_iload hx hb dX12_feed_86 (lv_at hl 0 rfl) ?_
  refine lv_iconst (v := 4) hx hb dX12_feed_88 (by decide) ?_
  refine lv_irem hx hb dX12_feed_89 (by decide) ?_
  refine tc (y := 2) (by decide) ?_
  refine lv_imul hx hb dX12_feed_90 ?_
  refine tc (y := 16) (by decide) ?_
  refine lv_isub hx hb dX12_feed_91 ?_
  refine tc (y := 8) (by decide) ?_
  refine lv_ishr hx hb dX12_feed_92 ?_
  refine lv_topi (fun v334 ev334 => ?_)
  refine lv_i2b hx hb dX12_feed_93 rfl ?_
  refine lv_topi (fun v335 ev335 => ?_)
  refine stb hx hb hE.1 hP hD hS 1 0 rfl rfl (in_c (by decide)) dX12_feed_94 (fun g336 H locs hP hD hS => ?_)
  replace hP : va_P D vwCl [(y 0, .inr (11, [.int 0, .ref (y 1), .ref (y 2), .ref (y 3), .ref (y 4), .int 0, .ref (y 5), .int 0, .int 0, .int 0, .int 0, .int 0, .int 0, .int (-1), .ref (y 6), .int 0, .int 0, .int 0, .int 0, .int 0, .int 0, .ref (y 121), .ref (y 122), .ref (y 123), .ref (y 124), .int 0, .ref (y 126), .ref (y 127), .ref (y 128), .ref (y 129), .ref (y 130), .ref (y 131), .ref (y 132), .ref (y 133), .ref (y 134), .ref (y 135), .ref (y 136), .int 0, .int 0, .int 0, .ref (y 140), .ref (y 141), .ref (y 142), .int 0, .int 0, .ref (y 145), .ref (y 146), .ref (y 147), .int 0, .ref (y 7), .ref (y 8), .ref (y 9), .ref (y 152)])), (y 4, .inl (K 0, 1000, .inl g336)), (y 5, .inl (K 1, 5, .inl g308))] H := hP
  replace hD : va_D A [(y 0, .inr (11, [.int 0, .ref (y 1), .ref (y 2), .ref (y 3), .ref (y 4), .int 0, .ref (y 5), .int 0, .int 0, .int 0, .int 0, .int 0, .int 0, .int (-1), .ref (y 6), .int 0, .int 0, .int 0, .int 0, .int 0, .int 0, .ref (y 121), .ref (y 122), .ref (y 123), .ref (y 124), .int 0, .ref (y 126), .ref (y 127), .ref (y 128), .ref (y 129), .ref (y 130), .ref (y 131), .ref (y 132), .ref (y 133), .ref (y 134), .ref (y 135), .ref (y 136), .int 0, .int 0, .int 0, .ref (y 140), .ref (y 141), .ref (y 142), .int 0, .int 0, .ref (y 145), .ref (y 146), .ref (y 147), .int 0, .ref (y 7), .ref (y 8), .ref (y 9), .ref (y 152)])), (y 4, .inl (K 0, 1000, .inl g336)), (y 5, .inl (K 1, 5, .inl g308))] := hD
  refine lv_iinc (v := 7) (lv' := [(6, .int 7), (0, .ref (y 0)), (1, .int p0), (2, .int p1), (3, .int p2), (4, .int p3), (5, .int p4)]) hx hb dX12_feed_95 hl (k := 0) rfl (by decide) (by decide) rfl (fun ls hl => ?_)
  refine lv_goto (tgt := 55) hx hb dX12_feed_98 (by decide) ?_
  refine lv_iload hx hb dX12_feed_55 (lv_at hl 0 rfl) ?_
  refine lv_bipush (v := 20) hx hb dX12_feed_57 (by decide) ?_
  refine lv_icmp_ge (tgt := 101) hx hb dX12_feed_59 (by decide) (fun h => absurd h (by decide)) (fun _ => ?_)
  refine lv_aload_n hx hb dX12_feed_62 rfl (lv_at hl 1 rfl) ?_
  refine va_get (D := D) (ci := 11) (v := .ref (y 4)) (C := RX12) (T := TX12) (N := 53) hx hb hts in_X12 hown hE.1 hP 0 rfl rfl 4 (by decide) (hts _ w_402) (fun _ h9 => h9) rfl dX12_feed_63 ?_
  refine lv_aload_n hx hb dX12_feed_66 rfl (lv_at hl 1 rfl) ?_
  refine va_get (D := D) (ci := 11) (v := .int 0) (C := RX12) (T := TX12) (N := 53) hx hb hts in_X12 hown hE.1 hP 0 rfl rfl 5 (by decide) (hts _ w_238) (fun _ h9 => h9) rfl dX12_feed_67 ?_
  refine lv_iload hx hb dX12_feed_70 (lv_at hl 0 rfl) ?_
  refine lv_iadd hx hb dX12_feed_72 ?_
  refine tc (y := 7) (by decide) ?_
  refine lv_aload_n hx hb dX12_feed_73 rfl (lv_at hl 1 rfl) ?_
  refine va_get (D := D) (ci := 11) (v := .ref (y 5)) (C := RX12) (T := TX12) (N := 53) hx hb hts in_X12 hown hE.1 hP 0 rfl rfl 6 (by decide) (hts _ w_403) (fun _ h9 => h9) rfl dX12_feed_74 ?_
  refine lv_iload hx hb dX12_feed_77 (lv_at hl 0 rfl) ?_
  refine lv_iconst (v := 4) hx hb dX12_feed_79 (by decide) ?_
  refine lv_idiv hx hb dX12_feed_80 (by decide) ?_
  refine tc (y := 1) (by decide) ?_
  refine va_iald hx hb hE.1 hP 2 1 rfl rfl (in_c (by decide)) dX12_feed_81 ?_
  refine lv_topi (fun v337 ev337 => ?_)
  refine lv_bipush (v := 24) hx hb dX12_feed_82 (by decide) ?_
  refine lv_bipush (v := 8) hx hb dX12_feed_84 (by decide) ?_
  refine lv_iload hx hb dX12_feed_86 (lv_at hl 0 rfl) ?_
  refine lv_iconst (v := 4) hx hb dX12_feed_88 (by decide) ?_
  refine lv_irem hx hb dX12_feed_89 (by decide) ?_
  refine tc (y := 3) (by decide) ?_
  refine lv_imul hx hb dX12_feed_90 ?_
  refine tc (y := 24) (by decide) ?_
  refine lv_isub hx hb dX12_feed_91 ?_
  refine tc (y := 0) (by decide) ?_
  refine lv_ishr hx hb dX12_feed_92 ?_
  refine lv_topi (fun v338 ev338 => ?_)
  refine lv_i2b hx hb dX12_feed_93 rfl ?_
  refine lv_topi (fun v339 ev339 => ?_)
  refine stb hx hb hE.1 hP hD hS 1 0 rfl rfl (in_c (by decide)) dX12_feed_94 (fun g340 H locs hP hD hS => ?_)
  replace hP : va_P D vwCl [(y 0, .inr (11, [.int 0, .ref (y 1), .ref (y 2), .ref (y 3), .ref (y 4), .int 0, .ref (y 5), .int 0, .int 0, .int 0, .int 0, .int 0, .int 0, .int (-1), .ref (y 6), .int 0, .int 0, .int 0, .int 0, .int 0, .int 0, .ref (y 121), .ref (y 122), .ref (y 123), .ref (y 124), .int 0, .ref (y 126), .ref (y 127), .ref (y 128), .ref (y 129), .ref (y 130), .ref (y 131), .ref (y 132), .ref (y 133), .ref (y 134), .ref (y 135), .ref (y 136), .int 0, .int 0, .int 0, .ref (y 140), .ref (y 141), .ref (y 142), .int 0, .int 0, .ref (y 145), .ref (y 146), .ref (y 147), .int 0, .ref (y 7), .ref (y 8), .ref (y 9), .ref (y 152)])), (y 4, .inl (K 0, 1000, .inl g340)), (y 5, .inl (K 1, 5, .inl g308))] H := hP
  replace hD : va_D A [(y 0, .inr (11, [.int 0, .ref (y 1), .ref (y 2), .ref (y 3), .ref (y 4), .int 0, .ref (y 5), .int 0, .int 0, .int 0, .int 0, .int 0, .int 0, .int (-1), .ref (y 6), .int 0, .int 0, .int 0, .int 0, .int 0, .int 0, .ref (y 121), .ref (y 122), .ref (y 123), .ref (y 124), .int 0, .ref (y 126), .ref (y 127), .ref (y 128), .ref (y 129), .ref (y 130), .ref (y 131), .ref (y 132), .ref (y 133), .ref (y 134), .ref (y 135), .ref (y 136), .int 0, .int 0, .int 0, .ref (y 140), .ref (y 141), .ref (y 142), .int 0, .int 0, .ref (y 145), .ref (y 146), .ref (y 147), .int 0, .ref (y 7), .ref (y 8), .ref (y 9), .ref (y 152)])), (y 4, .inl (K 0, 1000, .inl g340)), (y 5, .inl (K 1, 5, .inl g308))] := hD
  refine lv_iinc (v := 8) (lv' := [(6, .int 8), (0, .ref (y 0)), (1, .int p0), (2, .int p1), (3, .int p2), (4, .int p3), (5, .int p4)]) hx hb dX12_feed_95 hl (k := 0) rfl (by decide) (by decide) rfl (fun ls hl => ?_)
  refine lv_goto (tgt := 55) hx hb dX12_feed_98 (by decide) ?_
  refine lv_iload hx hb dX12_feed_55 (lv_at hl 0 rfl) ?_
  refine lv_bipush (v := 20) hx hb dX12_feed_57 (by decide) ?_
  refine lv_icmp_ge (tgt := 101) hx hb dX12_feed_59 (by decide) (fun h => absurd h (by decide)) (fun _ => ?_)
  refine lv_aload_n hx hb dX12_feed_62 rfl (lv_at hl 1 rfl) ?_
  refine va_get (D := D) (ci := 11) (v := .ref (y 4)) (C := RX12) (T := TX12) (N := 53) hx hb hts in_X12 hown hE.1 hP 0 rfl rfl 4 (by decide) (hts _ w_402) (fun _ h9 => h9) rfl dX12_feed_63 ?_
  refine lv_aload_n hx hb dX12_feed_66 rfl (lv_at hl 1 rfl) ?_
  refine va_get (D := D) (ci := 11) (v := .int 0) (C := RX12) (T := TX12) (N := 53) hx hb hts in_X12 hown hE.1 hP 0 rfl rfl 5 (by decide) (hts _ w_238) (fun _ h9 => h9) rfl dX12_feed_67 ?_
  refine lv_iload hx hb dX12_feed_70 (lv_at hl 0 rfl) ?_
  refine lv_iadd hx hb dX12_feed_72 ?_
  refine tc (y := 8) (by decide) ?_
  refine lv_aload_n hx hb dX12_feed_73 rfl (lv_at hl 1 rfl) ?_
  refine va_get (D := D) (ci := 11) (v := .ref (y 5)) (C := RX12) (T := TX12) (N := 53) hx hb hts in_X12 hown hE.1 hP 0 rfl rfl 6 (by decide) (hts _ w_403) (fun _ h9 => h9) rfl dX12_feed_74 ?_
  refine lv_iload hx hb dX12_feed_77 (lv_at hl 0 rfl) ?_
  refine lv_iconst (v := 4) hx hb dX12_feed_79 (by decide) ?_
  refine lv_idiv hx hb dX12_feed_80 (by decide) ?_
  refine tc (y := 2) (by decide) ?_
  refine va_iald hx hb hE.1 hP 2 1 rfl rfl (in_c (by decide)) dX12_feed_81 ?_
  refine lv_topi (fun v341 ev341 => ?_)
  refine lv_bipush (v := 24) hx hb dX12_feed_82 (by decide) ?_
  refine lv_bipush (v := 8) hx hb dX12_feed_84 (by decide) ?_
  refine lv_iload hx hb dX12_feed_86 (lv_at hl 0 rfl) ?_
  refine lv_iconst (v := 4) hx hb dX12_feed_88 (by decide) ?_
  refine lv_irem hx hb dX12_feed_89 (by decide) ?_
  refine tc (y := 0) (by decide) ?_
  refine lv_imul hx hb dX12_feed_90 ?_
  refine tc (y := 0) (by decide) ?_
  refine lv_isub hx hb dX12_feed_91 ?_
  refine tc (y := 24) (by decide) ?_
  refine lv_ishr hx hb dX12_feed_92 ?_
  refine lv_topi (fun v342 ev342 => ?_)
  refine lv_i2b hx hb dX12_feed_93 rfl ?_
  refine lv_topi (fun v343 ev343 => ?_)
  refine stb hx hb hE.1 hP hD hS 1 0 rfl rfl (in_c (by decide)) dX12_feed_94 (fun g344 H locs hP hD hS => ?_)
  replace hP : va_P D vwCl [(y 0, .inr (11, [.int 0, .ref (y 1), .ref (y 2), .ref (y 3), .ref (y 4), .int 0, .ref (y 5), .int 0, .int 0, .int 0, .int 0, .int 0, .int 0, .int (-1), .ref (y 6), .int 0, .int 0, .int 0, .int 0, .int 0, .int 0, .ref (y 121), .ref (y 122), .ref (y 123), .ref (y 124), .int 0, .ref (y 126), .ref (y 127), .ref (y 128), .ref (y 129), .ref (y 130), .ref (y 131), .ref (y 132), .ref (y 133), .ref (y 134), .ref (y 135), .ref (y 136), .int 0, .int 0, .int 0, .ref (y 140), .ref (y 141), .ref (y 142), .int 0, .int 0, .ref (y 145), .ref (y 146), .ref (y 147), .int 0, .ref (y 7), .ref (y 8), .ref (y 9), .ref (y 152)])), (y 4, .inl (K 0, 1000, .inl g344)), (y 5, .inl (K 1, 5, .inl g308))] H := hP
  replace hD : va_D A [(y 0, .inr (11, [.int 0, .ref (y 1), .ref (y 2), .ref (y 3), .ref (y 4), .int 0, .ref (y 5), .int 0, .int 0, .int 0, .int 0, .int 0, .int 0, .int (-1), .ref (y 6), .int 0, .int 0, .int 0, .int 0, .int 0, .int 0, .ref (y 121), .ref (y 122), .ref (y 123), .ref (y 124), .int 0, .ref (y 126), .ref (y 127), .ref (y 128), .ref (y 129), .ref (y 130), .ref (y 131), .ref (y 132), .ref (y 133), .ref (y 134), .ref (y 135), .ref (y 136), .int 0, .int 0, .int 0, .ref (y 140), .ref (y 141), .ref (y 142), .int 0, .int 0, .ref (y 145), .ref (y 146), .ref (y 147), .int 0, .ref (y 7), .ref (y 8), .ref (y 9), .ref (y 152)])), (y 4, .inl (K 0, 1000, .inl g344)), (y 5, .inl (K 1, 5, .inl g308))] := hD
  refine lv_iinc (v := 9) (lv' := [(6, .int 9), (0, .ref (y 0)), (1, .int p0), (2, .int p1), (3, .int p2), (4, .int p3), (5, .int p4)]) hx hb dX12_feed_95 hl (k := 0) rfl (by decide) (by decide) rfl (fun ls hl => ?_)
  refine lv_goto (tgt := 55) hx hb dX12_feed_98 (by decide) ?_
  refine lv_iload hx hb dX12_feed_55 (lv_at hl 0 rfl) ?_
  refine lv_bipush (v := 20) hx hb dX12_feed_57 (by decide) ?_
  refine lv_icmp_ge (tgt := 101) hx hb dX12_feed_59 (by decide) (fun h => absurd h (by decide)) (fun _ => ?_)
  refine lv_aload_n hx hb dX12_feed_62 rfl (lv_at hl 1 rfl) ?_
  refine va_get (D := D) (ci := 11) (v := .ref (y 4)) (C := RX12) (T := TX12) (N := 53) hx hb hts in_X12 hown hE.1 hP 0 rfl rfl 4 (by decide) (hts _ w_402) (fun _ h9 => h9) rfl dX12_feed_63 ?_
  refine lv_aload_n hx hb dX12_feed_66 rfl (lv_at hl 1 rfl) ?_
  refine va_get (D := D) (ci := 11) (v := .int 0) (C := RX12) (T := TX12) (N := 53) hx hb hts in_X12 hown hE.1 hP 0 rfl rfl 5 (by decide) (hts _ w_238) (fun _ h9 => h9) rfl dX12_feed_67 ?_
  refine lv_iload hx hb dX12_feed_70 (lv_at hl 0 rfl) ?_
  refine lv_iadd hx hb dX12_feed_72 ?_
  refine tc (y := 9) (by decide) ?_
  refine lv_aload_n hx hb dX12_feed_73 rfl (lv_at hl 1 rfl) ?_
  refine va_get (D := D) (ci := 11) (v := .ref (y 5)) (C := RX12) (T := TX12) (N := 53) hx hb hts in_X12 hown hE.1 hP 0 rfl rfl 6 (by decide) (hts _ w_403) (fun _ h9 => h9) rfl dX12_feed_74 ?_
  refine lv_iload hx hb dX12_feed_77 (lv_at hl 0 rfl) ?_
  refine lv_iconst (v := 4) hx hb dX12_feed_79 (by decide) ?_
  refine lv_idiv hx hb dX12_feed_80 (by decide) ?_
  refine tc (y := 2) (by decide) ?_
  refine va_iald hx hb hE.1 hP 2 1 rfl rfl (in_c (by decide)) dX12_feed_81 ?_
  refine lv_topi (fun v345 ev345 => ?_)
  refine lv_bipush (v := 24) hx hb dX12_feed_82 (by decide) ?_
  refine lv_bipush (v := 8) hx hb dX12_feed_84 (by decide) ?_
  refine lv_iload hx hb dX12_feed_86 (lv_at hl 0 rfl) ?_
  refine lv_iconst (v := 4) hx hb dX12_feed_88 (by decide) ?_
  refine lv_irem hx hb dX12_feed_89 (by decide) ?_
  refine tc (y := 1) (by decide) ?_
  refine lv_imul hx hb dX12_feed_90 ?_
  refine tc (y := 8) (by decide) ?_
  refine lv_isub hx hb dX12_feed_91 ?_
  refine tc (y := 16) (by decide) ?_
  refine lv_ishr hx hb dX12_feed_92 ?_
  refine lv_topi (fun v346 ev346 => ?_)
  refine lv_i2b hx hb dX12_feed_93 rfl ?_
  refine lv_topi (fun v347 ev347 => ?_)
  refine stb hx hb hE.1 hP hD hS 1 0 rfl rfl (in_c (by decide)) dX12_feed_94 (fun g348 H locs hP hD hS => ?_)
  replace hP : va_P D vwCl [(y 0, .inr (11, [.int 0, .ref (y 1), .ref (y 2), .ref (y 3), .ref (y 4), .int 0, .ref (y 5), .int 0, .int 0, .int 0, .int 0, .int 0, .int 0, .int (-1), .ref (y 6), .int 0, .int 0, .int 0, .int 0, .int 0, .int 0, .ref (y 121), .ref (y 122), .ref (y 123), .ref (y 124), .int 0, .ref (y 126), .ref (y 127), .ref (y 128), .ref (y 129), .ref (y 130), .ref (y 131), .ref (y 132), .ref (y 133), .ref (y 134), .ref (y 135), .ref (y 136), .int 0, .int 0, .int 0, .ref (y 140), .ref (y 141), .ref (y 142), .int 0, .int 0, .ref (y 145), .ref (y 146), .ref (y 147), .int 0, .ref (y 7), .ref (y 8), .ref (y 9), .ref (y 152)])), (y 4, .inl (K 0, 1000, .inl g348)), (y 5, .inl (K 1, 5, .inl g308))] H := hP
  replace hD : va_D A [(y 0, .inr (11, [.int 0, .ref (y 1), .ref (y 2), .ref (y 3), .ref (y 4), .int 0, .ref (y 5), .int 0, .int 0, .int 0, .int 0, .int 0, .int 0, .int (-1), .ref (y 6), .int 0, .int 0, .int 0, .int 0, .int 0, .int 0, .ref (y 121), .ref (y 122), .ref (y 123), .ref (y 124), .int 0, .ref (y 126), .ref (y 127), .ref (y 128), .ref (y 129), .ref (y 130), .ref (y 131), .ref (y 132), .ref (y 133), .ref (y 134), .ref (y 135), .ref (y 136), .int 0, .int 0, .int 0, .ref (y 140), .ref (y 141), .ref (y 142), .int 0, .int 0, .ref (y 145), .ref (y 146), .ref (y 147), .int 0, .ref (y 7), .ref (y 8), .ref (y 9), .ref (y 152)])), (y 4, .inl (K 0, 1000, .inl g348)), (y 5, .inl (K 1, 5, .inl g308))] := hD
  refine lv_iinc (v := 10) (lv' := [(6, .int 10), (0, .ref (y 0)), (1, .int p0), (2, .int p1), (3, .int p2), (4, .int p3), (5, .int p4)]) hx hb dX12_feed_95 hl (k := 0) rfl (by decide) (by decide) rfl (fun ls hl => ?_)
  refine lv_goto (tgt := 55) hx hb dX12_feed_98 (by decide) ?_
  refine lv_iload hx hb dX12_feed_55 (lv_at hl 0 rfl) ?_
  refine lv_bipush (v := 20) hx hb dX12_feed_57 (by decide) ?_
  refine lv_icmp_ge (tgt := 101) hx hb dX12_feed_59 (by decide) (fun h => absurd h (by decide)) (fun _ => ?_)
  refine lv_aload_n hx hb dX12_feed_62 rfl (lv_at hl 1 rfl) ?_
  refine va_get (D := D) (ci := 11) (v := .ref (y 4)) (C := RX12) (T := TX12) (N := 53) hx hb hts in_X12 hown hE.1 hP 0 rfl rfl 4 (by decide) (hts _ w_402) (fun _ h9 => h9) rfl dX12_feed_63 ?_
  refine lv_aload_n hx hb dX12_feed_66 rfl (lv_at hl 1 rfl) ?_
  refine va_get (D := D) (ci := 11) (v := .int 0) (C := RX12) (T := TX12) (N := 53) hx hb hts in_X12 hown hE.1 hP 0 rfl rfl 5 (by decide) (hts _ w_238) (fun _ h9 => h9) rfl dX12_feed_67 ?_
  refine lv_iload hx hb dX12_feed_70 (lv_at hl 0 rfl) ?_
  refine lv_iadd hx hb dX12_feed_72 ?_
  refine tc (y := 10) (by decide) ?_
  refine lv_aload_n hx hb dX12_feed_73 rfl (lv_at hl 1 rfl) ?_
  refine va_get (D := D) (ci := 11) (v := .ref (y 5)) (C := RX12) (T := TX12) (N := 53) hx hb hts in_X12 hown hE.1 hP 0 rfl rfl 6 (by decide) (hts _ w_403) (fun _ h9 => h9) rfl dX12_feed_74 ?_
  refine lv_iload hx hb dX12_feed_77 (lv_at hl 0 rfl) ?_
  refine lv_iconst (v := 4) hx hb dX12_feed_79 (by decide) ?_
  refine lv_idiv hx hb dX12_feed_80 (by decide) ?_
  refine tc (y := 2) (by decide) ?_
  refine va_iald hx hb hE.1 hP 2 1 rfl rfl (in_c (by decide)) dX12_feed_81 ?_
  refine lv_topi (fun v349 ev349 => ?_)
  refine lv_bipush (v := 24) hx hb dX12_feed_82 (by decide) ?_
  refine lv_bipush (v := 8) hx hb dX12_feed_84 (by decide) ?_
  refine lv_iload hx hb dX12_feed_86 (lv_at hl 0 rfl) ?_
  refine lv_iconst (v := 4) hx hb dX12_feed_88 (by decide) ?_
  refine lv_irem hx hb dX12_feed_89 (by decide) ?_
  refine tc (y := 2) (by decide) ?_
  refine lv_imul hx hb dX12_feed_90 ?_
  refine tc (y := 16) (by decide) ?_
  refine lv_isub hx hb dX12_feed_91 ?_
  refine tc (y := 8) (by decide) ?_
  refine lv_ishr hx hb dX12_feed_92 ?_
  refine lv_topi (fun v350 ev350 => ?_)
  refine lv_i2b hx hb dX12_feed_93 rfl ?_
  refine lv_topi (fun v351 ev351 => ?_)
  refine stb hx hb hE.1 hP hD hS 1 0 rfl rfl (in_c (by decide)) dX12_feed_94 (fun g352 H locs hP hD hS => ?_)
  replace hP : va_P D vwCl [(y 0, .inr (11, [.int 0, .ref (y 1), .ref (y 2), .ref (y 3), .ref (y 4), .int 0, .ref (y 5), .int 0, .int 0, .int 0, .int 0, .int 0, .int 0, .int (-1), .ref (y 6), .int 0, .int 0, .int 0, .int 0, .int 0, .int 0, .ref (y 121), .ref (y 122), .ref (y 123), .ref (y 124), .int 0, .ref (y 126), .ref (y 127), .ref (y 128), .ref (y 129), .ref (y 130), .ref (y 131), .ref (y 132), .ref (y 133), .ref (y 134), .ref (y 135), .ref (y 136), .int 0, .int 0, .int 0, .ref (y 140), .ref (y 141), .ref (y 142), .int 0, .int 0, .ref (y 145), .ref (y 146), .ref (y 147), .int 0, .ref (y 7), .ref (y 8), .ref (y 9), .ref (y 152)])), (y 4, .inl (K 0, 1000, .inl g352)), (y 5, .inl (K 1, 5, .inl g308))] H := hP
  replace hD : va_D A [(y 0, .inr (11, [.int 0, .ref (y 1), .ref (y 2), .ref (y 3), .ref (y 4), .int 0, .ref (y 5), .int 0, .int 0, .int 0, .int 0, .int 0, .int 0, .int (-1), .ref (y 6), .int 0, .int 0, .int 0, .int 0, .int 0, .int 0, .ref (y 121), .ref (y 122), .ref (y 123), .ref (y 124), .int 0, .ref (y 126), .ref (y 127), .ref (y 128), .ref (y 129), .ref (y 130), .ref (y 131), .ref (y 132), .ref (y 133), .ref (y 134), .ref (y 135), .ref (y 136), .int 0, .int 0, .int 0, .ref (y 140), .ref (y 141), .ref (y 142), .int 0, .int 0, .ref (y 145), .ref (y 146), .ref (y 147), .int 0, .ref (y 7), .ref (y 8), .ref (y 9), .ref (y 152)])), (y 4, .inl (K 0, 1000, .inl g352)), (y 5, .inl (K 1, 5, .inl g308))] := hD
  refine lv_iinc (v := 11) (lv' := [(6, .int 11), (0, .ref (y 0)), (1, .int p0), (2, .int p1), (3, .int p2), (4, .int p3), (5, .int p4)]) hx hb dX12_feed_95 hl (k := 0) rfl (by decide) (by decide) rfl (fun ls hl => ?_)
  refine lv_goto (tgt := 55) hx hb dX12_feed_98 (by decide) ?_
  refine lv_iload hx hb dX12_feed_55 (lv_at hl 0 rfl) ?_
  refine lv_bipush (v := 20) hx hb dX12_feed_57 (by decide) ?_
  refine lv_icmp_ge (tgt := 101) hx hb dX12_feed_59 (by decide) (fun h => absurd h (by decide)) (fun _ => ?_)
  refine lv_aload_n hx hb dX12_feed_62 rfl (lv_at hl 1 rfl) ?_
  refine va_get (D := D) (ci := 11) (v := .ref (y 4)) (C := RX12) (T := TX12) (N := 53) hx hb hts in_X12 hown hE.1 hP 0 rfl rfl 4 (by decide) (hts _ w_402) (fun _ h9 => h9) rfl dX12_feed_63 ?_
  refine lv_aload_n hx hb dX12_feed_66 rfl (lv_at hl 1 rfl) ?_
  refine va_get (D := D) (ci := 11) (v := .int 0) (C := RX12) (T := TX12) (N := 53) hx hb hts in_X12 hown hE.1 hP 0 rfl rfl 5 (by decide) (hts _ w_238) (fun _ h9 => h9) rfl dX12_feed_67 ?_
  refine lv_iload hx hb dX12_feed_70 (lv_at hl 0 rfl) ?_
  refine lv_iadd hx hb dX12_feed_72 ?_
  refine tc (y := 11) (by decide) ?_
  refine lv_aload_n hx hb dX12_feed_73 rfl (lv_at hl 1 rfl) ?_
  refine va_get (D := D) (ci := 11) (v := .ref (y 5)) (C := RX12) (T := TX12) (N := 53) hx hb hts in_X12 hown hE.1 hP 0 rfl rfl 6 (by decide) (hts _ w_403) (fun _ h9 => h9) rfl dX12_feed_74 ?_
  refine lv_iload hx hb dX12_feed_77 (lv_at hl 0 rfl) ?_
  refine lv_iconst (v := 4) hx hb dX12_feed_79 (by decide) ?_
  refine lv_idiv hx hb dX12_feed_80 (by decide) ?_
  refine tc (y := 2) (by decide) ?_
  refine va_iald hx hb hE.1 hP 2 1 rfl rfl (in_c (by decide)) dX12_feed_81 ?_
  refine lv_topi (fun v353 ev353 => ?_)
  refine lv_bipush (v := 24) hx hb dX12_feed_82 (by decide) ?_
  refine lv_bipush (v := 8) hx hb dX12_feed_84 (by decide) ?_
  refine lv_iload hx hb dX12_feed_86 (lv_at hl 0 rfl) ?_
  refine lv_iconst (v := 4) hx hb dX12_feed_88 (by decide) ?_
  refine lv_irem hx hb dX12_feed_89 (by decide) ?_
  refine tc (y := 3) (by decide) ?_
  refine lv_imul hx hb dX12_feed_90 ?_
  refine tc (y := 24) (by decide) ?_
  refine lv_isub hx hb dX12_feed_91 ?_
  refine tc (y := 0) (by decide) ?_
  refine lv_ishr hx hb dX12_feed_92 ?_
  refine lv_topi (fun v354 ev354 => ?_)
  refine lv_i2b hx hb dX12_feed_93 rfl ?_
  refine lv_topi (fun v355 ev355 => ?_)
  refine stb hx hb hE.1 hP hD hS 1 0 rfl rfl (in_c (by decide)) dX12_feed_94 (fun g356 H locs hP hD hS => ?_)
  replace hP : va_P D vwCl [(y 0, .inr (11, [.int 0, .ref (y 1), .ref (y 2), .ref (y 3), .ref (y 4), .int 0, .ref (y 5), .int 0, .int 0, .int 0, .int 0, .int 0, .int 0, .int (-1), .ref (y 6), .int 0, .int 0, .int 0, .int 0, .int 0, .int 0, .ref (y 121), .ref (y 122), .ref (y 123), .ref (y 124), .int 0, .ref (y 126), .ref (y 127), .ref (y 128), .ref (y 129), .ref (y 130), .ref (y 131), .ref (y 132), .ref (y 133), .ref (y 134), .ref (y 135), .ref (y 136), .int 0, .int 0, .int 0, .ref (y 140), .ref (y 141), .ref (y 142), .int 0, .int 0, .ref (y 145), .ref (y 146), .ref (y 147), .int 0, .ref (y 7), .ref (y 8), .ref (y 9), .ref (y 152)])), (y 4, .inl (K 0, 1000, .inl g356)), (y 5, .inl (K 1, 5, .inl g308))] H := hP
  replace hD : va_D A [(y 0, .inr (11, [.int 0, .ref (y 1), .ref (y 2), .ref (y 3), .ref (y 4), .int 0, .ref (y 5), .int 0, .int 0, .int 0, .int 0, .int 0, .int 0, .int (-1), .ref (y 6), .int 0, .int 0, .int 0, .int 0, .int 0, .int 0, .ref (y 121), .ref (y 122), .ref (y 123), .ref (y 124), .int 0, .ref (y 126), .ref (y 127), .ref (y 128), .ref (y 129), .ref (y 130), .ref (y 131), .ref (y 132), .ref (y 133), .ref (y 134), .ref (y 135), .ref (y 136), .int 0, .int 0, .int 0, .ref (y 140), .ref (y 141), .ref (y 142), .int 0, .int 0, .ref (y 145), .ref (y 146), .ref (y 147), .int 0, .ref (y 7), .ref (y 8), .ref (y 9), .ref (y 152)])), (y 4, .inl (K 0, 1000, .inl g356)), (y 5, .inl (K 1, 5, .inl g308))] := hD
  refine lv_iinc (v := 12) (lv' := [(6, .int 12), (0, .ref (y 0)), (1, .int p0), (2, .int p1), (3, .int p2), (4, .int p3), (5, .int p4)]) hx hb dX12_feed_95 hl (k := 0) rfl (by decide) (by decide) rfl (fun ls hl => ?_)
  refine lv_goto (tgt := 55) hx hb dX12_feed_98 (by decide) ?_
  refine lv_iload hx hb dX12_feed_55 (lv_at hl 0 rfl) ?_
  refine lv_bipush (v := 20) hx hb dX12_feed_57 (by decide) ?_
  refine lv_icmp_ge (tgt := 101) hx hb dX12_feed_59 (by decide) (fun h => absurd h (by decide)) (fun _ => ?_)
  refine lv_aload_n hx hb dX12_feed_62 rfl (lv_at hl 1 rfl) ?_
  refine va_get (D := D) (ci := 11) (v := .ref (y 4)) (C := RX12) (T := TX12) (N := 53) hx hb hts in_X12 hown hE.1 hP 0 rfl rfl 4 (by decide) (hts _ w_402) (fun _ h9 => h9) rfl dX12_feed_63 ?_
  refine lv_aload_n hx hb dX12_feed_66 rfl (lv_at hl 1 rfl) ?_
  refine va_get (D := D) (ci := 11) (v := .int 0) (C := RX12) (T := TX12) (N := 53) hx hb hts in_X12 hown hE.1 hP 0 rfl rfl 5 (by decide) (hts _ w_238) (fun _ h9 => h9) rfl dX12_feed_67 ?_
  refine lv_iload hx hb dX12_feed_70 (lv_at hl 0 rfl) ?_
  refine lv_iadd hx hb dX12_feed_72 ?_
  refine tc (y := 12) (by decide) ?_
  refine lv_aload_n hx hb dX12_feed_73 rfl (lv_at hl 1 rfl) ?_
  refine va_get (D := D) (ci := 11) (v := .ref (y 5)) (C := RX12) (T := TX12) (N := 53) hx hb hts in_X12 hown hE.1 hP 0 rfl rfl 6 (by decide) (hts _ w_403) (fun _ h9 => h9) rfl dX12_feed_74 ?_
  refine lv_iload hx hb dX12_feed_77 (lv_at hl 0 rfl) ?_
  refine lv_iconst (v := 4) hx hb dX12_feed_79 (by decide) ?_
  refine lv_idiv hx hb dX12_feed_80 (by decide) ?_
  refine tc (y := 3) (by decide) ?_
  refine va_iald hx hb hE.1 hP 2 1 rfl rfl (in_c (by decide)) dX12_feed_81 ?_
  refine lv_topi (fun v357 ev357 => ?_)
  refine lv_bipush (v := 24) hx hb dX12_feed_82 (by decide) ?_
  refine lv_bipush (v := 8) hx hb dX12_feed_84 (by decide) ?_
  refine lv_iload hx hb dX12_feed_86 (lv_at hl 0 rfl) ?_
  refine lv_iconst (v := 4) hx hb dX12_feed_88 (by decide) ?_
  refine lv_irem hx hb dX12_feed_89 (by decide) ?_
  refine tc (y := 0) (by decide) ?_
  refine lv_imul hx hb dX12_feed_90 ?_
  refine tc (y := 0) (by decide) ?_
  refine lv_isub hx hb dX12_feed_91 ?_
  refine tc (y := 24) (by decide) ?_
  refine lv_ishr hx hb dX12_feed_92 ?_
  refine lv_topi (fun v358 ev358 => ?_)
  refine lv_i2b hx hb dX12_feed_93 rfl ?_
  refine lv_topi (fun v359 ev359 => ?_)
  refine stb hx hb hE.1 hP hD hS 1 0 rfl rfl (in_c (by decide)) dX12_feed_94 (fun g360 H locs hP hD hS => ?_)
  replace hP : va_P D vwCl [(y 0, .inr (11, [.int 0, .ref (y 1), .ref (y 2), .ref (y 3), .ref (y 4), .int 0, .ref (y 5), .int 0, .int 0, .int 0, .int 0, .int 0, .int 0, .int (-1), .ref (y 6), .int 0, .int 0, .int 0, .int 0, .int 0, .int 0, .ref (y 121), .ref (y 122), .ref (y 123), .ref (y 124), .int 0, .ref (y 126), .ref (y 127), .ref (y 128), .ref (y 129), .ref (y 130), .ref (y 131), .ref (y 132), .ref (y 133), .ref (y 134), .ref (y 135), .ref (y 136), .int 0, .int 0, .int 0, .ref (y 140), .ref (y 141), .ref (y 142), .int 0, .int 0, .ref (y 145), .ref (y 146), .ref (y 147), .int 0, .ref (y 7), .ref (y 8), .ref (y 9), .ref (y 152)])), (y 4, .inl (K 0, 1000, .inl g360)), (y 5, .inl (K 1, 5, .inl g308))] H := hP
  replace hD : va_D A [(y 0, .inr (11, [.int 0, .ref (y 1), .ref (y 2), .ref (y 3), .ref (y 4), .int 0, .ref (y 5), .int 0, .int 0, .int 0, .int 0, .int 0, .int 0, .int (-1), .ref (y 6), .int 0, .int 0, .int 0, .int 0, .int 0, .int 0, .ref (y 121), .ref (y 122), .ref (y 123), .ref (y 124), .int 0, .ref (y 126), .ref (y 127), .ref (y 128), .ref (y 129), .ref (y 130), .ref (y 131), .ref (y 132), .ref (y 133), .ref (y 134), .ref (y 135), .ref (y 136), .int 0, .int 0, .int 0, .ref (y 140), .ref (y 141), .ref (y 142), .int 0, .int 0, .ref (y 145), .ref (y 146), .ref (y 147), .int 0, .ref (y 7), .ref (y 8), .ref (y 9), .ref (y 152)])), (y 4, .inl (K 0, 1000, .inl g360)), (y 5, .inl (K 1, 5, .inl g308))] := hD
  refine lv_iinc (v := 13) (lv' := [(6, .int 13), (0, .ref (y 0)), (1, .int p0), (2, .int p1), (3, .int p2), (4, .int p3), (5, .int p4)]) hx hb dX12_feed_95 hl (k := 0) rfl (by decide) (by decide) rfl (fun ls hl => ?_)
  refine lv_goto (tgt := 55) hx hb dX12_feed_98 (by decide) ?_
  refine lv_iload hx hb dX12_feed_55 (lv_at hl 0 rfl) ?_
  refine lv_bipush (v := 20) hx hb dX12_feed_57 (by decide) ?_
  refine lv_icmp_ge (tgt := 101) hx hb dX12_feed_59 (by decide) (fun h => absurd h (by decide)) (fun _ => ?_)
  refine lv_aload_n hx hb dX12_feed_62 rfl (lv_at hl 1 rfl) ?_
  refine va_get (D := D) (ci := 11) (v := .ref (y 4)) (C := RX12) (T := TX12) (N := 53) hx hb hts in_X12 hown hE.1 hP 0 rfl rfl 4 (by decide) (hts _ w_402) (fun _ h9 => h9) rfl dX12_feed_63 ?_
  refine lv_aload_n hx hb dX12_feed_66 rfl (lv_at hl 1 rfl) ?_
  refine va_get (D := D) (ci := 11) (v := .int 0) (C := RX12) (T := TX12) (N := 53) hx hb hts in_X12 hown hE.1 hP 0 rfl rfl 5 (by decide) (hts _ w_238) (fun _ h9 => h9) rfl dX12_feed_67 ?_
  refine lv_iload hx hb dX12_feed_70 (lv_at hl 0 rfl) ?_
  refine lv_iadd hx hb dX12_feed_72 ?_
  refine tc (y := 13) (by decide) ?_
  refine lv_aload_n hx hb dX12_feed_73 rfl (lv_at hl 1 rfl) ?_
  refine va_get (D := D) (ci := 11) (v := .ref (y 5)) (C := RX12) (T := TX12) (N := 53) hx hb hts in_X12 hown hE.1 hP 0 rfl rfl 6 (by decide) (hts _ w_403) (fun _ h9 => h9) rfl dX12_feed_74 ?_
  refine lv_iload hx hb dX12_feed_77 (lv_at hl 0 rfl) ?_
  refine lv_iconst (v := 4) hx hb dX12_feed_79 (by decide) ?_
  refine lv_idiv hx hb dX12_feed_80 (by decide) ?_
  refine tc (y := 3) (by decide) ?_
  refine va_iald hx hb hE.1 hP 2 1 rfl rfl (in_c (by decide)) dX12_feed_81 ?_
  refine lv_topi (fun v361 ev361 => ?_)
  refine lv_bipush (v := 24) hx hb dX12_feed_82 (by decide) ?_
  refine lv_bipush (v := 8) hx hb dX12_feed_84 (by decide) ?_
  refine lv_iload hx hb dX12_feed_86 (lv_at hl 0 rfl) ?_
  refine lv_iconst (v := 4) hx hb dX12_feed_88 (by decide) ?_
  refine lv_irem hx hb dX12_feed_89 (by decide) ?_
  refine tc (y := 1) (by decide) ?_
  refine lv_imul hx hb dX12_feed_90 ?_
  refine tc (y := 8) (by decide) ?_
  refine lv_isub hx hb dX12_feed_91 ?_
  refine tc (y := 16) (by decide) ?_
  refine lv_ishr hx hb dX12_feed_92 ?_
  refine lv_topi (fun v362 ev362 => ?_)
  refine lv_i2b hx hb dX12_feed_93 rfl ?_
  refine lv_topi (fun v363 ev363 => ?_)
  refine stb hx hb hE.1 hP hD hS 1 0 rfl rfl (in_c (by decide)) dX12_feed_94 (fun g364 H locs hP hD hS => ?_)
  replace hP : va_P D vwCl [(y 0, .inr (11, [.int 0, .ref (y 1), .ref (y 2), .ref (y 3), .ref (y 4), .int 0, .ref (y 5), .int 0, .int 0, .int 0, .int 0, .int 0, .int 0, .int (-1), .ref (y 6), .int 0, .int 0, .int 0, .int 0, .int 0, .int 0, .ref (y 121), .ref (y 122), .ref (y 123), .ref (y 124), .int 0, .ref (y 126), .ref (y 127), .ref (y 128), .ref (y 129), .ref (y 130), .ref (y 131), .ref (y 132), .ref (y 133), .ref (y 134), .ref (y 135), .ref (y 136), .int 0, .int 0, .int 0, .ref (y 140), .ref (y 141), .ref (y 142), .int 0, .int 0, .ref (y 145), .ref (y 146), .ref (y 147), .int 0, .ref (y 7), .ref (y 8), .ref (y 9), .ref (y 152)])), (y 4, .inl (K 0, 1000, .inl g364)), (y 5, .inl (K 1, 5, .inl g308))] H := hP
  replace hD : va_D A [(y 0, .inr (11, [.int 0, .ref (y 1), .ref (y 2), .ref (y 3), .ref (y 4), .int 0, .ref (y 5), .int 0, .int 0, .int 0, .int 0, .int 0, .int 0, .int (-1), .ref (y 6), .int 0, .int 0, .int 0, .int 0, .int 0, .int 0, .ref (y 121), .ref (y 122), .ref (y 123), .ref (y 124), .int 0, .ref (y 126), .ref (y 127), .ref (y 128), .ref (y 129), .ref (y 130), .ref (y 131), .ref (y 132), .ref (y 133), .ref (y 134), .ref (y 135), .ref (y 136), .int 0, .int 0, .int 0, .ref (y 140), .ref (y 141), .ref (y 142), .int 0, .int 0, .ref (y 145), .ref (y 146), .ref (y 147), .int 0, .ref (y 7), .ref (y 8), .ref (y 9), .ref (y 152)])), (y 4, .inl (K 0, 1000, .inl g364)), (y 5, .inl (K 1, 5, .inl g308))] := hD
  refine lv_iinc (v := 14) (lv' := [(6, .int 14), (0, .ref (y 0)), (1, .int p0), (2, .int p1), (3, .int p2), (4, .int p3), (5, .int p4)]) hx hb dX12_feed_95 hl (k := 0) rfl (by decide) (by decide) rfl (fun ls hl => ?_)
  refine lv_goto (tgt := 55) hx hb dX12_feed_98 (by decide) ?_
  refine lv_iload hx hb dX12_feed_55 (lv_at hl 0 rfl) ?_
  refine lv_bipush (v := 20) hx hb dX12_feed_57 (by decide) ?_
  refine lv_icmp_ge (tgt := 101) hx hb dX12_feed_59 (by decide) (fun h => absurd h (by decide)) (fun _ => ?_)
  refine lv_aload_n hx hb dX12_feed_62 rfl (lv_at hl 1 rfl) ?_
  refine va_get (D := D) (ci := 11) (v := .ref (y 4)) (C := RX12) (T := TX12) (N := 53) hx hb hts in_X12 hown hE.1 hP 0 rfl rfl 4 (by decide) (hts _ w_402) (fun _ h9 => h9) rfl dX12_feed_63 ?_
  refine lv_aload_n hx hb dX12_feed_66 rfl (lv_at hl 1 rfl) ?_
  refine va_get (D := D) (ci := 11) (v := .int 0) (C := RX12) (T := TX12) (N := 53) hx hb hts in_X12 hown hE.1 hP 0 rfl rfl 5 (by decide) (hts _ w_238) (fun _ h9 => h9) rfl dX12_feed_67 ?_
  refine lv_iload hx hb dX12_feed_70 (lv_at hl 0 rfl) ?_
  refine lv_iadd hx hb dX12_feed_72 ?_
  refine tc (y := 14) (by decide) ?_
  refine lv_aload_n hx hb dX12_feed_73 rfl (lv_at hl 1 rfl) ?_
  refine va_get (D := D) (ci := 11) (v := .ref (y 5)) (C := RX12) (T := TX12) (N := 53) hx hb hts in_X12 hown hE.1 hP 0 rfl rfl 6 (by decide) (hts _ w_403) (fun _ h9 => h9) rfl dX12_feed_74 ?_
  refine lv_iload hx hb dX12_feed_77 (lv_at hl 0 rfl) ?_
  refine lv_iconst (v := 4) hx hb dX12_feed_79 (by decide) ?_
  refine lv_idiv hx hb dX12_feed_80 (by decide) ?_
  refine tc (y := 3) (by decide) ?_
  refine va_iald hx hb hE.1 hP 2 1 rfl rfl (in_c (by decide)) dX12_feed_81 ?_
  refine lv_topi (fun v365 ev365 => ?_)
  refine lv_bipush (v := 24) hx hb dX12_feed_82 (by decide) ?_
  refine lv_bipush (v := 8) hx hb dX12_feed_84 (by decide) ?_
  refine lv_iload hx hb dX12_feed_86 (lv_at hl 0 rfl) ?_
  refine lv_iconst (v := 4) hx hb dX12_feed_88 (by decide) ?_
  refine lv_irem hx hb dX12_feed_89 (by decide) ?_
  refine tc (y := 2) (by decide) ?_
  refine lv_imul hx hb dX12_feed_90 ?_
  refine tc (y := 16) (by decide) ?_
  refine lv_isub hx hb dX12_feed_91 ?_
  refine tc (y := 8) (by decide) ?_
  refine lv_ishr hx hb dX12_feed_92 ?_
  refine lv_topi (fun v366 ev366 => ?_)
  refine lv_i2b hx hb dX12_feed_93 rfl ?_
  refine lv_topi (fun v367 ev367 => ?_)
  refine stb hx hb hE.1 hP hD hS 1 0 rfl rfl (in_c (by decide)) dX12_feed_94 (fun g368 H locs hP hD hS => ?_)
  replace hP : va_P D vwCl [(y 0, .inr (11, [.int 0, .ref (y 1), .ref (y 2), .ref (y 3), .ref (y 4), .int 0, .ref (y 5), .int 0, .int 0, .int 0, .int 0, .int 0, .int 0, .int (-1), .ref (y 6), .int 0, .int 0, .int 0, .int 0, .int 0, .int 0, .ref (y 121), .ref (y 122), .ref (y 123), .ref (y 124), .int 0, .ref (y 126), .ref (y 127), .ref (y 128), .ref (y 129), .ref (y 130), .ref (y 131), .ref (y 132), .ref (y 133), .ref (y 134), .ref (y 135), .ref (y 136), .int 0, .int 0, .int 0, .ref (y 140), .ref (y 141), .ref (y 142), .int 0, .int 0, .ref (y 145), .ref (y 146), .ref (y 147), .int 0, .ref (y 7), .ref (y 8), .ref (y 9), .ref (y 152)])), (y 4, .inl (K 0, 1000, .inl g368)), (y 5, .inl (K 1, 5, .inl g308))] H := hP
  replace hD : va_D A [(y 0, .inr (11, [.int 0, .ref (y 1), .ref (y 2), .ref (y 3), .ref (y 4), .int 0, .ref (y 5), .int 0, .int 0, .int 0, .int 0, .int 0, .int 0, .int (-1), .ref (y 6), .int 0, .int 0, .int 0, .int 0, .int 0, .int 0, .ref (y 121), .ref (y 122), .ref (y 123), .ref (y 124), .int 0, .ref (y 126), .ref (y 127), .ref (y 128), .ref (y 129), .ref (y 130), .ref (y 131), .ref (y 132), .ref (y 133), .ref (y 134), .ref (y 135), .ref (y 136), .int 0, .int 0, .int 0, .ref (y 140), .ref (y 141), .ref (y 142), .int 0, .int 0, .ref (y 145), .ref (y 146), .ref (y 147), .int 0, .ref (y 7), .ref (y 8), .ref (y 9), .ref (y 152)])), (y 4, .inl (K 0, 1000, .inl g368)), (y 5, .inl (K 1, 5, .inl g308))] := hD
  refine lv_iinc (v := 15) (lv' := [(6, .int 15), (0, .ref (y 0)), (1, .int p0), (2, .int p1), (3, .int p2), (4, .int p3), (5, .int p4)]) hx hb dX12_feed_95 hl (k := 0) rfl (by decide) (by decide) rfl (fun ls hl => ?_)
  refine lv_goto (tgt := 55) hx hb dX12_feed_98 (by decide) ?_
  refine lv_iload hx hb dX12_feed_55 (lv_at hl 0 rfl) ?_
  refine lv_bipush (v := 20) hx hb dX12_feed_57 (by decide) ?_
  refine lv_icmp_ge (tgt := 101) hx hb dX12_feed_59 (by decide) (fun h => absurd h (by decide)) (fun _ => ?_)
  refine lv_aload_n hx hb dX12_feed_62 rfl (lv_at hl 1 rfl) ?_
  refine va_get (D := D) (ci := 11) (v := .ref (y 4)) (C := RX12) (T := TX12) (N := 53) hx hb hts in_X12 hown hE.1 hP 0 rfl rfl 4 (by decide) (hts _ w_402) (fun _ h9 => h9) rfl dX12_feed_63 ?_
  refine lv_aload_n hx hb dX12_feed_66 rfl (lv_at hl 1 rfl) ?_
  refine va_get (D := D) (ci := 11) (v := .int 0) (C := RX12) (T := TX12) (N := 53) hx hb hts in_X12 hown hE.1 hP 0 rfl rfl 5 (by decide) (hts _ w_238) (fun _ h9 => h9) rfl dX12_feed_67 ?_
  refine lv_iload hx hb dX12_feed_70 (lv_at hl 0 rfl) ?_
  refine lv_iadd hx hb dX12_feed_72 ?_
  refine tc (y := 15) (by decide) ?_
  refine lv_aload_n hx hb dX12_feed_73 rfl (lv_at hl 1 rfl) ?_
  refine va_get (D := D) (ci := 11) (v := .ref (y 5)) (C := RX12) (T := TX12) (N := 53) hx hb hts in_X12 hown hE.1 hP 0 rfl rfl 6 (by decide) (hts _ w_403) (fun _ h9 => h9) rfl dX12_feed_74 ?_
  refine lv_iload hx hb dX12_feed_77 (lv_at hl 0 rfl) ?_
  refine lv_iconst (v := 4) hx hb dX12_feed_79 (by decide) ?_
  refine lv_idiv hx hb dX12_feed_80 (by decide) ?_
  refine tc (y := 3) (by decide) ?_
  refine va_iald hx hb hE.1 hP 2 1 rfl rfl (in_c (by decide)) dX12_feed_81 ?_
  refine lv_topi (fun v369 ev369 => ?_)
  refine lv_bipush (v := 24) hx hb dX12_feed_82 (by decide) ?_
  refine lv_bipush (v := 8) hx hb dX12_feed_84 (by decide) ?_
  refine lv_iload hx hb dX12_feed_86 (lv_at hl 0 rfl) ?_
  refine lv_iconst (v := 4) hx hb dX12_feed_88 (by decide) ?_
  refine lv_irem hx hb dX12_feed_89 (by decide) ?_
  refine tc (y := 3) (by decide) ?_
  refine lv_imul hx hb dX12_feed_90 ?_
  refine tc (y := 24) (by decide) ?_
  refine lv_isub hx hb dX12_feed_91 ?_
  refine tc (y := 0) (by decide) ?_
  refine lv_ishr hx hb dX12_feed_92 ?_
  refine lv_topi (fun v370 ev370 => ?_)
  refine lv_i2b hx hb dX12_feed_93 rfl ?_
  refine lv_topi (fun v371 ev371 => ?_)
  refine stb hx hb hE.1 hP hD hS 1 0 rfl rfl (in_c (by decide)) dX12_feed_94 (fun g372 H locs hP hD hS => ?_)
  replace hP : va_P D vwCl [(y 0, .inr (11, [.int 0, .ref (y 1), .ref (y 2), .ref (y 3), .ref (y 4), .int 0, .ref (y 5), .int 0, .int 0, .int 0, .int 0, .int 0, .int 0, .int (-1), .ref (y 6), .int 0, .int 0, .int 0, .int 0, .int 0, .int 0, .ref (y 121), .ref (y 122), .ref (y 123), .ref (y 124), .int 0, .ref (y 126), .ref (y 127), .ref (y 128), .ref (y 129), .ref (y 130), .ref (y 131), .ref (y 132), .ref (y 133), .ref (y 134), .ref (y 135), .ref (y 136), .int 0, .int 0, .int 0, .ref (y 140), .ref (y 141), .ref (y 142), .int 0, .int 0, .ref (y 145), .ref (y 146), .ref (y 147), .int 0, .ref (y 7), .ref (y 8), .ref (y 9), .ref (y 152)])), (y 4, .inl (K 0, 1000, .inl g372)), (y 5, .inl (K 1, 5, .inl g308))] H := hP
  replace hD : va_D A [(y 0, .inr (11, [.int 0, .ref (y 1), .ref (y 2), .ref (y 3), .ref (y 4), .int 0, .ref (y 5), .int 0, .int 0, .int 0, .int 0, .int 0, .int 0, .int (-1), .ref (y 6), .int 0, .int 0, .int 0, .int 0, .int 0, .int 0, .ref (y 121), .ref (y 122), .ref (y 123), .ref (y 124), .int 0, .ref (y 126), .ref (y 127), .ref (y 128), .ref (y 129), .ref (y 130), .ref (y 131), .ref (y 132), .ref (y 133), .ref (y 134), .ref (y 135), .ref (y 136), .int 0, .int 0, .int 0, .ref (y 140), .ref (y 141), .ref (y 142), .int 0, .int 0, .ref (y 145), .ref (y 146), .ref (y 147), .int 0, .ref (y 7), .ref (y 8), .ref (y 9), .ref (y 152)])), (y 4, .inl (K 0, 1000, .inl g372)), (y 5, .inl (K 1, 5, .inl g308))] := hD
  refine lv_iinc (v := 16) (lv' := [(6, .int 16), (0, .ref (y 0)), (1, .int p0), (2, .int p1), (3, .int p2), (4, .int p3), (5, .int p4)]) hx hb dX12_feed_95 hl (k := 0) rfl (by decide) (by decide) rfl (fun ls hl => ?_)
  refine lv_goto (tgt := 55) hx hb dX12_feed_98 (by decide) ?_
  refine lv_iload hx hb dX12_feed_55 (lv_at hl 0 rfl) ?_
  refine lv_bipush (v := 20) hx hb dX12_feed_57 (by decide) ?_
  refine lv_icmp_ge (tgt := 101) hx hb dX12_feed_59 (by decide) (fun h => absurd h (by decide)) (fun _ => ?_)
  refine lv_aload_n hx hb dX12_feed_62 rfl (lv_at hl 1 rfl) ?_
  refine va_get (D := D) (ci := 11) (v := .ref (y 4)) (C := RX12) (T := TX12) (N := 53) hx hb hts in_X12 hown hE.1 hP 0 rfl rfl 4 (by decide) (hts _ w_402) (fun _ h9 => h9) rfl dX12_feed_63 ?_
  refine lv_aload_n hx hb dX12_feed_66 rfl (lv_at hl 1 rfl) ?_
  refine va_get (D := D) (ci := 11) (v := .int 0) (C := RX12) (T := TX12) (N := 53) hx hb hts in_X12 hown hE.1 hP 0 rfl rfl 5 (by decide) (hts _ w_238) (fun _ h9 => h9) rfl dX12_feed_67 ?_
  refine lv_iload hx hb dX12_feed_70 (lv_at hl 0 rfl) ?_
  refine lv_iadd hx hb dX12_feed_72 ?_
  refine tc (y := 16) (by decide) ?_
  refine lv_aload_n hx hb dX12_feed_73 rfl (lv_at hl 1 rfl) ?_
  refine va_get (D := D) (ci := 11) (v := .ref (y 5)) (C := RX12) (T := TX12) (N := 53) hx hb hts in_X12 hown hE.1 hP 0 rfl rfl 6 (by decide) (hts _ w_403) (fun _ h9 => h9) rfl dX12_feed_74 ?_
  refine lv_iload hx hb dX12_feed_77 (lv_at hl 0 rfl) ?_
  refine lv_iconst (v := 4) hx hb dX12_feed_79 (by decide) ?_
  refine lv_idiv hx hb dX12_feed_80 (by decide) ?_
  refine tc (y := 4) (by decide) ?_
  refine va_iald hx hb hE.1 hP 2 1 rfl rfl (in_c (by decide)) dX12_feed_81 ?_
  refine lv_topi (fun v373 ev373 => ?_)
  refine lv_bipush (v := 24) hx hb dX12_feed_82 (by decide) ?_
  refine lv_bipush (v := 8) hx hb dX12_feed_84 (by decide) ?_
  refine lv_iload hx hb dX12_feed_86 (lv_at hl 0 rfl) ?_
  refine lv_iconst (v := 4) hx hb dX12_feed_88 (by decide) ?_
  refine lv_irem hx hb dX12_feed_89 (by decide) ?_
  refine tc (y := 0) (by decide) ?_
  refine lv_imul hx hb dX12_feed_90 ?_
  refine tc (y := 0) (by decide) ?_
  refine lv_isub hx hb dX12_feed_91 ?_
  refine tc (y := 24) (by decide) ?_
  refine lv_ishr hx hb dX12_feed_92 ?_
  refine lv_topi (fun v374 ev374 => ?_)
  refine lv_i2b hx hb dX12_feed_93 rfl ?_
  refine lv_topi (fun v375 ev375 => ?_)
  refine stb hx hb hE.1 hP hD hS 1 0 rfl rfl (in_c (by decide)) dX12_feed_94 (fun g376 H locs hP hD hS => ?_)
  replace hP : va_P D vwCl [(y 0, .inr (11, [.int 0, .ref (y 1), .ref (y 2), .ref (y 3), .ref (y 4), .int 0, .ref (y 5), .int 0, .int 0, .int 0, .int 0, .int 0, .int 0, .int (-1), .ref (y 6), .int 0, .int 0, .int 0, .int 0, .int 0, .int 0, .ref (y 121), .ref (y 122), .ref (y 123), .ref (y 124), .int 0, .ref (y 126), .ref (y 127), .ref (y 128), .ref (y 129), .ref (y 130), .ref (y 131), .ref (y 132), .ref (y 133), .ref (y 134), .ref (y 135), .ref (y 136), .int 0, .int 0, .int 0, .ref (y 140), .ref (y 141), .ref (y 142), .int 0, .int 0, .ref (y 145), .ref (y 146), .ref (y 147), .int 0, .ref (y 7), .ref (y 8), .ref (y 9), .ref (y 152)])), (y 4, .inl (K 0, 1000, .inl g376)), (y 5, .inl (K 1, 5, .inl g308))] H := hP
  replace hD : va_D A [(y 0, .inr (11, [.int 0, .ref (y 1), .ref (y 2), .ref (y 3), .ref (y 4), .int 0, .ref (y 5), .int 0, .int 0, .int 0, .int 0, .int 0, .int 0, .int (-1), .ref (y 6), .int 0, .int 0, .int 0, .int 0, .int 0, .int 0, .ref (y 121), .ref (y 122), .ref (y 123), .ref (y 124), .int 0, .ref (y 126), .ref (y 127), .ref (y 128), .ref (y 129), .ref (y 130), .ref (y 131), .ref (y 132), .ref (y 133), .ref (y 134), .ref (y 135), .ref (y 136), .int 0, .int 0, .int 0, .ref (y 140), .ref (y 141), .ref (y 142), .int 0, .int 0, .ref (y 145), .ref (y 146), .ref (y 147), .int 0, .ref (y 7), .ref (y 8), .ref (y 9), .ref (y 152)])), (y 4, .inl (K 0, 1000, .inl g376)), (y 5, .inl (K 1, 5, .inl g308))] := hD
  refine lv_iinc (v := 17) (lv' := [(6, .int 17), (0, .ref (y 0)), (1, .int p0), (2, .int p1), (3, .int p2), (4, .int p3), (5, .int p4)]) hx hb dX12_feed_95 hl (k := 0) rfl (by decide) (by decide) rfl (fun ls hl => ?_)
  refine lv_goto (tgt := 55) hx hb dX12_feed_98 (by decide) ?_
  refine lv_iload hx hb dX12_feed_55 (lv_at hl 0 rfl) ?_
  refine lv_bipush (v := 20) hx hb dX12_feed_57 (by decide) ?_
  refine lv_icmp_ge (tgt := 101) hx hb dX12_feed_59 (by decide) (fun h => absurd h (by decide)) (fun _ => ?_)
  refine lv_aload_n hx hb dX12_feed_62 rfl (lv_at hl 1 rfl) ?_
  refine va_get (D := D) (ci := 11) (v := .ref (y 4)) (C := RX12) (T := TX12) (N := 53) hx hb hts in_X12 hown hE.1 hP 0 rfl rfl 4 (by decide) (hts _ w_402) (fun _ h9 => h9) rfl dX12_feed_63 ?_
  refine lv_aload_n hx hb dX12_feed_66 rfl (lv_at hl 1 rfl) ?_
  refine va_get (D := D) (ci := 11) (v := .int 0) (C := RX12) (T := TX12) (N := 53) hx hb hts in_X12 hown hE.1 hP 0 rfl rfl 5 (by decide) (hts _ w_238) (fun _ h9 => h9) rfl dX12_feed_67 ?_
  refine lv_iload hx hb dX12_feed_70 (lv_at hl 0 rfl) ?_
  refine lv_iadd hx hb dX12_feed_72 ?_
  refine tc (y := 17) (by decide) ?_
  refine lv_aload_n hx hb dX12_feed_73 rfl (lv_at hl 1 rfl) ?_
  refine va_get (D := D) (ci := 11) (v := .ref (y 5)) (C := RX12) (T := TX12) (N := 53) hx hb hts in_X12 hown hE.1 hP 0 rfl rfl 6 (by decide) (hts _ w_403) (fun _ h9 => h9) rfl dX12_feed_74 ?_
  refine lv_iload hx hb dX12_feed_77 (lv_at hl 0 rfl) ?_
  refine lv_iconst (v := 4) hx hb dX12_feed_79 (by decide) ?_
  refine lv_idiv hx hb dX12_feed_80 (by decide) ?_
  refine tc (y := 4) (by decide) ?_
  refine va_iald hx hb hE.1 hP 2 1 rfl rfl (in_c (by decide)) dX12_feed_81 ?_
  refine lv_topi (fun v377 ev377 => ?_)
  refine lv_bipush (v := 24) hx hb dX12_feed_82 (by decide) ?_
  refine lv_bipush (v := 8) hx hb dX12_feed_84 (by decide) ?_
  refine lv_iload hx hb dX12_feed_86 (lv_at hl 0 rfl) ?_
  refine lv_iconst (v := 4) hx hb dX12_feed_88 (by decide) ?_
  refine lv_irem hx hb dX12_feed_89 (by decide) ?_
  refine tc (y := 1) (by decide) ?_
  refine lv_imul hx hb dX12_feed_90 ?_
  refine tc (y := 8) (by decide) ?_
  refine lv_isub hx hb dX12_feed_91 ?_
  refine tc (y := 16) (by decide) ?_
  refine lv_ishr hx hb dX12_feed_92 ?_
  refine lv_topi (fun v378 ev378 => ?_)
  refine lv_i2b hx hb dX12_feed_93 rfl ?_
  refine lv_topi (fun v379 ev379 => ?_)
  refine stb hx hb hE.1 hP hD hS 1 0 rfl rfl (in_c (by decide)) dX12_feed_94 (fun g380 H locs hP hD hS => ?_)
  replace hP : va_P D vwCl [(y 0, .inr (11, [.int 0, .ref (y 1), .ref (y 2), .ref (y 3), .ref (y 4), .int 0, .ref (y 5), .int 0, .int 0, .int 0, .int 0, .int 0, .int 0, .int (-1), .ref (y 6), .int 0, .int 0, .int 0, .int 0, .int 0, .int 0, .ref (y 121), .ref (y 122), .ref (y 123), .ref (y 124), .int 0, .ref (y 126), .ref (y 127), .ref (y 128), .ref (y 129), .ref (y 130), .ref (y 131), .ref (y 132), .ref (y 133), .ref (y 134), .ref (y 135), .ref (y 136), .int 0, .int 0, .int 0, .ref (y 140), .ref (y 141), .ref (y 142), .int 0, .int 0, .ref (y 145), .ref (y 146), .ref (y 147), .int 0, .ref (y 7), .ref (y 8), .ref (y 9), .ref (y 152)])), (y 4, .inl (K 0, 1000, .inl g380)), (y 5, .inl (K 1, 5, .inl g308))] H := hP
  replace hD : va_D A [(y 0, .inr (11, [.int 0, .ref (y 1), .ref (y 2), .ref (y 3), .ref (y 4), .int 0, .ref (y 5), .int 0, .int 0, .int 0, .int 0, .int 0, .int 0, .int (-1), .ref (y 6), .int 0, .int 0, .int 0, .int 0, .int 0, .int 0, .ref (y 121), .ref (y 122), .ref (y 123), .ref (y 124), .int 0, .ref (y 126), .ref (y 127), .ref (y 128), .ref (y 129), .ref (y 130), .ref (y 131), .ref (y 132), .ref (y 133), .ref (y 134), .ref (y 135), .ref (y 136), .int 0, .int 0, .int 0, .ref (y 140), .ref (y 141), .ref (y 142), .int 0, .int 0, .ref (y 145), .ref (y 146), .ref (y 147), .int 0, .ref (y 7), .ref (y 8), .ref (y 9), .ref (y 152)])), (y 4, .inl (K 0, 1000, .inl g380)), (y 5, .inl (K 1, 5, .inl g308))] := hD
  refine lv_iinc (v := 18) (lv' := [(6, .int 18), (0, .ref (y 0)), (1, .int p0), (2, .int p1), (3, .int p2), (4, .int p3), (5, .int p4)]) hx hb dX12_feed_95 hl (k := 0) rfl (by decide) (by decide) rfl (fun ls hl => ?_)
  refine lv_goto (tgt := 55) hx hb dX12_feed_98 (by decide) ?_
  refine lv_iload hx hb dX12_feed_55 (lv_at hl 0 rfl) ?_
  refine lv_bipush (v := 20) hx hb dX12_feed_57 (by decide) ?_
  refine lv_icmp_ge (tgt := 101) hx hb dX12_feed_59 (by decide) (fun h => absurd h (by decide)) (fun _ => ?_)
  refine lv_aload_n hx hb dX12_feed_62 rfl (lv_at hl 1 rfl) ?_
  refine va_get (D := D) (ci := 11) (v := .ref (y 4)) (C := RX12) (T := TX12) (N := 53) hx hb hts in_X12 hown hE.1 hP 0 rfl rfl 4 (by decide) (hts _ w_402) (fun _ h9 => h9) rfl dX12_feed_63 ?_
  refine lv_aload_n hx hb dX12_feed_66 rfl (lv_at hl 1 rfl) ?_
  refine va_get (D := D) (ci := 11) (v := .int 0) (C := RX12) (T := TX12) (N := 53) hx hb hts in_X12 hown hE.1 hP 0 rfl rfl 5 (by decide) (hts _ w_238) (fun _ h9 => h9) rfl dX12_feed_67 ?_
  refine lv_iload hx hb dX12_feed_70 (lv_at hl 0 rfl) ?_
  refine lv_iadd hx hb dX12_feed_72 ?_
  refine tc (y := 18) (by decide) ?_
  refine lv_aload_n hx hb dX12_feed_73 rfl (lv_at hl 1 rfl) ?_
  refine va_get (D := D) (ci := 11) (v := .ref (y 5)) (C := RX12) (T := TX12) (N := 53) hx hb hts in_X12 hown hE.1 hP 0 rfl rfl 6 (by decide) (hts _ w_403) (fun _ h9 => h9) rfl dX12_feed_74 ?_
  refine lv_iload hx hb dX12_feed_77 (lv_at hl 0 rfl) ?_
  refine lv_iconst (v := 4) hx hb dX12_feed_79 (by decide) ?_
  refine lv_idiv hx hb dX12_feed_80 (by decide) ?_
  refine tc (y := 4) (by decide) ?_
  refine va_iald hx hb hE.1 hP 2 1 rfl rfl (in_c (by decide)) dX12_feed_81 ?_
  refine lv_topi (fun v381 ev381 => ?_)
  refine lv_bipush (v := 24) hx hb dX12_feed_82 (by decide) ?_
  refine lv_bipush (v := 8) hx hb dX12_feed_84 (by decide) ?_
  refine lv_iload hx hb dX12_feed_86 (lv_at hl 0 rfl) ?_
  refine lv_iconst (v := 4) hx hb dX12_feed_88 (by decide) ?_
  refine lv_irem hx hb dX12_feed_89 (by decide) ?_
  refine tc (y := 2) (by decide) ?_
  refine lv_imul hx hb dX12_feed_90 ?_
  refine tc (y := 16) (by decide) ?_
  refine lv_isub hx hb dX12_feed_91 ?_
  refine tc (y := 8) (by decide) ?_
  refine lv_ishr hx hb dX12_feed_92 ?_
  refine lv_topi (fun v382 ev382 => ?_)
  refine lv_i2b hx hb dX12_feed_93 rfl ?_
  refine lv_topi (fun v383 ev383 => ?_)
  refine stb hx hb hE.1 hP hD hS 1 0 rfl rfl (in_c (by decide)) dX12_feed_94 (fun g384 H locs hP hD hS => ?_)
  replace hP : va_P D vwCl [(y 0, .inr (11, [.int 0, .ref (y 1), .ref (y 2), .ref (y 3), .ref (y 4), .int 0, .ref (y 5), .int 0, .int 0, .int 0, .int 0, .int 0, .int 0, .int (-1), .ref (y 6), .int 0, .int 0, .int 0, .int 0, .int 0, .int 0, .ref (y 121), .ref (y 122), .ref (y 123), .ref (y 124), .int 0, .ref (y 126), .ref (y 127), .ref (y 128), .ref (y 129), .ref (y 130), .ref (y 131), .ref (y 132), .ref (y 133), .ref (y 134), .ref (y 135), .ref (y 136), .int 0, .int 0, .int 0, .ref (y 140), .ref (y 141), .ref (y 142), .int 0, .int 0, .ref (y 145), .ref (y 146), .ref (y 147), .int 0, .ref (y 7), .ref (y 8), .ref (y 9), .ref (y 152)])), (y 4, .inl (K 0, 1000, .inl g384)), (y 5, .inl (K 1, 5, .inl g308))] H := hP
  replace hD : va_D A [(y 0, .inr (11, [.int 0, .ref (y 1), .ref (y 2), .ref (y 3), .ref (y 4), .int 0, .ref (y 5), .int 0, .int 0, .int 0, .int 0, .int 0, .int 0, .int (-1), .ref (y 6), .int 0, .int 0, .int 0, .int 0, .int 0, .int 0, .ref (y 121), .ref (y 122), .ref (y 123), .ref (y 124), .int 0, .ref (y 126), .ref (y 127), .ref (y 128), .ref (y 129), .ref (y 130), .ref (y 131), .ref (y 132), .ref (y 133), .ref (y 134), .ref (y 135), .ref (y 136), .int 0, .int 0, .int 0, .ref (y 140), .ref (y 141), .ref (y 142), .int 0, .int 0, .ref (y 145), .ref (y 146), .ref (y 147), .int 0, .ref (y 7), .ref (y 8), .ref (y 9), .ref (y 152)])), (y 4, .inl (K 0, 1000, .inl g384)), (y 5, .inl (K 1, 5, .inl g308))] := hD
  refine lv_iinc (v := 19) (lv' := [(6, .int 19), (0, .ref (y 0)), (1, .int p0), (2, .int p1), (3, .int p2), (4, .int p3), (5, .int p4)]) hx hb dX12_feed_95 hl (k := 0) rfl (by decide) (by decide) rfl (fun ls hl => ?_)
  refine lv_goto (tgt := 55) hx hb dX12_feed_98 (by decide) ?_
  refine lv_iload hx hb dX12_feed_55 (lv_at hl 0 rfl) ?_
  refine lv_bipush (v := 20) hx hb dX12_feed_57 (by decide) ?_
  refine lv_icmp_ge (tgt := 101) hx hb dX12_feed_59 (by decide) (fun h => absurd h (by decide)) (fun _ => ?_)
  refine lv_aload_n hx hb dX12_feed_62 rfl (lv_at hl 1 rfl) ?_
  refine va_get (D := D) (ci := 11) (v := .ref (y 4)) (C := RX12) (T := TX12) (N := 53) hx hb hts in_X12 hown hE.1 hP 0 rfl rfl 4 (by decide) (hts _ w_402) (fun _ h9 => h9) rfl dX12_feed_63 ?_
  refine lv_aload_n hx hb dX12_feed_66 rfl (lv_at hl 1 rfl) ?_
  refine va_get (D := D) (ci := 11) (v := .int 0) (C := RX12) (T := TX12) (N := 53) hx hb hts in_X12 hown hE.1 hP 0 rfl rfl 5 (by decide) (hts _ w_238) (fun _ h9 => h9) rfl dX12_feed_67 ?_
  refine lv_iload hx hb dX12_feed_70 (lv_at hl 0 rfl) ?_
  refine lv_iadd hx hb dX12_feed_72 ?_
  refine tc (y := 19) (by decide) ?_
  refine lv_aload_n hx hb dX12_feed_73 rfl (lv_at hl 1 rfl) ?_
  refine va_get (D := D) (ci := 11) (v := .ref (y 5)) (C := RX12) (T := TX12) (N := 53) hx hb hts in_X12 hown hE.1 hP 0 rfl rfl 6 (by decide) (hts _ w_403) (fun _ h9 => h9) rfl dX12_feed_74 ?_
  refine lv_iload hx hb dX12_feed_77 (lv_at hl 0 rfl) ?_
  refine lv_iconst (v := 4) hx hb dX12_feed_79 (by decide) ?_
  refine lv_idiv hx hb dX12_feed_80 (by decide) ?_
  refine tc (y := 4) (by decide) ?_
  refine va_iald hx hb hE.1 hP 2 1 rfl rfl (in_c (by decide)) dX12_feed_81 ?_
  refine lv_topi (fun v385 ev385 => ?_)
  refine lv_bipush (v := 24) hx hb dX12_feed_82 (by decide) ?_
  refine lv_bipush (v := 8) hx hb dX12_feed_84 (by decide) ?_
  refine lv_iload hx hb dX12_feed_86 (lv_at hl 0 rfl) ?_
  refine lv_iconst (v := 4) hx hb dX12_feed_88 (by decide) ?_
  refine lv_irem hx hb dX12_feed_89 (by decide) ?_
  refine tc (y := 3) (by decide) ?_
  refine lv_imul hx hb dX12_feed_90 ?_
  refine tc (y := 24) (by decide) ?_
  refine lv_isub hx hb dX12_feed_91 ?_
  refine tc (y := 0) (by decide) ?_
  refine lv_ishr hx hb dX12_feed_92 ?_
  refine lv_topi (fun v386 ev386 => ?_)
  refine lv_i2b hx hb dX12_feed_93 rfl ?_
  refine lv_topi (fun v387 ev387 => ?_)
  refine stb hx hb hE.1 hP hD hS 1 0 rfl rfl (in_c (by decide)) dX12_feed_94 (fun g388 H locs hP hD hS => ?_)
  replace hP : va_P D vwCl [(y 0, .inr (11, [.int 0, .ref (y 1), .ref (y 2), .ref (y 3), .ref (y 4), .int 0, .ref (y 5), .int 0, .int 0, .int 0, .int 0, .int 0, .int 0, .int (-1), .ref (y 6), .int 0, .int 0, .int 0, .int 0, .int 0, .int 0, .ref (y 121), .ref (y 122), .ref (y 123), .ref (y 124), .int 0, .ref (y 126), .ref (y 127), .ref (y 128), .ref (y 129), .ref (y 130), .ref (y 131), .ref (y 132), .ref (y 133), .ref (y 134), .ref (y 135), .ref (y 136), .int 0, .int 0, .int 0, .ref (y 140), .ref (y 141), .ref (y 142), .int 0, .int 0, .ref (y 145), .ref (y 146), .ref (y 147), .int 0, .ref (y 7), .ref (y 8), .ref (y 9), .ref (y 152)])), (y 4, .inl (K 0, 1000, .inl g388)), (y 5, .inl (K 1, 5, .inl g308))] H := hP
  replace hD : va_D A [(y 0, .inr (11, [.int 0, .ref (y 1), .ref (y 2), .ref (y 3), .ref (y 4), .int 0, .ref (y 5), .int 0, .int 0, .int 0, .int 0, .int 0, .int 0, .int (-1), .ref (y 6), .int 0, .int 0, .int 0, .int 0, .int 0, .int 0, .ref (y 121), .ref (y 122), .ref (y 123), .ref (y 124), .int 0, .ref (y 126), .ref (y 127), .ref (y 128), .ref (y 129), .ref (y 130), .ref (y 131), .ref (y 132), .ref (y 133), .ref (y 134), .ref (y 135), .ref (y 136), .int 0, .int 0, .int 0, .ref (y 140), .ref (y 141), .ref (y 142), .int 0, .int 0, .ref (y 145), .ref (y 146), .ref (y 147), .int 0, .ref (y 7), .ref (y 8), .ref (y 9), .ref (y 152)])), (y 4, .inl (K 0, 1000, .inl g388)), (y 5, .inl (K 1, 5, .inl g308))] := hD
  refine lv_iinc (v := 20) (lv' := [(6, .int 20), (0, .ref (y 0)), (1, .int p0), (2, .int p1), (3, .int p2), (4, .int p3), (5, .int p4)]) hx hb dX12_feed_95 hl (k := 0) rfl (by decide) (by decide) rfl (fun ls hl => ?_)
  refine lv_goto (tgt := 55) hx hb dX12_feed_98 (by decide) ?_
  refine lv_iload hx hb dX12_feed_55 (lv_at hl 0 rfl) ?_
  refine lv_bipush (v := 20) hx hb dX12_feed_57 (by decide) ?_
  refine lv_icmp_ge (tgt := 101) hx hb dX12_feed_59 (by decide) (fun _ => ?_) (fun h => absurd h (by decide))
  refine lv_aload_n hx hb dX12_feed_101 rfl (lv_at hl 1 rfl) ?_
  refine lv_dup hx hb dX12_feed_102 rfl ?_
  refine va_get (D := D) (ci := 11) (v := .int 0) (C := RX12) (T := TX12) (N := 53) hx hb hts in_X12 hown hE.1 hP 0 rfl rfl 5 (by decide) (hts _ w_238) (fun _ h9 => h9) rfl dX12_feed_103 ?_
  refine lv_bipush (v := 20) hx hb dX12_feed_106 (by decide) ?_
  refine lv_iadd hx hb dX12_feed_108 ?_
  refine tc (y := 20) (by decide) ?_
  refine va_put (D := D) (ci := 11) (v := .int 20) (ty := .int) (C := RX12) (T := TX12) (N := 53) hx hb hts in_X12 tyX12 tyX12_ok nmX12 hown hE.1 hP hD hS 0 rfl rfl 5 (by decide) (hts _ w_238) (fun _ h9 => h9) rfl (by decide +kernel) rfl rfl (Nat.le_of_ble_eq_true rfl) dX12_feed_109 (fun H locs hP hD hS => ?_)
  replace hP : va_P D vwCl [(y 0, .inr (11, [.int 0, .ref (y 1), .ref (y 2), .ref (y 3), .ref (y 4), .int 20, .ref (y 5), .int 0, .int 0, .int 0, .int 0, .int 0, .int 0, .int (-1), .ref (y 6), .int 0, .int 0, .int 0, .int 0, .int 0, .int 0, .ref (y 121), .ref (y 122), .ref (y 123), .ref (y 124), .int 0, .ref (y 126), .ref (y 127), .ref (y 128), .ref (y 129), .ref (y 130), .ref (y 131), .ref (y 132), .ref (y 133), .ref (y 134), .ref (y 135), .ref (y 136), .int 0, .int 0, .int 0, .ref (y 140), .ref (y 141), .ref (y 142), .int 0, .int 0, .ref (y 145), .ref (y 146), .ref (y 147), .int 0, .ref (y 7), .ref (y 8), .ref (y 9), .ref (y 152)])), (y 4, .inl (K 0, 1000, .inl g388)), (y 5, .inl (K 1, 5, .inl g308))] H := hP
  replace hD : va_D A [(y 0, .inr (11, [.int 0, .ref (y 1), .ref (y 2), .ref (y 3), .ref (y 4), .int 20, .ref (y 5), .int 0, .int 0, .int 0, .int 0, .int 0, .int 0, .int (-1), .ref (y 6), .int 0, .int 0, .int 0, .int 0, .int 0, .int 0, .ref (y 121), .ref (y 122), .ref (y 123), .ref (y 124), .int 0, .ref (y 126), .ref (y 127), .ref (y 128), .ref (y 129), .ref (y 130), .ref (y 131), .ref (y 132), .ref (y 133), .ref (y 134), .ref (y 135), .ref (y 136), .int 0, .int 0, .int 0, .ref (y 140), .ref (y 141), .ref (y 142), .int 0, .int 0, .ref (y 145), .ref (y 146), .ref (y 147), .int 0, .ref (y 7), .ref (y 8), .ref (y 9), .ref (y 152)])), (y 4, .inl (K 0, 1000, .inl g388)), (y 5, .inl (K 1, 5, .inl g308))] := hD
  refine lv_aload_n hx hb dX12_feed_112 rfl (lv_at hl 1 rfl) ?_
  refine va_get (D := D) (ci := 11) (v := .int 20) (C := RX12) (T := TX12) (N := 53) hx hb hts in_X12 hown hE.1 hP 0 rfl rfl 5 (by decide) (hts _ w_238) (fun _ h9 => h9) rfl dX12_feed_113 ?_
  refine W.widen (k := 0) (n := 0) (by decide) (by decide) ?_
  exact ch_iret hC hr hk hS dX12_feed_116 () rfl (hP.sub [] rfl) (hD.sub [] (by decide) rfl)
set_option maxRecDepth 40000 in
set_option maxHeartbeats 4000000 in
theorem c_X12_end (l : Launch) (D : va_G) (K : Nat → ClassId) (y : Nat → Nat) (p0 : Int32) : Ci (S := Unit) l D K yX12_end cX12_end 2 (some .int) 1 25 0 0 [.ref (y 0), .int p0] [(y 0, .inr (11, [.int 0, .ref (y 1), .ref (y 2), .ref (y 3), .ref (y 4), .int 0, .ref (y 5), .int 0, .int 0, .int 0, .int 0, .int 0, .int 0, .int (-1), .ref (y 6), .int 0, .int 0, .int 0, .int 0, .int 0, .int 0, .ref (y 121), .ref (y 122), .ref (y 123), .ref (y 124), .int 0, .ref (y 126), .ref (y 127), .ref (y 128), .ref (y 129), .ref (y 130), .ref (y 131), .ref (y 132), .ref (y 133), .ref (y 134), .ref (y 135), .ref (y 136), .int 0, .int 0, .int 0, .ref (y 140), .ref (y 141), .ref (y 142), .int 0, .int 0, .ref (y 145), .ref (y 146), .ref (y 147), .int 0, .ref (y 7), .ref (y 8), .ref (y 9), .ref (y 152)]))] (fun r _ => (p0 = 0 ∧ r = 0) ∨ (¬ p0 = 0 ∧ r = -1)) (fun _ => []) := by
  intro sz
  refine ch_of (Qc := fun A => va_Qi (S := Unit) (fun r _ => (p0 = 0 ∧ r = 0) ∨ (¬ p0 = 0 ∧ r = -1)) (chB D A (fun _ => [])) A) (by decide) (Nat.le_of_ble_eq_true rfl) ?_
  intro p e s m below meth c A hC hr hk hin hE hD hA H locs hP hS ls hl
  replace hC : CallFix p m c cX12_end 2 s [.ref (y 0), .int p0].toArray wl RX12 := hC
  have hx := hC.1
  have hb := hC.2.1
  have hml := hC.2.2.1
  have hown := hC.2.2.2.1
  have hts := hC.2.2.2.2
  replace hl : lv_has ls 2 [(0, .ref (y 0)), (1, .int p0)] := hl
  refine lv_iload_n hx hb dX12_end_0 rfl (lv_at hl 1 rfl) ?_
  refine lv_i2l (v := p0.toInt64) hx hb dX12_end_1 rfl ?_
  refine lv_lconst (v := 0) hx hb dX12_end_2 (by decide) ?_
  refine lv_aload_n hx hb dX12_end_3 rfl (lv_at hl 0 rfl) ?_
  refine va_get (D := D) (ci := 11) (v := .int 0) (C := RX12) (T := TX12) (N := 53) hx hb hts in_X12 hown hE.1 hP 0 rfl rfl 5 (by decide) (hts _ w_238) (fun _ h9 => h9) rfl dX12_end_4 ?_
  refine lv_i2l (v := 0) hx hb dX12_end_7 (by decide) ?_
  refine ro_S (As := [.long p0.toInt64, .long 0, .long 0]) (rest := []) hC hE kS_X12_115 (c_X12_in l D K p0.toInt64 0 0) (hP.sub (ws' := []) [] rfl) rfl hl.1 rfl (Nat.le_of_ble_eq_true rfl) (by decide) (by decide) dX12_end_8 (fun r hq => ?_)
  rcases hq with ⟨h389, rfl⟩ | ⟨h390, rfl⟩
  · refine lv_if_ne (tgt := 16) hx hb dX12_end_11 (by decide) (fun _ => ?_) (fun h => absurd h (by decide))
    refine lv_aload_n hx hb dX12_end_16 rfl (lv_at hl 0 rfl) ?_
    refine lv_iload_n hx hb dX12_end_17 rfl (lv_at hl 1 rfl) ?_
    refine va_put (D := D) (ci := 11) (v := .int p0) (ty := .int) (C := RX12) (T := TX12) (N := 53) hx hb hts in_X12 tyX12 tyX12_ok nmX12 hown hE.1 hP hD hS 0 rfl rfl 5 (by decide) (hts _ w_238) (fun _ h9 => h9) rfl (by decide +kernel) rfl rfl (Nat.le_of_ble_eq_true rfl) dX12_end_18 (fun H locs hP hD hS => ?_)
    replace hP : va_P D vwCl [(y 0, .inr (11, [.int 0, .ref (y 1), .ref (y 2), .ref (y 3), .ref (y 4), .int p0, .ref (y 5), .int 0, .int 0, .int 0, .int 0, .int 0, .int 0, .int (-1), .ref (y 6), .int 0, .int 0, .int 0, .int 0, .int 0, .int 0, .ref (y 121), .ref (y 122), .ref (y 123), .ref (y 124), .int 0, .ref (y 126), .ref (y 127), .ref (y 128), .ref (y 129), .ref (y 130), .ref (y 131), .ref (y 132), .ref (y 133), .ref (y 134), .ref (y 135), .ref (y 136), .int 0, .int 0, .int 0, .ref (y 140), .ref (y 141), .ref (y 142), .int 0, .int 0, .ref (y 145), .ref (y 146), .ref (y 147), .int 0, .ref (y 7), .ref (y 8), .ref (y 9), .ref (y 152)]))] H := hP
    replace hD : va_D A [(y 0, .inr (11, [.int 0, .ref (y 1), .ref (y 2), .ref (y 3), .ref (y 4), .int p0, .ref (y 5), .int 0, .int 0, .int 0, .int 0, .int 0, .int 0, .int (-1), .ref (y 6), .int 0, .int 0, .int 0, .int 0, .int 0, .int 0, .ref (y 121), .ref (y 122), .ref (y 123), .ref (y 124), .int 0, .ref (y 126), .ref (y 127), .ref (y 128), .ref (y 129), .ref (y 130), .ref (y 131), .ref (y 132), .ref (y 133), .ref (y 134), .ref (y 135), .ref (y 136), .int 0, .int 0, .int 0, .ref (y 140), .ref (y 141), .ref (y 142), .int 0, .int 0, .ref (y 145), .ref (y 146), .ref (y 147), .int 0, .ref (y 7), .ref (y 8), .ref (y 9), .ref (y 152)]))] := hD
    refine lv_iload_n hx hb dX12_end_21 rfl (lv_at hl 1 rfl) ?_
    refine W.widen (k := 0) (n := 0) (by decide) (by decide) ?_
    exact ch_iret hC hr hk hS dX12_end_22 () (Or.inl ⟨z1 (iy64 (by decide) h389), z1 (iy64 (by decide) h389)⟩) (hP.sub [] rfl) (hD.sub [] (by decide) rfl)
  · refine lv_if_ne (tgt := 16) hx hb dX12_end_11 (by decide) (fun h => absurd h (by decide)) (fun _ => ?_)
    refine lv_iconst (v := (-1)) hx hb dX12_end_14 (by decide) ?_
    refine W.widen (k := 0) (n := 0) (by decide) (by decide) ?_
    exact ch_iret hC hr hk hS dX12_end_15 () (Or.inr ⟨nz1 (in64 (by decide) h390), rfl⟩) (hP.sub [] rfl) (hD.sub [] (by decide) rfl)
set_option maxRecDepth 40000 in
set_option maxHeartbeats 4000000 in
theorem c_X12_wood (l : Launch) (D : va_G) (K : Nat → ClassId) (y : Nat → Nat) : Ci (S := Unit) l D K yX12_wood cX12_wood 2 (some .int) 2 42 0 0 [.ref (y 0)] [(y 0, .inr (11, [.int 0, .ref (y 1), .ref (y 2), .ref (y 3), .ref (y 4), .int 0, .ref (y 5), .int 0, .int 0, .int 0, .int 0, .int 0, .int 0, .int (-1), .ref (y 6), .int 0, .int 0, .int 0, .int 0, .int 0, .int 0, .ref (y 121), .ref (y 122), .ref (y 123), .ref (y 124), .int 0, .ref (y 126), .ref (y 127), .ref (y 128), .ref (y 129), .ref (y 130), .ref (y 131), .ref (y 132), .ref (y 133), .ref (y 134), .ref (y 135), .ref (y 136), .int 0, .int 0, .int 0, .ref (y 140), .ref (y 141), .ref (y 142), .int 0, .int 0, .ref (y 145), .ref (y 146), .ref (y 147), .int 0, .ref (y 7), .ref (y 8), .ref (y 9), .ref (y 152)])), (y 1, .inl (K 1, 262, .inl (fun _ => 0))), (y 6, .inl (K 1, 262, .inl (fun _ => 0)))] (fun r _ => r = 0) (fun _ => []) := by
  intro sz
  refine ch_of (Qc := fun A => va_Qi (S := Unit) (fun r _ => r = 0) (chB D A (fun _ => [])) A) (by decide) (Nat.le_of_ble_eq_true rfl) ?_
  intro p e s m below meth c A hC hr hk hin hE hD hA H locs hP hS ls hl
  replace hC : CallFix p m c cX12_wood 2 s [.ref (y 0)].toArray wl RX12 := hC
  have hx := hC.1
  have hb := hC.2.1
  have hml := hC.2.2.1
  have hown := hC.2.2.2.1
  have hts := hC.2.2.2.2
  replace hl : lv_has ls 2 [(0, .ref (y 0))] := hl
  refine lv_aload_n hx hb dX12_wood_0 rfl (lv_at hl 0 rfl) ?_
  refine lv_aload_n hx hb dX12_wood_1 rfl (lv_at hl 0 rfl) ?_
  refine va_get (D := D) (ci := 11) (v := .int 0) (C := RX12) (T := TX12) (N := 53) hx hb hts in_X12 hown hE.1 hP 0 rfl rfl 5 (by decide) (hts _ w_238) (fun _ h9 => h9) rfl dX12_wood_2 ?_
  refine va_put (D := D) (ci := 11) (v := .int 0) (ty := .int) (C := RX12) (T := TX12) (N := 53) hx hb hts in_X12 tyX12 tyX12_ok nmX12 hown hE.1 hP hD hS 0 rfl rfl 7 (by decide) (hts _ w_497) (fun _ h9 => h9) rfl (by decide +kernel) rfl rfl (Nat.le_of_ble_eq_true rfl) dX12_wood_5 (fun H locs hP hD hS => ?_)
  replace hP : va_P D vwCl [(y 0, .inr (11, [.int 0, .ref (y 1), .ref (y 2), .ref (y 3), .ref (y 4), .int 0, .ref (y 5), .int 0, .int 0, .int 0, .int 0, .int 0, .int 0, .int (-1), .ref (y 6), .int 0, .int 0, .int 0, .int 0, .int 0, .int 0, .ref (y 121), .ref (y 122), .ref (y 123), .ref (y 124), .int 0, .ref (y 126), .ref (y 127), .ref (y 128), .ref (y 129), .ref (y 130), .ref (y 131), .ref (y 132), .ref (y 133), .ref (y 134), .ref (y 135), .ref (y 136), .int 0, .int 0, .int 0, .ref (y 140), .ref (y 141), .ref (y 142), .int 0, .int 0, .ref (y 145), .ref (y 146), .ref (y 147), .int 0, .ref (y 7), .ref (y 8), .ref (y 9), .ref (y 152)])), (y 1, .inl (K 1, 262, .inl (fun _ => 0))), (y 6, .inl (K 1, 262, .inl (fun _ => 0)))] H := hP
  replace hD : va_D A [(y 0, .inr (11, [.int 0, .ref (y 1), .ref (y 2), .ref (y 3), .ref (y 4), .int 0, .ref (y 5), .int 0, .int 0, .int 0, .int 0, .int 0, .int 0, .int (-1), .ref (y 6), .int 0, .int 0, .int 0, .int 0, .int 0, .int 0, .ref (y 121), .ref (y 122), .ref (y 123), .ref (y 124), .int 0, .ref (y 126), .ref (y 127), .ref (y 128), .ref (y 129), .ref (y 130), .ref (y 131), .ref (y 132), .ref (y 133), .ref (y 134), .ref (y 135), .ref (y 136), .int 0, .int 0, .int 0, .ref (y 140), .ref (y 141), .ref (y 142), .int 0, .int 0, .ref (y 145), .ref (y 146), .ref (y 147), .int 0, .ref (y 7), .ref (y 8), .ref (y 9), .ref (y 152)])), (y 1, .inl (K 1, 262, .inl (fun _ => 0))), (y 6, .inl (K 1, 262, .inl (fun _ => 0)))] := hD
  refine lv_aload_n hx hb dX12_wood_8 rfl (lv_at hl 0 rfl) ?_
  refine lv_iconst (v := 0) hx hb dX12_wood_9 (by decide) ?_
  refine va_put (D := D) (ci := 11) (v := .int 0) (ty := .int) (C := RX12) (T := TX12) (N := 53) hx hb hts in_X12 tyX12 tyX12_ok nmX12 hown hE.1 hP hD hS 0 rfl rfl 5 (by decide) (hts _ w_238) (fun _ h9 => h9) rfl (by decide +kernel) rfl rfl (Nat.le_of_ble_eq_true rfl) dX12_wood_10 (fun H locs hP hD hS => ?_)
  replace hP : va_P D vwCl [(y 0, .inr (11, [.int 0, .ref (y 1), .ref (y 2), .ref (y 3), .ref (y 4), .int 0, .ref (y 5), .int 0, .int 0, .int 0, .int 0, .int 0, .int 0, .int (-1), .ref (y 6), .int 0, .int 0, .int 0, .int 0, .int 0, .int 0, .ref (y 121), .ref (y 122), .ref (y 123), .ref (y 124), .int 0, .ref (y 126), .ref (y 127), .ref (y 128), .ref (y 129), .ref (y 130), .ref (y 131), .ref (y 132), .ref (y 133), .ref (y 134), .ref (y 135), .ref (y 136), .int 0, .int 0, .int 0, .ref (y 140), .ref (y 141), .ref (y 142), .int 0, .int 0, .ref (y 145), .ref (y 146), .ref (y 147), .int 0, .ref (y 7), .ref (y 8), .ref (y 9), .ref (y 152)])), (y 1, .inl (K 1, 262, .inl (fun _ => 0))), (y 6, .inl (K 1, 262, .inl (fun _ => 0)))] H := hP
  replace hD : va_D A [(y 0, .inr (11, [.int 0, .ref (y 1), .ref (y 2), .ref (y 3), .ref (y 4), .int 0, .ref (y 5), .int 0, .int 0, .int 0, .int 0, .int 0, .int 0, .int (-1), .ref (y 6), .int 0, .int 0, .int 0, .int 0, .int 0, .int 0, .ref (y 121), .ref (y 122), .ref (y 123), .ref (y 124), .int 0, .ref (y 126), .ref (y 127), .ref (y 128), .ref (y 129), .ref (y 130), .ref (y 131), .ref (y 132), .ref (y 133), .ref (y 134), .ref (y 135), .ref (y 136), .int 0, .int 0, .int 0, .ref (y 140), .ref (y 141), .ref (y 142), .int 0, .int 0, .ref (y 145), .ref (y 146), .ref (y 147), .int 0, .ref (y 7), .ref (y 8), .ref (y 9), .ref (y 152)])), (y 1, .inl (K 1, 262, .inl (fun _ => 0))), (y 6, .inl (K 1, 262, .inl (fun _ => 0)))] := hD
  refine lv_aload_n hx hb dX12_wood_13 rfl (lv_at hl 0 rfl) ?_
  refine lv_iconst (v := 0) hx hb dX12_wood_14 (by decide) ?_
  refine va_put (D := D) (ci := 11) (v := .int 0) (ty := .int) (C := RX12) (T := TX12) (N := 53) hx hb hts in_X12 tyX12 tyX12_ok nmX12 hown hE.1 hP hD hS 0 rfl rfl 8 (by decide) (hts _ w_498) (fun _ h9 => h9) rfl (by decide +kernel) rfl rfl (Nat.le_of_ble_eq_true rfl) dX12_wood_15 (fun H locs hP hD hS => ?_)
  replace hP : va_P D vwCl [(y 0, .inr (11, [.int 0, .ref (y 1), .ref (y 2), .ref (y 3), .ref (y 4), .int 0, .ref (y 5), .int 0, .int 0, .int 0, .int 0, .int 0, .int 0, .int (-1), .ref (y 6), .int 0, .int 0, .int 0, .int 0, .int 0, .int 0, .ref (y 121), .ref (y 122), .ref (y 123), .ref (y 124), .int 0, .ref (y 126), .ref (y 127), .ref (y 128), .ref (y 129), .ref (y 130), .ref (y 131), .ref (y 132), .ref (y 133), .ref (y 134), .ref (y 135), .ref (y 136), .int 0, .int 0, .int 0, .ref (y 140), .ref (y 141), .ref (y 142), .int 0, .int 0, .ref (y 145), .ref (y 146), .ref (y 147), .int 0, .ref (y 7), .ref (y 8), .ref (y 9), .ref (y 152)])), (y 1, .inl (K 1, 262, .inl (fun _ => 0))), (y 6, .inl (K 1, 262, .inl (fun _ => 0)))] H := hP
  replace hD : va_D A [(y 0, .inr (11, [.int 0, .ref (y 1), .ref (y 2), .ref (y 3), .ref (y 4), .int 0, .ref (y 5), .int 0, .int 0, .int 0, .int 0, .int 0, .int 0, .int (-1), .ref (y 6), .int 0, .int 0, .int 0, .int 0, .int 0, .int 0, .ref (y 121), .ref (y 122), .ref (y 123), .ref (y 124), .int 0, .ref (y 126), .ref (y 127), .ref (y 128), .ref (y 129), .ref (y 130), .ref (y 131), .ref (y 132), .ref (y 133), .ref (y 134), .ref (y 135), .ref (y 136), .int 0, .int 0, .int 0, .ref (y 140), .ref (y 141), .ref (y 142), .int 0, .int 0, .ref (y 145), .ref (y 146), .ref (y 147), .int 0, .ref (y 7), .ref (y 8), .ref (y 9), .ref (y 152)])), (y 1, .inl (K 1, 262, .inl (fun _ => 0))), (y 6, .inl (K 1, 262, .inl (fun _ => 0)))] := hD
  refine lv_aload_n hx hb dX12_wood_18 rfl (lv_at hl 0 rfl) ?_
  refine lv_iconst (v := 0) hx hb dX12_wood_19 (by decide) ?_
  refine va_put (D := D) (ci := 11) (v := .int 0) (ty := .int) (C := RX12) (T := TX12) (N := 53) hx hb hts in_X12 tyX12 tyX12_ok nmX12 hown hE.1 hP hD hS 0 rfl rfl 12 (by decide) (hts _ w_237) (fun _ h9 => h9) rfl (by decide +kernel) rfl rfl (Nat.le_of_ble_eq_true rfl) dX12_wood_20 (fun H locs hP hD hS => ?_)
  replace hP : va_P D vwCl [(y 0, .inr (11, [.int 0, .ref (y 1), .ref (y 2), .ref (y 3), .ref (y 4), .int 0, .ref (y 5), .int 0, .int 0, .int 0, .int 0, .int 0, .int 0, .int (-1), .ref (y 6), .int 0, .int 0, .int 0, .int 0, .int 0, .int 0, .ref (y 121), .ref (y 122), .ref (y 123), .ref (y 124), .int 0, .ref (y 126), .ref (y 127), .ref (y 128), .ref (y 129), .ref (y 130), .ref (y 131), .ref (y 132), .ref (y 133), .ref (y 134), .ref (y 135), .ref (y 136), .int 0, .int 0, .int 0, .ref (y 140), .ref (y 141), .ref (y 142), .int 0, .int 0, .ref (y 145), .ref (y 146), .ref (y 147), .int 0, .ref (y 7), .ref (y 8), .ref (y 9), .ref (y 152)])), (y 1, .inl (K 1, 262, .inl (fun _ => 0))), (y 6, .inl (K 1, 262, .inl (fun _ => 0)))] H := hP
  replace hD : va_D A [(y 0, .inr (11, [.int 0, .ref (y 1), .ref (y 2), .ref (y 3), .ref (y 4), .int 0, .ref (y 5), .int 0, .int 0, .int 0, .int 0, .int 0, .int 0, .int (-1), .ref (y 6), .int 0, .int 0, .int 0, .int 0, .int 0, .int 0, .ref (y 121), .ref (y 122), .ref (y 123), .ref (y 124), .int 0, .ref (y 126), .ref (y 127), .ref (y 128), .ref (y 129), .ref (y 130), .ref (y 131), .ref (y 132), .ref (y 133), .ref (y 134), .ref (y 135), .ref (y 136), .int 0, .int 0, .int 0, .ref (y 140), .ref (y 141), .ref (y 142), .int 0, .int 0, .ref (y 145), .ref (y 146), .ref (y 147), .int 0, .ref (y 7), .ref (y 8), .ref (y 9), .ref (y 152)])), (y 1, .inl (K 1, 262, .inl (fun _ => 0))), (y 6, .inl (K 1, 262, .inl (fun _ => 0)))] := hD
  refine lv_aload_n hx hb dX12_wood_23 rfl (lv_at hl 0 rfl) ?_
  refine lv_iconst (v := (-1)) hx hb dX12_wood_24 (by decide) ?_
  refine va_put (D := D) (ci := 11) (v := .int (-1)) (ty := .int) (C := RX12) (T := TX12) (N := 53) hx hb hts in_X12 tyX12 tyX12_ok nmX12 hown hE.1 hP hD hS 0 rfl rfl 13 (by decide) (hts _ w_236) (fun _ h9 => h9) rfl (by decide +kernel) rfl rfl (Nat.le_of_ble_eq_true rfl) dX12_wood_25 (fun H locs hP hD hS => ?_)
  replace hP : va_P D vwCl [(y 0, .inr (11, [.int 0, .ref (y 1), .ref (y 2), .ref (y 3), .ref (y 4), .int 0, .ref (y 5), .int 0, .int 0, .int 0, .int 0, .int 0, .int 0, .int (-1), .ref (y 6), .int 0, .int 0, .int 0, .int 0, .int 0, .int 0, .ref (y 121), .ref (y 122), .ref (y 123), .ref (y 124), .int 0, .ref (y 126), .ref (y 127), .ref (y 128), .ref (y 129), .ref (y 130), .ref (y 131), .ref (y 132), .ref (y 133), .ref (y 134), .ref (y 135), .ref (y 136), .int 0, .int 0, .int 0, .ref (y 140), .ref (y 141), .ref (y 142), .int 0, .int 0, .ref (y 145), .ref (y 146), .ref (y 147), .int 0, .ref (y 7), .ref (y 8), .ref (y 9), .ref (y 152)])), (y 1, .inl (K 1, 262, .inl (fun _ => 0))), (y 6, .inl (K 1, 262, .inl (fun _ => 0)))] H := hP
  replace hD : va_D A [(y 0, .inr (11, [.int 0, .ref (y 1), .ref (y 2), .ref (y 3), .ref (y 4), .int 0, .ref (y 5), .int 0, .int 0, .int 0, .int 0, .int 0, .int 0, .int (-1), .ref (y 6), .int 0, .int 0, .int 0, .int 0, .int 0, .int 0, .ref (y 121), .ref (y 122), .ref (y 123), .ref (y 124), .int 0, .ref (y 126), .ref (y 127), .ref (y 128), .ref (y 129), .ref (y 130), .ref (y 131), .ref (y 132), .ref (y 133), .ref (y 134), .ref (y 135), .ref (y 136), .int 0, .int 0, .int 0, .ref (y 140), .ref (y 141), .ref (y 142), .int 0, .int 0, .ref (y 145), .ref (y 146), .ref (y 147), .int 0, .ref (y 7), .ref (y 8), .ref (y 9), .ref (y 152)])), (y 1, .inl (K 1, 262, .inl (fun _ => 0))), (y 6, .inl (K 1, 262, .inl (fun _ => 0)))] := hD
  refine lv_iconst (v := 0) hx hb dX12_wood_28 (by decide) ?_
  refine lv_istore_n (lv' := [(1, .int 0), (0, .ref (y 0))]) hx hb dX12_wood_29 rfl hl (by decide) rfl (fun ls hl => ?_)
  obtain ⟨i, hi0⟩ : ∃ i : Nat, i = 0 := ⟨0, rfl⟩
  replace hl : lv_has ls 2 [(1, .int (nI i)), (0, .ref (y 0))] := by subst hi0; rw [nI_0]; exact hl
  have hi : i ≤ 262 := by omega
  obtain ⟨n, hn⟩ : ∃ n : Nat, 262 < i + n := ⟨262 + 1, by omega⟩
  clear hi0
  induction n generalizing i H locs ls with
  | zero => exact absurd hn (by omega)
  | succ n ih =>
    refine lv_iload_n hx hb dX12_wood_30 rfl (lv_at hl 0 rfl) ?_
    refine lv_sipush (v := 262) hx hb dX12_wood_31 (by decide) ?_
    refine lv_icmp_ge (tgt := 50) hx hb dX12_wood_34 (by decide) (fun c9 => ?_) (fun c9 => ?_)
    · refine lv_aload_n hx hb dX12_wood_50 rfl (lv_at hl 1 rfl) ?_
      refine cv_V (As := []) (rest := []) (wc := [(y 0, .inr (11, [.int 0, .ref (y 1), .ref (y 2), .ref (y 3), .ref (y 4), .int 0, .ref (y 5), .int 0, .int 0, .int 0, .int 0, .int 0, .int 0, .int (-1), .ref (y 6), .int 0, .int 0, .int 0, .int 0, .int 0, .int 0, .ref (y 121), .ref (y 122), .ref (y 123), .ref (y 124), .int 0, .ref (y 126), .ref (y 127), .ref (y 128), .ref (y 129), .ref (y 130), .ref (y 131), .ref (y 132), .ref (y 133), .ref (y 134), .ref (y 135), .ref (y 136), .int 0, .int 0, .int 0, .ref (y 140), .ref (y 141), .ref (y 142), .int 0, .int 0, .ref (y 145), .ref (y 146), .ref (y 147), .int 0, .ref (y 7), .ref (y 8), .ref (y 9), .ref (y 152)]))]) (wr := [(y 1, .inl (K 1, 262, .inl (fun _ => 0))), (y 6, .inl (K 1, 262, .inl (fun _ => 0)))]) hC hE kV_X12_189 (c_X12_advance l D K y) hP hD hS hA [0] [1, 2] rfl rfl rfl (by decide) (by decide) (by decide) 0 11 rfl rfl rfl hl.1 rfl (Nat.le_of_ble_eq_true rfl) (by decide) (by decide) dX12_wood_51 (fun u391 H locs hw hP hD hS => ?_)
      replace hP : va_P D vwCl [(y 1, .inl (K 1, 262, .inl (fun _ => 0))), (y 6, .inl (K 1, 262, .inl (fun _ => 0))), (y 0, .inr (11, [.int 0, .ref (y 1), .ref (y 2), .ref (y 3), .ref (y 4), .int 0, .ref (y 5), .int 0, .int 0, .int 0, .int 0, .int 0, .int 0, .int (-1), .ref (y 6), .int 0, .int 0, .int 0, .int 0, .int 0, .int 0, .ref (y 121), .ref (y 122), .ref (y 123), .ref (y 124), .int 0, .ref (y 126), .ref (y 127), .ref (y 128), .ref (y 129), .ref (y 130), .ref (y 131), .ref (y 132), .ref (y 133), .ref (y 134), .ref (y 135), .ref (y 136), .int 0, .int 0, .int 0, .ref (y 140), .ref (y 141), .ref (y 142), .int 0, .int 0, .ref (y 145), .ref (y 146), .ref (y 147), .int 0, .ref (y 7), .ref (y 8), .ref (y 9), .ref (y 152)]))] H := hP
      replace hD : va_D A [(y 1, .inl (K 1, 262, .inl (fun _ => 0))), (y 6, .inl (K 1, 262, .inl (fun _ => 0))), (y 0, .inr (11, [.int 0, .ref (y 1), .ref (y 2), .ref (y 3), .ref (y 4), .int 0, .ref (y 5), .int 0, .int 0, .int 0, .int 0, .int 0, .int 0, .int (-1), .ref (y 6), .int 0, .int 0, .int 0, .int 0, .int 0, .int 0, .ref (y 121), .ref (y 122), .ref (y 123), .ref (y 124), .int 0, .ref (y 126), .ref (y 127), .ref (y 128), .ref (y 129), .ref (y 130), .ref (y 131), .ref (y 132), .ref (y 133), .ref (y 134), .ref (y 135), .ref (y 136), .int 0, .int 0, .int 0, .ref (y 140), .ref (y 141), .ref (y 142), .int 0, .int 0, .ref (y 145), .ref (y 146), .ref (y 147), .int 0, .ref (y 7), .ref (y 8), .ref (y 9), .ref (y 152)]))] := hD
      refine W.widen (k := 0) (n := 0) (by decide) (by decide) ?_
      refine lv_aload_n hx hb dX12_wood_54 rfl (lv_at hl 1 rfl) ?_
      refine ro_V (As := []) (rest := []) hC hE kV_X12_173 (c_X12_good l D K y) (hP.sub (ws' := [(y 0, .inr (11, [.int 0, .ref (y 1), .ref (y 2), .ref (y 3), .ref (y 4), .int 0, .ref (y 5), .int 0, .int 0, .int 0, .int 0, .int 0, .int 0, .int (-1), .ref (y 6), .int 0, .int 0, .int 0, .int 0, .int 0, .int 0, .ref (y 121), .ref (y 122), .ref (y 123), .ref (y 124), .int 0, .ref (y 126), .ref (y 127), .ref (y 128), .ref (y 129), .ref (y 130), .ref (y 131), .ref (y 132), .ref (y 133), .ref (y 134), .ref (y 135), .ref (y 136), .int 0, .int 0, .int 0, .ref (y 140), .ref (y 141), .ref (y 142), .int 0, .int 0, .ref (y 145), .ref (y 146), .ref (y 147), .int 0, .ref (y 7), .ref (y 8), .ref (y 9), .ref (y 152)]))]) [2] rfl) 0 11 rfl rfl rfl hl.1 rfl (Nat.le_of_ble_eq_true rfl) (by decide) (by decide) dX12_wood_55 (fun r hq => ?_)
      subst hq
      refine lv_if_eq (tgt := 75) hx hb dX12_wood_58 (by decide) (fun h => absurd h (by decide)) (fun _ => ?_)
      refine lv_aload_n hx hb dX12_wood_61 rfl (lv_at hl 1 rfl) ?_
      refine va_get (D := D) (ci := 11) (v := .int 0) (C := RX12) (T := TX12) (N := 53) hx hb hts in_X12 hown hE.1 hP 2 rfl rfl 10 (by decide) (hts _ w_504) (fun _ h9 => h9) rfl dX12_wood_62 ?_
      refine lv_if_eq (tgt := 75) hx hb dX12_wood_65 (by decide) (fun _ => ?_) (fun h => absurd h (by decide))
      refine lv_aload_n hx hb dX12_wood_75 rfl (lv_at hl 1 rfl) ?_
      refine ro_V (As := []) (rest := []) hC hE kV_X12_173 (c_X12_good l D K y) (hP.sub (ws' := [(y 0, .inr (11, [.int 0, .ref (y 1), .ref (y 2), .ref (y 3), .ref (y 4), .int 0, .ref (y 5), .int 0, .int 0, .int 0, .int 0, .int 0, .int 0, .int (-1), .ref (y 6), .int 0, .int 0, .int 0, .int 0, .int 0, .int 0, .ref (y 121), .ref (y 122), .ref (y 123), .ref (y 124), .int 0, .ref (y 126), .ref (y 127), .ref (y 128), .ref (y 129), .ref (y 130), .ref (y 131), .ref (y 132), .ref (y 133), .ref (y 134), .ref (y 135), .ref (y 136), .int 0, .int 0, .int 0, .ref (y 140), .ref (y 141), .ref (y 142), .int 0, .int 0, .ref (y 145), .ref (y 146), .ref (y 147), .int 0, .ref (y 7), .ref (y 8), .ref (y 9), .ref (y 152)]))]) [2] rfl) 0 11 rfl rfl rfl hl.1 rfl (Nat.le_of_ble_eq_true rfl) (by decide) (by decide) dX12_wood_76 (fun r hq => ?_)
      subst hq
      refine lv_if_ne (tgt := 85) hx hb dX12_wood_79 (by decide) (fun _ => ?_) (fun h => absurd h (by decide))
      refine lv_iconst (v := 0) hx hb dX12_wood_85 (by decide) ?_
      refine lv_istore_n (lv' := [(1, .int 0), (0, .ref (y 0))]) hx hb dX12_wood_86 rfl hl (by decide) rfl (fun ls hl => ?_)
      obtain ⟨i, hi0⟩ : ∃ i : Nat, i = 0 := ⟨0, rfl⟩
      replace hl : lv_has ls 2 [(1, .int (nI i)), (0, .ref (y 0))] := by subst hi0; rw [nI_0]; exact hl
      have hi : i ≤ 262 := by omega
      obtain ⟨n, hn⟩ : ∃ n : Nat, 262 < i + n := ⟨262 + 1, by omega⟩
      clear hi0
      induction n generalizing i H locs ls with
      | zero => exact absurd hn (by omega)
      | succ n ih =>
        refine lv_iload_n hx hb dX12_wood_87 rfl (lv_at hl 0 rfl) ?_
        refine lv_sipush (v := 262) hx hb dX12_wood_88 (by decide) ?_
        refine lv_icmp_ge (tgt := 112) hx hb dX12_wood_91 (by decide) (fun c9 => ?_) (fun c9 => ?_)
        · refine lv_aload_n hx hb dX12_wood_112 rfl (lv_at hl 1 rfl) ?_
          refine va_get (D := D) (ci := 11) (v := .ref (y 1)) (C := RX12) (T := TX12) (N := 53) hx hb hts in_X12 hown hE.1 hP 2 rfl rfl 1 (by decide) (hts _ w_194) (fun _ h9 => h9) rfl dX12_wood_113 ?_
          refine lv_iconst (v := 3) hx hb dX12_wood_116 (by decide) ?_
          refine va_iald hx hb hE.1 hP 0 1 rfl rfl (in_c (by decide)) dX12_wood_117 ?_
          refine tc (y := 0) rfl ?_
          refine W.widen (k := 0) (n := 0) (by decide) (by decide) ?_
          exact ch_iret hC hr hk hS dX12_wood_118 () rfl (hP.sub [] rfl) (hD.sub [] (by decide) rfl)
        · have hlt : i < 262 := (lt_nI (by decide) hi (by decide) c9)
          refine lv_aload_n hx hb dX12_wood_94 rfl (lv_at hl 1 rfl) ?_
          refine va_get (D := D) (ci := 11) (v := .ref (y 1)) (C := RX12) (T := TX12) (N := 53) hx hb hts in_X12 hown hE.1 hP 2 rfl rfl 1 (by decide) (hts _ w_194) (fun _ h9 => h9) rfl dX12_wood_95 ?_
          refine lv_iload_n hx hb dX12_wood_98 rfl (lv_at hl 0 rfl) ?_
          refine lv_aload_n hx hb dX12_wood_99 rfl (lv_at hl 1 rfl) ?_
          refine va_get (D := D) (ci := 11) (v := .ref (y 6)) (C := RX12) (T := TX12) (N := 53) hx hb hts in_X12 hown hE.1 hP 2 rfl rfl 14 (by decide) (hts _ w_404) (fun _ h9 => h9) rfl dX12_wood_100 ?_
          refine lv_iload_n hx hb dX12_wood_103 rfl (lv_at hl 0 rfl) ?_
          refine va_iald hx hb hE.1 hP 1 1 rfl rfl (vp_in_nI (by omega) (by decide)) dX12_wood_104 ?_
          refine tc (y := 0) rfl ?_
          refine sti0 hx hb hE.1 hP hD hS 0 1 rfl rfl (vp_in_nI (by omega) (by decide)) dX12_wood_105 (fun H locs hP hD hS => ?_)
          replace hP : va_P D vwCl [(y 1, .inl (K 1, 262, .inl (fun _ => 0))), (y 6, .inl (K 1, 262, .inl (fun _ => 0))), (y 0, .inr (11, [.int 0, .ref (y 1), .ref (y 2), .ref (y 3), .ref (y 4), .int 0, .ref (y 5), .int 0, .int 0, .int 0, .int 0, .int 0, .int 0, .int (-1), .ref (y 6), .int 0, .int 0, .int 0, .int 0, .int 0, .int 0, .ref (y 121), .ref (y 122), .ref (y 123), .ref (y 124), .int 0, .ref (y 126), .ref (y 127), .ref (y 128), .ref (y 129), .ref (y 130), .ref (y 131), .ref (y 132), .ref (y 133), .ref (y 134), .ref (y 135), .ref (y 136), .int 0, .int 0, .int 0, .ref (y 140), .ref (y 141), .ref (y 142), .int 0, .int 0, .ref (y 145), .ref (y 146), .ref (y 147), .int 0, .ref (y 7), .ref (y 8), .ref (y 9), .ref (y 152)]))] H := hP
          replace hD : va_D A [(y 1, .inl (K 1, 262, .inl (fun _ => 0))), (y 6, .inl (K 1, 262, .inl (fun _ => 0))), (y 0, .inr (11, [.int 0, .ref (y 1), .ref (y 2), .ref (y 3), .ref (y 4), .int 0, .ref (y 5), .int 0, .int 0, .int 0, .int 0, .int 0, .int 0, .int (-1), .ref (y 6), .int 0, .int 0, .int 0, .int 0, .int 0, .int 0, .ref (y 121), .ref (y 122), .ref (y 123), .ref (y 124), .int 0, .ref (y 126), .ref (y 127), .ref (y 128), .ref (y 129), .ref (y 130), .ref (y 131), .ref (y 132), .ref (y 133), .ref (y 134), .ref (y 135), .ref (y 136), .int 0, .int 0, .int 0, .ref (y 140), .ref (y 141), .ref (y 142), .int 0, .int 0, .ref (y 145), .ref (y 146), .ref (y 147), .int 0, .ref (y 7), .ref (y 8), .ref (y 9), .ref (y 152)]))] := hD
          refine lv_iinc (v := (nI (i + 1))) (lv' := [(1, .int (nI (i + 1))), (0, .ref (y 0))]) hx hb dX12_wood_106 hl (k := 0) rfl (nI_1 _) (by decide) rfl (fun ls hl => ?_)
          refine lv_goto (tgt := 87) hx hb dX12_wood_109 (by decide) ?_
          exact ih (i := i + 1) (H := H) (locs := locs) (ls := ls) (hi := hlt) (hn := by omega) (hP := hP) (hS := hS) (hl := lv_sub hl [0, 1] rfl)
    · have hlt : i < 262 := (lt_nI (by decide) hi (by decide) c9)
      refine lv_aload_n hx hb dX12_wood_37 rfl (lv_at hl 1 rfl) ?_
      refine va_get (D := D) (ci := 11) (v := .ref (y 6)) (C := RX12) (T := TX12) (N := 53) hx hb hts in_X12 hown hE.1 hP 0 rfl rfl 14 (by decide) (hts _ w_404) (fun _ h9 => h9) rfl dX12_wood_38 ?_
      refine lv_iload_n hx hb dX12_wood_41 rfl (lv_at hl 0 rfl) ?_
      refine lv_iconst (v := 0) hx hb dX12_wood_42 (by decide) ?_
      refine sti0 hx hb hE.1 hP hD hS 2 1 rfl rfl (vp_in_nI (by omega) (by decide)) dX12_wood_43 (fun H locs hP hD hS => ?_)
      replace hP : va_P D vwCl [(y 0, .inr (11, [.int 0, .ref (y 1), .ref (y 2), .ref (y 3), .ref (y 4), .int 0, .ref (y 5), .int 0, .int 0, .int 0, .int 0, .int 0, .int 0, .int (-1), .ref (y 6), .int 0, .int 0, .int 0, .int 0, .int 0, .int 0, .ref (y 121), .ref (y 122), .ref (y 123), .ref (y 124), .int 0, .ref (y 126), .ref (y 127), .ref (y 128), .ref (y 129), .ref (y 130), .ref (y 131), .ref (y 132), .ref (y 133), .ref (y 134), .ref (y 135), .ref (y 136), .int 0, .int 0, .int 0, .ref (y 140), .ref (y 141), .ref (y 142), .int 0, .int 0, .ref (y 145), .ref (y 146), .ref (y 147), .int 0, .ref (y 7), .ref (y 8), .ref (y 9), .ref (y 152)])), (y 1, .inl (K 1, 262, .inl (fun _ => 0))), (y 6, .inl (K 1, 262, .inl (fun _ => 0)))] H := hP
      replace hD : va_D A [(y 0, .inr (11, [.int 0, .ref (y 1), .ref (y 2), .ref (y 3), .ref (y 4), .int 0, .ref (y 5), .int 0, .int 0, .int 0, .int 0, .int 0, .int 0, .int (-1), .ref (y 6), .int 0, .int 0, .int 0, .int 0, .int 0, .int 0, .ref (y 121), .ref (y 122), .ref (y 123), .ref (y 124), .int 0, .ref (y 126), .ref (y 127), .ref (y 128), .ref (y 129), .ref (y 130), .ref (y 131), .ref (y 132), .ref (y 133), .ref (y 134), .ref (y 135), .ref (y 136), .int 0, .int 0, .int 0, .ref (y 140), .ref (y 141), .ref (y 142), .int 0, .int 0, .ref (y 145), .ref (y 146), .ref (y 147), .int 0, .ref (y 7), .ref (y 8), .ref (y 9), .ref (y 152)])), (y 1, .inl (K 1, 262, .inl (fun _ => 0))), (y 6, .inl (K 1, 262, .inl (fun _ => 0)))] := hD
      refine lv_iinc (v := (nI (i + 1))) (lv' := [(1, .int (nI (i + 1))), (0, .ref (y 0))]) hx hb dX12_wood_44 hl (k := 0) rfl (nI_1 _) (by decide) rfl (fun ls hl => ?_)
      refine lv_goto (tgt := 30) hx hb dX12_wood_47 (by decide) ?_
      exact ih (i := i + 1) (H := H) (locs := locs) (ls := ls) (hi := hlt) (hn := by omega) (hP := hP) (hS := hS) (hl := lv_sub hl [0, 1] rfl)
