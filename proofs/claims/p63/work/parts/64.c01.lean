set_option maxRecDepth 100000 in
set_option maxHeartbeats 8000000 in
theorem c_X6_init_1 (l : Launch) (D : va_G) (K : Nat → ClassId) (h0 : Nat) : Cv (S := ((Nat → Nat) × (Nat → Nat → Int32))) l D K yX6_init cX6_init 3 1 13 3 30720 [.ref h0, .int 10240] [(h0, .inr (1, [.null, .null, .null, .int 0, .int 0, .int 0, .null, .int 0, .int 0, .int 0]))] (fun _ => True) (fun u => [(h0, .inr (1, [.ref (u.1 0), .ref (u.1 1), .ref (u.1 2), .int 0, .int 0, .int (-1), .null, .int 0, .int 0, .int 0])), (u.1 0, .inl (K 1, 10240, .inl (fun _ => 0))), (u.1 1, .inl (K 1, 10240, .inl (fun _ => 0))), (u.1 2, .inl (K 1, 10240, .inl (fun _ => 0)))]) := by
  intro sz
  refine ch_of (y := yX6_init) (cc := cX6_init) (maxL := 3) (ret := none) (av := [.ref h0, .int 10240]) (ws := [(h0, .inr (1, [.null, .null, .null, .int 0, .int 0, .int 0, .null, .int 0, .int 0, .int 0]))]) (D := D) (K := K) (Qc := fun A => va_Qv (S := ((Nat → Nat) × (Nat → Nat → Int32))) (fun _ => True) (chB D A (fun u => [(h0, .inr (1, [.ref (u.1 0), .ref (u.1 1), .ref (u.1 2), .int 0, .int 0, .int (-1), .null, .int 0, .int 0, .int 0])), (u.1 0, .inl (K 1, 10240, .inl (fun _ => 0))), (u.1 1, .inl (K 1, 10240, .inl (fun _ => 0))), (u.1 2, .inl (K 1, 10240, .inl (fun _ => 0)))])) A) (by decide) (Nat.le_of_ble_eq_true rfl) ?_
  intro p e s m below meth c A hC hr hk hin hE hD hA H locs hP hS ls hl
  replace hC : CallFix p m c cX6_init 3 s [.ref h0, .int 10240].toArray wl RX6 := hC
  have hx := hC.1
  have hb := hC.2.1
  have hml := hC.2.2.1
  have hown := hC.2.2.2.1
  have hts := hC.2.2.2.2
  replace hl : lv_has ls 3 [(0, .ref h0), (1, .int 10240)] := hl
  refine lv_aload_n hx hb dX6_init_0 rfl (lv_at hl 0 rfl) ?_
  refine W.objInit hx hb hown (hts _ w_1199) (hts _ w_1185) (hts _ w_1186) rfl (by rw [hml]; exact hl.1) rfl dX6_init_1 (by decide) (Nat.le_of_ble_eq_true rfl) ?_
  refine W.eq (g2 := F0 m 4 ls []) rfl ?_
  refine lv_aload_n hx hb dX6_init_4 rfl (lv_at hl 0 rfl) ?_
  refine lv_iconst (v := (-1)) hx hb dX6_init_5 (by decide) ?_
  refine va_put (D := D) (ci := 1) (v := .int (-1)) (ty := .int) (C := RX1) (T := TX1) (N := 10) hx hb hts in_X1 tyX1 tyX1_ok nmX1 hown hE.1 hP hD hS 0 rfl rfl 5 (by decide) (hts _ w_279) (fun _ h9 => h9) rfl (by decide +kernel) rfl rfl (Nat.le_of_ble_eq_true rfl) dX6_init_6 (fun H locs hP hD hS => ?_)
  replace hP : va_P D vwCl [(h0, .inr (1, [.null, .null, .null, .int 0, .int 0, .int (-1), .null, .int 0, .int 0, .int 0]))] H := hP
  replace hD : va_D A [(h0, .inr (1, [.null, .null, .null, .int 0, .int 0, .int (-1), .null, .int 0, .int 0, .int 0]))] := hD
  refine lv_iconst (v := 1) hx hb dX6_init_9 (by decide) ?_
  refine lv_iload_n hx hb dX6_init_10 rfl (lv_at hl 1 rfl) ?_
  refine va_mmax hx hb (hml.trans hl.1.symm) hown (hts _ w_1200) (hts _ w_169) (hts _ w_143) (hts _ w_170) (by decide) (Nat.le_of_ble_eq_true rfl) (by decide) (by decide) dX6_init_11 ?_
  refine tc (y := 10240) (by decide) ?_
  refine lv_istore_n (lv' := [(2, .int 10240), (0, .ref h0), (1, .int 10240)]) hx hb dX6_init_14 rfl hl (by decide) rfl (fun ls hl => ?_)
  refine lv_aload_n hx hb dX6_init_15 rfl (lv_at hl 1 rfl) ?_
  refine lv_iload_n hx hb dX6_init_16 rfl (lv_at hl 0 rfl) ?_
  refine na (a0 := (10240, .inl (fun _ => 0))) (ty := .int) hC hE rfl w_1187 1 rfl (fun _ _ h => h) hP hD hS hA (fun _ => rfl) (by decide) (by decide) (by decide) (by decide) (by decide) dX6_init_17 (fun q16395 H hP hD hS => ?_)
  replace hP : va_P D vwCl [(h0, .inr (1, [.null, .null, .null, .int 0, .int 0, .int (-1), .null, .int 0, .int 0, .int 0])), (q16395, .inl (K 1, 10240, .inl (fun _ => 0)))] H := hP
  replace hD : va_D A [(h0, .inr (1, [.null, .null, .null, .int 0, .int 0, .int (-1), .null, .int 0, .int 0, .int 0])), (q16395, .inl (K 1, 10240, .inl (fun _ => 0)))] := hD
  refine W.widen (k := 1) (n := 10240) (by decide) (by decide) ?_
  refine va_putF (D := D) (ci := 1) (v := .ref q16395) (ty := .array .int) (C := RX1) (T := TX1) (N := 10) hx hb hts in_X1 tyX1 tyX1_ok nmX1 hown hE.1 hP hD hS 0 rfl rfl 0 (by decide) (hts _ w_274) (fun _ h9 => h9) rfl hin rfl (by decide +kernel) rfl rfl (Nat.le_of_ble_eq_true rfl) dX6_init_19 (fun H locs hP hD hS => ?_)
  replace hP : va_P D vwCl [(h0, .inr (1, [.ref q16395, .null, .null, .int 0, .int 0, .int (-1), .null, .int 0, .int 0, .int 0])), (q16395, .inl (K 1, 10240, .inl (fun _ => 0)))] H := hP
  replace hD : va_D A [(h0, .inr (1, [.ref q16395, .null, .null, .int 0, .int 0, .int (-1), .null, .int 0, .int 0, .int 0])), (q16395, .inl (K 1, 10240, .inl (fun _ => 0)))] := hD
  refine lv_aload_n hx hb dX6_init_22 rfl (lv_at hl 1 rfl) ?_
  refine lv_iload_n hx hb dX6_init_23 rfl (lv_at hl 0 rfl) ?_
  refine na (a0 := (10240, .inl (fun _ => 0))) (ty := .int) hC hE rfl w_1187 1 rfl (fun _ _ h => h) hP hD hS hA (fun _ => rfl) (by decide) (by decide) (by decide) (by decide) (by decide) dX6_init_24 (fun q16396 H hP hD hS => ?_)
  replace hP : va_P D vwCl [(h0, .inr (1, [.ref q16395, .null, .null, .int 0, .int 0, .int (-1), .null, .int 0, .int 0, .int 0])), (q16395, .inl (K 1, 10240, .inl (fun _ => 0))), (q16396, .inl (K 1, 10240, .inl (fun _ => 0)))] H := hP
  replace hD : va_D A [(h0, .inr (1, [.ref q16395, .null, .null, .int 0, .int 0, .int (-1), .null, .int 0, .int 0, .int 0])), (q16395, .inl (K 1, 10240, .inl (fun _ => 0))), (q16396, .inl (K 1, 10240, .inl (fun _ => 0)))] := hD
  refine W.widen (k := 2) (n := 20480) (by decide) (by decide) ?_
  refine va_putF (D := D) (ci := 1) (v := .ref q16396) (ty := .array .int) (C := RX1) (T := TX1) (N := 10) hx hb hts in_X1 tyX1 tyX1_ok nmX1 hown hE.1 hP hD hS 0 rfl rfl 1 (by decide) (hts _ w_277) (fun _ h9 => h9) rfl hin rfl (by decide +kernel) rfl rfl (Nat.le_of_ble_eq_true rfl) dX6_init_26 (fun H locs hP hD hS => ?_)
  replace hP : va_P D vwCl [(h0, .inr (1, [.ref q16395, .ref q16396, .null, .int 0, .int 0, .int (-1), .null, .int 0, .int 0, .int 0])), (q16395, .inl (K 1, 10240, .inl (fun _ => 0))), (q16396, .inl (K 1, 10240, .inl (fun _ => 0)))] H := hP
  replace hD : va_D A [(h0, .inr (1, [.ref q16395, .ref q16396, .null, .int 0, .int 0, .int (-1), .null, .int 0, .int 0, .int 0])), (q16395, .inl (K 1, 10240, .inl (fun _ => 0))), (q16396, .inl (K 1, 10240, .inl (fun _ => 0)))] := hD
  refine lv_aload_n hx hb dX6_init_29 rfl (lv_at hl 1 rfl) ?_
  refine lv_iload_n hx hb dX6_init_30 rfl (lv_at hl 0 rfl) ?_
  refine na (a0 := (10240, .inl (fun _ => 0))) (ty := .int) hC hE rfl w_1187 1 rfl (fun _ _ h => h) hP hD hS hA (fun _ => rfl) (by decide) (by decide) (by decide) (by decide) (by decide) dX6_init_31 (fun q16397 H hP hD hS => ?_)
  replace hP : va_P D vwCl [(h0, .inr (1, [.ref q16395, .ref q16396, .null, .int 0, .int 0, .int (-1), .null, .int 0, .int 0, .int 0])), (q16395, .inl (K 1, 10240, .inl (fun _ => 0))), (q16396, .inl (K 1, 10240, .inl (fun _ => 0))), (q16397, .inl (K 1, 10240, .inl (fun _ => 0)))] H := hP
  replace hD : va_D A [(h0, .inr (1, [.ref q16395, .ref q16396, .null, .int 0, .int 0, .int (-1), .null, .int 0, .int 0, .int 0])), (q16395, .inl (K 1, 10240, .inl (fun _ => 0))), (q16396, .inl (K 1, 10240, .inl (fun _ => 0))), (q16397, .inl (K 1, 10240, .inl (fun _ => 0)))] := hD
  refine W.widen (k := 3) (n := 30720) (by decide) (by decide) ?_
  refine va_putF (D := D) (ci := 1) (v := .ref q16397) (ty := .array .int) (C := RX1) (T := TX1) (N := 10) hx hb hts in_X1 tyX1 tyX1_ok nmX1 hown hE.1 hP hD hS 0 rfl rfl 2 (by decide) (hts _ w_278) (fun _ h9 => h9) rfl hin rfl (by decide +kernel) rfl rfl (Nat.le_of_ble_eq_true rfl) dX6_init_33 (fun H locs hP hD hS => ?_)
  replace hP : va_P D vwCl [(h0, .inr (1, [.ref q16395, .ref q16396, .ref q16397, .int 0, .int 0, .int (-1), .null, .int 0, .int 0, .int 0])), (q16395, .inl (K 1, 10240, .inl (fun _ => 0))), (q16396, .inl (K 1, 10240, .inl (fun _ => 0))), (q16397, .inl (K 1, 10240, .inl (fun _ => 0)))] H := hP
  replace hD : va_D A [(h0, .inr (1, [.ref q16395, .ref q16396, .ref q16397, .int 0, .int 0, .int (-1), .null, .int 0, .int 0, .int 0])), (q16395, .inl (K 1, 10240, .inl (fun _ => 0))), (q16396, .inl (K 1, 10240, .inl (fun _ => 0))), (q16397, .inl (K 1, 10240, .inl (fun _ => 0)))] := hD
  refine W.widen (k := 3) (n := 30720) (by decide) (by decide) ?_
  exact ch_vret hC hr hk hS dX6_init_36 ((fun k => [q16395, q16396, q16397].getD k 0, fun k => [].getD k (fun _ => 0)) : ((Nat → Nat) × (Nat → Nat → Int32))) trivial (hP.sub [0, 1, 2, 3] rfl) (hD.sub [0, 1, 2, 3] (by decide) rfl)
set_option maxRecDepth 100000 in
set_option maxHeartbeats 8000000 in
theorem c_X6_init_7 (l : Launch) (D : va_G) (K : Nat → ClassId) (h0 : Nat) : Cv (S := ((Nat → Nat) × (Nat → Nat → Int32))) l D K yX6_init cX6_init 3 1 13 3 3072 [.ref h0, .int 1024] [(h0, .inr (6, [.null, .null, .null, .int 0, .int 0, .int 0, .int 0]))] (fun _ => True) (fun u => [(h0, .inr (6, [.ref (u.1 0), .ref (u.1 1), .ref (u.1 2), .int 0, .int 0, .int (-1), .int 0])), (u.1 0, .inl (K 1, 1024, .inl (fun _ => 0))), (u.1 1, .inl (K 1, 1024, .inl (fun _ => 0))), (u.1 2, .inl (K 1, 1024, .inl (fun _ => 0)))]) := by
  intro sz
  refine ch_of (y := yX6_init) (cc := cX6_init) (maxL := 3) (ret := none) (av := [.ref h0, .int 1024]) (ws := [(h0, .inr (6, [.null, .null, .null, .int 0, .int 0, .int 0, .int 0]))]) (D := D) (K := K) (Qc := fun A => va_Qv (S := ((Nat → Nat) × (Nat → Nat → Int32))) (fun _ => True) (chB D A (fun u => [(h0, .inr (6, [.ref (u.1 0), .ref (u.1 1), .ref (u.1 2), .int 0, .int 0, .int (-1), .int 0])), (u.1 0, .inl (K 1, 1024, .inl (fun _ => 0))), (u.1 1, .inl (K 1, 1024, .inl (fun _ => 0))), (u.1 2, .inl (K 1, 1024, .inl (fun _ => 0)))])) A) (by decide) (Nat.le_of_ble_eq_true rfl) ?_
  intro p e s m below meth c A hC hr hk hin hE hD hA H locs hP hS ls hl
  replace hC : CallFix p m c cX6_init 3 s [.ref h0, .int 1024].toArray wl RX6 := hC
  have hx := hC.1
  have hb := hC.2.1
  have hml := hC.2.2.1
  have hown := hC.2.2.2.1
  have hts := hC.2.2.2.2
  replace hl : lv_has ls 3 [(0, .ref h0), (1, .int 1024)] := hl
  refine lv_aload_n hx hb dX6_init_0 rfl (lv_at hl 0 rfl) ?_
  refine W.objInit hx hb hown (hts _ w_1199) (hts _ w_1185) (hts _ w_1186) rfl (by rw [hml]; exact hl.1) rfl dX6_init_1 (by decide) (Nat.le_of_ble_eq_true rfl) ?_
  refine W.eq (g2 := F0 m 4 ls []) rfl ?_
  refine lv_aload_n hx hb dX6_init_4 rfl (lv_at hl 0 rfl) ?_
  refine lv_iconst (v := (-1)) hx hb dX6_init_5 (by decide) ?_
  refine va_put (D := D) (ci := 6) (v := .int (-1)) (ty := .int) (C := RX7) (T := TX7) (N := 7) hx hb hts in_X7 tyX7 tyX7_ok nmX7 hown hE.1 hP hD hS 0 rfl rfl 5 (by decide) (hts _ w_279) (fun _ h9 => h9) rfl (by decide +kernel) rfl rfl (Nat.le_of_ble_eq_true rfl) dX6_init_6 (fun H locs hP hD hS => ?_)
  replace hP : va_P D vwCl [(h0, .inr (6, [.null, .null, .null, .int 0, .int 0, .int (-1), .int 0]))] H := hP
  replace hD : va_D A [(h0, .inr (6, [.null, .null, .null, .int 0, .int 0, .int (-1), .int 0]))] := hD
  refine lv_iconst (v := 1) hx hb dX6_init_9 (by decide) ?_
  refine lv_iload_n hx hb dX6_init_10 rfl (lv_at hl 1 rfl) ?_
  refine va_mmax hx hb (hml.trans hl.1.symm) hown (hts _ w_1200) (hts _ w_169) (hts _ w_143) (hts _ w_170) (by decide) (Nat.le_of_ble_eq_true rfl) (by decide) (by decide) dX6_init_11 ?_
  refine tc (y := 1024) (by decide) ?_
  refine lv_istore_n (lv' := [(2, .int 1024), (0, .ref h0), (1, .int 1024)]) hx hb dX6_init_14 rfl hl (by decide) rfl (fun ls hl => ?_)
  refine lv_aload_n hx hb dX6_init_15 rfl (lv_at hl 1 rfl) ?_
  refine lv_iload_n hx hb dX6_init_16 rfl (lv_at hl 0 rfl) ?_
  refine na (a0 := (1024, .inl (fun _ => 0))) (ty := .int) hC hE rfl w_1187 1 rfl (fun _ _ h => h) hP hD hS hA (fun _ => rfl) (by decide) (by decide) (by decide) (by decide) (by decide) dX6_init_17 (fun q16398 H hP hD hS => ?_)
  replace hP : va_P D vwCl [(h0, .inr (6, [.null, .null, .null, .int 0, .int 0, .int (-1), .int 0])), (q16398, .inl (K 1, 1024, .inl (fun _ => 0)))] H := hP
  replace hD : va_D A [(h0, .inr (6, [.null, .null, .null, .int 0, .int 0, .int (-1), .int 0])), (q16398, .inl (K 1, 1024, .inl (fun _ => 0)))] := hD
  refine W.widen (k := 1) (n := 1024) (by decide) (by decide) ?_
  refine va_putF (D := D) (ci := 6) (v := .ref q16398) (ty := .array .int) (C := RX7) (T := TX7) (N := 7) hx hb hts in_X7 tyX7 tyX7_ok nmX7 hown hE.1 hP hD hS 0 rfl rfl 0 (by decide) (hts _ w_274) (fun _ h9 => h9) rfl hin rfl (by decide +kernel) rfl rfl (Nat.le_of_ble_eq_true rfl) dX6_init_19 (fun H locs hP hD hS => ?_)
  replace hP : va_P D vwCl [(h0, .inr (6, [.ref q16398, .null, .null, .int 0, .int 0, .int (-1), .int 0])), (q16398, .inl (K 1, 1024, .inl (fun _ => 0)))] H := hP
  replace hD : va_D A [(h0, .inr (6, [.ref q16398, .null, .null, .int 0, .int 0, .int (-1), .int 0])), (q16398, .inl (K 1, 1024, .inl (fun _ => 0)))] := hD
  refine lv_aload_n hx hb dX6_init_22 rfl (lv_at hl 1 rfl) ?_
  refine lv_iload_n hx hb dX6_init_23 rfl (lv_at hl 0 rfl) ?_
  refine na (a0 := (1024, .inl (fun _ => 0))) (ty := .int) hC hE rfl w_1187 1 rfl (fun _ _ h => h) hP hD hS hA (fun _ => rfl) (by decide) (by decide) (by decide) (by decide) (by decide) dX6_init_24 (fun q16399 H hP hD hS => ?_)
  replace hP : va_P D vwCl [(h0, .inr (6, [.ref q16398, .null, .null, .int 0, .int 0, .int (-1), .int 0])), (q16398, .inl (K 1, 1024, .inl (fun _ => 0))), (q16399, .inl (K 1, 1024, .inl (fun _ => 0)))] H := hP
  replace hD : va_D A [(h0, .inr (6, [.ref q16398, .null, .null, .int 0, .int 0, .int (-1), .int 0])), (q16398, .inl (K 1, 1024, .inl (fun _ => 0))), (q16399, .inl (K 1, 1024, .inl (fun _ => 0)))] := hD
  refine W.widen (k := 2) (n := 2048) (by decide) (by decide) ?_
  refine va_putF (D := D) (ci := 6) (v := .ref q16399) (ty := .array .int) (C := RX7) (T := TX7) (N := 7) hx hb hts in_X7 tyX7 tyX7_ok nmX7 hown hE.1 hP hD hS 0 rfl rfl 1 (by decide) (hts _ w_277) (fun _ h9 => h9) rfl hin rfl (by decide +kernel) rfl rfl (Nat.le_of_ble_eq_true rfl) dX6_init_26 (fun H locs hP hD hS => ?_)
  replace hP : va_P D vwCl [(h0, .inr (6, [.ref q16398, .ref q16399, .null, .int 0, .int 0, .int (-1), .int 0])), (q16398, .inl (K 1, 1024, .inl (fun _ => 0))), (q16399, .inl (K 1, 1024, .inl (fun _ => 0)))] H := hP
  replace hD : va_D A [(h0, .inr (6, [.ref q16398, .ref q16399, .null, .int 0, .int 0, .int (-1), .int 0])), (q16398, .inl (K 1, 1024, .inl (fun _ => 0))), (q16399, .inl (K 1, 1024, .inl (fun _ => 0)))] := hD
  refine lv_aload_n hx hb dX6_init_29 rfl (lv_at hl 1 rfl) ?_
  refine lv_iload_n hx hb dX6_init_30 rfl (lv_at hl 0 rfl) ?_
  refine na (a0 := (1024, .inl (fun _ => 0))) (ty := .int) hC hE rfl w_1187 1 rfl (fun _ _ h => h) hP hD hS hA (fun _ => rfl) (by decide) (by decide) (by decide) (by decide) (by decide) dX6_init_31 (fun q16400 H hP hD hS => ?_)
  replace hP : va_P D vwCl [(h0, .inr (6, [.ref q16398, .ref q16399, .null, .int 0, .int 0, .int (-1), .int 0])), (q16398, .inl (K 1, 1024, .inl (fun _ => 0))), (q16399, .inl (K 1, 1024, .inl (fun _ => 0))), (q16400, .inl (K 1, 1024, .inl (fun _ => 0)))] H := hP
  replace hD : va_D A [(h0, .inr (6, [.ref q16398, .ref q16399, .null, .int 0, .int 0, .int (-1), .int 0])), (q16398, .inl (K 1, 1024, .inl (fun _ => 0))), (q16399, .inl (K 1, 1024, .inl (fun _ => 0))), (q16400, .inl (K 1, 1024, .inl (fun _ => 0)))] := hD
  refine W.widen (k := 3) (n := 3072) (by decide) (by decide) ?_
  refine va_putF (D := D) (ci := 6) (v := .ref q16400) (ty := .array .int) (C := RX7) (T := TX7) (N := 7) hx hb hts in_X7 tyX7 tyX7_ok nmX7 hown hE.1 hP hD hS 0 rfl rfl 2 (by decide) (hts _ w_278) (fun _ h9 => h9) rfl hin rfl (by decide +kernel) rfl rfl (Nat.le_of_ble_eq_true rfl) dX6_init_33 (fun H locs hP hD hS => ?_)
  replace hP : va_P D vwCl [(h0, .inr (6, [.ref q16398, .ref q16399, .ref q16400, .int 0, .int 0, .int (-1), .int 0])), (q16398, .inl (K 1, 1024, .inl (fun _ => 0))), (q16399, .inl (K 1, 1024, .inl (fun _ => 0))), (q16400, .inl (K 1, 1024, .inl (fun _ => 0)))] H := hP
  replace hD : va_D A [(h0, .inr (6, [.ref q16398, .ref q16399, .ref q16400, .int 0, .int 0, .int (-1), .int 0])), (q16398, .inl (K 1, 1024, .inl (fun _ => 0))), (q16399, .inl (K 1, 1024, .inl (fun _ => 0))), (q16400, .inl (K 1, 1024, .inl (fun _ => 0)))] := hD
  refine W.widen (k := 3) (n := 3072) (by decide) (by decide) ?_
  exact ch_vret hC hr hk hS dX6_init_36 ((fun k => [q16398, q16399, q16400].getD k 0, fun k => [].getD k (fun _ => 0)) : ((Nat → Nat) × (Nat → Nat → Int32))) trivial (hP.sub [0, 1, 2, 3] rfl) (hD.sub [0, 1, 2, 3] (by decide) rfl)
set_option maxRecDepth 100000 in
set_option maxHeartbeats 8000000 in
theorem c_X1_init (l : Launch) (D : va_G) (K : Nat → ClassId) (h0 : Nat) : Cv (S := ((Nat → Nat) × (Nat → Nat → Int32))) l D K yX1_init cX1_init 1 2 35 4 30723 [.ref h0] [(h0, .inr (1, [.null, .null, .null, .int 0, .int 0, .int 0, .null, .int 0, .int 0, .int 0]))] (fun _ => True) (fun u => [(h0, .inr (1, [.ref (u.1 0), .ref (u.1 1), .ref (u.1 2), .int 0, .int 0, .int (-1), .ref (u.1 3), .int 0, .int 0, .int 0])), (u.1 0, .inl (K 1, 10240, .inl (fun _ => 0))), (u.1 1, .inl (K 1, 10240, .inl (fun _ => 0))), (u.1 2, .inl (K 1, 10240, .inl (fun _ => 0))), (u.1 3, .inr (8, [.int 0, .int 0, .int 0]))]) := by
  intro sz
  refine ch_of (y := yX1_init) (cc := cX1_init) (maxL := 1) (ret := none) (av := [.ref h0]) (ws := [(h0, .inr (1, [.null, .null, .null, .int 0, .int 0, .int 0, .null, .int 0, .int 0, .int 0]))]) (D := D) (K := K) (Qc := fun A => va_Qv (S := ((Nat → Nat) × (Nat → Nat → Int32))) (fun _ => True) (chB D A (fun u => [(h0, .inr (1, [.ref (u.1 0), .ref (u.1 1), .ref (u.1 2), .int 0, .int 0, .int (-1), .ref (u.1 3), .int 0, .int 0, .int 0])), (u.1 0, .inl (K 1, 10240, .inl (fun _ => 0))), (u.1 1, .inl (K 1, 10240, .inl (fun _ => 0))), (u.1 2, .inl (K 1, 10240, .inl (fun _ => 0))), (u.1 3, .inr (8, [.int 0, .int 0, .int 0]))])) A) (by decide) (Nat.le_of_ble_eq_true rfl) ?_
  intro p e s m below meth c A hC hr hk hin hE hD hA H locs hP hS ls hl
  replace hC : CallFix p m c cX1_init 1 s [.ref h0].toArray wl RX1 := hC
  have hx := hC.1
  have hb := hC.2.1
  have hml := hC.2.2.1
  have hown := hC.2.2.2.1
  have hts := hC.2.2.2.2
  replace hl : lv_has ls 1 [(0, .ref h0)] := hl
  refine lv_aload_n hx hb dX1_init_0 rfl (lv_at hl 0 rfl) ?_
  refine lv_sipush (v := 10240) hx hb dX1_init_1 (by decide) ?_
  refine cv_I (As := [.int 10240]) (rest := []) (wc := [(h0, .inr (1, [.null, .null, .null, .int 0, .int 0, .int 0, .null, .int 0, .int 0, .int 0]))]) (wr := []) hC hE kI_X1_3 (c_X6_init_1 l D K h0) hP hD hS hA [0] [] rfl rfl rfl (by decide) (by decide) (by decide) rfl hl.1 rfl (Nat.le_of_ble_eq_true rfl) (by decide) (by decide) dX1_init_4 (fun u16401 H locs hw hP hD hS => ?_)
  replace hP : va_P D vwCl [(h0, .inr (1, [.ref (u16401.1 0), .ref (u16401.1 1), .ref (u16401.1 2), .int 0, .int 0, .int (-1), .null, .int 0, .int 0, .int 0])), (u16401.1 0, .inl (K 1, 10240, .inl (fun _ => 0))), (u16401.1 1, .inl (K 1, 10240, .inl (fun _ => 0))), (u16401.1 2, .inl (K 1, 10240, .inl (fun _ => 0)))] H := hP
  replace hD : va_D A [(h0, .inr (1, [.ref (u16401.1 0), .ref (u16401.1 1), .ref (u16401.1 2), .int 0, .int 0, .int (-1), .null, .int 0, .int 0, .int 0])), (u16401.1 0, .inl (K 1, 10240, .inl (fun _ => 0))), (u16401.1 1, .inl (K 1, 10240, .inl (fun _ => 0))), (u16401.1 2, .inl (K 1, 10240, .inl (fun _ => 0)))] := hD
  refine W.widen (k := 3) (n := 30720) (by decide) (by decide) ?_
  refine lv_aload_n hx hb dX1_init_7 rfl (lv_at hl 0 rfl) ?_
  refine va_new (ci := 8) (fs := [.int 0, .int 0, .int 0]) (C := RX9) (T := TX9) (N := 3) hx hb hts in_X9 tyX9 tyX9_ok hown (hts _ w_1204) (hts _ w_1205) (hts _ w_230) hE.1 hP hD hS hA rfl (bd_X9) (by decide) (by decide) dX1_init_8 (fun q16402 H hP hD hS => ?_)
  replace hP : va_P D vwCl [(h0, .inr (1, [.ref (u16401.1 0), .ref (u16401.1 1), .ref (u16401.1 2), .int 0, .int 0, .int (-1), .null, .int 0, .int 0, .int 0])), (u16401.1 0, .inl (K 1, 10240, .inl (fun _ => 0))), (u16401.1 1, .inl (K 1, 10240, .inl (fun _ => 0))), (u16401.1 2, .inl (K 1, 10240, .inl (fun _ => 0))), (q16402, .inr (8, [.int 0, .int 0, .int 0]))] H := hP
  replace hD : va_D A [(h0, .inr (1, [.ref (u16401.1 0), .ref (u16401.1 1), .ref (u16401.1 2), .int 0, .int 0, .int (-1), .null, .int 0, .int 0, .int 0])), (u16401.1 0, .inl (K 1, 10240, .inl (fun _ => 0))), (u16401.1 1, .inl (K 1, 10240, .inl (fun _ => 0))), (u16401.1 2, .inl (K 1, 10240, .inl (fun _ => 0))), (q16402, .inr (8, [.int 0, .int 0, .int 0]))] := hD
  refine W.widen (k := 4) (n := 30723) (by decide) (by decide) ?_
  refine lv_dup hx hb dX1_init_11 rfl ?_
  refine cv_IN (As := []) (rest := [.ref q16402, .ref h0]) (wc := [(q16402, .inr (8, [.int 0, .int 0, .int 0]))]) (wr := [(h0, .inr (1, [.ref (u16401.1 0), .ref (u16401.1 1), .ref (u16401.1 2), .int 0, .int 0, .int (-1), .null, .int 0, .int 0, .int 0])), (u16401.1 0, .inl (K 1, 10240, .inl (fun _ => 0))), (u16401.1 1, .inl (K 1, 10240, .inl (fun _ => 0))), (u16401.1 2, .inl (K 1, 10240, .inl (fun _ => 0)))]) hC hE kIN_X1_11 (c_X9_init l D K q16402) hP hD hS hA [4] [0, 1, 2, 3] rfl rfl rfl (by decide) (by decide) (by decide) rfl hl.1 rfl (Nat.le_of_ble_eq_true rfl) (by decide) (by decide) dX1_init_12 (fun u16403 H locs hw hP hD hS => ?_)
  replace hP : va_P D vwCl [(h0, .inr (1, [.ref (u16401.1 0), .ref (u16401.1 1), .ref (u16401.1 2), .int 0, .int 0, .int (-1), .null, .int 0, .int 0, .int 0])), (u16401.1 0, .inl (K 1, 10240, .inl (fun _ => 0))), (u16401.1 1, .inl (K 1, 10240, .inl (fun _ => 0))), (u16401.1 2, .inl (K 1, 10240, .inl (fun _ => 0))), (q16402, .inr (8, [.int 0, .int 0, .int 0]))] H := hP
  replace hD : va_D A [(h0, .inr (1, [.ref (u16401.1 0), .ref (u16401.1 1), .ref (u16401.1 2), .int 0, .int 0, .int (-1), .null, .int 0, .int 0, .int 0])), (u16401.1 0, .inl (K 1, 10240, .inl (fun _ => 0))), (u16401.1 1, .inl (K 1, 10240, .inl (fun _ => 0))), (u16401.1 2, .inl (K 1, 10240, .inl (fun _ => 0))), (q16402, .inr (8, [.int 0, .int 0, .int 0]))] := hD
  refine W.widen (k := 4) (n := 30723) (by decide) (by decide) ?_
  refine va_putF (D := D) (ci := 1) (v := .ref q16402) (ty := .object "LostWood$Walker") (C := RX1) (T := TX1) (N := 10) hx hb hts in_X1 tyX1 tyX1_ok nmX1 hown hE.1 hP hD hS 0 rfl rfl 6 (by decide) (hts _ w_303) (fun _ h9 => h9) rfl hin rfl (by decide +kernel) rfl rfl (Nat.le_of_ble_eq_true rfl) dX1_init_15 (fun H locs hP hD hS => ?_)
  replace hP : va_P D vwCl [(h0, .inr (1, [.ref (u16401.1 0), .ref (u16401.1 1), .ref (u16401.1 2), .int 0, .int 0, .int (-1), .ref q16402, .int 0, .int 0, .int 0])), (u16401.1 0, .inl (K 1, 10240, .inl (fun _ => 0))), (u16401.1 1, .inl (K 1, 10240, .inl (fun _ => 0))), (u16401.1 2, .inl (K 1, 10240, .inl (fun _ => 0))), (q16402, .inr (8, [.int 0, .int 0, .int 0]))] H := hP
  replace hD : va_D A [(h0, .inr (1, [.ref (u16401.1 0), .ref (u16401.1 1), .ref (u16401.1 2), .int 0, .int 0, .int (-1), .ref q16402, .int 0, .int 0, .int 0])), (u16401.1 0, .inl (K 1, 10240, .inl (fun _ => 0))), (u16401.1 1, .inl (K 1, 10240, .inl (fun _ => 0))), (u16401.1 2, .inl (K 1, 10240, .inl (fun _ => 0))), (q16402, .inr (8, [.int 0, .int 0, .int 0]))] := hD
  refine W.widen (k := 4) (n := 30723) (by decide) (by decide) ?_
  exact ch_vret hC hr hk hS dX1_init_18 ((fun k => [(u16401.1 0), (u16401.1 1), (u16401.1 2), q16402].getD k 0, fun k => [].getD k (fun _ => 0)) : ((Nat → Nat) × (Nat → Nat → Int32))) trivial (hP.sub [0, 1, 2, 3, 4] rfl) (hD.sub [0, 1, 2, 3, 4] (by decide) rfl)
set_option maxRecDepth 100000 in
set_option maxHeartbeats 8000000 in
theorem c_X7_init (l : Launch) (D : va_G) (K : Nat → ClassId) (h0 : Nat) : Cv (S := ((Nat → Nat) × (Nat → Nat → Int32))) l D K yX7_init cX7_init 1 2 35 3 3072 [.ref h0] [(h0, .inr (6, [.null, .null, .null, .int 0, .int 0, .int 0, .int 0]))] (fun _ => True) (fun u => [(h0, .inr (6, [.ref (u.1 0), .ref (u.1 1), .ref (u.1 2), .int 0, .int 0, .int (-1), .int 0])), (u.1 0, .inl (K 1, 1024, .inl (fun _ => 0))), (u.1 1, .inl (K 1, 1024, .inl (fun _ => 0))), (u.1 2, .inl (K 1, 1024, .inl (fun _ => 0)))]) := by
  intro sz
  refine ch_of (y := yX7_init) (cc := cX7_init) (maxL := 1) (ret := none) (av := [.ref h0]) (ws := [(h0, .inr (6, [.null, .null, .null, .int 0, .int 0, .int 0, .int 0]))]) (D := D) (K := K) (Qc := fun A => va_Qv (S := ((Nat → Nat) × (Nat → Nat → Int32))) (fun _ => True) (chB D A (fun u => [(h0, .inr (6, [.ref (u.1 0), .ref (u.1 1), .ref (u.1 2), .int 0, .int 0, .int (-1), .int 0])), (u.1 0, .inl (K 1, 1024, .inl (fun _ => 0))), (u.1 1, .inl (K 1, 1024, .inl (fun _ => 0))), (u.1 2, .inl (K 1, 1024, .inl (fun _ => 0)))])) A) (by decide) (Nat.le_of_ble_eq_true rfl) ?_
  intro p e s m below meth c A hC hr hk hin hE hD hA H locs hP hS ls hl
  replace hC : CallFix p m c cX7_init 1 s [.ref h0].toArray wl RX7 := hC
  have hx := hC.1
  have hb := hC.2.1
  have hml := hC.2.2.1
  have hown := hC.2.2.2.1
  have hts := hC.2.2.2.2
  replace hl : lv_has ls 1 [(0, .ref h0)] := hl
  refine lv_aload_n hx hb dX7_init_0 rfl (lv_at hl 0 rfl) ?_
  refine lv_sipush (v := 1024) hx hb dX7_init_1 (by decide) ?_
  refine cv_I (As := [.int 1024]) (rest := []) (wc := [(h0, .inr (6, [.null, .null, .null, .int 0, .int 0, .int 0, .int 0]))]) (wr := []) hC hE kI_X7_3 (c_X6_init_7 l D K h0) hP hD hS hA [0] [] rfl rfl rfl (by decide) (by decide) (by decide) rfl hl.1 rfl (Nat.le_of_ble_eq_true rfl) (by decide) (by decide) dX7_init_4 (fun u16404 H locs hw hP hD hS => ?_)
  replace hP : va_P D vwCl [(h0, .inr (6, [.ref (u16404.1 0), .ref (u16404.1 1), .ref (u16404.1 2), .int 0, .int 0, .int (-1), .int 0])), (u16404.1 0, .inl (K 1, 1024, .inl (fun _ => 0))), (u16404.1 1, .inl (K 1, 1024, .inl (fun _ => 0))), (u16404.1 2, .inl (K 1, 1024, .inl (fun _ => 0)))] H := hP
  replace hD : va_D A [(h0, .inr (6, [.ref (u16404.1 0), .ref (u16404.1 1), .ref (u16404.1 2), .int 0, .int 0, .int (-1), .int 0])), (u16404.1 0, .inl (K 1, 1024, .inl (fun _ => 0))), (u16404.1 1, .inl (K 1, 1024, .inl (fun _ => 0))), (u16404.1 2, .inl (K 1, 1024, .inl (fun _ => 0)))] := hD
  refine W.widen (k := 3) (n := 3072) (by decide) (by decide) ?_
  refine W.widen (k := 3) (n := 3072) (by decide) (by decide) ?_
  exact ch_vret hC hr hk hS dX7_init_7 ((fun k => [(u16404.1 0), (u16404.1 1), (u16404.1 2)].getD k 0, fun k => [].getD k (fun _ => 0)) : ((Nat → Nat) × (Nat → Nat → Int32))) trivial (hP.sub [0, 1, 2, 3] rfl) (hD.sub [0, 1, 2, 3] (by decide) rfl)
set_option maxRecDepth 100000 in
set_option maxHeartbeats 8000000 in
theorem c_X3_init (l : Launch) (D : va_G) (K : Nat → ClassId) (h0 : Nat) : Cv (S := ((Nat → Nat) × (Nat → Nat → Int32))) l D K yX3_init cX3_init 1 1 12 3 5130 [.ref h0] [(h0, .inr (3, [.null, .null, .null, .int 0, .int 0]))] (fun _ => True) (fun u => [(h0, .inr (3, [.ref (u.1 0), .ref (u.1 1), .ref (u.1 2), .int 0, .int 0])), (u.1 0, .inl (K 1, 1024, .inl (fun _ => 0))), (u.1 1, .inl (K 1, 4096, .inl (fun _ => 0))), (u.1 2, .inl (K 1, 10, .inl (fun _ => 0)))]) := by
  intro sz
  refine ch_of (y := yX3_init) (cc := cX3_init) (maxL := 1) (ret := none) (av := [.ref h0]) (ws := [(h0, .inr (3, [.null, .null, .null, .int 0, .int 0]))]) (D := D) (K := K) (Qc := fun A => va_Qv (S := ((Nat → Nat) × (Nat → Nat → Int32))) (fun _ => True) (chB D A (fun u => [(h0, .inr (3, [.ref (u.1 0), .ref (u.1 1), .ref (u.1 2), .int 0, .int 0])), (u.1 0, .inl (K 1, 1024, .inl (fun _ => 0))), (u.1 1, .inl (K 1, 4096, .inl (fun _ => 0))), (u.1 2, .inl (K 1, 10, .inl (fun _ => 0)))])) A) (by decide) (Nat.le_of_ble_eq_true rfl) ?_
  intro p e s m below meth c A hC hr hk hin hE hD hA H locs hP hS ls hl
  replace hC : CallFix p m c cX3_init 1 s [.ref h0].toArray wl RX3 := hC
  have hx := hC.1
  have hb := hC.2.1
  have hml := hC.2.2.1
  have hown := hC.2.2.2.1
  have hts := hC.2.2.2.2
  replace hl : lv_has ls 1 [(0, .ref h0)] := hl
  refine lv_aload_n hx hb dX3_init_0 rfl (lv_at hl 0 rfl) ?_
  refine W.objInit hx hb hown (hts _ w_1209) (hts _ w_1185) (hts _ w_1186) rfl (by rw [hml]; exact hl.1) rfl dX3_init_1 (by decide) (Nat.le_of_ble_eq_true rfl) ?_
  refine W.eq (g2 := F0 m 4 ls []) rfl ?_
  refine lv_aload_n hx hb dX3_init_4 rfl (lv_at hl 0 rfl) ?_
  refine lv_sipush (v := 1024) hx hb dX3_init_5 (by decide) ?_
  refine na (a0 := (1024, .inl (fun _ => 0))) (ty := .int) hC hE rfl w_1187 1 rfl (fun _ _ h => h) hP hD hS hA (fun _ => rfl) (by decide) (by decide) (by decide) (by decide) (by decide) dX3_init_8 (fun q16405 H hP hD hS => ?_)
  replace hP : va_P D vwCl [(h0, .inr (3, [.null, .null, .null, .int 0, .int 0])), (q16405, .inl (K 1, 1024, .inl (fun _ => 0)))] H := hP
  replace hD : va_D A [(h0, .inr (3, [.null, .null, .null, .int 0, .int 0])), (q16405, .inl (K 1, 1024, .inl (fun _ => 0)))] := hD
  refine W.widen (k := 1) (n := 1024) (by decide) (by decide) ?_
  refine va_putF (D := D) (ci := 3) (v := .ref q16405) (ty := .array .int) (C := RX3) (T := TX3) (N := 5) hx hb hts in_X3 tyX3 tyX3_ok nmX3 hown hE.1 hP hD hS 0 rfl rfl 0 (by decide) (hts _ w_167) (fun _ h9 => h9) rfl hin rfl (by decide +kernel) rfl rfl (Nat.le_of_ble_eq_true rfl) dX3_init_10 (fun H locs hP hD hS => ?_)
  replace hP : va_P D vwCl [(h0, .inr (3, [.ref q16405, .null, .null, .int 0, .int 0])), (q16405, .inl (K 1, 1024, .inl (fun _ => 0)))] H := hP
  replace hD : va_D A [(h0, .inr (3, [.ref q16405, .null, .null, .int 0, .int 0])), (q16405, .inl (K 1, 1024, .inl (fun _ => 0)))] := hD
  refine lv_aload_n hx hb dX3_init_13 rfl (lv_at hl 0 rfl) ?_
  refine lv_sipush (v := 4096) hx hb dX3_init_14 (by decide) ?_
  refine na (a0 := (4096, .inl (fun _ => 0))) (ty := .int) hC hE rfl w_1187 1 rfl (fun _ _ h => h) hP hD hS hA (fun _ => rfl) (by decide) (by decide) (by decide) (by decide) (by decide) dX3_init_17 (fun q16406 H hP hD hS => ?_)
  replace hP : va_P D vwCl [(h0, .inr (3, [.ref q16405, .null, .null, .int 0, .int 0])), (q16405, .inl (K 1, 1024, .inl (fun _ => 0))), (q16406, .inl (K 1, 4096, .inl (fun _ => 0)))] H := hP
  replace hD : va_D A [(h0, .inr (3, [.ref q16405, .null, .null, .int 0, .int 0])), (q16405, .inl (K 1, 1024, .inl (fun _ => 0))), (q16406, .inl (K 1, 4096, .inl (fun _ => 0)))] := hD
  refine W.widen (k := 2) (n := 5120) (by decide) (by decide) ?_
  refine va_putF (D := D) (ci := 3) (v := .ref q16406) (ty := .array .int) (C := RX3) (T := TX3) (N := 5) hx hb hts in_X3 tyX3 tyX3_ok nmX3 hown hE.1 hP hD hS 0 rfl rfl 1 (by decide) (hts _ w_171) (fun _ h9 => h9) rfl hin rfl (by decide +kernel) rfl rfl (Nat.le_of_ble_eq_true rfl) dX3_init_19 (fun H locs hP hD hS => ?_)
  replace hP : va_P D vwCl [(h0, .inr (3, [.ref q16405, .ref q16406, .null, .int 0, .int 0])), (q16405, .inl (K 1, 1024, .inl (fun _ => 0))), (q16406, .inl (K 1, 4096, .inl (fun _ => 0)))] H := hP
  replace hD : va_D A [(h0, .inr (3, [.ref q16405, .ref q16406, .null, .int 0, .int 0])), (q16405, .inl (K 1, 1024, .inl (fun _ => 0))), (q16406, .inl (K 1, 4096, .inl (fun _ => 0)))] := hD
  refine lv_aload_n hx hb dX3_init_22 rfl (lv_at hl 0 rfl) ?_
  refine lv_bipush (v := 10) hx hb dX3_init_23 (by decide) ?_
  refine na (a0 := (10, .inl (fun _ => 0))) (ty := .int) hC hE rfl w_1187 1 rfl (fun _ _ h => h) hP hD hS hA (fun _ => rfl) (by decide) (by decide) (by decide) (by decide) (by decide) dX3_init_25 (fun q16407 H hP hD hS => ?_)
  replace hP : va_P D vwCl [(h0, .inr (3, [.ref q16405, .ref q16406, .null, .int 0, .int 0])), (q16405, .inl (K 1, 1024, .inl (fun _ => 0))), (q16406, .inl (K 1, 4096, .inl (fun _ => 0))), (q16407, .inl (K 1, 10, .inl (fun _ => 0)))] H := hP
  replace hD : va_D A [(h0, .inr (3, [.ref q16405, .ref q16406, .null, .int 0, .int 0])), (q16405, .inl (K 1, 1024, .inl (fun _ => 0))), (q16406, .inl (K 1, 4096, .inl (fun _ => 0))), (q16407, .inl (K 1, 10, .inl (fun _ => 0)))] := hD
  refine W.widen (k := 3) (n := 5130) (by decide) (by decide) ?_
  refine va_putF (D := D) (ci := 3) (v := .ref q16407) (ty := .array .int) (C := RX3) (T := TX3) (N := 5) hx hb hts in_X3 tyX3 tyX3_ok nmX3 hown hE.1 hP hD hS 0 rfl rfl 2 (by decide) (hts _ w_165) (fun _ h9 => h9) rfl hin rfl (by decide +kernel) rfl rfl (Nat.le_of_ble_eq_true rfl) dX3_init_27 (fun H locs hP hD hS => ?_)
  replace hP : va_P D vwCl [(h0, .inr (3, [.ref q16405, .ref q16406, .ref q16407, .int 0, .int 0])), (q16405, .inl (K 1, 1024, .inl (fun _ => 0))), (q16406, .inl (K 1, 4096, .inl (fun _ => 0))), (q16407, .inl (K 1, 10, .inl (fun _ => 0)))] H := hP
  replace hD : va_D A [(h0, .inr (3, [.ref q16405, .ref q16406, .ref q16407, .int 0, .int 0])), (q16405, .inl (K 1, 1024, .inl (fun _ => 0))), (q16406, .inl (K 1, 4096, .inl (fun _ => 0))), (q16407, .inl (K 1, 10, .inl (fun _ => 0)))] := hD
  refine W.widen (k := 3) (n := 5130) (by decide) (by decide) ?_
  exact ch_vret hC hr hk hS dX3_init_30 ((fun k => [q16405, q16406, q16407].getD k 0, fun k => [].getD k (fun _ => 0)) : ((Nat → Nat) × (Nat → Nat → Int32))) trivial (hP.sub [0, 1, 2, 3] rfl) (hD.sub [0, 1, 2, 3] (by decide) rfl)
set_option maxRecDepth 100000 in
set_option maxHeartbeats 8000000 in
theorem c_X0_init (l : Launch) (D : va_G) (K : Nat → ClassId) (h0 : Nat) : Cv (S := ((Nat → Nat) × (Nat → Nat → Int32))) l D K yX0_init cX0_init 1 2 32 12 102 [.ref h0] [(h0, .inr (0, [.null, .null, .null, .null, .int 0, .int 0]))] (fun _ => True) (fun u => [(h0, .inr (0, [.ref (u.1 0), .ref (u.1 9), .ref (u.1 10), .ref (u.1 11), .int 0, .int 0])), (u.1 0, .inr (9, [.ref (u.1 1), .ref (u.1 2), .ref (u.1 3), .ref (u.1 4), .ref (u.1 5), .ref (u.1 6), .ref (u.1 7), .ref (u.1 8), .int 0, .int 0, .int 0, .int 0])), (u.1 1, .inl (K 1, 40, .inl (fun _ => 0))), (u.1 2, .inl (K 1, 10, .inl (fun _ => 0))), (u.1 3, .inl (K 1, 4, .inl (fun _ => 0))), (u.1 4, .inl (K 1, 4, .inl (fun _ => 0))), (u.1 5, .inl (K 1, 4, .inl (fun _ => 0))), (u.1 6, .inl (K 1, 5, .inl (fun _ => 0))), (u.1 7, .inl (K 1, 5, .inl (fun _ => 0))), (u.1 8, .inl (K 1, 5, .inl (fun _ => 0))), (u.1 9, .inr (8, [.int 0, .int 0, .int 0])), (u.1 10, .inl (K 1, 5, .inl (fun _ => 0))), (u.1 11, .inl (K 1, 5, .inl (fun _ => 0)))]) := by
  intro sz
  refine ch_of (y := yX0_init) (cc := cX0_init) (maxL := 1) (ret := none) (av := [.ref h0]) (ws := [(h0, .inr (0, [.null, .null, .null, .null, .int 0, .int 0]))]) (D := D) (K := K) (Qc := fun A => va_Qv (S := ((Nat → Nat) × (Nat → Nat → Int32))) (fun _ => True) (chB D A (fun u => [(h0, .inr (0, [.ref (u.1 0), .ref (u.1 9), .ref (u.1 10), .ref (u.1 11), .int 0, .int 0])), (u.1 0, .inr (9, [.ref (u.1 1), .ref (u.1 2), .ref (u.1 3), .ref (u.1 4), .ref (u.1 5), .ref (u.1 6), .ref (u.1 7), .ref (u.1 8), .int 0, .int 0, .int 0, .int 0])), (u.1 1, .inl (K 1, 40, .inl (fun _ => 0))), (u.1 2, .inl (K 1, 10, .inl (fun _ => 0))), (u.1 3, .inl (K 1, 4, .inl (fun _ => 0))), (u.1 4, .inl (K 1, 4, .inl (fun _ => 0))), (u.1 5, .inl (K 1, 4, .inl (fun _ => 0))), (u.1 6, .inl (K 1, 5, .inl (fun _ => 0))), (u.1 7, .inl (K 1, 5, .inl (fun _ => 0))), (u.1 8, .inl (K 1, 5, .inl (fun _ => 0))), (u.1 9, .inr (8, [.int 0, .int 0, .int 0])), (u.1 10, .inl (K 1, 5, .inl (fun _ => 0))), (u.1 11, .inl (K 1, 5, .inl (fun _ => 0)))])) A) (by decide) (Nat.le_of_ble_eq_true rfl) ?_
  intro p e s m below meth c A hC hr hk hin hE hD hA H locs hP hS ls hl
  replace hC : CallFix p m c cX0_init 1 s [.ref h0].toArray wl RX0 := hC
  have hx := hC.1
  have hb := hC.2.1
  have hml := hC.2.2.1
  have hown := hC.2.2.2.1
  have hts := hC.2.2.2.2
  replace hl : lv_has ls 1 [(0, .ref h0)] := hl
  refine lv_aload_n hx hb dX0_init_0 rfl (lv_at hl 0 rfl) ?_
  refine W.objInit hx hb hown (hts _ w_1210) (hts _ w_1185) (hts _ w_1186) rfl (by rw [hml]; exact hl.1) rfl dX0_init_1 (by decide) (Nat.le_of_ble_eq_true rfl) ?_
  refine W.eq (g2 := F0 m 4 ls []) rfl ?_
  refine lv_aload_n hx hb dX0_init_4 rfl (lv_at hl 0 rfl) ?_
  refine va_new (ci := 9) (fs := [.null, .null, .null, .null, .null, .null, .null, .null, .int 0, .int 0, .int 0, .int 0]) (C := RX10) (T := TX10) (N := 12) hx hb hts in_X10 tyX10 tyX10_ok hown (hts _ w_1211) (hts _ w_1191) (hts _ w_25) hE.1 hP hD hS hA rfl (bd_X10) (by decide) (by decide) dX0_init_5 (fun q16408 H hP hD hS => ?_)
  replace hP : va_P D vwCl [(h0, .inr (0, [.null, .null, .null, .null, .int 0, .int 0])), (q16408, .inr (9, [.null, .null, .null, .null, .null, .null, .null, .null, .int 0, .int 0, .int 0, .int 0]))] H := hP
  replace hD : va_D A [(h0, .inr (0, [.null, .null, .null, .null, .int 0, .int 0])), (q16408, .inr (9, [.null, .null, .null, .null, .null, .null, .null, .null, .int 0, .int 0, .int 0, .int 0]))] := hD
  refine W.widen (k := 1) (n := 12) (by decide) (by decide) ?_
  refine lv_dup hx hb dX0_init_8 rfl ?_
  refine cv_IN (As := []) (rest := [.ref q16408, .ref h0]) (wc := [(q16408, .inr (9, [.null, .null, .null, .null, .null, .null, .null, .null, .int 0, .int 0, .int 0, .int 0]))]) (wr := [(h0, .inr (0, [.null, .null, .null, .null, .int 0, .int 0]))]) hC hE kIN_X0_11 (c_X10_init l D K q16408) hP hD hS hA [1] [0] rfl rfl rfl (by decide) (by decide) (by decide) rfl hl.1 rfl (Nat.le_of_ble_eq_true rfl) (by decide) (by decide) dX0_init_9 (fun u16409 H locs hw hP hD hS => ?_)
  replace hP : va_P D vwCl [(h0, .inr (0, [.null, .null, .null, .null, .int 0, .int 0])), (q16408, .inr (9, [.ref (u16409.1 0), .ref (u16409.1 1), .ref (u16409.1 2), .ref (u16409.1 3), .ref (u16409.1 4), .ref (u16409.1 5), .ref (u16409.1 6), .ref (u16409.1 7), .int 0, .int 0, .int 0, .int 0])), (u16409.1 0, .inl (K 1, 40, .inl (fun _ => 0))), (u16409.1 1, .inl (K 1, 10, .inl (fun _ => 0))), (u16409.1 2, .inl (K 1, 4, .inl (fun _ => 0))), (u16409.1 3, .inl (K 1, 4, .inl (fun _ => 0))), (u16409.1 4, .inl (K 1, 4, .inl (fun _ => 0))), (u16409.1 5, .inl (K 1, 5, .inl (fun _ => 0))), (u16409.1 6, .inl (K 1, 5, .inl (fun _ => 0))), (u16409.1 7, .inl (K 1, 5, .inl (fun _ => 0)))] H := hP
  replace hD : va_D A [(h0, .inr (0, [.null, .null, .null, .null, .int 0, .int 0])), (q16408, .inr (9, [.ref (u16409.1 0), .ref (u16409.1 1), .ref (u16409.1 2), .ref (u16409.1 3), .ref (u16409.1 4), .ref (u16409.1 5), .ref (u16409.1 6), .ref (u16409.1 7), .int 0, .int 0, .int 0, .int 0])), (u16409.1 0, .inl (K 1, 40, .inl (fun _ => 0))), (u16409.1 1, .inl (K 1, 10, .inl (fun _ => 0))), (u16409.1 2, .inl (K 1, 4, .inl (fun _ => 0))), (u16409.1 3, .inl (K 1, 4, .inl (fun _ => 0))), (u16409.1 4, .inl (K 1, 4, .inl (fun _ => 0))), (u16409.1 5, .inl (K 1, 5, .inl (fun _ => 0))), (u16409.1 6, .inl (K 1, 5, .inl (fun _ => 0))), (u16409.1 7, .inl (K 1, 5, .inl (fun _ => 0)))] := hD
  refine W.widen (k := 9) (n := 89) (by decide) (by decide) ?_
  refine va_putF (D := D) (ci := 0) (v := .ref q16408) (ty := .object "LostWood$Wood") (C := RX0) (T := TX0) (N := 6) hx hb hts in_X0 tyX0 tyX0_ok nmX0 hown hE.1 hP hD hS 0 rfl rfl 0 (by decide) (hts _ w_208) (fun _ h9 => h9) rfl hin rfl (by decide +kernel) rfl rfl (Nat.le_of_ble_eq_true rfl) dX0_init_12 (fun H locs hP hD hS => ?_)
  replace hP : va_P D vwCl [(h0, .inr (0, [.ref q16408, .null, .null, .null, .int 0, .int 0])), (q16408, .inr (9, [.ref (u16409.1 0), .ref (u16409.1 1), .ref (u16409.1 2), .ref (u16409.1 3), .ref (u16409.1 4), .ref (u16409.1 5), .ref (u16409.1 6), .ref (u16409.1 7), .int 0, .int 0, .int 0, .int 0])), (u16409.1 0, .inl (K 1, 40, .inl (fun _ => 0))), (u16409.1 1, .inl (K 1, 10, .inl (fun _ => 0))), (u16409.1 2, .inl (K 1, 4, .inl (fun _ => 0))), (u16409.1 3, .inl (K 1, 4, .inl (fun _ => 0))), (u16409.1 4, .inl (K 1, 4, .inl (fun _ => 0))), (u16409.1 5, .inl (K 1, 5, .inl (fun _ => 0))), (u16409.1 6, .inl (K 1, 5, .inl (fun _ => 0))), (u16409.1 7, .inl (K 1, 5, .inl (fun _ => 0)))] H := hP
  replace hD : va_D A [(h0, .inr (0, [.ref q16408, .null, .null, .null, .int 0, .int 0])), (q16408, .inr (9, [.ref (u16409.1 0), .ref (u16409.1 1), .ref (u16409.1 2), .ref (u16409.1 3), .ref (u16409.1 4), .ref (u16409.1 5), .ref (u16409.1 6), .ref (u16409.1 7), .int 0, .int 0, .int 0, .int 0])), (u16409.1 0, .inl (K 1, 40, .inl (fun _ => 0))), (u16409.1 1, .inl (K 1, 10, .inl (fun _ => 0))), (u16409.1 2, .inl (K 1, 4, .inl (fun _ => 0))), (u16409.1 3, .inl (K 1, 4, .inl (fun _ => 0))), (u16409.1 4, .inl (K 1, 4, .inl (fun _ => 0))), (u16409.1 5, .inl (K 1, 5, .inl (fun _ => 0))), (u16409.1 6, .inl (K 1, 5, .inl (fun _ => 0))), (u16409.1 7, .inl (K 1, 5, .inl (fun _ => 0)))] := hD
  refine lv_aload_n hx hb dX0_init_15 rfl (lv_at hl 0 rfl) ?_
  refine va_new (ci := 8) (fs := [.int 0, .int 0, .int 0]) (C := RX9) (T := TX9) (N := 3) hx hb hts in_X9 tyX9 tyX9_ok hown (hts _ w_1212) (hts _ w_1205) (hts _ w_230) hE.1 hP hD hS hA rfl (bd_X9) (by decide) (by decide) dX0_init_16 (fun q16410 H hP hD hS => ?_)
  replace hP : va_P D vwCl [(h0, .inr (0, [.ref q16408, .null, .null, .null, .int 0, .int 0])), (q16408, .inr (9, [.ref (u16409.1 0), .ref (u16409.1 1), .ref (u16409.1 2), .ref (u16409.1 3), .ref (u16409.1 4), .ref (u16409.1 5), .ref (u16409.1 6), .ref (u16409.1 7), .int 0, .int 0, .int 0, .int 0])), (u16409.1 0, .inl (K 1, 40, .inl (fun _ => 0))), (u16409.1 1, .inl (K 1, 10, .inl (fun _ => 0))), (u16409.1 2, .inl (K 1, 4, .inl (fun _ => 0))), (u16409.1 3, .inl (K 1, 4, .inl (fun _ => 0))), (u16409.1 4, .inl (K 1, 4, .inl (fun _ => 0))), (u16409.1 5, .inl (K 1, 5, .inl (fun _ => 0))), (u16409.1 6, .inl (K 1, 5, .inl (fun _ => 0))), (u16409.1 7, .inl (K 1, 5, .inl (fun _ => 0))), (q16410, .inr (8, [.int 0, .int 0, .int 0]))] H := hP
  replace hD : va_D A [(h0, .inr (0, [.ref q16408, .null, .null, .null, .int 0, .int 0])), (q16408, .inr (9, [.ref (u16409.1 0), .ref (u16409.1 1), .ref (u16409.1 2), .ref (u16409.1 3), .ref (u16409.1 4), .ref (u16409.1 5), .ref (u16409.1 6), .ref (u16409.1 7), .int 0, .int 0, .int 0, .int 0])), (u16409.1 0, .inl (K 1, 40, .inl (fun _ => 0))), (u16409.1 1, .inl (K 1, 10, .inl (fun _ => 0))), (u16409.1 2, .inl (K 1, 4, .inl (fun _ => 0))), (u16409.1 3, .inl (K 1, 4, .inl (fun _ => 0))), (u16409.1 4, .inl (K 1, 4, .inl (fun _ => 0))), (u16409.1 5, .inl (K 1, 5, .inl (fun _ => 0))), (u16409.1 6, .inl (K 1, 5, .inl (fun _ => 0))), (u16409.1 7, .inl (K 1, 5, .inl (fun _ => 0))), (q16410, .inr (8, [.int 0, .int 0, .int 0]))] := hD
  refine W.widen (k := 10) (n := 92) (by decide) (by decide) ?_
  refine lv_dup hx hb dX0_init_19 rfl ?_
  refine cv_IN (As := []) (rest := [.ref q16410, .ref h0]) (wc := [(q16410, .inr (8, [.int 0, .int 0, .int 0]))]) (wr := [(h0, .inr (0, [.ref q16408, .null, .null, .null, .int 0, .int 0])), (q16408, .inr (9, [.ref (u16409.1 0), .ref (u16409.1 1), .ref (u16409.1 2), .ref (u16409.1 3), .ref (u16409.1 4), .ref (u16409.1 5), .ref (u16409.1 6), .ref (u16409.1 7), .int 0, .int 0, .int 0, .int 0])), (u16409.1 0, .inl (K 1, 40, .inl (fun _ => 0))), (u16409.1 1, .inl (K 1, 10, .inl (fun _ => 0))), (u16409.1 2, .inl (K 1, 4, .inl (fun _ => 0))), (u16409.1 3, .inl (K 1, 4, .inl (fun _ => 0))), (u16409.1 4, .inl (K 1, 4, .inl (fun _ => 0))), (u16409.1 5, .inl (K 1, 5, .inl (fun _ => 0))), (u16409.1 6, .inl (K 1, 5, .inl (fun _ => 0))), (u16409.1 7, .inl (K 1, 5, .inl (fun _ => 0)))]) hC hE kIN_X0_20 (c_X9_init l D K q16410) hP hD hS hA [10] [0, 1, 2, 3, 4, 5, 6, 7, 8, 9] rfl rfl rfl (by decide) (by decide) (by decide) rfl hl.1 rfl (Nat.le_of_ble_eq_true rfl) (by decide) (by decide) dX0_init_20 (fun u16411 H locs hw hP hD hS => ?_)
  replace hP : va_P D vwCl [(h0, .inr (0, [.ref q16408, .null, .null, .null, .int 0, .int 0])), (q16408, .inr (9, [.ref (u16409.1 0), .ref (u16409.1 1), .ref (u16409.1 2), .ref (u16409.1 3), .ref (u16409.1 4), .ref (u16409.1 5), .ref (u16409.1 6), .ref (u16409.1 7), .int 0, .int 0, .int 0, .int 0])), (u16409.1 0, .inl (K 1, 40, .inl (fun _ => 0))), (u16409.1 1, .inl (K 1, 10, .inl (fun _ => 0))), (u16409.1 2, .inl (K 1, 4, .inl (fun _ => 0))), (u16409.1 3, .inl (K 1, 4, .inl (fun _ => 0))), (u16409.1 4, .inl (K 1, 4, .inl (fun _ => 0))), (u16409.1 5, .inl (K 1, 5, .inl (fun _ => 0))), (u16409.1 6, .inl (K 1, 5, .inl (fun _ => 0))), (u16409.1 7, .inl (K 1, 5, .inl (fun _ => 0))), (q16410, .inr (8, [.int 0, .int 0, .int 0]))] H := hP
  replace hD : va_D A [(h0, .inr (0, [.ref q16408, .null, .null, .null, .int 0, .int 0])), (q16408, .inr (9, [.ref (u16409.1 0), .ref (u16409.1 1), .ref (u16409.1 2), .ref (u16409.1 3), .ref (u16409.1 4), .ref (u16409.1 5), .ref (u16409.1 6), .ref (u16409.1 7), .int 0, .int 0, .int 0, .int 0])), (u16409.1 0, .inl (K 1, 40, .inl (fun _ => 0))), (u16409.1 1, .inl (K 1, 10, .inl (fun _ => 0))), (u16409.1 2, .inl (K 1, 4, .inl (fun _ => 0))), (u16409.1 3, .inl (K 1, 4, .inl (fun _ => 0))), (u16409.1 4, .inl (K 1, 4, .inl (fun _ => 0))), (u16409.1 5, .inl (K 1, 5, .inl (fun _ => 0))), (u16409.1 6, .inl (K 1, 5, .inl (fun _ => 0))), (u16409.1 7, .inl (K 1, 5, .inl (fun _ => 0))), (q16410, .inr (8, [.int 0, .int 0, .int 0]))] := hD
  refine W.widen (k := 10) (n := 92) (by decide) (by decide) ?_
  refine va_putF (D := D) (ci := 0) (v := .ref q16410) (ty := .object "LostWood$Walker") (C := RX0) (T := TX0) (N := 6) hx hb hts in_X0 tyX0 tyX0_ok nmX0 hown hE.1 hP hD hS 0 rfl rfl 1 (by decide) (hts _ w_211) (fun _ h9 => h9) rfl hin rfl (by decide +kernel) rfl rfl (Nat.le_of_ble_eq_true rfl) dX0_init_23 (fun H locs hP hD hS => ?_)
  replace hP : va_P D vwCl [(h0, .inr (0, [.ref q16408, .ref q16410, .null, .null, .int 0, .int 0])), (q16408, .inr (9, [.ref (u16409.1 0), .ref (u16409.1 1), .ref (u16409.1 2), .ref (u16409.1 3), .ref (u16409.1 4), .ref (u16409.1 5), .ref (u16409.1 6), .ref (u16409.1 7), .int 0, .int 0, .int 0, .int 0])), (u16409.1 0, .inl (K 1, 40, .inl (fun _ => 0))), (u16409.1 1, .inl (K 1, 10, .inl (fun _ => 0))), (u16409.1 2, .inl (K 1, 4, .inl (fun _ => 0))), (u16409.1 3, .inl (K 1, 4, .inl (fun _ => 0))), (u16409.1 4, .inl (K 1, 4, .inl (fun _ => 0))), (u16409.1 5, .inl (K 1, 5, .inl (fun _ => 0))), (u16409.1 6, .inl (K 1, 5, .inl (fun _ => 0))), (u16409.1 7, .inl (K 1, 5, .inl (fun _ => 0))), (q16410, .inr (8, [.int 0, .int 0, .int 0]))] H := hP
  replace hD : va_D A [(h0, .inr (0, [.ref q16408, .ref q16410, .null, .null, .int 0, .int 0])), (q16408, .inr (9, [.ref (u16409.1 0), .ref (u16409.1 1), .ref (u16409.1 2), .ref (u16409.1 3), .ref (u16409.1 4), .ref (u16409.1 5), .ref (u16409.1 6), .ref (u16409.1 7), .int 0, .int 0, .int 0, .int 0])), (u16409.1 0, .inl (K 1, 40, .inl (fun _ => 0))), (u16409.1 1, .inl (K 1, 10, .inl (fun _ => 0))), (u16409.1 2, .inl (K 1, 4, .inl (fun _ => 0))), (u16409.1 3, .inl (K 1, 4, .inl (fun _ => 0))), (u16409.1 4, .inl (K 1, 4, .inl (fun _ => 0))), (u16409.1 5, .inl (K 1, 5, .inl (fun _ => 0))), (u16409.1 6, .inl (K 1, 5, .inl (fun _ => 0))), (u16409.1 7, .inl (K 1, 5, .inl (fun _ => 0))), (q16410, .inr (8, [.int 0, .int 0, .int 0]))] := hD
  refine lv_aload_n hx hb dX0_init_26 rfl (lv_at hl 0 rfl) ?_
  refine lv_iconst (v := 5) hx hb dX0_init_27 (by decide) ?_
  refine na (a0 := (5, .inl (fun _ => 0))) (ty := .int) hC hE rfl w_1187 1 rfl (fun _ _ h => h) hP hD hS hA (fun _ => rfl) (by decide) (by decide) (by decide) (by decide) (by decide) dX0_init_28 (fun q16412 H hP hD hS => ?_)
  replace hP : va_P D vwCl [(h0, .inr (0, [.ref q16408, .ref q16410, .null, .null, .int 0, .int 0])), (q16408, .inr (9, [.ref (u16409.1 0), .ref (u16409.1 1), .ref (u16409.1 2), .ref (u16409.1 3), .ref (u16409.1 4), .ref (u16409.1 5), .ref (u16409.1 6), .ref (u16409.1 7), .int 0, .int 0, .int 0, .int 0])), (u16409.1 0, .inl (K 1, 40, .inl (fun _ => 0))), (u16409.1 1, .inl (K 1, 10, .inl (fun _ => 0))), (u16409.1 2, .inl (K 1, 4, .inl (fun _ => 0))), (u16409.1 3, .inl (K 1, 4, .inl (fun _ => 0))), (u16409.1 4, .inl (K 1, 4, .inl (fun _ => 0))), (u16409.1 5, .inl (K 1, 5, .inl (fun _ => 0))), (u16409.1 6, .inl (K 1, 5, .inl (fun _ => 0))), (u16409.1 7, .inl (K 1, 5, .inl (fun _ => 0))), (q16410, .inr (8, [.int 0, .int 0, .int 0])), (q16412, .inl (K 1, 5, .inl (fun _ => 0)))] H := hP
  replace hD : va_D A [(h0, .inr (0, [.ref q16408, .ref q16410, .null, .null, .int 0, .int 0])), (q16408, .inr (9, [.ref (u16409.1 0), .ref (u16409.1 1), .ref (u16409.1 2), .ref (u16409.1 3), .ref (u16409.1 4), .ref (u16409.1 5), .ref (u16409.1 6), .ref (u16409.1 7), .int 0, .int 0, .int 0, .int 0])), (u16409.1 0, .inl (K 1, 40, .inl (fun _ => 0))), (u16409.1 1, .inl (K 1, 10, .inl (fun _ => 0))), (u16409.1 2, .inl (K 1, 4, .inl (fun _ => 0))), (u16409.1 3, .inl (K 1, 4, .inl (fun _ => 0))), (u16409.1 4, .inl (K 1, 4, .inl (fun _ => 0))), (u16409.1 5, .inl (K 1, 5, .inl (fun _ => 0))), (u16409.1 6, .inl (K 1, 5, .inl (fun _ => 0))), (u16409.1 7, .inl (K 1, 5, .inl (fun _ => 0))), (q16410, .inr (8, [.int 0, .int 0, .int 0])), (q16412, .inl (K 1, 5, .inl (fun _ => 0)))] := hD
  refine W.widen (k := 11) (n := 97) (by decide) (by decide) ?_
  refine va_putF (D := D) (ci := 0) (v := .ref q16412) (ty := .array .int) (C := RX0) (T := TX0) (N := 6) hx hb hts in_X0 tyX0 tyX0_ok nmX0 hown hE.1 hP hD hS 0 rfl rfl 2 (by decide) (hts _ w_202) (fun _ h9 => h9) rfl hin rfl (by decide +kernel) rfl rfl (Nat.le_of_ble_eq_true rfl) dX0_init_30 (fun H locs hP hD hS => ?_)
  replace hP : va_P D vwCl [(h0, .inr (0, [.ref q16408, .ref q16410, .ref q16412, .null, .int 0, .int 0])), (q16408, .inr (9, [.ref (u16409.1 0), .ref (u16409.1 1), .ref (u16409.1 2), .ref (u16409.1 3), .ref (u16409.1 4), .ref (u16409.1 5), .ref (u16409.1 6), .ref (u16409.1 7), .int 0, .int 0, .int 0, .int 0])), (u16409.1 0, .inl (K 1, 40, .inl (fun _ => 0))), (u16409.1 1, .inl (K 1, 10, .inl (fun _ => 0))), (u16409.1 2, .inl (K 1, 4, .inl (fun _ => 0))), (u16409.1 3, .inl (K 1, 4, .inl (fun _ => 0))), (u16409.1 4, .inl (K 1, 4, .inl (fun _ => 0))), (u16409.1 5, .inl (K 1, 5, .inl (fun _ => 0))), (u16409.1 6, .inl (K 1, 5, .inl (fun _ => 0))), (u16409.1 7, .inl (K 1, 5, .inl (fun _ => 0))), (q16410, .inr (8, [.int 0, .int 0, .int 0])), (q16412, .inl (K 1, 5, .inl (fun _ => 0)))] H := hP
  replace hD : va_D A [(h0, .inr (0, [.ref q16408, .ref q16410, .ref q16412, .null, .int 0, .int 0])), (q16408, .inr (9, [.ref (u16409.1 0), .ref (u16409.1 1), .ref (u16409.1 2), .ref (u16409.1 3), .ref (u16409.1 4), .ref (u16409.1 5), .ref (u16409.1 6), .ref (u16409.1 7), .int 0, .int 0, .int 0, .int 0])), (u16409.1 0, .inl (K 1, 40, .inl (fun _ => 0))), (u16409.1 1, .inl (K 1, 10, .inl (fun _ => 0))), (u16409.1 2, .inl (K 1, 4, .inl (fun _ => 0))), (u16409.1 3, .inl (K 1, 4, .inl (fun _ => 0))), (u16409.1 4, .inl (K 1, 4, .inl (fun _ => 0))), (u16409.1 5, .inl (K 1, 5, .inl (fun _ => 0))), (u16409.1 6, .inl (K 1, 5, .inl (fun _ => 0))), (u16409.1 7, .inl (K 1, 5, .inl (fun _ => 0))), (q16410, .inr (8, [.int 0, .int 0, .int 0])), (q16412, .inl (K 1, 5, .inl (fun _ => 0)))] := hD
  refine lv_aload_n hx hb dX0_init_33 rfl (lv_at hl 0 rfl) ?_
  refine lv_iconst (v := 5) hx hb dX0_init_34 (by decide) ?_
  refine na (a0 := (5, .inl (fun _ => 0))) (ty := .int) hC hE rfl w_1187 1 rfl (fun _ _ h => h) hP hD hS hA (fun _ => rfl) (by decide) (by decide) (by decide) (by decide) (by decide) dX0_init_35 (fun q16413 H hP hD hS => ?_)
  replace hP : va_P D vwCl [(h0, .inr (0, [.ref q16408, .ref q16410, .ref q16412, .null, .int 0, .int 0])), (q16408, .inr (9, [.ref (u16409.1 0), .ref (u16409.1 1), .ref (u16409.1 2), .ref (u16409.1 3), .ref (u16409.1 4), .ref (u16409.1 5), .ref (u16409.1 6), .ref (u16409.1 7), .int 0, .int 0, .int 0, .int 0])), (u16409.1 0, .inl (K 1, 40, .inl (fun _ => 0))), (u16409.1 1, .inl (K 1, 10, .inl (fun _ => 0))), (u16409.1 2, .inl (K 1, 4, .inl (fun _ => 0))), (u16409.1 3, .inl (K 1, 4, .inl (fun _ => 0))), (u16409.1 4, .inl (K 1, 4, .inl (fun _ => 0))), (u16409.1 5, .inl (K 1, 5, .inl (fun _ => 0))), (u16409.1 6, .inl (K 1, 5, .inl (fun _ => 0))), (u16409.1 7, .inl (K 1, 5, .inl (fun _ => 0))), (q16410, .inr (8, [.int 0, .int 0, .int 0])), (q16412, .inl (K 1, 5, .inl (fun _ => 0))), (q16413, .inl (K 1, 5, .inl (fun _ => 0)))] H := hP
  replace hD : va_D A [(h0, .inr (0, [.ref q16408, .ref q16410, .ref q16412, .null, .int 0, .int 0])), (q16408, .inr (9, [.ref (u16409.1 0), .ref (u16409.1 1), .ref (u16409.1 2), .ref (u16409.1 3), .ref (u16409.1 4), .ref (u16409.1 5), .ref (u16409.1 6), .ref (u16409.1 7), .int 0, .int 0, .int 0, .int 0])), (u16409.1 0, .inl (K 1, 40, .inl (fun _ => 0))), (u16409.1 1, .inl (K 1, 10, .inl (fun _ => 0))), (u16409.1 2, .inl (K 1, 4, .inl (fun _ => 0))), (u16409.1 3, .inl (K 1, 4, .inl (fun _ => 0))), (u16409.1 4, .inl (K 1, 4, .inl (fun _ => 0))), (u16409.1 5, .inl (K 1, 5, .inl (fun _ => 0))), (u16409.1 6, .inl (K 1, 5, .inl (fun _ => 0))), (u16409.1 7, .inl (K 1, 5, .inl (fun _ => 0))), (q16410, .inr (8, [.int 0, .int 0, .int 0])), (q16412, .inl (K 1, 5, .inl (fun _ => 0))), (q16413, .inl (K 1, 5, .inl (fun _ => 0)))] := hD
  refine W.widen (k := 12) (n := 102) (by decide) (by decide) ?_
  refine va_putF (D := D) (ci := 0) (v := .ref q16413) (ty := .array .int) (C := RX0) (T := TX0) (N := 6) hx hb hts in_X0 tyX0 tyX0_ok nmX0 hown hE.1 hP hD hS 0 rfl rfl 3 (by decide) (hts _ w_254) (fun _ h9 => h9) rfl hin rfl (by decide +kernel) rfl rfl (Nat.le_of_ble_eq_true rfl) dX0_init_37 (fun H locs hP hD hS => ?_)
  replace hP : va_P D vwCl [(h0, .inr (0, [.ref q16408, .ref q16410, .ref q16412, .ref q16413, .int 0, .int 0])), (q16408, .inr (9, [.ref (u16409.1 0), .ref (u16409.1 1), .ref (u16409.1 2), .ref (u16409.1 3), .ref (u16409.1 4), .ref (u16409.1 5), .ref (u16409.1 6), .ref (u16409.1 7), .int 0, .int 0, .int 0, .int 0])), (u16409.1 0, .inl (K 1, 40, .inl (fun _ => 0))), (u16409.1 1, .inl (K 1, 10, .inl (fun _ => 0))), (u16409.1 2, .inl (K 1, 4, .inl (fun _ => 0))), (u16409.1 3, .inl (K 1, 4, .inl (fun _ => 0))), (u16409.1 4, .inl (K 1, 4, .inl (fun _ => 0))), (u16409.1 5, .inl (K 1, 5, .inl (fun _ => 0))), (u16409.1 6, .inl (K 1, 5, .inl (fun _ => 0))), (u16409.1 7, .inl (K 1, 5, .inl (fun _ => 0))), (q16410, .inr (8, [.int 0, .int 0, .int 0])), (q16412, .inl (K 1, 5, .inl (fun _ => 0))), (q16413, .inl (K 1, 5, .inl (fun _ => 0)))] H := hP
  replace hD : va_D A [(h0, .inr (0, [.ref q16408, .ref q16410, .ref q16412, .ref q16413, .int 0, .int 0])), (q16408, .inr (9, [.ref (u16409.1 0), .ref (u16409.1 1), .ref (u16409.1 2), .ref (u16409.1 3), .ref (u16409.1 4), .ref (u16409.1 5), .ref (u16409.1 6), .ref (u16409.1 7), .int 0, .int 0, .int 0, .int 0])), (u16409.1 0, .inl (K 1, 40, .inl (fun _ => 0))), (u16409.1 1, .inl (K 1, 10, .inl (fun _ => 0))), (u16409.1 2, .inl (K 1, 4, .inl (fun _ => 0))), (u16409.1 3, .inl (K 1, 4, .inl (fun _ => 0))), (u16409.1 4, .inl (K 1, 4, .inl (fun _ => 0))), (u16409.1 5, .inl (K 1, 5, .inl (fun _ => 0))), (u16409.1 6, .inl (K 1, 5, .inl (fun _ => 0))), (u16409.1 7, .inl (K 1, 5, .inl (fun _ => 0))), (q16410, .inr (8, [.int 0, .int 0, .int 0])), (q16412, .inl (K 1, 5, .inl (fun _ => 0))), (q16413, .inl (K 1, 5, .inl (fun _ => 0)))] := hD
  refine W.widen (k := 12) (n := 102) (by decide) (by decide) ?_
  exact ch_vret hC hr hk hS dX0_init_40 ((fun k => [q16408, (u16409.1 0), (u16409.1 1), (u16409.1 2), (u16409.1 3), (u16409.1 4), (u16409.1 5), (u16409.1 6), (u16409.1 7), q16410, q16412, q16413].getD k 0, fun k => [].getD k (fun _ => 0)) : ((Nat → Nat) × (Nat → Nat → Int32))) trivial (hP.sub [0, 1, 2, 3, 4, 5, 6, 7, 8, 9, 10, 11, 12] rfl) (hD.sub [0, 1, 2, 3, 4, 5, 6, 7, 8, 9, 10, 11, 12] (by decide) rfl)
set_option maxRecDepth 100000 in
set_option maxHeartbeats 8000000 in
theorem c_X8_init (l : Launch) (D : va_G) (K : Nat → ClassId) (h0 : Nat) : Cv (S := ((Nat → Nat) × (Nat → Nat → Int32))) l D K yX8_init cX8_init 1 1 12 3 30 [.ref h0] [(h0, .inr (7, [.null, .null, .null]))] (fun _ => True) (fun u => [(h0, .inr (7, [.ref (u.1 0), .ref (u.1 1), .ref (u.1 2)])), (u.1 0, .inl (K 1, 10, .inl (fun _ => 0))), (u.1 1, .inl (K 1, 10, .inl (fun _ => 0))), (u.1 2, .inl (K 1, 10, .inl (fun _ => 0)))]) := by
  intro sz
  refine ch_of (y := yX8_init) (cc := cX8_init) (maxL := 1) (ret := none) (av := [.ref h0]) (ws := [(h0, .inr (7, [.null, .null, .null]))]) (D := D) (K := K) (Qc := fun A => va_Qv (S := ((Nat → Nat) × (Nat → Nat → Int32))) (fun _ => True) (chB D A (fun u => [(h0, .inr (7, [.ref (u.1 0), .ref (u.1 1), .ref (u.1 2)])), (u.1 0, .inl (K 1, 10, .inl (fun _ => 0))), (u.1 1, .inl (K 1, 10, .inl (fun _ => 0))), (u.1 2, .inl (K 1, 10, .inl (fun _ => 0)))])) A) (by decide) (Nat.le_of_ble_eq_true rfl) ?_
  intro p e s m below meth c A hC hr hk hin hE hD hA H locs hP hS ls hl
  replace hC : CallFix p m c cX8_init 1 s [.ref h0].toArray wl RX8 := hC
  have hx := hC.1
  have hb := hC.2.1
  have hml := hC.2.2.1
  have hown := hC.2.2.2.1
  have hts := hC.2.2.2.2
  replace hl : lv_has ls 1 [(0, .ref h0)] := hl
  refine lv_aload_n hx hb dX8_init_0 rfl (lv_at hl 0 rfl) ?_
  refine W.objInit hx hb hown (hts _ w_1213) (hts _ w_1185) (hts _ w_1186) rfl (by rw [hml]; exact hl.1) rfl dX8_init_1 (by decide) (Nat.le_of_ble_eq_true rfl) ?_
  refine W.eq (g2 := F0 m 4 ls []) rfl ?_
  refine lv_aload_n hx hb dX8_init_4 rfl (lv_at hl 0 rfl) ?_
  refine lv_bipush (v := 10) hx hb dX8_init_5 (by decide) ?_
  refine na (a0 := (10, .inl (fun _ => 0))) (ty := .int) hC hE rfl w_1187 1 rfl (fun _ _ h => h) hP hD hS hA (fun _ => rfl) (by decide) (by decide) (by decide) (by decide) (by decide) dX8_init_7 (fun q16414 H hP hD hS => ?_)
  replace hP : va_P D vwCl [(h0, .inr (7, [.null, .null, .null])), (q16414, .inl (K 1, 10, .inl (fun _ => 0)))] H := hP
  replace hD : va_D A [(h0, .inr (7, [.null, .null, .null])), (q16414, .inl (K 1, 10, .inl (fun _ => 0)))] := hD
  refine W.widen (k := 1) (n := 10) (by decide) (by decide) ?_
  refine va_putF (D := D) (ci := 7) (v := .ref q16414) (ty := .array .int) (C := RX8) (T := TX8) (N := 3) hx hb hts in_X8 tyX8 tyX8_ok nmX8 hown hE.1 hP hD hS 0 rfl rfl 0 (by decide) (hts _ w_140) (fun _ h9 => h9) rfl hin rfl (by decide +kernel) rfl rfl (Nat.le_of_ble_eq_true rfl) dX8_init_9 (fun H locs hP hD hS => ?_)
  replace hP : va_P D vwCl [(h0, .inr (7, [.ref q16414, .null, .null])), (q16414, .inl (K 1, 10, .inl (fun _ => 0)))] H := hP
  replace hD : va_D A [(h0, .inr (7, [.ref q16414, .null, .null])), (q16414, .inl (K 1, 10, .inl (fun _ => 0)))] := hD
  refine lv_aload_n hx hb dX8_init_12 rfl (lv_at hl 0 rfl) ?_
  refine lv_bipush (v := 10) hx hb dX8_init_13 (by decide) ?_
  refine na (a0 := (10, .inl (fun _ => 0))) (ty := .int) hC hE rfl w_1187 1 rfl (fun _ _ h => h) hP hD hS hA (fun _ => rfl) (by decide) (by decide) (by decide) (by decide) (by decide) dX8_init_15 (fun q16415 H hP hD hS => ?_)
  replace hP : va_P D vwCl [(h0, .inr (7, [.ref q16414, .null, .null])), (q16414, .inl (K 1, 10, .inl (fun _ => 0))), (q16415, .inl (K 1, 10, .inl (fun _ => 0)))] H := hP
  replace hD : va_D A [(h0, .inr (7, [.ref q16414, .null, .null])), (q16414, .inl (K 1, 10, .inl (fun _ => 0))), (q16415, .inl (K 1, 10, .inl (fun _ => 0)))] := hD
  refine W.widen (k := 2) (n := 20) (by decide) (by decide) ?_
  refine va_putF (D := D) (ci := 7) (v := .ref q16415) (ty := .array .int) (C := RX8) (T := TX8) (N := 3) hx hb hts in_X8 tyX8 tyX8_ok nmX8 hown hE.1 hP hD hS 0 rfl rfl 1 (by decide) (hts _ w_139) (fun _ h9 => h9) rfl hin rfl (by decide +kernel) rfl rfl (Nat.le_of_ble_eq_true rfl) dX8_init_17 (fun H locs hP hD hS => ?_)
  replace hP : va_P D vwCl [(h0, .inr (7, [.ref q16414, .ref q16415, .null])), (q16414, .inl (K 1, 10, .inl (fun _ => 0))), (q16415, .inl (K 1, 10, .inl (fun _ => 0)))] H := hP
  replace hD : va_D A [(h0, .inr (7, [.ref q16414, .ref q16415, .null])), (q16414, .inl (K 1, 10, .inl (fun _ => 0))), (q16415, .inl (K 1, 10, .inl (fun _ => 0)))] := hD
  refine lv_aload_n hx hb dX8_init_20 rfl (lv_at hl 0 rfl) ?_
  refine lv_bipush (v := 10) hx hb dX8_init_21 (by decide) ?_
  refine na (a0 := (10, .inl (fun _ => 0))) (ty := .int) hC hE rfl w_1187 1 rfl (fun _ _ h => h) hP hD hS hA (fun _ => rfl) (by decide) (by decide) (by decide) (by decide) (by decide) dX8_init_23 (fun q16416 H hP hD hS => ?_)
  replace hP : va_P D vwCl [(h0, .inr (7, [.ref q16414, .ref q16415, .null])), (q16414, .inl (K 1, 10, .inl (fun _ => 0))), (q16415, .inl (K 1, 10, .inl (fun _ => 0))), (q16416, .inl (K 1, 10, .inl (fun _ => 0)))] H := hP
  replace hD : va_D A [(h0, .inr (7, [.ref q16414, .ref q16415, .null])), (q16414, .inl (K 1, 10, .inl (fun _ => 0))), (q16415, .inl (K 1, 10, .inl (fun _ => 0))), (q16416, .inl (K 1, 10, .inl (fun _ => 0)))] := hD
  refine W.widen (k := 3) (n := 30) (by decide) (by decide) ?_
  refine va_putF (D := D) (ci := 7) (v := .ref q16416) (ty := .array .int) (C := RX8) (T := TX8) (N := 3) hx hb hts in_X8 tyX8 tyX8_ok nmX8 hown hE.1 hP hD hS 0 rfl rfl 2 (by decide) (hts _ w_156) (fun _ h9 => h9) rfl hin rfl (by decide +kernel) rfl rfl (Nat.le_of_ble_eq_true rfl) dX8_init_25 (fun H locs hP hD hS => ?_)
  replace hP : va_P D vwCl [(h0, .inr (7, [.ref q16414, .ref q16415, .ref q16416])), (q16414, .inl (K 1, 10, .inl (fun _ => 0))), (q16415, .inl (K 1, 10, .inl (fun _ => 0))), (q16416, .inl (K 1, 10, .inl (fun _ => 0)))] H := hP
  replace hD : va_D A [(h0, .inr (7, [.ref q16414, .ref q16415, .ref q16416])), (q16414, .inl (K 1, 10, .inl (fun _ => 0))), (q16415, .inl (K 1, 10, .inl (fun _ => 0))), (q16416, .inl (K 1, 10, .inl (fun _ => 0)))] := hD
  refine W.widen (k := 3) (n := 30) (by decide) (by decide) ?_
  exact ch_vret hC hr hk hS dX8_init_28 ((fun k => [q16414, q16415, q16416].getD k 0, fun k => [].getD k (fun _ => 0)) : ((Nat → Nat) × (Nat → Nat → Int32))) trivial (hP.sub [0, 1, 2, 3] rfl) (hD.sub [0, 1, 2, 3] (by decide) rfl)
