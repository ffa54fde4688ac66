set_option maxRecDepth 40000 in
set_option maxHeartbeats 4000000 in
theorem c_X10_init (l : Launch) (D : va_G) (K : Nat → ClassId) (h0 : Nat) : Cv (S := (Nat → Nat)) l D K yX10_init cX10_init 1 1 12 8 77 [.ref h0] [(h0, .inr (9, [.null, .null, .null, .null, .null, .null, .null, .null, .int 0, .int 0, .int 0, .int 0]))] (fun _ => True) (fun u => [(h0, .inr (9, [.ref (u 0), .ref (u 1), .ref (u 2), .ref (u 3), .ref (u 4), .ref (u 5), .ref (u 6), .ref (u 7), .int 0, .int 0, .int 0, .int 0])), (u 0, .inl (K 1, 40, .inl (fun _ => 0))), (u 1, .inl (K 1, 10, .inl (fun _ => 0))), (u 2, .inl (K 1, 4, .inl (fun _ => 0))), (u 3, .inl (K 1, 4, .inl (fun _ => 0))), (u 4, .inl (K 1, 4, .inl (fun _ => 0))), (u 5, .inl (K 1, 5, .inl (fun _ => 0))), (u 6, .inl (K 1, 5, .inl (fun _ => 0))), (u 7, .inl (K 1, 5, .inl (fun _ => 0)))]) := by
  intro sz
  refine ch_of (Qc := fun A => va_Qv (S := (Nat → Nat)) (fun _ => True) (chB D A (fun u => [(h0, .inr (9, [.ref (u 0), .ref (u 1), .ref (u 2), .ref (u 3), .ref (u 4), .ref (u 5), .ref (u 6), .ref (u 7), .int 0, .int 0, .int 0, .int 0])), (u 0, .inl (K 1, 40, .inl (fun _ => 0))), (u 1, .inl (K 1, 10, .inl (fun _ => 0))), (u 2, .inl (K 1, 4, .inl (fun _ => 0))), (u 3, .inl (K 1, 4, .inl (fun _ => 0))), (u 4, .inl (K 1, 4, .inl (fun _ => 0))), (u 5, .inl (K 1, 5, .inl (fun _ => 0))), (u 6, .inl (K 1, 5, .inl (fun _ => 0))), (u 7, .inl (K 1, 5, .inl (fun _ => 0)))])) A) (by decide) (Nat.le_of_ble_eq_true rfl) ?_
  intro p e s m below meth c A hC hr hk hin hE hD hA H locs hP hS ls hl
  replace hC : CallFix p m c cX10_init 1 s [.ref h0].toArray wl RX10 := hC
  have hx := hC.1
  have hb := hC.2.1
  have hml := hC.2.2.1
  have hown := hC.2.2.2.1
  have hts := hC.2.2.2.2
  replace hl : lv_has ls 1 [(0, .ref h0)] := hl
  refine lv_aload_n hx hb dX10_init_0 rfl (lv_at hl 0 rfl) ?_
  refine W.objInit hx hb hown (hts _ w_242) (hts _ w_243) (hts _ w_244) rfl (by rw [hml]; exact hl.1) rfl dX10_init_1 (by decide) (Nat.le_of_ble_eq_true rfl) ?_
  refine W.eq (g2 := F0 m 4 ls []) rfl ?_
  refine lv_aload_n hx hb dX10_init_4 rfl (lv_at hl 0 rfl) ?_
  refine lv_bipush (v := 40) hx hb dX10_init_5 (by decide) ?_
  refine na (a0 := (40, .inl (fun _ => 0))) (ty := .int) hC hE rfl w_245 1 rfl (fun _ _ h => h) hP hD hS hA (fun _ => rfl) (by decide) (by decide) (by decide) (by decide) (by decide) dX10_init_7 (fun q70 H hP hD hS => ?_)
  replace hP : va_P D vwCl [(h0, .inr (9, [.null, .null, .null, .null, .null, .null, .null, .null, .int 0, .int 0, .int 0, .int 0])), (q70, .inl (K 1, 40, .inl (fun _ => 0)))] H := hP
  replace hD : va_D A [(h0, .inr (9, [.null, .null, .null, .null, .null, .null, .null, .null, .int 0, .int 0, .int 0, .int 0])), (q70, .inl (K 1, 40, .inl (fun _ => 0)))] := hD
  refine W.widen (k := 1) (n := 40) (by decide) (by decide) ?_
  refine va_putF (D := D) (ci := 9) (v := .ref q70) (ty := .array .int) (C := RX10) (T := TX10) (N := 12) hx hb hts in_X10 tyX10 tyX10_ok nmX10 hown hE.1 hP hD hS 0 rfl rfl 0 (by decide) (hts _ w_246) (fun _ h9 => h9) rfl hin rfl (by decide +kernel) rfl rfl (Nat.le_of_ble_eq_true rfl) dX10_init_9 (fun H locs hP hD hS => ?_)
  replace hP : va_P D vwCl [(h0, .inr (9, [.ref q70, .null, .null, .null, .null, .null, .null, .null, .int 0, .int 0, .int 0, .int 0])), (q70, .inl (K 1, 40, .inl (fun _ => 0)))] H := hP
  replace hD : va_D A [(h0, .inr (9, [.ref q70, .null, .null, .null, .null, .null, .null, .null, .int 0, .int 0, .int 0, .int 0])), (q70, .inl (K 1, 40, .inl (fun _ => 0)))] := hD
  refine lv_aload_n hx hb dX10_init_12 rfl (lv_at hl 0 rfl) ?_
  refine lv_bipush (v := 10) hx hb dX10_init_13 (by decide) ?_
  refine na (a0 := (10, .inl (fun _ => 0))) (ty := .int) hC hE rfl w_245 1 rfl (fun _ _ h => h) hP hD hS hA (fun _ => rfl) (by decide) (by decide) (by decide) (by decide) (by decide) dX10_init_15 (fun q71 H hP hD hS => ?_)
  replace hP : va_P D vwCl [(h0, .inr (9, [.ref q70, .null, .null, .null, .null, .null, .null, .null, .int 0, .int 0, .int 0, .int 0])), (q70, .inl (K 1, 40, .inl (fun _ => 0))), (q71, .inl (K 1, 10, .inl (fun _ => 0)))] H := hP
  replace hD : va_D A [(h0, .inr (9, [.ref q70, .null, .null, .null, .null, .null, .null, .null, .int 0, .int 0, .int 0, .int 0])), (q70, .inl (K 1, 40, .inl (fun _ => 0))), (q71, .inl (K 1, 10, .inl (fun _ => 0)))] := hD
  refine W.widen (k := 2) (n := 50) (by decide) (by decide) ?_
  refine va_putF (D := D) (ci := 9) (v := .ref q71) (ty := .array .int) (C := RX10) (T := TX10) (N := 12) hx hb hts in_X10 tyX10 tyX10_ok nmX10 hown hE.1 hP hD hS 0 rfl rfl 1 (by decide) (hts _ w_247) (fun _ h9 => h9) rfl hin rfl (by decide +kernel) rfl rfl (Nat.le_of_ble_eq_true rfl) dX10_init_17 (fun H locs hP hD hS => ?_)
  replace hP : va_P D vwCl [(h0, .inr (9, [.ref q70, .ref q71, .null, .null, .null, .null, .null, .null, .int 0, .int 0, .int 0, .int 0])), (q70, .inl (K 1, 40, .inl (fun _ => 0))), (q71, .inl (K 1, 10, .inl (fun _ => 0)))] H := hP
  replace hD : va_D A [(h0, .inr (9, [.ref q70, .ref q71, .null, .null, .null, .null, .null, .null, .int 0, .int 0, .int 0, .int 0])), (q70, .inl (K 1, 40, .inl (fun _ => 0))), (q71, .inl (K 1, 10, .inl (fun _ => 0)))] := hD
  refine lv_aload_n hx hb dX10_init_20 rfl (lv_at hl 0 rfl) ?_
  refine lv_iconst (v := 4) hx hb dX10_init_21 (by decide) ?_
  refine na (a0 := (4, .inl (fun _ => 0))) (ty := .int) hC hE rfl w_245 1 rfl (fun _ _ h => h) hP hD hS hA (fun _ => rfl) (by decide) (by decide) (by decide) (by decide) (by decide) dX10_init_22 (fun q72 H hP hD hS => ?_)
  replace hP : va_P D vwCl [(h0, .inr (9, [.ref q70, .ref q71, .null, .null, .null, .null, .null, .null, .int 0, .int 0, .int 0, .int 0])), (q70, .inl (K 1, 40, .inl (fun _ => 0))), (q71, .inl (K 1, 10, .inl (fun _ => 0))), (q72, .inl (K 1, 4, .inl (fun _ => 0)))] H := hP
  replace hD : va_D A [(h0, .inr (9, [.ref q70, .ref q71, .null, .null, .null, .null, .null, .null, .int 0, .int 0, .int 0, .int 0])), (q70, .inl (K 1, 40, .inl (fun _ => 0))), (q71, .inl (K 1, 10, .inl (fun _ => 0))), (q72, .inl (K 1, 4, .inl (fun _ => 0)))] := hD
  refine W.widen (k := 3) (n := 54) (by decide) (by decide) ?_
  refine va_putF (D := D) (ci := 9) (v := .ref q72) (ty := .array .int) (C := RX10) (T := TX10) (N := 12) hx hb hts in_X10 tyX10 tyX10_ok nmX10 hown hE.1 hP hD hS 0 rfl rfl 2 (by decide) (hts _ w_248) (fun _ h9 => h9) rfl hin rfl (by decide +kernel) rfl rfl (Nat.le_of_ble_eq_true rfl) dX10_init_24 (fun H locs hP hD hS => ?_)
  replace hP : va_P D vwCl [(h0, .inr (9, [.ref q70, .ref q71, .ref q72, .null, .null, .null, .null, .null, .int 0, .int 0, .int 0, .int 0])), (q70, .inl (K 1, 40, .inl (fun _ => 0))), (q71, .inl (K 1, 10, .inl (fun _ => 0))), (q72, .inl (K 1, 4, .inl (fun _ => 0)))] H := hP
  replace hD : va_D A [(h0, .inr (9, [.ref q70, .ref q71, .ref q72, .null, .null, .null, .null, .null, .int 0, .int 0, .int 0, .int 0])), (q70, .inl (K 1, 40, .inl (fun _ => 0))), (q71, .inl (K 1, 10, .inl (fun _ => 0))), (q72, .inl (K 1, 4, .inl (fun _ => 0)))] := hD
  refine lv_aload_n hx hb dX10_init_27 rfl (lv_at hl 0 rfl) ?_
  refine lv_iconst (v := 4) hx hb dX10_init_28 (by decide) ?_
  refine na (a0 := (4, .inl (fun _ => 0))) (ty := .int) hC hE rfl w_245 1 rfl (fun _ _ h => h) hP hD hS hA (fun _ => rfl) (by decide) (by decide) (by decide) (by decide) (by decide) dX10_init_29 (fun q73 H hP hD hS => ?_)
  replace hP : va_P D vwCl [(h0, .inr (9, [.ref q70, .ref q71, .ref q72, .null, .null, .null, .null, .null, .int 0, .int 0, .int 0, .int 0])), (q70, .inl (K 1, 40, .inl (fun _ => 0))), (q71, .inl (K 1, 10, .inl (fun _ => 0))), (q72, .inl (K 1, 4, .inl (fun _ => 0))), (q73, .inl (K 1, 4, .inl (fun _ => 0)))] H := hP
  replace hD : va_D A [(h0, .inr (9, [.ref q70, .ref q71, .ref q72, .null, .null, .null, .null, .null, .int 0, .int 0, .int 0, .int 0])), (q70, .inl (K 1, 40, .inl (fun _ => 0))), (q71, .inl (K 1, 10, .inl (fun _ => 0))), (q72, .inl (K 1, 4, .inl (fun _ => 0))), (q73, .inl (K 1, 4, .inl (fun _ => 0)))] := hD
  refine W.widen (k := 4) (n := 58) (by decide) (by decide) ?_
  refine va_putF (D := D) (ci := 9) (v := .ref q73) (ty := .array .int) (C := RX10) (T := TX10) (N := 12) hx hb hts in_X10 tyX10 tyX10_ok nmX10 hown hE.1 hP hD hS 0 rfl rfl 3 (by decide) (hts _ w_249) (fun _ h9 => h9) rfl hin rfl (by decide +kernel) rfl rfl (Nat.le_of_ble_eq_true rfl) dX10_init_31 (fun H locs hP hD hS => ?_)
  replace hP : va_P D vwCl [(h0, .inr (9, [.ref q70, .ref q71, .ref q72, .ref q73, .null, .null, .null, .null, .int 0, .int 0, .int 0, .int 0])), (q70, .inl (K 1, 40, .inl (fun _ => 0))), (q71, .inl (K 1, 10, .inl (fun _ => 0))), (q72, .inl (K 1, 4, .inl (fun _ => 0))), (q73, .inl (K 1, 4, .inl (fun _ => 0)))] H := hP
  replace hD : va_D A [(h0, .inr (9, [.ref q70, .ref q71, .ref q72, .ref q73, .null, .null, .null, .null, .int 0, .int 0, .int 0, .int 0])), (q70, .inl (K 1, 40, .inl (fun _ => 0))), (q71, .inl (K 1, 10, .inl (fun _ => 0))), (q72, .inl (K 1, 4, .inl (fun _ => 0))), (q73, .inl (K 1, 4, .inl (fun _ => 0)))] := hD
  refine lv_aload_n hx hb dX10_init_34 rfl (lv_at hl 0 rfl) ?_
  refine lv_iconst (v := 4) hx hb dX10_init_35 (by decide) ?_
  refine na (a0 := (4, .inl (fun _ => 0))) (ty := .int) hC hE rfl w_245 1 rfl (fun _ _ h => h) hP hD hS hA (fun _ => rfl) (by decide) (by decide) (by decide) (by decide) (by decide) dX10_init_36 (fun q74 H hP hD hS => ?_)
  replace hP : va_P D vwCl [(h0, .inr (9, [.ref q70, .ref q71, .ref q72, .ref q73, .null, .null, .null, .null, .int 0, .int 0, .int 0, .int 0])), (q70, .inl (K 1, 40, .inl (fun _ => 0))), (q71, .inl (K 1, 10, .inl (fun _ => 0))), (q72, .inl (K 1, 4, .inl (fun _ => 0))), (q73, .inl (K 1, 4, .inl (fun _ => 0))), (q74, .inl (K 1, 4, .inl (fun _ => 0)))] H := hP
  replace hD : va_D A [(h0, .inr (9, [.ref q70, .ref q71, .ref q72, .ref q73, .null, .null, .null, .null, .int 0, .int 0, .int 0, .int 0])), (q70, .inl (K 1, 40, .inl (fun _ => 0))), (q71, .inl (K 1, 10, .inl (fun _ => 0))), (q72, .inl (K 1, 4, .inl (fun _ => 0))), (q73, .inl (K 1, 4, .inl (fun _ => 0))), (q74, .inl (K 1, 4, .inl (fun _ => 0)))] := hD
  refine W.widen (k := 5) (n := 62) (by decide) (by decide) ?_
  refine va_putF (D := D) (ci := 9) (v := .ref q74) (ty := .array .int) (C := RX10) (T := TX10) (N := 12) hx hb hts in_X10 tyX10 tyX10_ok nmX10 hown hE.1 hP hD hS 0 rfl rfl 4 (by decide) (hts _ w_250) (fun _ h9 => h9) rfl hin rfl (by decide +kernel) rfl rfl (Nat.le_of_ble_eq_true rfl) dX10_init_38 (fun H locs hP hD hS => ?_)
  replace hP : va_P D vwCl [(h0, .inr (9, [.ref q70, .ref q71, .ref q72, .ref q73, .ref q74, .null, .null, .null, .int 0, .int 0, .int 0, .int 0])), (q70, .inl (K 1, 40, .inl (fun _ => 0))), (q71, .inl (K 1, 10, .inl (fun _ => 0))), (q72, .inl (K 1, 4, .inl (fun _ => 0))), (q73, .inl (K 1, 4, .inl (fun _ => 0))), (q74, .inl (K 1, 4, .inl (fun _ => 0)))] H := hP
  replace hD : va_D A [(h0, .inr (9, [.ref q70, .ref q71, .ref q72, .ref q73, .ref q74, .null, .null, .null, .int 0, .int 0, .int 0, .int 0])), (q70, .inl (K 1, 40, .inl (fun _ => 0))), (q71, .inl (K 1, 10, .inl (fun _ => 0))), (q72, .inl (K 1, 4, .inl (fun _ => 0))), (q73, .inl (K 1, 4, .inl (fun _ => 0))), (q74, .inl (K 1, 4, .inl (fun _ => 0)))] := hD
  refine lv_aload_n hx hb dX10_init_41 rfl (lv_at hl 0 rfl) ?_
  refine lv_iconst (v := 5) hx hb dX10_init_42 (by decide) ?_
  refine na (a0 := (5, .inl (fun _ => 0))) (ty := .int) hC hE rfl w_245 1 rfl (fun _ _ h => h) hP hD hS hA (fun _ => rfl) (by decide) (by decide) (by decide) (by decide) (by decide) dX10_init_43 (fun q75 H hP hD hS => ?_)
  replace hP : va_P D vwCl [(h0, .inr (9, [.ref q70, .ref q71, .ref q72, .ref q73, .ref q74, .null, .null, .null, .int 0, .int 0, .int 0, .int 0])), (q70, .inl (K 1, 40, .inl (fun _ => 0))), (q71, .inl (K 1, 10, .inl (fun _ => 0))), (q72, .inl (K 1, 4, .inl (fun _ => 0))), (q73, .inl (K 1, 4, .inl (fun _ => 0))), (q74, .inl (K 1, 4, .inl (fun _ => 0))), (q75, .inl (K 1, 5, .inl (fun _ => 0)))] H := hP
  replace hD : va_D A [(h0, .inr (9, [.ref q70, .ref q71, .ref q72, .ref q73, .ref q74, .null, .null, .null, .int 0, .int 0, .int 0, .int 0])), (q70, .inl (K 1, 40, .inl (fun _ => 0))), (q71, .inl (K 1, 10, .inl (fun _ => 0))), (q72, .inl (K 1, 4, .inl (fun _ => 0))), (q73, .inl (K 1, 4, .inl (fun _ => 0))), (q74, .inl (K 1, 4, .inl (fun _ => 0))), (q75, .inl (K 1, 5, .inl (fun _ => 0)))] := hD
  refine W.widen (k := 6) (n := 67) (by decide) (by decide) ?_
  refine va_putF (D := D) (ci := 9) (v := .ref q75) (ty := .array .int) (C := RX10) (T := TX10) (N := 12) hx hb hts in_X10 tyX10 tyX10_ok nmX10 hown hE.1 hP hD hS 0 rfl rfl 5 (by decide) (hts _ w_251) (fun _ h9 => h9) rfl hin rfl (by decide +kernel) rfl rfl (Nat.le_of_ble_eq_true rfl) dX10_init_45 (fun H locs hP hD hS => ?_)
  replace hP : va_P D vwCl [(h0, .inr (9, [.ref q70, .ref q71, .ref q72, .ref q73, .ref q74, .ref q75, .null, .null, .int 0, .int 0, .int 0, .int 0])), (q70, .inl (K 1, 40, .inl (fun _ => 0))), (q71, .inl (K 1, 10, .inl (fun _ => 0))), (q72, .inl (K 1, 4, .inl (fun _ => 0))), (q73, .inl (K 1, 4, .inl (fun _ => 0))), (q74, .inl (K 1, 4, .inl (fun _ => 0))), (q75, .inl (K 1, 5, .inl (fun _ => 0)))] H := hP
  replace hD : va_D A [(h0, .inr (9, [.ref q70, .ref q71, .ref q72, .ref q73, .ref q74, .ref q75, .null, .null, .int 0, .int 0, .int 0, .int 0])), (q70, .inl (K 1, 40, .inl (fun _ => 0))), (q71, .inl (K 1, 10, .inl (fun _ => 0))), (q72, .inl (K 1, 4, .inl (fun _ => 0))), (q73, .inl (K 1, 4, .inl (fun _ => 0))), (q74, .inl (K 1, 4, .inl (fun _ => 0))), (q75, .inl (K 1, 5, .inl (fun _ => 0)))] := hD
  refine lv_aload_n hx hb dX10_init_48 rfl (lv_at hl 0 rfl) ?_
  refine lv_iconst (v := 5) hx hb dX10_init_49 (by decide) ?_
  refine na (a0 := (5, .inl (fun _ => 0))) (ty := .int) hC hE rfl w_245 1 rfl (fun _ _ h => h) hP hD hS hA (fun _ => rfl) (by decide) (by decide) (by decide) (by decide) (by decide) dX10_init_50 (fun q76 H hP hD hS => ?_)
  replace hP : va_P D vwCl [(h0, .inr (9, [.ref q70, .ref q71, .ref q72, .ref q73, .ref q74, .ref q75, .null, .null, .int 0, .int 0, .int 0, .int 0])), (q70, .inl (K 1, 40, .inl (fun _ => 0))), (q71, .inl (K 1, 10, .inl (fun _ => 0))), (q72, .inl (K 1, 4, .inl (fun _ => 0))), (q73, .inl (K 1, 4, .inl (fun _ => 0))), (q74, .inl (K 1, 4, .inl (fun _ => 0))), (q75, .inl (K 1, 5, .inl (fun _ => 0))), (q76, .inl (K 1, 5, .inl (fun _ => 0)))] H := hP
  replace hD : va_D A [(h0, .inr (9, [.ref q70, .ref q71, .ref q72, .ref q73, .ref q74, .ref q75, .null, .null, .int 0, .int 0, .int 0, .int 0])), (q70, .inl (K 1, 40, .inl (fun _ => 0))), (q71, .inl (K 1, 10, .inl (fun _ => 0))), (q72, .inl (K 1, 4, .inl (fun _ => 0))), (q73, .inl (K 1, 4, .inl (fun _ => 0))), (q74, .inl (K 1, 4, .inl (fun _ => 0))), (q75, .inl (K 1, 5, .inl (fun _ => 0))), (q76, .inl (K 1, 5, .inl (fun _ => 0)))] := hD
  refine W.widen (k := 7) (n := 72) (by decide) (by decide) ?_
  refine va_putF (D := D) (ci := 9) (v := .ref q76) (ty := .array .int) (C := RX10) (T := TX10) (N := 12) hx hb hts in_X10 tyX10 tyX10_ok nmX10 hown hE.1 hP hD hS 0 rfl rfl 6 (by decide) (hts _ w_252) (fun _ h9 => h9) rfl hin rfl (by decide +kernel) rfl rfl (Nat.le_of_ble_eq_true rfl) dX10_init_52 (fun H locs hP hD hS => ?_)
  replace hP : va_P D vwCl [(h0, .inr (9, [.ref q70, .ref q71, .ref q72, .ref q73, .ref q74, .ref q75, .ref q76, .null, .int 0, .int 0, .int 0, .int 0])), (q70, .inl (K 1, 40, .inl (fun _ => 0))), (q71, .inl (K 1, 10, .inl (fun _ => 0))), (q72, .inl (K 1, 4, .inl (fun _ => 0))), (q73, .inl (K 1, 4, .inl (fun _ => 0))), (q74, .inl (K 1, 4, .inl (fun _ => 0))), (q75, .inl (K 1, 5, .inl (fun _ => 0))), (q76, .inl (K 1, 5, .inl (fun _ => 0)))] H := hP
  replace hD : va_D A [(h0, .inr (9, [.ref q70, .ref q71, .ref q72, .ref q73, .ref q74, .ref q75, .ref q76, .null, .int 0, .int 0, .int 0, .int 0])), (q70, .inl (K 1, 40, .inl (fun _ => 0))), (q71, .inl (K 1, 10, .inl (fun _ => 0))), (q72, .inl (K 1, 4, .inl (fun _ => 0))), (q73, .inl (K 1, 4, .inl (fun _ => 0))), (q74, .inl (K 1, 4, .inl (fun _ => 0))), (q75, .inl (K 1, 5, .inl (fun _ => 0))), (q76, .inl (K 1, 5, .inl (fun _ => 0)))] := hD
  refine lv_aload_n hx hb dX10_init_55 rfl (lv_at hl 0 rfl) ?_
  refine lv_iconst (v := 5) hx hb dX10_init_56 (by decide) ?_
  refine na (a0 := (5, .inl (fun _ => 0))) (ty := .int) hC hE rfl w_245 1 rfl (fun _ _ h => h) hP hD hS hA (fun _ => rfl) (by decide) (by decide) (by decide) (by decide) (by decide) dX10_init_57 (fun q77 H hP hD hS => ?_)
  replace hP : va_P D vwCl [(h0, .inr (9, [.ref q70, .ref q71, .ref q72, .ref q73, .ref q74, .ref q75, .ref q76, .null, .int 0, .int 0, .int 0, .int 0])), (q70, .inl (K 1, 40, .inl (fun _ => 0))), (q71, .inl (K 1, 10, .inl (fun _ => 0))), (q72, .inl (K 1, 4, .inl (fun _ => 0))), (q73, .inl (K 1, 4, .inl (fun _ => 0))), (q74, .inl (K 1, 4, .inl (fun _ => 0))), (q75, .inl (K 1, 5, .inl (fun _ => 0))), (q76, .inl (K 1, 5, .inl (fun _ => 0))), (q77, .inl (K 1, 5, .inl (fun _ => 0)))] H := hP
  replace hD : va_D A [(h0, .inr (9, [.ref q70, .ref q71, .ref q72, .ref q73, .ref q74, .ref q75, .ref q76, .null, .int 0, .int 0, .int 0, .int 0])), (q70, .inl (K 1, 40, .inl (fun _ => 0))), (q71, .inl (K 1, 10, .inl (fun _ => 0))), (q72, .inl (K 1, 4, .inl (fun _ => 0))), (q73, .inl (K 1, 4, .inl (fun _ => 0))), (q74, .inl (K 1, 4, .inl (fun _ => 0))), (q75, .inl (K 1, 5, .inl (fun _ => 0))), (q76, .inl (K 1, 5, .inl (fun _ => 0))), (q77, .inl (K 1, 5, .inl (fun _ => 0)))] := hD
  refine W.widen (k := 8) (n := 77) (by decide) (by decide) ?_
  refine va_putF (D := D) (ci := 9) (v := .ref q77) (ty := .array .int) (C := RX10) (T := TX10) (N := 12) hx hb hts in_X10 tyX10 tyX10_ok nmX10 hown hE.1 hP hD hS 0 rfl rfl 7 (by decide) (hts _ w_253) (fun _ h9 => h9) rfl hin rfl (by decide +kernel) rfl rfl (Nat.le_of_ble_eq_true rfl) dX10_init_59 (fun H locs hP hD hS => ?_)
  replace hP : va_P D vwCl [(h0, .inr (9, [.ref q70, .ref q71, .ref q72, .ref q73, .ref q74, .ref q75, .ref q76, .ref q77, .int 0, .int 0, .int 0, .int 0])), (q70, .inl (K 1, 40, .inl (fun _ => 0))), (q71, .inl (K 1, 10, .inl (fun _ => 0))), (q72, .inl (K 1, 4, .inl (fun _ => 0))), (q73, .inl (K 1, 4, .inl (fun _ => 0))), (q74, .inl (K 1, 4, .inl (fun _ => 0))), (q75, .inl (K 1, 5, .inl (fun _ => 0))), (q76, .inl (K 1, 5, .inl (fun _ => 0))), (q77, .inl (K 1, 5, .inl (fun _ => 0)))] H := hP
  replace hD : va_D A [(h0, .inr (9, [.ref q70, .ref q71, .ref q72, .ref q73, .ref q74, .ref q75, .ref q76, .ref q77, .int 0, .int 0, .int 0, .int 0])), (q70, .inl (K 1, 40, .inl (fun _ => 0))), (q71, .inl (K 1, 10, .inl (fun _ => 0))), (q72, .inl (K 1, 4, .inl (fun _ => 0))), (q73, .inl (K 1, 4, .inl (fun _ => 0))), (q74, .inl (K 1, 4, .inl (fun _ => 0))), (q75, .inl (K 1, 5, .inl (fun _ => 0))), (q76, .inl (K 1, 5, .inl (fun _ => 0))), (q77, .inl (K 1, 5, .inl (fun _ => 0)))] := hD
  refine W.widen (k := 8) (n := 77) (by decide) (by decide) ?_
  exact ch_vret hC hr hk hS dX10_init_62 (fun k => [q70, q71, q72, q73, q74, q75, q76, q77].getD k 0) trivial (hP.sub [0, 1, 2, 3, 4, 5, 6, 7, 8] rfl) (hD.sub [0, 1, 2, 3, 4, 5, 6, 7, 8] (by decide) rfl)
set_option maxRecDepth 40000 in
set_option maxHeartbeats 4000000 in
theorem c_X4_init (l : Launch) (D : va_G) (K : Nat → ClassId) (h0 : Nat) : Cv (S := (Nat → Nat)) l D K yX4_init cX4_init 1 2 32 10 1089 [.ref h0] [(h0, .inr (4, [.null, .int 0, .int 0, .int 0, .null, .int 0, .int 0, .int 0, .int 0, .int 0]))] (fun _ => True) (fun u => [(h0, .inr (4, [.ref (u 0), .int 0, .int 0, .int (-1), .ref (u 1), .int 0, .int 0, .int 0, .int 0, .int 0])), (u 0, .inl (K 0, 1000, .inl (fun _ => 0))), (u 1, .inr (9, [.ref (u 2), .ref (u 3), .ref (u 4), .ref (u 5), .ref (u 6), .ref (u 7), .ref (u 8), .ref (u 9), .int 0, .int 0, .int 0, .int 0])), (u 2, .inl (K 1, 40, .inl (fun _ => 0))), (u 3, .inl (K 1, 10, .inl (fun _ => 0))), (u 4, .inl (K 1, 4, .inl (fun _ => 0))), (u 5, .inl (K 1, 4, .inl (fun _ => 0))), (u 6, .inl (K 1, 4, .inl (fun _ => 0))), (u 7, .inl (K 1, 5, .inl (fun _ => 0))), (u 8, .inl (K 1, 5, .inl (fun _ => 0))), (u 9, .inl (K 1, 5, .inl (fun _ => 0)))]) := by
  intro sz
  refine ch_of (Qc := fun A => va_Qv (S := (Nat → Nat)) (fun _ => True) (chB D A (fun u => [(h0, .inr (4, [.ref (u 0), .int 0, .int 0, .int (-1), .ref (u 1), .int 0, .int 0, .int 0, .int 0, .int 0])), (u 0, .inl (K 0, 1000, .inl (fun _ => 0))), (u 1, .inr (9, [.ref (u 2), .ref (u 3), .ref (u 4), .ref (u 5), .ref (u 6), .ref (u 7), .ref (u 8), .ref (u 9), .int 0, .int 0, .int 0, .int 0])), (u 2, .inl (K 1, 40, .inl (fun _ => 0))), (u 3, .inl (K 1, 10, .inl (fun _ => 0))), (u 4, .inl (K 1, 4, .inl (fun _ => 0))), (u 5, .inl (K 1, 4, .inl (fun _ => 0))), (u 6, .inl (K 1, 4, .inl (fun _ => 0))), (u 7, .inl (K 1, 5, .inl (fun _ => 0))), (u 8, .inl (K 1, 5, .inl (fun _ => 0))), (u 9, .inl (K 1, 5, .inl (fun _ => 0)))])) A) (by decide) (Nat.le_of_ble_eq_true rfl) ?_
  intro p e s m below meth c A hC hr hk hin hE hD hA H locs hP hS ls hl
  replace hC : CallFix p m c cX4_init 1 s [.ref h0].toArray wl RX4 := hC
  have hx := hC.1
  have hb := hC.2.1
  have hml := hC.2.2.1
  have hown := hC.2.2.2.1
  have hts := hC.2.2.2.2
  replace hl : lv_has ls 1 [(0, .ref h0)] := hl
  refine lv_aload_n hx hb dX4_init_0 rfl (lv_at hl 0 rfl) ?_
  refine W.objInit hx hb hown (hts _ w_254) (hts _ w_243) (hts _ w_244) rfl (by rw [hml]; exact hl.1) rfl dX4_init_1 (by decide) (Nat.le_of_ble_eq_true rfl) ?_
  refine W.eq (g2 := F0 m 4 ls []) rfl ?_
  refine lv_aload_n hx hb dX4_init_4 rfl (lv_at hl 0 rfl) ?_
  refine lv_sipush (v := 1000) hx hb dX4_init_5 (by decide) ?_
  refine na (a0 := (1000, .inl (fun _ => 0))) (ty := .byte) hC hE rfl w_255 0 rfl (fun _ _ h => h) hP hD hS hA (fun _ => rfl) (by decide) (by decide) (by decide) (by decide) (by decide) dX4_init_8 (fun q78 H hP hD hS => ?_)
  replace hP : va_P D vwCl [(h0, .inr (4, [.null, .int 0, .int 0, .int 0, .null, .int 0, .int 0, .int 0, .int 0, .int 0])), (q78, .inl (K 0, 1000, .inl (fun _ => 0)))] H := hP
  replace hD : va_D A [(h0, .inr (4, [.null, .int 0, .int 0, .int 0, .null, .int 0, .int 0, .int 0, .int 0, .int 0])), (q78, .inl (K 0, 1000, .inl (fun _ => 0)))] := hD
  refine W.widen (k := 1) (n := 1000) (by decide) (by decide) ?_
  refine va_putF (D := D) (ci := 4) (v := .ref q78) (ty := .array .byte) (C := RX4) (T := TX4) (N := 10) hx hb hts in_X4 tyX4 tyX4_ok nmX4 hown hE.1 hP hD hS 0 rfl rfl 0 (by decide) (hts _ w_256) (fun _ h9 => h9) rfl hin rfl (by decide +kernel) rfl rfl (Nat.le_of_ble_eq_true rfl) dX4_init_10 (fun H locs hP hD hS => ?_)
  replace hP : va_P D vwCl [(h0, .inr (4, [.ref q78, .int 0, .int 0, .int 0, .null, .int 0, .int 0, .int 0, .int 0, .int 0])), (q78, .inl (K 0, 1000, .inl (fun _ => 0)))] H := hP
  replace hD : va_D A [(h0, .inr (4, [.ref q78, .int 0, .int 0, .int 0, .null, .int 0, .int 0, .int 0, .int 0, .int 0])), (q78, .inl (K 0, 1000, .inl (fun _ => 0)))] := hD
  refine lv_aload_n hx hb dX4_init_13 rfl (lv_at hl 0 rfl) ?_
  refine lv_iconst (v := (-1)) hx hb dX4_init_14 (by decide) ?_
  refine va_put (D := D) (ci := 4) (v := .int (-1)) (ty := .int) (C := RX4) (T := TX4) (N := 10) hx hb hts in_X4 tyX4 tyX4_ok nmX4 hown hE.1 hP hD hS 0 rfl rfl 3 (by decide) (hts _ w_257) (fun _ h9 => h9) rfl (by decide +kernel) rfl rfl (Nat.le_of_ble_eq_true rfl) dX4_init_15 (fun H locs hP hD hS => ?_)
  replace hP : va_P D vwCl [(h0, .inr (4, [.ref q78, .int 0, .int 0, .int (-1), .null, .int 0, .int 0, .int 0, .int 0, .int 0])), (q78, .inl (K 0, 1000, .inl (fun _ => 0)))] H := hP
  replace hD : va_D A [(h0, .inr (4, [.ref q78, .int 0, .int 0, .int (-1), .null, .int 0, .int 0, .int 0, .int 0, .int 0])), (q78, .inl (K 0, 1000, .inl (fun _ => 0)))] := hD
  refine lv_aload_n hx hb dX4_init_18 rfl (lv_at hl 0 rfl) ?_
  refine va_new (ci := 9) (fs := [.null, .null, .null, .null, .null, .null, .null, .null, .int 0, .int 0, .int 0, .int 0]) (C := RX10) (T := TX10) (N := 12) hx hb hts in_X10 tyX10 tyX10_ok hown (hts _ w_258) (hts _ w_259) (hts _ w_20) hE.1 hP hD hS hA rfl (bd_X10) (by decide) (by decide) dX4_init_19 (fun q79 H hP hD hS => ?_)
  replace hP : va_P D vwCl [(h0, .inr (4, [.ref q78, .int 0, .int 0, .int (-1), .null, .int 0, .int 0, .int 0, .int 0, .int 0])), (q78, .inl (K 0, 1000, .inl (fun _ => 0))), (q79, .inr (9, [.null, .null, .null, .null, .null, .null, .null, .null, .int 0, .int 0, .int 0, .int 0]))] H := hP
  replace hD : va_D A [(h0, .inr (4, [.ref q78, .int 0, .int 0, .int (-1), .null, .int 0, .int 0, .int 0, .int 0, .int 0])), (q78, .inl (K 0, 1000, .inl (fun _ => 0))), (q79, .inr (9, [.null, .null, .null, .null, .null, .null, .null, .null, .int 0, .int 0, .int 0, .int 0]))] := hD
  refine W.widen (k := 2) (n := 1012) (by decide) (by decide) ?_
  refine lv_dup hx hb dX4_init_22 rfl ?_
  refine cv_IN (As := []) (rest := [.ref q79, .ref h0]) (wc := [(q79, .inr (9, [.null, .null, .null, .null, .null, .null, .null, .null, .int 0, .int 0, .int 0, .int 0]))]) (wr := [(h0, .inr (4, [.ref q78, .int 0, .int 0, .int (-1), .null, .int 0, .int 0, .int 0, .int 0, .int 0])), (q78, .inl (K 0, 1000, .inl (fun _ => 0)))]) hC hE kIN_X4_21 (c_X10_init l D K q79) hP hD hS hA [2] [0, 1] rfl rfl rfl (by decide) (by decide) (by decide) rfl hl.1 rfl (Nat.le_of_ble_eq_true rfl) (by decide) (by decide) dX4_init_23 (fun u80 H locs hw hP hD hS => ?_)
  replace hP : va_P D vwCl [(h0, .inr (4, [.ref q78, .int 0, .int 0, .int (-1), .null, .int 0, .int 0, .int 0, .int 0, .int 0])), (q78, .inl (K 0, 1000, .inl (fun _ => 0))), (q79, .inr (9, [.ref (u80 0), .ref (u80 1), .ref (u80 2), .ref (u80 3), .ref (u80 4), .ref (u80 5), .ref (u80 6), .ref (u80 7), .int 0, .int 0, .int 0, .int 0])), (u80 0, .inl (K 1, 40, .inl (fun _ => 0))), (u80 1, .inl (K 1, 10, .inl (fun _ => 0))), (u80 2, .inl (K 1, 4, .inl (fun _ => 0))), (u80 3, .inl (K 1, 4, .inl (fun _ => 0))), (u80 4, .inl (K 1, 4, .inl (fun _ => 0))), (u80 5, .inl (K 1, 5, .inl (fun _ => 0))), (u80 6, .inl (K 1, 5, .inl (fun _ => 0))), (u80 7, .inl (K 1, 5, .inl (fun _ => 0)))] H := hP
  replace hD : va_D A [(h0, .inr (4, [.ref q78, .int 0, .int 0, .int (-1), .null, .int 0, .int 0, .int 0, .int 0, .int 0])), (q78, .inl (K 0, 1000, .inl (fun _ => 0))), (q79, .inr (9, [.ref (u80 0), .ref (u80 1), .ref (u80 2), .ref (u80 3), .ref (u80 4), .ref (u80 5), .ref (u80 6), .ref (u80 7), .int 0, .int 0, .int 0, .int 0])), (u80 0, .inl (K 1, 40, .inl (fun _ => 0))), (u80 1, .inl (K 1, 10, .inl (fun _ => 0))), (u80 2, .inl (K 1, 4, .inl (fun _ => 0))), (u80 3, .inl (K 1, 4, .inl (fun _ => 0))), (u80 4, .inl (K 1, 4, .inl (fun _ => 0))), (u80 5, .inl (K 1, 5, .inl (fun _ => 0))), (u80 6, .inl (K 1, 5, .inl (fun _ => 0))), (u80 7, .inl (K 1, 5, .inl (fun _ => 0)))] := hD
  refine W.widen (k := 10) (n := 1089) (by decide) (by decide) ?_
  refine va_putF (D := D) (ci := 4) (v := .ref q79) (ty := .object "LostWood$Wood") (C := RX4) (T := TX4) (N := 10) hx hb hts in_X4 tyX4 tyX4_ok nmX4 hown hE.1 hP hD hS 0 rfl rfl 4 (by decide) (hts _ w_262) (fun _ h9 => h9) rfl hin rfl (by decide +kernel) rfl rfl (Nat.le_of_ble_eq_true rfl) dX4_init_26 (fun H locs hP hD hS => ?_)
  replace hP : va_P D vwCl [(h0, .inr (4, [.ref q78, .int 0, .int 0, .int (-1), .ref q79, .int 0, .int 0, .int 0, .int 0, .int 0])), (q78, .inl (K 0, 1000, .inl (fun _ => 0))), (q79, .inr (9, [.ref (u80 0), .ref (u80 1), .ref (u80 2), .ref (u80 3), .ref (u80 4), .ref (u80 5), .ref (u80 6), .ref (u80 7), .int 0, .int 0, .int 0, .int 0])), (u80 0, .inl (K 1, 40, .inl (fun _ => 0))), (u80 1, .inl (K 1, 10, .inl (fun _ => 0))), (u80 2, .inl (K 1, 4, .inl (fun _ => 0))), (u80 3, .inl (K 1, 4, .inl (fun _ => 0))), (u80 4, .inl (K 1, 4, .inl (fun _ => 0))), (u80 5, .inl (K 1, 5, .inl (fun _ => 0))), (u80 6, .inl (K 1, 5, .inl (fun _ => 0))), (u80 7, .inl (K 1, 5, .inl (fun _ => 0)))] H := hP
  replace hD : va_D A [(h0, .inr (4, [.ref q78, .int 0, .int 0, .int (-1), .ref q79, .int 0, .int 0, .int 0, .int 0, .int 0])), (q78, .inl (K 0, 1000, .inl (fun _ => 0))), (q79, .inr (9, [.ref (u80 0), .ref (u80 1), .ref (u80 2), .ref (u80 3), .ref (u80 4), .ref (u80 5), .ref (u80 6), .ref (u80 7), .int 0, .int 0, .int 0, .int 0])), (u80 0, .inl (K 1, 40, .inl (fun _ => 0))), (u80 1, .inl (K 1, 10, .inl (fun _ => 0))), (u80 2, .inl (K 1, 4, .inl (fun _ => 0))), (u80 3, .inl (K 1, 4, .inl (fun _ => 0))), (u80 4, .inl (K 1, 4, .inl (fun _ => 0))), (u80 5, .inl (K 1, 5, .inl (fun _ => 0))), (u80 6, .inl (K 1, 5, .inl (fun _ => 0))), (u80 7, .inl (K 1, 5, .inl (fun _ => 0)))] := hD
  refine W.widen (k := 10) (n := 1089) (by decide) (by decide) ?_
  exact ch_vret hC hr hk hS dX4_init_29 (fun k => [q78, q79, (u80 0), (u80 1), (u80 2), (u80 3), (u80 4), (u80 5), (u80 6), (u80 7)].getD k 0) trivial (hP.sub [0, 1, 2, 3, 4, 5, 6, 7, 8, 9, 10] rfl) (hD.sub [0, 1, 2, 3, 4, 5, 6, 7, 8, 9, 10] (by decide) rfl)
set_option maxRecDepth 40000 in
set_option maxHeartbeats 4000000 in
theorem c_X2_init (l : Launch) (D : va_G) (K : Nat → ClassId) (h0 : Nat) : Cv (S := (Nat → Nat)) l D K yX2_init cX2_init 1 1 12 5 188 [.ref h0] [(h0, .inr (2, [.null, .null, .null, .null, .null, .int 0]))] (fun _ => True) (fun u => [(h0, .inr (2, [.ref (u 0), .ref (u 1), .ref (u 2), .ref (u 3), .ref (u 4), .int 0])), (u 0, .inl (K 1, 4, .inl (fun _ => 0))), (u 1, .inl (K 1, 4, .inl (fun _ => 0))), (u 2, .inl (K 1, 60, .inl (fun _ => 0))), (u 3, .inl (K 1, 60, .inl (fun _ => 0))), (u 4, .inl (K 1, 60, .inl (fun _ => 0)))]) := by
  intro sz
  refine ch_of (Qc := fun A => va_Qv (S := (Nat → Nat)) (fun _ => True) (chB D A (fun u => [(h0, .inr (2, [.ref (u 0), .ref (u 1), .ref (u 2), .ref (u 3), .ref (u 4), .int 0])), (u 0, .inl (K 1, 4, .inl (fun _ => 0))), (u 1, .inl (K 1, 4, .inl (fun _ => 0))), (u 2, .inl (K 1, 60, .inl (fun _ => 0))), (u 3, .inl (K 1, 60, .inl (fun _ => 0))), (u 4, .inl (K 1, 60, .inl (fun _ => 0)))])) A) (by decide) (Nat.le_of_ble_eq_true rfl) ?_
  intro p e s m below meth c A hC hr hk hin hE hD hA H locs hP hS ls hl
  replace hC : CallFix p m c cX2_init 1 s [.ref h0].toArray wl RX2 := hC
  have hx := hC.1
  have hb := hC.2.1
  have hml := hC.2.2.1
  have hown := hC.2.2.2.1
  have hts := hC.2.2.2.2
  replace hl : lv_has ls 1 [(0, .ref h0)] := hl
  refine lv_aload_n hx hb dX2_init_0 rfl (lv_at hl 0 rfl) ?_
  refine W.objInit hx hb hown (hts _ w_263) (hts _ w_243) (hts _ w_244) rfl (by rw [hml]; exact hl.1) rfl dX2_init_1 (by decide) (Nat.le_of_ble_eq_true rfl) ?_
  refine W.eq (g2 := F0 m 4 ls []) rfl ?_
  refine lv_aload_n hx hb dX2_init_4 rfl (lv_at hl 0 rfl) ?_
  refine lv_iconst (v := 4) hx hb dX2_init_5 (by decide) ?_
  refine na (a0 := (4, .inl (fun _ => 0))) (ty := .int) hC hE rfl w_245 1 rfl (fun _ _ h => h) hP hD hS hA (fun _ => rfl) (by decide) (by decide) (by decide) (by decide) (by decide) dX2_init_6 (fun q81 H hP hD hS => ?_)
  replace hP : va_P D vwCl [(h0, .inr (2, [.null, .null, .null, .null, .null, .int 0])), (q81, .inl (K 1, 4, .inl (fun _ => 0)))] H := hP
  replace hD : va_D A [(h0, .inr (2, [.null, .null, .null, .null, .null, .int 0])), (q81, .inl (K 1, 4, .inl (fun _ => 0)))] := hD
  refine W.widen (k := 1) (n := 4) (by decide) (by decide) ?_
  refine va_putF (D := D) (ci := 2) (v := .ref q81) (ty := .array .int) (C := RX2) (T := TX2) (N := 6) hx hb hts in_X2 tyX2 tyX2_ok nmX2 hown hE.1 hP hD hS 0 rfl rfl 0 (by decide) (hts _ w_264) (fun _ h9 => h9) rfl hin rfl (by decide +kernel) rfl rfl (Nat.le_of_ble_eq_true rfl) dX2_init_8 (fun H locs hP hD hS => ?_)
  replace hP : va_P D vwCl [(h0, .inr (2, [.ref q81, .null, .null, .null, .null, .int 0])), (q81, .inl (K 1, 4, .inl (fun _ => 0)))] H := hP
  replace hD : va_D A [(h0, .inr (2, [.ref q81, .null, .null, .null, .null, .int 0])), (q81, .inl (K 1, 4, .inl (fun _ => 0)))] := hD
  refine lv_aload_n hx hb dX2_init_11 rfl (lv_at hl 0 rfl) ?_
  refine lv_iconst (v := 4) hx hb dX2_init_12 (by decide) ?_
  refine na (a0 := (4, .inl (fun _ => 0))) (ty := .int) hC hE rfl w_245 1 rfl (fun _ _ h => h) hP hD hS hA (fun _ => rfl) (by decide) (by decide) (by decide) (by decide) (by decide) dX2_init_13 (fun q82 H hP hD hS => ?_)
  replace hP : va_P D vwCl [(h0, .inr (2, [.ref q81, .null, .null, .null, .null, .int 0])), (q81, .inl (K 1, 4, .inl (fun _ => 0))), (q82, .inl (K 1, 4, .inl (fun _ => 0)))] H := hP
  replace hD : va_D A [(h0, .inr (2, [.ref q81, .null, .null, .null, .null, .int 0])), (q81, .inl (K 1, 4, .inl (fun _ => 0))), (q82, .inl (K 1, 4, .inl (fun _ => 0)))] := hD
  refine W.widen (k := 2) (n := 8) (by decide) (by decide) ?_
  refine va_putF (D := D) (ci := 2) (v := .ref q82) (ty := .array .int) (C := RX2) (T := TX2) (N := 6) hx hb hts in_X2 tyX2 tyX2_ok nmX2 hown hE.1 hP hD hS 0 rfl rfl 1 (by decide) (hts _ w_265) (fun _ h9 => h9) rfl hin rfl (by decide +kernel) rfl rfl (Nat.le_of_ble_eq_true rfl) dX2_init_15 (fun H locs hP hD hS => ?_)
  replace hP : va_P D vwCl [(h0, .inr (2, [.ref q81, .ref q82, .null, .null, .null, .int 0])), (q81, .inl (K 1, 4, .inl (fun _ => 0))), (q82, .inl (K 1, 4, .inl (fun _ => 0)))] H := hP
  replace hD : va_D A [(h0, .inr (2, [.ref q81, .ref q82, .null, .null, .null, .int 0])), (q81, .inl (K 1, 4, .inl (fun _ => 0))), (q82, .inl (K 1, 4, .inl (fun _ => 0)))] := hD
  refine lv_aload_n hx hb dX2_init_18 rfl (lv_at hl 0 rfl) ?_
  refine lv_bipush (v := 60) hx hb dX2_init_19 (by decide) ?_
  refine na (a0 := (60, .inl (fun _ => 0))) (ty := .int) hC hE rfl w_245 1 rfl (fun _ _ h => h) hP hD hS hA (fun _ => rfl) (by decide) (by decide) (by decide) (by decide) (by decide) dX2_init_21 (fun q83 H hP hD hS => ?_)
  replace hP : va_P D vwCl [(h0, .inr (2, [.ref q81, .ref q82, .null, .null, .null, .int 0])), (q81, .inl (K 1, 4, .inl (fun _ => 0))), (q82, .inl (K 1, 4, .inl (fun _ => 0))), (q83, .inl (K 1, 60, .inl (fun _ => 0)))] H := hP
  replace hD : va_D A [(h0, .inr (2, [.ref q81, .ref q82, .null, .null, .null, .int 0])), (q81, .inl (K 1, 4, .inl (fun _ => 0))), (q82, .inl (K 1, 4, .inl (fun _ => 0))), (q83, .inl (K 1, 60, .inl (fun _ => 0)))] := hD
  refine W.widen (k := 3) (n := 68) (by decide) (by decide) ?_
  refine va_putF (D := D) (ci := 2) (v := .ref q83) (ty := .array .int) (C := RX2) (T := TX2) (N := 6) hx hb hts in_X2 tyX2 tyX2_ok nmX2 hown hE.1 hP hD hS 0 rfl rfl 2 (by decide) (hts _ w_266) (fun _ h9 => h9) rfl hin rfl (by decide +kernel) rfl rfl (Nat.le_of_ble_eq_true rfl) dX2_init_23 (fun H locs hP hD hS => ?_)
  replace hP : va_P D vwCl [(h0, .inr (2, [.ref q81, .ref q82, .ref q83, .null, .null, .int 0])), (q81, .inl (K 1, 4, .inl (fun _ => 0))), (q82, .inl (K 1, 4, .inl (fun _ => 0))), (q83, .inl (K 1, 60, .inl (fun _ => 0)))] H := hP
  replace hD : va_D A [(h0, .inr (2, [.ref q81, .ref q82, .ref q83, .null, .null, .int 0])), (q81, .inl (K 1, 4, .inl (fun _ => 0))), (q82, .inl (K 1, 4, .inl (fun _ => 0))), (q83, .inl (K 1, 60, .inl (fun _ => 0)))] := hD
  refine lv_aload_n hx hb dX2_init_26 rfl (lv_at hl 0 rfl) ?_
  refine lv_bipush (v := 60) hx hb dX2_init_27 (by decide) ?_
  refine na (a0 := (60, .inl (fun _ => 0))) (ty := .int) hC hE rfl w_245 1 rfl (fun _ _ h => h) hP hD hS hA (fun _ => rfl) (by decide) (by decide) (by decide) (by decide) (by decide) dX2_init_29 (fun q84 H hP hD hS => ?_)
  replace hP : va_P D vwCl [(h0, .inr (2, [.ref q81, .ref q82, .ref q83, .null, .null, .int 0])), (q81, .inl (K 1, 4, .inl (fun _ => 0))), (q82, .inl (K 1, 4, .inl (fun _ => 0))), (q83, .inl (K 1, 60, .inl (fun _ => 0))), (q84, .inl (K 1, 60, .inl (fun _ => 0)))] H := hP
  replace hD : va_D A [(h0, .inr (2, [.ref q81, .ref q82, .ref q83, .null, .null, .int 0])), (q81, .inl (K 1, 4, .inl (fun _ => 0))), (q82, .inl (K 1, 4, .inl (fun _ => 0))), (q83, .inl (K 1, 60, .inl (fun _ => 0))), (q84, .inl (K 1, 60, .inl (fun _ => 0)))] := hD
  refine W.widen (k := 4) (n := 128) (by decide) (by decide) ?_
  refine va_putF (D := D) (ci := 2) (v := .ref q84) (ty := .array .int) (C := RX2) (T := TX2) (N := 6) hx hb hts in_X2 tyX2 tyX2_ok nmX2 hown hE.1 hP hD hS 0 rfl rfl 3 (by decide) (hts _ w_267) (fun _ h9 => h9) rfl hin rfl (by decide +kernel) rfl rfl (Nat.le_of_ble_eq_true rfl) dX2_init_31 (fun H locs hP hD hS => ?_)
  replace hP : va_P D vwCl [(h0, .inr (2, [.ref q81, .ref q82, .ref q83, .ref q84, .null, .int 0])), (q81, .inl (K 1, 4, .inl (fun _ => 0))), (q82, .inl (K 1, 4, .inl (fun _ => 0))), (q83, .inl (K 1, 60, .inl (fun _ => 0))), (q84, .inl (K 1, 60, .inl (fun _ => 0)))] H := hP
  replace hD : va_D A [(h0, .inr (2, [.ref q81, .ref q82, .ref q83, .ref q84, .null, .int 0])), (q81, .inl (K 1, 4, .inl (fun _ => 0))), (q82, .inl (K 1, 4, .inl (fun _ => 0))), (q83, .inl (K 1, 60, .inl (fun _ => 0))), (q84, .inl (K 1, 60, .inl (fun _ => 0)))] := hD
  refine lv_aload_n hx hb dX2_init_34 rfl (lv_at hl 0 rfl) ?_
  refine lv_bipush (v := 60) hx hb dX2_init_35 (by decide) ?_
  refine na (a0 := (60, .inl (fun _ => 0))) (ty := .int) hC hE rfl w_245 1 rfl (fun _ _ h => h) hP hD hS hA (fun _ => rfl) (by decide) (by decide) (by decide) (by decide) (by decide) dX2_init_37 (fun q85 H hP hD hS => ?_)
  replace hP : va_P D vwCl [(h0, .inr (2, [.ref q81, .ref q82, .ref q83, .ref q84, .null, .int 0])), (q81, .inl (K 1, 4, .inl (fun _ => 0))), (q82, .inl (K 1, 4, .inl (fun _ => 0))), (q83, .inl (K 1, 60, .inl (fun _ => 0))), (q84, .inl (K 1, 60, .inl (fun _ => 0))), (q85, .inl (K 1, 60, .inl (fun _ => 0)))] H := hP
  replace hD : va_D A [(h0, .inr (2, [.ref q81, .ref q82, .ref q83, .ref q84, .null, .int 0])), (q81, .inl (K 1, 4, .inl (fun _ => 0))), (q82, .inl (K 1, 4, .inl (fun _ => 0))), (q83, .inl (K 1, 60, .inl (fun _ => 0))), (q84, .inl (K 1, 60, .inl (fun _ => 0))), (q85, .inl (K 1, 60, .inl (fun _ => 0)))] := hD
  refine W.widen (k := 5) (n := 188) (by decide) (by decide) ?_
  refine va_putF (D := D) (ci := 2) (v := .ref q85) (ty := .array .int) (C := RX2) (T := TX2) (N := 6) hx hb hts in_X2 tyX2 tyX2_ok nmX2 hown hE.1 hP hD hS 0 rfl rfl 4 (by decide) (hts _ w_268) (fun _ h9 => h9) rfl hin rfl (by decide +kernel) rfl rfl (Nat.le_of_ble_eq_true rfl) dX2_init_39 (fun H locs hP hD hS => ?_)
  replace hP : va_P D vwCl [(h0, .inr (2, [.ref q81, .ref q82, .ref q83, .ref q84, .ref q85, .int 0])), (q81, .inl (K 1, 4, .inl (fun _ => 0))), (q82, .inl (K 1, 4, .inl (fun _ => 0))), (q83, .inl (K 1, 60, .inl (fun _ => 0))), (q84, .inl (K 1, 60, .inl (fun _ => 0))), (q85, .inl (K 1, 60, .inl (fun _ => 0)))] H := hP
  replace hD : va_D A [(h0, .inr (2, [.ref q81, .ref q82, .ref q83, .ref q84, .ref q85, .int 0])), (q81, .inl (K 1, 4, .inl (fun _ => 0))), (q82, .inl (K 1, 4, .inl (fun _ => 0))), (q83, .inl (K 1, 60, .inl (fun _ => 0))), (q84, .inl (K 1, 60, .inl (fun _ => 0))), (q85, .inl (K 1, 60, .inl (fun _ => 0)))] := hD
  refine W.widen (k := 5) (n := 188) (by decide) (by decide) ?_
  exact ch_vret hC hr hk hS dX2_init_42 (fun k => [q81, q82, q83, q84, q85].getD k 0) trivial (hP.sub [0, 1, 2, 3, 4, 5] rfl) (hD.sub [0, 1, 2, 3, 4, 5] (by decide) rfl)
set_option maxRecDepth 40000 in
set_option maxHeartbeats 4000000 in
theorem c_X9_init (l : Launch) (D : va_G) (K : Nat → ClassId) (h0 : Nat) : Cv (S := Unit) l D K yX9_init cX9_init 1 1 12 0 0 [.ref h0] [(h0, .inr (8, [.int 0, .int 0, .int 0]))] (fun _ => True) (fun _ => []) := by
  intro sz
  refine ch_of (Qc := fun A => va_Qv (S := Unit) (fun _ => True) (chB D A (fun _ => [])) A) (by decide) (Nat.le_of_ble_eq_true rfl) ?_
  intro p e s m below meth c A hC hr hk hin hE hD hA H locs hP hS ls hl
  replace hC : CallFix p m c cX9_init 1 s [.ref h0].toArray wl RX9 := hC
  have hx := hC.1
  have hb := hC.2.1
  have hml := hC.2.2.1
  have hown := hC.2.2.2.1
  have hts := hC.2.2.2.2
  replace hl : lv_has ls 1 [(0, .ref h0)] := hl
  refine lv_aload_n hx hb dX9_init_0 rfl (lv_at hl 0 rfl) ?_
  refine W.objInit hx hb hown (hts _ w_269) (hts _ w_243) (hts _ w_244) rfl (by rw [hml]; exact hl.1) rfl dX9_init_1 (by decide) (Nat.le_of_ble_eq_true rfl) ?_
  refine W.eq (g2 := F0 m 4 ls []) rfl ?_
  refine W.widen (k := 0) (n := 0) (by decide) (by decide) ?_
  exact ch_vret hC hr hk hS dX9_init_4 () trivial (hP.sub [] rfl) (hD.sub [] (by decide) rfl)
set_option maxRecDepth 40000 in
set_option maxHeartbeats 4000000 in
theorem c_J7_fill_4 (l : Launch) (D : va_G) (K : Nat → ClassId) (h0 : Nat) : Cv (S := (Nat → Int32)) l D K yJ7_fill_53178 cJ7_fill_53178 4 0 0 0 0 [.ref h0, .int (-1)] [(h0, .inl (K 1, 4, .inl (fun _ => 0)))] (fun u => ∀ j, j < 4 → u j = -1) (fun u => [(h0, .inl (K 1, 4, .inl u))]) := by
  intro sz
  refine ch_of (Qc := fun A => va_Qv (S := (Nat → Int32)) (fun u => ∀ j, j < 4 → u j = -1) (chB D A (fun u => [(h0, .inl (K 1, 4, .inl u))])) A) (by decide) (Nat.le_of_ble_eq_true rfl) ?_
  intro p e s m below meth c A hC hr hk hin hE hD hA H locs hP hS ls hl
  replace hC : CallFix p m c cJ7_fill_53178 4 s [.ref h0, .int (-1)].toArray wl RJ7 := hC
  have hx := hC.1
  have hb := hC.2.1
  have hml := hC.2.2.1
  have hown := hC.2.2.2.1
  have hts := hC.2.2.2.2
  replace hl : lv_has ls 4 [(0, .ref h0), (1, .int (-1))] := hl
  refine lv_iconst (v := 0) hx hb dJ7_fill_53178_0 (by decide) ?_
  refine lv_istore_n (lv' := [(2, .int 0), (0, .ref h0), (1, .int (-1))]) hx hb dJ7_fill_53178_1 rfl hl (by decide) rfl (fun ls hl => ?_)
  refine lv_aload_n hx hb dJ7_fill_53178_2 rfl (lv_at hl 1 rfl) ?_
  refine va_alen (v := 4) hx hb hE.1 hP 0 1 rfl rfl (show Int32.ofNat 4 = 4 by decide) dJ7_fill_53178_3 ?_
  refine lv_istore_n (lv' := [(3, .int 4), (2, .int 0), (0, .ref h0), (1, .int (-1))]) hx hb dJ7_fill_53178_4 rfl hl (by decide) rfl (fun ls hl => ?_)
  refine lv_iload_n hx hb dJ7_fill_53178_5 rfl (lv_at hl 1 rfl) ?_
  refine lv_iload_n hx hb dJ7_fill_53178_6 rfl (lv_at hl 0 rfl) ?_
  refine lv_icmp_ge (tgt := 20) hx hb dJ7_fill_53178_7 (by decide) (fun h => absurd h (by decide)) (fun _ => ?_)
  refine lv_aload_n hx hb dJ7_fill_53178_10 rfl (lv_at hl 2 rfl) ?_
  refine lv_iload_n hx hb dJ7_fill_53178_11 rfl (lv_at hl 1 rfl) ?_
  refine lv_iload_n hx hb dJ7_fill_53178_12 rfl (lv_at hl 3 rfl) ?_
  refine va_iast hx hb hE.1 hP hD hS 0 1 rfl rfl (in_c (by decide)) dJ7_fill_53178_13 (fun H locs hP hD hS => ?_)
  replace hP : va_P D vwCl [(h0, .inl (K 1, 4, .inl (upd (fun _ => 0) (0 : Int32).toNatClampNeg (-1))))] H := hP
  replace hD : va_D A [(h0, .inl (K 1, 4, .inl (upd (fun _ => 0) (0 : Int32).toNatClampNeg (-1))))] := hD
  refine lv_iinc (v := 1) (lv' := [(2, .int 1), (3, .int 4), (0, .ref h0), (1, .int (-1))]) hx hb dJ7_fill_53178_14 hl (k := 1) rfl (by decide) (by decide) rfl (fun ls hl => ?_)
  refine lv_goto (tgt := 5) hx hb dJ7_fill_53178_17 (by decide) ?_
  refine lv_iload_n hx hb dJ7_fill_53178_5 rfl (lv_at hl 0 rfl) ?_
  refine lv_iload_n hx hb dJ7_fill_53178_6 rfl (lv_at hl 1 rfl) ?_
  refine lv_icmp_ge (tgt := 20) hx hb dJ7_fill_53178_7 (by decide) (fun h => absurd h (by decide)) (fun _ => ?_)
  refine lv_aload_n hx hb dJ7_fill_53178_10 rfl (lv_at hl 2 rfl) ?_
  refine lv_iload_n hx hb dJ7_fill_53178_11 rfl (lv_at hl 0 rfl) ?_
  refine lv_iload_n hx hb dJ7_fill_53178_12 rfl (lv_at hl 3 rfl) ?_
  refine va_iast hx hb hE.1 hP hD hS 0 1 rfl rfl (in_c (by decide)) dJ7_fill_53178_13 (fun H locs hP hD hS => ?_)
  replace hP : va_P D vwCl [(h0, .inl (K 1, 4, .inl (upd (upd (fun _ => 0) (0 : Int32).toNatClampNeg (-1)) (1 : Int32).toNatClampNeg (-1))))] H := hP
  replace hD : va_D A [(h0, .inl (K 1, 4, .inl (upd (upd (fun _ => 0) (0 : Int32).toNatClampNeg (-1)) (1 : Int32).toNatClampNeg (-1))))] := hD
  refine lv_iinc (v := 2) (lv' := [(2, .int 2), (3, .int 4), (0, .ref h0), (1, .int (-1))]) hx hb dJ7_fill_53178_14 hl (k := 0) rfl (by decide) (by decide) rfl (fun ls hl => ?_)
  refine lv_goto (tgt := 5) hx hb dJ7_fill_53178_17 (by decide) ?_
  refine lv_iload_n hx hb dJ7_fill_53178_5 rfl (lv_at hl 0 rfl) ?_
  refine lv_iload_n hx hb dJ7_fill_53178_6 rfl (lv_at hl 1 rfl) ?_
  refine lv_icmp_ge (tgt := 20) hx hb dJ7_fill_53178_7 (by decide) (fun h => absurd h (by decide)) (fun _ => ?_)
  refine lv_aload_n hx hb dJ7_fill_53178_10 rfl (lv_at hl 2 rfl) ?_
  refine lv_iload_n hx hb dJ7_fill_53178_11 rfl (lv_at hl 0 rfl) ?_
  refine lv_iload_n hx hb dJ7_fill_53178_12 rfl (lv_at hl 3 rfl) ?_
  refine va_iast hx hb hE.1 hP hD hS 0 1 rfl rfl (in_c (by decide)) dJ7_fill_53178_13 (fun H locs hP hD hS => ?_)
  replace hP : va_P D vwCl [(h0, .inl (K 1, 4, .inl (upd (upd (upd (fun _ => 0) (0 : Int32).toNatClampNeg (-1)) (1 : Int32).toNatClampNeg (-1)) (2 : Int32).toNatClampNeg (-1))))] H := hP
  replace hD : va_D A [(h0, .inl (K 1, 4, .inl (upd (upd (upd (fun _ => 0) (0 : Int32).toNatClampNeg (-1)) (1 : Int32).toNatClampNeg (-1)) (2 : Int32).toNatClampNeg (-1))))] := hD
  refine lv_iinc (v := 3) (lv' := [(2, .int 3), (3, .int 4), (0, .ref h0), (1, .int (-1))]) hx hb dJ7_fill_53178_14 hl (k := 0) rfl (by decide) (by decide) rfl (fun ls hl => ?_)
  refine lv_goto (tgt := 5) hx hb dJ7_fill_53178_17 (by decide) ?_
  refine lv_iload_n hx hb dJ7_fill_53178_5 rfl (lv_at hl 0 rfl) ?_
  refine lv_iload_n hx hb dJ7_fill_53178_6 rfl (lv_at hl 1 rfl) ?_
  refine lv_icmp_ge (tgt := 20) hx hb dJ7_fill_53178_7 (by decide) (fun h => absurd h (by decide)) (fun _ => ?_)
  refine lv_aload_n hx hb dJ7_fill_53178_10 rfl (lv_at hl 2 rfl) ?_
  refine lv_iload_n hx hb dJ7_fill_53178_11 rfl (lv_at hl 0 rfl) ?_
  refine lv_iload_n hx hb dJ7_fill_53178_12 rfl (lv_at hl 3 rfl) ?_
  refine va_iast hx hb hE.1 hP hD hS 0 1 rfl rfl (in_c (by decide)) dJ7_fill_53178_13 (fun H locs hP hD hS => ?_)
  replace hP : va_P D vwCl [(h0, .inl (K 1, 4, .inl (upd (upd (upd (upd (fun _ => 0) (0 : Int32).toNatClampNeg (-1)) (1 : Int32).toNatClampNeg (-1)) (2 : Int32).toNatClampNeg (-1)) (3 : Int32).toNatClampNeg (-1))))] H := hP
  replace hD : va_D A [(h0, .inl (K 1, 4, .inl (upd (upd (upd (upd (fun _ => 0) (0 : Int32).toNatClampNeg (-1)) (1 : Int32).toNatClampNeg (-1)) (2 : Int32).toNatClampNeg (-1)) (3 : Int32).toNatClampNeg (-1))))] := hD
  refine lv_iinc (v := 4) (lv' := [(2, .int 4), (3, .int 4), (0, .ref h0), (1, .int (-1))]) hx hb dJ7_fill_53178_14 hl (k := 0) rfl (by decide) (by decide) rfl (fun ls hl => ?_)
  refine lv_goto (tgt := 5) hx hb dJ7_fill_53178_17 (by decide) ?_
  refine lv_iload_n hx hb dJ7_fill_53178_5 rfl (lv_at hl 0 rfl) ?_
  refine lv_iload_n hx hb dJ7_fill_53178_6 rfl (lv_at hl 1 rfl) ?_
  refine lv_icmp_ge (tgt := 20) hx hb dJ7_fill_53178_7 (by decide) (fun _ => ?_) (fun h => absurd h (by decide))
  refine W.widen (k := 0) (n := 0) (by decide) (by decide) ?_
  exact ch_vret hC hr hk hS dJ7_fill_53178_20 (upd (upd (upd (upd (fun _ => 0) (0 : Int32).toNatClampNeg (-1)) (1 : Int32).toNatClampNeg (-1)) (2 : Int32).toNatClampNeg (-1)) (3 : Int32).toNatClampNeg (-1)) (fun j hj => by rcases (show j = 0 ∨ j = 1 ∨ j = 2 ∨ j = 3 by omega) with rfl | rfl | rfl | rfl <;> rfl) (hP.sub [0] rfl) (hD.sub [0] (by decide) rfl)
set_option maxRecDepth 40000 in
set_option maxHeartbeats 4000000 in
theorem c_J7_fill_10 (l : Launch) (D : va_G) (K : Nat → ClassId) (h0 : Nat) : Cv (S := Unit) l D K yJ7_fill_53178 cJ7_fill_53178 4 0 0 0 0 [.ref h0, .int 0] [(h0, .inl (K 1, 10, .inl (fun _ => 0)))] (fun _ => True) (fun u => [(h0, .inl (K 1, 10, .inl (fun _ => 0)))]) := by
  intro sz
  refine ch_of (Qc := fun A => va_Qv (S := Unit) (fun _ => True) (chB D A (fun u => [(h0, .inl (K 1, 10, .inl (fun _ => 0)))])) A) (by decide) (Nat.le_of_ble_eq_true rfl) ?_
  intro p e s m below meth c A hC hr hk hin hE hD hA H locs hP hS ls hl
  replace hC : CallFix p m c cJ7_fill_53178 4 s [.ref h0, .int 0].toArray wl RJ7 := hC
  have hx := hC.1
  have hb := hC.2.1
  have hml := hC.2.2.1
  have hown := hC.2.2.2.1
  have hts := hC.2.2.2.2
  replace hl : lv_has ls 4 [(0, .ref h0), (1, .int 0)] := hl
  refine lv_iconst (v := 0) hx hb dJ7_fill_53178_0 (by decide) ?_
  refine lv_istore_n (lv' := [(2, .int 0), (0, .ref h0), (1, .int 0)]) hx hb dJ7_fill_53178_1 rfl hl (by decide) rfl (fun ls hl => ?_)
  refine lv_aload_n hx hb dJ7_fill_53178_2 rfl (lv_at hl 1 rfl) ?_
  refine va_alen (v := 10) hx hb hE.1 hP 0 1 rfl rfl (show Int32.ofNat 10 = 10 by decide) dJ7_fill_53178_3 ?_
  refine lv_istore_n (lv' := [(3, .int 10), (2, .int 0), (0, .ref h0), (1, .int 0)]) hx hb dJ7_fill_53178_4 rfl hl (by decide) rfl (fun ls hl => ?_)
  refine lv_iload_n hx hb dJ7_fill_53178_5 rfl (lv_at hl 1 rfl) ?_
  refine lv_iload_n hx hb dJ7_fill_53178_6 rfl (lv_at hl 0 rfl) ?_
  refine lv_icmp_ge (tgt := 20) hx hb dJ7_fill_53178_7 (by decide) (fun h => absurd h (by decide)) (fun _ => ?_)
  refine lv_aload_n hx hb dJ7_fill_53178_10 rfl (lv_at hl 2 rfl) ?_
  refine lv_iload_n hx hb dJ7_fill_53178_11 rfl (lv_at hl 1 rfl) ?_
  refine lv_iload_n hx hb dJ7_fill_53178_12 rfl (lv_at hl 3 rfl) ?_
  refine sti0 hx hb hE.1 hP hD hS 0 1 rfl rfl (in_c (by decide)) dJ7_fill_53178_13 (fun H locs hP hD hS => ?_)
  replace hP : va_P D vwCl [(h0, .inl (K 1, 10, .inl (fun _ => 0)))] H := hP
  replace hD : va_D A [(h0, .inl (K 1, 10, .inl (fun _ => 0)))] := hD
  refine lv_iinc (v := 1) (lv' := [(2, .int 1), (3, .int 10), (0, .ref h0), (1, .int 0)]) hx hb dJ7_fill_53178_14 hl (k := 1) rfl (by decide) (by decide) rfl (fun ls hl => ?_)
  refine lv_goto (tgt := 5) hx hb dJ7_fill_53178_17 (by decide) ?_
  refine lv_iload_n hx hb dJ7_fill_53178_5 rfl (lv_at hl 0 rfl) ?_
  refine lv_iload_n hx hb dJ7_fill_53178_6 rfl (lv_at hl 1 rfl) ?_
  refine lv_icmp_ge (tgt := 20) hx hb dJ7_fill_53178_7 (by decide) (fun h => absurd h (by decide)) (fun _ => ?_)
  refine lv_aload_n hx hb dJ7_fill_53178_10 rfl (lv_at hl 2 rfl) ?_
  refine lv_iload_n hx hb dJ7_fill_53178_11 rfl (lv_at hl 0 rfl) ?_
  refine lv_iload_n hx hb dJ7_fill_53178_12 rfl (lv_at hl 3 rfl) ?_
  refine sti0 hx hb hE.1 hP hD hS 0 1 rfl rfl (in_c (by decide)) dJ7_fill_53178_13 (fun H locs hP hD hS => ?_)
  replace hP : va_P D vwCl [(h0, .inl (K 1, 10, .inl (fun _ => 0)))] H := hP
  replace hD : va_D A [(h0, .inl (K 1, 10, .inl (fun _ => 0)))] := hD
  refine lv_iinc (v := 2) (lv' := [(2, .int 2), (3, .int 10), (0, .ref h0), (1, .int 0)]) hx hb dJ7_fill_53178_14 hl (k := 0) rfl (by decide) (by decide) rfl (fun ls hl => ?_)
  refine lv_goto (tgt := 5) hx hb dJ7_fill_53178_17 (by decide) ?_
  refine lv_iload_n hx hb dJ7_fill_53178_5 rfl (lv_at hl 0 rfl) ?_
  refine lv_iload_n hx hb dJ7_fill_53178_6 rfl (lv_at hl 1 rfl) ?_
  refine lv_icmp_ge (tgt := 20) hx hb dJ7_fill_53178_7 (by decide) (fun h => absurd h (by decide)) (fun _ => ?_)
  refine lv_aload_n hx hb dJ7_fill_53178_10 rfl (lv_at hl 2 rfl) ?_
  refine lv_iload_n hx hb dJ7_fill_53178_11 rfl (lv_at hl 0 rfl) ?_
  refine lv_iload_n hx hb dJ7_fill_53178_12 rfl (lv_at hl 3 rfl) ?_
  refine sti0 hx hb hE.1 hP hD hS 0 1 rfl rfl (in_c (by decide)) dJ7_fill_53178_13 (fun H locs hP hD hS => ?_)
  replace hP : va_P D vwCl [(h0, .inl (K 1, 10, .inl (fun _ => 0)))] H := hP
  replace hD : va_D A [(h0, .inl (K 1, 10, .inl (fun _ => 0)))] := hD
  refine lv_iinc (v := 3) (lv' := [(2, .int 3), (3, .int 10), (0, .ref h0), (1, .int 0)]) hx hb dJ7_fill_53178_14 hl (k := 0) rfl (by decide) (by decide) rfl (fun ls hl => ?_)
  refine lv_goto (tgt := 5) hx hb dJ7_fill_53178_17 (by decide) ?_
  refine lv_iload_n hx hb dJ7_fill_53178_5 rfl (lv_at hl 0 rfl) ?_
  refine lv_iload_n hx hb dJ7_fill_53178_6 rfl (lv_at hl 1 rfl) ?_
  refine lv_icmp_ge (tgt := 20) hx hb dJ7_fill_53178_7 (by decide) (fun h => absurd h (by decide)) (fun _ => ?_)
  refine lv_aload_n hx hb dJ7_fill_53178_10 rfl (lv_at hl 2 rfl) ?_
  refine lv_iload_n hx hb dJ7_fill_53178_11 rfl (lv_at hl 0 rfl) ?_
  refine lv_iload_n hx hb dJ7_fill_53178_12 rfl (lv_at hl 3 rfl) ?_
  refine sti0 hx hb hE.1 hP hD hS 0 1 rfl rfl (in_c (by decide)) dJ7_fill_53178_13 (fun H locs hP hD hS => ?_)
  replace hP : va_P D vwCl [(h0, .inl (K 1, 10, .inl (fun _ => 0)))] H := hP
  replace hD : va_D A [(h0, .inl (K 1, 10, .inl (fun _ => 0)))] := hD
  refine lv_iinc (v := 4) (lv' := [(2, .int 4), (3, .int 10), (0, .ref h0), (1, .int 0)]) hx hb dJ7_fill_53178_14 hl (k := 0) rfl (by decide) (by decide) rfl (fun ls hl => ?_)
  refine lv_goto (tgt := 5) hx hb dJ7_fill_53178_17 (by decide) ?_
  refine lv_iload_n hx hb dJ7_fill_53178_5 rfl (lv_at hl 0 rfl) ?_
  refine lv_iload_n hx hb dJ7_fill_53178_6 rfl (lv_at hl 1 rfl) ?_
  refine lv_icmp_ge (tgt := 20) hx hb dJ7_fill_53178_7 (by decide) (fun h => absurd h (by decide)) (fun _ => ?_)
  refine lv_aload_n hx hb dJ7_fill_53178_10 rfl (lv_at hl 2 rfl) ?_
  refine lv_iload_n hx hb dJ7_fill_53178_11 rfl (lv_at hl 0 rfl) ?_
  refine lv_iload_n hx hb dJ7_fill_53178_12 rfl (lv_at hl 3 rfl) ?_
  refine sti0 hx hb hE.1 hP hD hS 0 1 rfl rfl (in_c (by decide)) dJ7_fill_53178_13 (fun H locs hP hD hS => ?_)
  replace hP : va_P D vwCl [(h0, .inl (K 1, 10, .inl (fun _ => 0)))] H := hP
  replace hD : va_D A [(h0, .inl (K 1, 10, .inl (fun _ => 0)))] := hD
  refine lv_iinc (v := 5) (lv' := [(2, .int 5), (3, .int 10), (0, .ref h0), (1, .int 0)]) hx hb dJ7_fill_53178_14 hl (k := 0) rfl (by decide) (by decide) rfl (fun ls hl => ?_)
  refine lv_goto (tgt := 5) hx hb dJ7_fill_53178_17 (by decide) ?_
  refine lv_iload_n hx hb dJ7_fill_53178_5 rfl (lv_at hl 0 rfl) ?_
  refine lv_iload_n hx hb dJ7_fill_53178_6 rfl (lv_at hl 1 rfl) ?_
  refine lv_icmp_ge (tgt := 20) hx hb dJ7_fill_53178_7 (by decide) (fun h => absurd h (by decide)) (fun _ => ?_)
  refine lv_aload_n hx hb dJ7_fill_53178_10 rfl (lv_at hl 2 rfl) ?_
  refine lv_iload_n hx hb dJ7_fill_53178_11 rfl (lv_at hl 0 rfl) ?_
  refine lv_iload_n hx hb dJ7_fill_53178_12 rfl (lv_at hl 3 rfl) ?_
  refine sti0 hx hb hE.1 hP hD hS 0 1 rfl rfl (in_c (by decide)) dJ7_fill_53178_13 (fun H locs hP hD hS => ?_)
  replace hP : va_P D vwCl [(h0, .inl (K 1, 10, .inl (fun _ => 0)))] H := hP
  replace hD : va_D A [(h0, .inl (K 1, 10, .inl (fun _ => 0)))] := hD
  refine lv_iinc (v := 6) (lv' := [(2, .int 6), (3, .int 10), (0, .ref h0), (1, .int 0)]) hx hb dJ7_fill_53178_14 hl (k := 0) rfl (by decide) (by decide) rfl (fun ls hl => ?_)
  refine lv_goto (tgt := 5) hx hb dJ7_fill_53178_17 (by decide) ?_
  refine lv_iload_n hx hb dJ7_fill_53178_5 rfl (lv_at hl 0 rfl) ?_
  refine lv_iload_n hx hb dJ7_fill_53178_6 rfl (lv_at hl 1 rfl) ?_
  refine lv_icmp_ge (tgt := 20) hx hb dJ7_fill_53178_7 (by decide) (fun h => absurd h (by decide)) (fun _ => ?_)
  refine lv_aload_n hx hb dJ7_fill_53178_10 rfl (lv_at hl 2 rfl) ?_
  refine lv_iload_n hx hb dJ7_fill_53178_11 rfl (lv_at hl 0 rfl) ?_
  refine lv_iload_n hx hb dJ7_fill_53178_12 rfl (lv_at hl 3 rfl) ?_
  refine sti0 hx hb hE.1 hP hD hS 0 1 rfl rfl (in_c (by decide)) dJ7_fill_53178_13 (fun H locs hP hD hS => ?_)
  replace hP : va_P D vwCl [(h0, .inl (K 1, 10, .inl (fun _ => 0)))] H := hP
  replace hD : va_D A [(h0, .inl (K 1, 10, .inl (fun _ => 0)))] := hD
  refine lv_iinc (v := 7) (lv' := [(2, .int 7), (3, .int 10), (0, .ref h0), (1, .int 0)]) hx hb dJ7_fill_53178_14 hl (k := 0) rfl (by decide) (by decide) rfl (fun ls hl => ?_)
  refine lv_goto (tgt := 5) hx hb dJ7_fill_53178_17 (by decide) ?_
  refine lv_iload_n hx hb dJ7_fill_53178_5 rfl (lv_at hl 0 rfl) ?_
  refine lv_iload_n hx hb dJ7_fill_53178_6 rfl (lv_at hl 1 rfl) ?_
  refine lv_icmp_ge (tgt := 20) hx hb dJ7_fill_53178_7 (by decide) (fun h => absurd h (by decide)) (fun _ => ?_)
  refine lv_aload_n hx hb dJ7_fill_53178_10 rfl (lv_at hl 2 rfl) ?_
  refine lv_iload_n hx hb dJ7_fill_53178_11 rfl (lv_at hl 0 rfl) ?_
  refine lv_iload_n hx hb dJ7_fill_53178_12 rfl (lv_at hl 3 rfl) ?_
  refine sti0 hx hb hE.1 hP hD hS 0 1 rfl rfl (in_c (by decide)) dJ7_fill_53178_13 (fun H locs hP hD hS => ?_)
  replace hP : va_P D vwCl [(h0, .inl (K 1, 10, .inl (fun _ => 0)))] H := hP
  replace hD : va_D A [(h0, .inl (K 1, 10, .inl (fun _ => 0)))] := hD
  refine lv_iinc (v := 8) (lv' := [(2, .int 8), (3, .int 10), (0, .ref h0), (1, .int 0)]) hx hb dJ7_fill_53178_14 hl (k := 0) rfl (by decide) (by decide) rfl (fun ls hl => ?_)
  refine lv_goto (tgt := 5) hx hb dJ7_fill_53178_17 (by decide) ?_
  refine lv_iload_n hx hb dJ7_fill_53178_5 rfl (lv_at hl 0 rfl) ?_
  refine lv_iload_n hx hb dJ7_fill_53178_6 rfl (lv_at hl 1 rfl) ?_
  refine lv_icmp_ge (tgt := 20) hx hb dJ7_fill_53178_7 (by decide) (fun h => absurd h (by decide)) (fun _ => ?_)
  refine lv_aload_n hx hb dJ7_fill_53178_10 rfl (lv_at hl 2 rfl) ?_
  refine lv_iload_n hx hb dJ7_fill_53178_11 rfl (lv_at hl 0 rfl) ?_
  refine lv_iload_n hx hb dJ7_fill_53178_12 rfl (lv_at hl 3 rfl) ?_
  refine sti0 hx hb hE.1 hP hD hS 0 1 rfl rfl (in_c (by decide)) dJ7_fill_53178_13 (fun H locs hP hD hS => ?_)
  replace hP : va_P D vwCl [(h0, .inl (K 1, 10, .inl (fun _ => 0)))] H := hP
  replace hD : va_D A [(h0, .inl (K 1, 10, .inl (fun _ => 0)))] := hD
  refine lv_iinc (v := 9) (lv' := [(2, .int 9), (3, .int 10), (0, .ref h0), (1, .int 0)]) hx hb dJ7_fill_53178_14 hl (k := 0) rfl (by decide) (by decide) rfl (fun ls hl => ?_)
  refine lv_goto (tgt := 5) hx hb dJ7_fill_53178_17 (by decide) ?_
  refine lv_iload_n hx hb dJ7_fill_53178_5 rfl (lv_at hl 0 rfl) ?_
  refine lv_iload_n hx hb dJ7_fill_53178_6 rfl (lv_at hl 1 rfl) ?_
  refine lv_icmp_ge (tgt := 20) hx hb dJ7_fill_53178_7 (by decide) (fun h => absurd h (by decide)) (fun _ => ?_)
  refine lv_aload_n hx hb dJ7_fill_53178_10 rfl (lv_at hl 2 rfl) ?_
  refine lv_iload_n hx hb dJ7_fill_53178_11 rfl (lv_at hl 0 rfl) ?_
  refine lv_iload_n hx hb dJ7_fill_53178_12 rfl (lv_at hl 3 rfl) ?_
  refine sti0 hx hb hE.1 hP hD hS 0 1 rfl rfl (in_c (by decide)) dJ7_fill_53178_13 (fun H locs hP hD hS => ?_)
  replace hP : va_P D vwCl [(h0, .inl (K 1, 10, .inl (fun _ => 0)))] H := hP
  replace hD : va_D A [(h0, .inl (K 1, 10, .inl (fun _ => 0)))] := hD
  refine lv_iinc (v := 10) (lv' := [(2, .int 10), (3, .int 10), (0, .ref h0), (1, .int 0)]) hx hb dJ7_fill_53178_14 hl (k := 0) rfl (by decide) (by decide) rfl (fun ls hl => ?_)
  refine lv_goto (tgt := 5) hx hb dJ7_fill_53178_17 (by decide) ?_
  refine lv_iload_n hx hb dJ7_fill_53178_5 rfl (lv_at hl 0 rfl) ?_
  refine lv_iload_n hx hb dJ7_fill_53178_6 rfl (lv_at hl 1 rfl) ?_
  refine lv_icmp_ge (tgt := 20) hx hb dJ7_fill_53178_7 (by decide) (fun _ => ?_) (fun h => absurd h (by decide))
  refine W.widen (k := 0) (n := 0) (by decide) (by decide) ?_
  exact ch_vret hC hr hk hS dJ7_fill_53178_20 () trivial (hP.sub [0] rfl) (hD.sub [0] (by decide) rfl)
set_option maxRecDepth 40000 in
set_option maxHeartbeats 4000000 in
theorem c_X5_init (l : Launch) (D : va_G) (K : Nat → ClassId) (h0 : Nat) : Cv (S := ((Nat → Nat) × (Nat → Int32))) l D K yX5_init cX5_init 1 1 23 3 248 [.ref h0] [(h0, .inr (5, [.null, .null, .null]))] (fun u => ∀ j, j < 4 → u.2 j = -1) (fun u => [(h0, .inr (5, [.ref (u.1 0), .ref (u.1 1), .ref (u.1 2)])), (u.1 0, .inl (K 2, 240, .inr (.inl (fun _ => 0)))), (u.1 1, .inl (K 1, 4, .inl (fun _ => 0))), (u.1 2, .inl (K 1, 4, .inl u.2))]) := by
  intro sz
  refine ch_of (Qc := fun A => va_Qv (S := ((Nat → Nat) × (Nat → Int32))) (fun u => ∀ j, j < 4 → u.2 j = -1) (chB D A (fun u => [(h0, .inr (5, [.ref (u.1 0), .ref (u.1 1), .ref (u.1 2)])), (u.1 0, .inl (K 2, 240, .inr (.inl (fun _ => 0)))), (u.1 1, .inl (K 1, 4, .inl (fun _ => 0))), (u.1 2, .inl (K 1, 4, .inl u.2))])) A) (by decide) (Nat.le_of_ble_eq_true rfl) ?_
  intro p e s m below meth c A hC hr hk hin hE hD hA H locs hP hS ls hl
  replace hC : CallFix p m c cX5_init 1 s [.ref h0].toArray wl RX5 := hC
  have hx := hC.1
  have hb := hC.2.1
  have hml := hC.2.2.1
  have hown := hC.2.2.2.1
  have hts := hC.2.2.2.2
  replace hl : lv_has ls 1 [(0, .ref h0)] := hl
  refine lv_aload_n hx hb dX5_init_0 rfl (lv_at hl 0 rfl) ?_
  refine W.objInit hx hb hown (hts _ w_270) (hts _ w_243) (hts _ w_244) rfl (by rw [hml]; exact hl.1) rfl dX5_init_1 (by decide) (Nat.le_of_ble_eq_true rfl) ?_
  refine W.eq (g2 := F0 m 4 ls []) rfl ?_
  refine lv_aload_n hx hb dX5_init_4 rfl (lv_at hl 0 rfl) ?_
  refine lv_sipush (v := 240) hx hb dX5_init_5 (by decide) ?_
  refine na (a0 := (240, .inr (.inl (fun _ => 0)))) (ty := .long) hC hE rfl w_271 2 rfl (fun _ _ h => h) hP hD hS hA (fun _ => rfl) (by decide) (by decide) (by decide) (by decide) (by decide) dX5_init_8 (fun q86 H hP hD hS => ?_)
  replace hP : va_P D vwCl [(h0, .inr (5, [.null, .null, .null])), (q86, .inl (K 2, 240, .inr (.inl (fun _ => 0))))] H := hP
  replace hD : va_D A [(h0, .inr (5, [.null, .null, .null])), (q86, .inl (K 2, 240, .inr (.inl (fun _ => 0))))] := hD
  refine W.widen (k := 1) (n := 240) (by decide) (by decide) ?_
  refine va_putF (D := D) (ci := 5) (v := .ref q86) (ty := .array .long) (C := RX5) (T := TX5) (N := 3) hx hb hts in_X5 tyX5 tyX5_ok nmX5 hown hE.1 hP hD hS 0 rfl rfl 0 (by decide) (hts _ w_272) (fun _ h9 => h9) rfl hin rfl (by decide +kernel) rfl rfl (Nat.le_of_ble_eq_true rfl) dX5_init_10 (fun H locs hP hD hS => ?_)
  replace hP : va_P D vwCl [(h0, .inr (5, [.ref q86, .null, .null])), (q86, .inl (K 2, 240, .inr (.inl (fun _ => 0))))] H := hP
  replace hD : va_D A [(h0, .inr (5, [.ref q86, .null, .null])), (q86, .inl (K 2, 240, .inr (.inl (fun _ => 0))))] := hD
  refine lv_aload_n hx hb dX5_init_13 rfl (lv_at hl 0 rfl) ?_
  refine lv_iconst (v := 4) hx hb dX5_init_14 (by decide) ?_
  refine na (a0 := (4, .inl (fun _ => 0))) (ty := .int) hC hE rfl w_245 1 rfl (fun _ _ h => h) hP hD hS hA (fun _ => rfl) (by decide) (by decide) (by decide) (by decide) (by decide) dX5_init_15 (fun q87 H hP hD hS => ?_)
  replace hP : va_P D vwCl [(h0, .inr (5, [.ref q86, .null, .null])), (q86, .inl (K 2, 240, .inr (.inl (fun _ => 0)))), (q87, .inl (K 1, 4, .inl (fun _ => 0)))] H := hP
  replace hD : va_D A [(h0, .inr (5, [.ref q86, .null, .null])), (q86, .inl (K 2, 240, .inr (.inl (fun _ => 0)))), (q87, .inl (K 1, 4, .inl (fun _ => 0)))] := hD
  refine W.widen (k := 2) (n := 244) (by decide) (by decide) ?_
  refine va_putF (D := D) (ci := 5) (v := .ref q87) (ty := .array .int) (C := RX5) (T := TX5) (N := 3) hx hb hts in_X5 tyX5 tyX5_ok nmX5 hown hE.1 hP hD hS 0 rfl rfl 1 (by decide) (hts _ w_273) (fun _ h9 => h9) rfl hin rfl (by decide +kernel) rfl rfl (Nat.le_of_ble_eq_true rfl) dX5_init_17 (fun H locs hP hD hS => ?_)
  replace hP : va_P D vwCl [(h0, .inr (5, [.ref q86, .ref q87, .null])), (q86, .inl (K 2, 240, .inr (.inl (fun _ => 0)))), (q87, .inl (K 1, 4, .inl (fun _ => 0)))] H := hP
  replace hD : va_D A [(h0, .inr (5, [.ref q86, .ref q87, .null])), (q86, .inl (K 2, 240, .inr (.inl (fun _ => 0)))), (q87, .inl (K 1, 4, .inl (fun _ => 0)))] := hD
  refine lv_aload_n hx hb dX5_init_20 rfl (lv_at hl 0 rfl) ?_
  refine lv_iconst (v := 4) hx hb dX5_init_21 (by decide) ?_
  refine na (a0 := (4, .inl (fun _ => 0))) (ty := .int) hC hE rfl w_245 1 rfl (fun _ _ h => h) hP hD hS hA (fun _ => rfl) (by decide) (by decide) (by decide) (by decide) (by decide) dX5_init_22 (fun q88 H hP hD hS => ?_)
  replace hP : va_P D vwCl [(h0, .inr (5, [.ref q86, .ref q87, .null])), (q86, .inl (K 2, 240, .inr (.inl (fun _ => 0)))), (q87, .inl (K 1, 4, .inl (fun _ => 0))), (q88, .inl (K 1, 4, .inl (fun _ => 0)))] H := hP
  replace hD : va_D A [(h0, .inr (5, [.ref q86, .ref q87, .null])), (q86, .inl (K 2, 240, .inr (.inl (fun _ => 0)))), (q87, .inl (K 1, 4, .inl (fun _ => 0))), (q88, .inl (K 1, 4, .inl (fun _ => 0)))] := hD
  refine W.widen (k := 3) (n := 248) (by decide) (by decide) ?_
  refine va_putF (D := D) (ci := 5) (v := .ref q88) (ty := .array .int) (C := RX5) (T := TX5) (N := 3) hx hb hts in_X5 tyX5 tyX5_ok nmX5 hown hE.1 hP hD hS 0 rfl rfl 2 (by decide) (hts _ w_34) (fun _ h9 => h9) rfl hin rfl (by decide +kernel) rfl rfl (Nat.le_of_ble_eq_true rfl) dX5_init_24 (fun H locs hP hD hS => ?_)
  replace hP : va_P D vwCl [(h0, .inr (5, [.ref q86, .ref q87, .ref q88])), (q86, .inl (K 2, 240, .inr (.inl (fun _ => 0)))), (q87, .inl (K 1, 4, .inl (fun _ => 0))), (q88, .inl (K 1, 4, .inl (fun _ => 0)))] H := hP
  replace hD : va_D A [(h0, .inr (5, [.ref q86, .ref q87, .ref q88])), (q86, .inl (K 2, 240, .inr (.inl (fun _ => 0)))), (q87, .inl (K 1, 4, .inl (fun _ => 0))), (q88, .inl (K 1, 4, .inl (fun _ => 0)))] := hD
  refine lv_aload_n hx hb dX5_init_27 rfl (lv_at hl 0 rfl) ?_
  refine va_get (D := D) (ci := 5) (v := .ref q88) (C := RX5) (T := TX5) (N := 3) hx hb hts in_X5 hown hE.1 hP 0 rfl rfl 2 (by decide) (hts _ w_34) (fun _ h9 => h9) rfl dX5_init_28 ?_
  refine lv_iconst (v := (-1)) hx hb dX5_init_31 (by decide) ?_
  refine cv_S (As := [.ref q88, .int (-1)]) (rest := []) (wc := [(q88, .inl (K 1, 4, .inl (fun _ => 0)))]) (wr := [(h0, .inr (5, [.ref q86, .ref q87, .ref q88])), (q86, .inl (K 2, 240, .inr (.inl (fun _ => 0)))), (q87, .inl (K 1, 4, .inl (fun _ => 0)))]) hC hE kS_X5_22 (c_J7_fill_4 l D K q88) hP hD hS hA [3] [0, 1, 2] rfl rfl rfl (by decide) (by decide) (by decide) rfl hl.1 rfl (Nat.le_of_ble_eq_true rfl) (by decide) (by decide) dX5_init_32 (fun u89 H locs hw hP hD hS => ?_)
  replace hP : va_P D vwCl [(h0, .inr (5, [.ref q86, .ref q87, .ref q88])), (q86, .inl (K 2, 240, .inr (.inl (fun _ => 0)))), (q87, .inl (K 1, 4, .inl (fun _ => 0))), (q88, .inl (K 1, 4, .inl u89))] H := hP
  replace hD : va_D A [(h0, .inr (5, [.ref q86, .ref q87, .ref q88])), (q86, .inl (K 2, 240, .inr (.inl (fun _ => 0)))), (q87, .inl (K 1, 4, .inl (fun _ => 0))), (q88, .inl (K 1, 4, .inl u89))] := hD
  refine W.widen (k := 3) (n := 248) (by decide) (by decide) ?_
  refine W.widen (k := 3) (n := 248) (by decide) (by decide) ?_
  exact ch_vret hC hr hk hS dX5_init_35 ((fun k => [q86, q87, q88].getD k 0), u89) hw (hP.sub [0, 1, 2, 3] rfl) (hD.sub [0, 1, 2, 3] (by decide) rfl)
set_option maxRecDepth 40000 in
set_option maxHeartbeats 4000000 in
theorem c_X6_init_1 (l : Launch) (D : va_G) (K : Nat → ClassId) (h0 : Nat) : Cv (S := (Nat → Nat)) l D K yX6_init cX6_init 3 1 13 3 30720 [.ref h0, .int 10240] [(h0, .inr (1, [.null, .null, .null, .int 0, .int 0, .int 0, .null, .int 0, .int 0, .int 0]))] (fun _ => True) (fun u => [(h0, .inr (1, [.ref (u 0), .ref (u 1), .ref (u 2), .int 0, .int 0, .int (-1), .null, .int 0, .int 0, .int 0]))]) := by
  intro sz
  refine ch_of (Qc := fun A => va_Qv (S := (Nat → Nat)) (fun _ => True) (chB D A (fun u => [(h0, .inr (1, [.ref (u 0), .ref (u 1), .ref (u 2), .int 0, .int 0, .int (-1), .null, .int 0, .int 0, .int 0]))])) A) (by decide) (Nat.le_of_ble_eq_true rfl) ?_
  intro p e s m below meth c A hC hr hk hin hE hD hA H locs hP hS ls hl
  replace hC : CallFix p m c cX6_init 3 s [.ref h0, .int 10240].toArray wl RX6 := hC
  have hx := hC.1
  have hb := hC.2.1
  have hml := hC.2.2.1
  have hown := hC.2.2.2.1
  have hts := hC.2.2.2.2
  replace hl : lv_has ls 3 [(0, .ref h0), (1, .int 10240)] := hl
  refine lv_aload_n hx hb dX6_init_0 rfl (lv_at hl 0 rfl) ?_
  refine W.objInit hx hb hown (hts _ w_278) (hts _ w_243) (hts _ w_244) rfl (by rw [hml]; exact hl.1) rfl dX6_init_1 (by decide) (Nat.le_of_ble_eq_true rfl) ?_
  refine W.eq (g2 := F0 m 4 ls []) rfl ?_
  refine lv_aload_n hx hb dX6_init_4 rfl (lv_at hl 0 rfl) ?_
  refine lv_iconst (v := (-1)) hx hb dX6_init_5 (by decide) ?_
  refine va_put (D := D) (ci := 1) (v := .int (-1)) (ty := .int) (C := RX1) (T := TX1) (N := 10) hx hb hts in_X1 tyX1 tyX1_ok nmX1 hown hE.1 hP hD hS 0 rfl rfl 5 (by decide) (hts _ w_289) (fun _ h9 => h9) rfl (by decide +kernel) rfl rfl (Nat.le_of_ble_eq_true rfl) dX6_init_6 (fun H locs hP hD hS => ?_)
  replace hP : va_P D vwCl [(h0, .inr (1, [.null, .null, .null, .int 0, .int 0, .int (-1), .null, .int 0, .int 0, .int 0]))] H := hP
  replace hD : va_D A [(h0, .inr (1, [.null, .null, .null, .int 0, .int 0, .int (-1), .null, .int 0, .int 0, .int 0]))] := hD
  refine lv_iconst (v := 1) hx hb dX6_init_9 (by decide) ?_
  refine lv_iload_n hx hb dX6_init_10 rfl (lv_at hl 1 rfl) ?_
  refine va_mmax hx hb (hml.trans hl.1.symm) hown (hts _ w_290) (hts _ w_291) (hts _ w_292) (hts _ w_293) (by decide) (Nat.le_of_ble_eq_true rfl) (by decide) (by decide) dX6_init_11 ?_
  refine tc (y := 10240) (by decide) ?_
  refine lv_istore_n (lv' := [(2, .int 10240), (0, .ref h0), (1, .int 10240)]) hx hb dX6_init_14 rfl hl (by decide) rfl (fun ls hl => ?_)
  refine lv_aload_n hx hb dX6_init_15 rfl (lv_at hl 1 rfl) ?_
  refine lv_iload_n hx hb dX6_init_16 rfl (lv_at hl 0 rfl) ?_
  refine na (a0 := (10240, .inl (fun _ => 0))) (ty := .int) hC hE rfl w_245 1 rfl (fun _ _ h => h) hP hD hS hA (fun _ => rfl) (by decide) (by decide) (by decide) (by decide) (by decide) dX6_init_17 (fun q90 H hP hD hS => ?_)
  replace hP : va_P D vwCl [(h0, .inr (1, [.null, .null, .null, .int 0, .int 0, .int (-1), .null, .int 0, .int 0, .int 0])), (q90, .inl (K 1, 10240, .inl (fun _ => 0)))] H := hP
  replace hD : va_D A [(h0, .inr (1, [.null, .null, .null, .int 0, .int 0, .int (-1), .null, .int 0, .int 0, .int 0])), (q90, .inl (K 1, 10240, .inl (fun _ => 0)))] := hD
  refine W.widen (k := 1) (n := 10240) (by decide) (by decide) ?_
  refine va_putF (D := D) (ci := 1) (v := .ref q90) (ty := .array .int) (C := RX1) (T := TX1) (N := 10) hx hb hts in_X1 tyX1 tyX1_ok nmX1 hown hE.1 hP hD hS 0 rfl rfl 0 (by decide) (hts _ w_294) (fun _ h9 => h9) rfl hin rfl (by decide +kernel) rfl rfl (Nat.le_of_ble_eq_true rfl) dX6_init_19 (fun H locs hP hD hS => ?_)
  replace hP : va_P D vwCl [(h0, .inr (1, [.ref q90, .null, .null, .int 0, .int 0, .int (-1), .null, .int 0, .int 0, .int 0])), (q90, .inl (K 1, 10240, .inl (fun _ => 0)))] H := hP
  replace hD : va_D A [(h0, .inr (1, [.ref q90, .null, .null, .int 0, .int 0, .int (-1), .null, .int 0, .int 0, .int 0])), (q90, .inl (K 1, 10240, .inl (fun _ => 0)))] := hD
  replace hP : va_P D vwCl [(h0, .inr (1, [.ref q90, .null, .null, .int 0, .int 0, .int (-1), .null, .int 0, .int 0, .int 0]))] H := hP.sub [0] rfl
  replace hD : va_D A [(h0, .inr (1, [.ref q90, .null, .null, .int 0, .int 0, .int (-1), .null, .int 0, .int 0, .int 0]))] := hD.sub [0] (by decide) rfl
  refine lv_aload_n hx hb dX6_init_22 rfl (lv_at hl 1 rfl) ?_
  refine lv_iload_n hx hb dX6_init_23 rfl (lv_at hl 0 rfl) ?_
  refine na (a0 := (10240, .inl (fun _ => 0))) (ty := .int) hC hE rfl w_245 1 rfl (fun _ _ h => h) hP hD hS hA (fun _ => rfl) (by decide) (by decide) (by decide) (by decide) (by decide) dX6_init_24 (fun q91 H hP hD hS => ?_)
  replace hP : va_P D vwCl [(h0, .inr (1, [.ref q90, .null, .null, .int 0, .int 0, .int (-1), .null, .int 0, .int 0, .int 0])), (q91, .inl (K 1, 10240, .inl (fun _ => 0)))] H := hP
  replace hD : va_D A [(h0, .inr (1, [.ref q90, .null, .null, .int 0, .int 0, .int (-1), .null, .int 0, .int 0, .int 0])), (q91, .inl (K 1, 10240, .inl (fun _ => 0)))] := hD
  refine W.widen (k := 2) (n := 20480) (by decide) (by decide) ?_
  refine va_putF (D := D) (ci := 1) (v := .ref q91) (ty := .array .int) (C := RX1) (T := TX1) (N := 10) hx hb hts in_X1 tyX1 tyX1_ok nmX1 hown hE.1 hP hD hS 0 rfl rfl 1 (by decide) (hts _ w_295) (fun _ h9 => h9) rfl hin rfl (by decide +kernel) rfl rfl (Nat.le_of_ble_eq_true rfl) dX6_init_26 (fun H locs hP hD hS => ?_)
  replace hP : va_P D vwCl [(h0, .inr (1, [.ref q90, .ref q91, .null, .int 0, .int 0, .int (-1), .null, .int 0, .int 0, .int 0])), (q91, .inl (K 1, 10240, .inl (fun _ => 0)))] H := hP
  replace hD : va_D A [(h0, .inr (1, [.ref q90, .ref q91, .null, .int 0, .int 0, .int (-1), .null, .int 0, .int 0, .int 0])), (q91, .inl (K 1, 10240, .inl (fun _ => 0)))] := hD
  replace hP : va_P D vwCl [(h0, .inr (1, [.ref q90, .ref q91, .null, .int 0, .int 0, .int (-1), .null, .int 0, .int 0, .int 0]))] H := hP.sub [0] rfl
  replace hD : va_D A [(h0, .inr (1, [.ref q90, .ref q91, .null, .int 0, .int 0, .int (-1), .null, .int 0, .int 0, .int 0]))] := hD.sub [0] (by decide) rfl
  refine lv_aload_n hx hb dX6_init_29 rfl (lv_at hl 1 rfl) ?_
  refine lv_iload_n hx hb dX6_init_30 rfl (lv_at hl 0 rfl) ?_
  refine na (a0 := (10240, .inl (fun _ => 0))) (ty := .int) hC hE rfl w_245 1 rfl (fun _ _ h => h) hP hD hS hA (fun _ => rfl) (by decide) (by decide) (by decide) (by decide) (by decide) dX6_init_31 (fun q92 H hP hD hS => ?_)
  replace hP : va_P D vwCl [(h0, .inr (1, [.ref q90, .ref q91, .null, .int 0, .int 0, .int (-1), .null, .int 0, .int 0, .int 0])), (q92, .inl (K 1, 10240, .inl (fun _ => 0)))] H := hP
  replace hD : va_D A [(h0, .inr (1, [.ref q90, .ref q91, .null, .int 0, .int 0, .int (-1), .null, .int 0, .int 0, .int 0])), (q92, .inl (K 1, 10240, .inl (fun _ => 0)))] := hD
  refine W.widen (k := 3) (n := 30720) (by decide) (by decide) ?_
  refine va_putF (D := D) (ci := 1) (v := .ref q92) (ty := .array .int) (C := RX1) (T := TX1) (N := 10) hx hb hts in_X1 tyX1 tyX1_ok nmX1 hown hE.1 hP hD hS 0 rfl rfl 2 (by decide) (hts _ w_296) (fun _ h9 => h9) rfl hin rfl (by decide +kernel) rfl rfl (Nat.le_of_ble_eq_true rfl) dX6_init_33 (fun H locs hP hD hS => ?_)
  replace hP : va_P D vwCl [(h0, .inr (1, [.ref q90, .ref q91, .ref q92, .int 0, .int 0, .int (-1), .null, .int 0, .int 0, .int 0])), (q92, .inl (K 1, 10240, .inl (fun _ => 0)))] H := hP
  replace hD : va_D A [(h0, .inr (1, [.ref q90, .ref q91, .ref q92, .int 0, .int 0, .int (-1), .null, .int 0, .int 0, .int 0])), (q92, .inl (K 1, 10240, .inl (fun _ => 0)))] := hD
  replace hP : va_P D vwCl [(h0, .inr (1, [.ref q90, .ref q91, .ref q92, .int 0, .int 0, .int (-1), .null, .int 0, .int 0, .int 0]))] H := hP.sub [0] rfl
  replace hD : va_D A [(h0, .inr (1, [.ref q90, .ref q91, .ref q92, .int 0, .int 0, .int (-1), .null, .int 0, .int 0, .int 0]))] := hD.sub [0] (by decide) rfl
  refine W.widen (k := 3) (n := 30720) (by decide) (by decide) ?_
  exact ch_vret hC hr hk hS dX6_init_36 (fun k => [q90, q91, q92].getD k 0) trivial (hP.sub [0] rfl) (hD.sub [0] (by decide) rfl)
set_option maxRecDepth 40000 in
set_option maxHeartbeats 4000000 in
theorem c_X6_init_7 (l : Launch) (D : va_G) (K : Nat → ClassId) (h0 : Nat) : Cv (S := (Nat → Nat)) l D K yX6_init cX6_init 3 1 13 3 3072 [.ref h0, .int 1024] [(h0, .inr (6, [.null, .null, .null, .int 0, .int 0, .int 0, .int 0]))] (fun _ => True) (fun u => [(h0, .inr (6, [.ref (u 0), .ref (u 1), .ref (u 2), .int 0, .int 0, .int (-1), .int 0]))]) := by
  intro sz
  refine ch_of (Qc := fun A => va_Qv (S := (Nat → Nat)) (fun _ => True) (chB D A (fun u => [(h0, .inr (6, [.ref (u 0), .ref (u 1), .ref (u 2), .int 0, .int 0, .int (-1), .int 0]))])) A) (by decide) (Nat.le_of_ble_eq_true rfl) ?_
  intro p e s m below meth c A hC hr hk hin hE hD hA H locs hP hS ls hl
  replace hC : CallFix p m c cX6_init 3 s [.ref h0, .int 1024].toArray wl RX6 := hC
  have hx := hC.1
  have hb := hC.2.1
  have hml := hC.2.2.1
  have hown := hC.2.2.2.1
  have hts := hC.2.2.2.2
  replace hl : lv_has ls 3 [(0, .ref h0), (1, .int 1024)] := hl
  refine lv_aload_n hx hb dX6_init_0 rfl (lv_at hl 0 rfl) ?_
  refine W.objInit hx hb hown (hts _ w_278) (hts _ w_243) (hts _ w_244) rfl (by rw [hml]; exact hl.1) rfl dX6_init_1 (by decide) (Nat.le_of_ble_eq_true rfl) ?_
  refine W.eq (g2 := F0 m 4 ls []) rfl ?_
  refine lv_aload_n hx hb dX6_init_4 rfl (lv_at hl 0 rfl) ?_
  refine lv_iconst (v := (-1)) hx hb dX6_init_5 (by decide) ?_
  refine va_put (D := D) (ci := 6) (v := .int (-1)) (ty := .int) (C := RX7) (T := TX7) (N := 7) hx hb hts in_X7 tyX7 tyX7_ok nmX7 hown hE.1 hP hD hS 0 rfl rfl 5 (by decide) (hts _ w_289) (fun _ h9 => h9) rfl (by decide +kernel) rfl rfl (Nat.le_of_ble_eq_true rfl) dX6_init_6 (fun H locs hP hD hS => ?_)
  replace hP : va_P D vwCl [(h0, .inr (6, [.null, .null, .null, .int 0, .int 0, .int (-1), .int 0]))] H := hP
  replace hD : va_D A [(h0, .inr (6, [.null, .null, .null, .int 0, .int 0, .int (-1), .int 0]))] := hD
  refine lv_iconst (v := 1) hx hb dX6_init_9 (by decide) ?_
  refine lv_iload_n hx hb dX6_init_10 rfl (lv_at hl 1 rfl) ?_
  refine va_mmax hx hb (hml.trans hl.1.symm) hown (hts _ w_290) (hts _ w_291) (hts _ w_292) (hts _ w_293) (by decide) (Nat.le_of_ble_eq_true rfl) (by decide) (by decide) dX6_init_11 ?_
  refine tc (y := 1024) (by decide) ?_
  refine lv_istore_n (lv' := [(2, .int 1024), (0, .ref h0), (1, .int 1024)]) hx hb dX6_init_14 rfl hl (by decide) rfl (fun ls hl => ?_)
  refine lv_aload_n hx hb dX6_init_15 rfl (lv_at hl 1 rfl) ?_
  refine lv_iload_n hx hb dX6_init_16 rfl (lv_at hl 0 rfl) ?_
  refine na (a0 := (1024, .inl (fun _ => 0))) (ty := .int) hC hE rfl w_245 1 rfl (fun _ _ h => h) hP hD hS hA (fun _ => rfl) (by decide) (by decide) (by decide) (by decide) (by decide) dX6_init_17 (fun q93 H hP hD hS => ?_)
  replace hP : va_P D vwCl [(h0, .inr (6, [.null, .null, .null, .int 0, .int 0, .int (-1), .int 0])), (q93, .inl (K 1, 1024, .inl (fun _ => 0)))] H := hP
  replace hD : va_D A [(h0, .inr (6, [.null, .null, .null, .int 0, .int 0, .int (-1), .int 0])), (q93, .inl (K 1, 1024, .inl (fun _ => 0)))] := hD
  refine W.widen (k := 1) (n := 1024) (by decide) (by decide) ?_
  refine va_putF (D := D) (ci := 6) (v := .ref q93) (ty := .array .int) (C := RX7) (T := TX7) (N := 7) hx hb hts in_X7 tyX7 tyX7_ok nmX7 hown hE.1 hP hD hS 0 rfl rfl 0 (by decide) (hts _ w_294) (fun _ h9 => h9) rfl hin rfl (by decide +kernel) rfl rfl (Nat.le_of_ble_eq_true rfl) dX6_init_19 (fun H locs hP hD hS => ?_)
  replace hP : va_P D vwCl [(h0, .inr (6, [.ref q93, .null, .null, .int 0, .int 0, .int (-1), .int 0])), (q93, .inl (K 1, 1024, .inl (fun _ => 0)))] H := hP
  replace hD : va_D A [(h0, .inr (6, [.ref q93, .null, .null, .int 0, .int 0, .int (-1), .int 0])), (q93, .inl (K 1, 1024, .inl (fun _ => 0)))] := hD
  replace hP : va_P D vwCl [(h0, .inr (6, [.ref q93, .null, .null, .int 0, .int 0, .int (-1), .int 0]))] H := hP.sub [0] rfl
  replace hD : va_D A [(h0, .inr (6, [.ref q93, .null, .null, .int 0, .int 0, .int (-1), .int 0]))] := hD.sub [0] (by decide) rfl
  refine lv_aload_n hx hb dX6_init_22 rfl (lv_at hl 1 rfl) ?_
  refine lv_iload_n hx hb dX6_init_23 rfl (lv_at hl 0 rfl) ?_
  refine na (a0 := (1024, .inl (fun _ => 0))) (ty := .int) hC hE rfl w_245 1 rfl (fun _ _ h => h) hP hD hS hA (fun _ => rfl) (by decide) (by decide) (by decide) (by decide) (by decide) dX6_init_24 (fun q94 H hP hD hS => ?_)
  replace hP : va_P D vwCl [(h0, .inr (6, [.ref q93, .null, .null, .int 0, .int 0, .int (-1), .int 0])), (q94, .inl (K 1, 1024, .inl (fun _ => 0)))] H := hP
  replace hD : va_D A [(h0, .inr (6, [.ref q93, .null, .null, .int 0, .int 0, .int (-1), .int 0])), (q94, .inl (K 1, 1024, .inl (fun _ => 0)))] := hD
  refine W.widen (k := 2) (n := 2048) (by decide) (by decide) ?_
  refine va_putF (D := D) (ci := 6) (v := .ref q94) (ty := .array .int) (C := RX7) (T := TX7) (N := 7) hx hb hts in_X7 tyX7 tyX7_ok nmX7 hown hE.1 hP hD hS 0 rfl rfl 1 (by decide) (hts _ w_295) (fun _ h9 => h9) rfl hin rfl (by decide +kernel) rfl rfl (Nat.le_of_ble_eq_true rfl) dX6_init_26 (fun H locs hP hD hS => ?_)
  replace hP : va_P D vwCl [(h0, .inr (6, [.ref q93, .ref q94, .null, .int 0, .int 0, .int (-1), .int 0])), (q94, .inl (K 1, 1024, .inl (fun _ => 0)))] H := hP
  replace hD : va_D A [(h0, .inr (6, [.ref q93, .ref q94, .null, .int 0, .int 0, .int (-1), .int 0])), (q94, .inl (K 1, 1024, .inl (fun _ => 0)))] := hD
  replace hP : va_P D vwCl [(h0, .inr (6, [.ref q93, .ref q94, .null, .int 0, .int 0, .int (-1), .int 0]))] H := hP.sub [0] rfl
  replace hD : va_D A [(h0, .inr (6, [.ref q93, .ref q94, .null, .int 0, .int 0, .int (-1), .int 0]))] := hD.sub [0] (by decide) rfl
  refine lv_aload_n hx hb dX6_init_29 rfl (lv_at hl 1 rfl) ?_
  refine lv_iload_n hx hb dX6_init_30 rfl (lv_at hl 0 rfl) ?_
  refine na (a0 := (1024, .inl (fun _ => 0))) (ty := .int) hC hE rfl w_245 1 rfl (fun _ _ h => h) hP hD hS hA (fun _ => rfl) (by decide) (by decide) (by decide) (by decide) (by decide) dX6_init_31 (fun q95 H hP hD hS => ?_)
  replace hP : va_P D vwCl [(h0, .inr (6, [.ref q93, .ref q94, .null, .int 0, .int 0, .int (-1), .int 0])), (q95, .inl (K 1, 1024, .inl (fun _ => 0)))] H := hP
  replace hD : va_D A [(h0, .inr (6, [.ref q93, .ref q94, .null, .int 0, .int 0, .int (-1), .int 0])), (q95, .inl (K 1, 1024, .inl (fun _ => 0)))] := hD
  refine W.widen (k := 3) (n := 3072) (by decide) (by decide) ?_
  refine va_putF (D := D) (ci := 6) (v := .ref q95) (ty := .array .int) (C := RX7) (T := TX7) (N := 7) hx hb hts in_X7 tyX7 tyX7_ok nmX7 hown hE.1 hP hD hS 0 rfl rfl 2 (by decide) (hts _ w_296) (fun _ h9 => h9) rfl hin rfl (by decide +kernel) rfl rfl (Nat.le_of_ble_eq_true rfl) dX6_init_33 (fun H locs hP hD hS => ?_)
  replace hP : va_P D vwCl [(h0, .inr (6, [.ref q93, .ref q94, .ref q95, .int 0, .int 0, .int (-1), .int 0])), (q95, .inl (K 1, 1024, .inl (fun _ => 0)))] H := hP
  replace hD : va_D A [(h0, .inr (6, [.ref q93, .ref q94, .ref q95, .int 0, .int 0, .int (-1), .int 0])), (q95, .inl (K 1, 1024, .inl (fun _ => 0)))] := hD
  replace hP : va_P D vwCl [(h0, .inr (6, [.ref q93, .ref q94, .ref q95, .int 0, .int 0, .int (-1), .int 0]))] H := hP.sub [0] rfl
  replace hD : va_D A [(h0, .inr (6, [.ref q93, .ref q94, .ref q95, .int 0, .int 0, .int (-1), .int 0]))] := hD.sub [0] (by decide) rfl
  refine W.widen (k := 3) (n := 3072) (by decide) (by decide) ?_
  exact ch_vret hC hr hk hS dX6_init_36 (fun k => [q93, q94, q95].getD k 0) trivial (hP.sub [0] rfl) (hD.sub [0] (by decide) rfl)
set_option maxRecDepth 40000 in
set_option maxHeartbeats 4000000 in
theorem c_X1_init (l : Launch) (D : va_G) (K : Nat → ClassId) (h0 : Nat) : Cv (S := Unit) l D K yX1_init cX1_init 1 2 35 4 30723 [.ref h0] [(h0, .inr (1, [.null, .null, .null, .int 0, .int 0, .int 0, .null, .int 0, .int 0, .int 0]))] (fun _ => True) (fun _ => []) := by
  intro sz
  refine ch_of (Qc := fun A => va_Qv (S := Unit) (fun _ => True) (chB D A (fun _ => [])) A) (by decide) (Nat.le_of_ble_eq_true rfl) ?_
  intro p e s m below meth c A hC hr hk hin hE hD hA H locs hP hS ls hl
  replace hC : CallFix p m c cX1_init 1 s [.ref h0].toArray wl RX1 := hC
  have hx := hC.1
  have hb := hC.2.1
  have hml := hC.2.2.1
  have hown := hC.2.2.2.1
  have hts := hC.2.2.2.2
  replace hl : lv_has ls 1 [(0, .ref h0)] := hl
  refine lv_aload_n hx hb dX1_init_0 rfl (lv_at hl 0 rfl) ?_
  refine lv_sipush (v := 10240) hx hb dX1_init_1 (by decide) ?_
  refine cv_I (As := [.int 10240]) (rest := []) (wc := [(h0, .inr (1, [.null, .null, .null, .int 0, .int 0, .int 0, .null, .int 0, .int 0, .int 0]))]) (wr := []) hC hE kI_X1_3 (c_X6_init_1 l D K h0) hP hD hS hA [0] [] rfl rfl rfl (by decide) (by decide) (by decide) rfl hl.1 rfl (Nat.le_of_ble_eq_true rfl) (by decide) (by decide) dX1_init_4 (fun u96 H locs hw hP hD hS => ?_)
  replace hP : va_P D vwCl [(h0, .inr (1, [.ref (u96 0), .ref (u96 1), .ref (u96 2), .int 0, .int 0, .int (-1), .null, .int 0, .int 0, .int 0]))] H := hP
  replace hD : va_D A [(h0, .inr (1, [.ref (u96 0), .ref (u96 1), .ref (u96 2), .int 0, .int 0, .int (-1), .null, .int 0, .int 0, .int 0]))] := hD
  refine W.widen (k := 3) (n := 30720) (by decide) (by decide) ?_
  refine lv_aload_n hx hb dX1_init_7 rfl (lv_at hl 0 rfl) ?_
  refine va_new (ci := 8) (fs := [.int 0, .int 0, .int 0]) (C := RX9) (T := TX9) (N := 3) hx hb hts in_X9 tyX9 tyX9_ok hown (hts _ w_311) (hts _ w_312) (hts _ w_313) hE.1 hP hD hS hA rfl (bd_X9) (by decide) (by decide) dX1_init_8 (fun q97 H hP hD hS => ?_)
  replace hP : va_P D vwCl [(h0, .inr (1, [.ref (u96 0), .ref (u96 1), .ref (u96 2), .int 0, .int 0, .int (-1), .null, .int 0, .int 0, .int 0])), (q97, .inr (8, [.int 0, .int 0, .int 0]))] H := hP
  replace hD : va_D A [(h0, .inr (1, [.ref (u96 0), .ref (u96 1), .ref (u96 2), .int 0, .int 0, .int (-1), .null, .int 0, .int 0, .int 0])), (q97, .inr (8, [.int 0, .int 0, .int 0]))] := hD
  refine W.widen (k := 4) (n := 30723) (by decide) (by decide) ?_
  refine lv_dup hx hb dX1_init_11 rfl ?_
  refine cv_IN (As := []) (rest := [.ref q97, .ref h0]) (wc := [(q97, .inr (8, [.int 0, .int 0, .int 0]))]) (wr := [(h0, .inr (1, [.ref (u96 0), .ref (u96 1), .ref (u96 2), .int 0, .int 0, .int (-1), .null, .int 0, .int 0, .int 0]))]) hC hE kIN_X1_11 (c_X9_init l D K q97) hP hD hS hA [1] [0] rfl rfl rfl (by decide) (by decide) (by decide) rfl hl.1 rfl (Nat.le_of_ble_eq_true rfl) (by decide) (by decide) dX1_init_12 (fun u98 H locs hw hP hD hS => ?_)
  replace hP : va_P D vwCl [(h0, .inr (1, [.ref (u96 0), .ref (u96 1), .ref (u96 2), .int 0, .int 0, .int (-1), .null, .int 0, .int 0, .int 0]))] H := hP
  replace hD : va_D A [(h0, .inr (1, [.ref (u96 0), .ref (u96 1), .ref (u96 2), .int 0, .int 0, .int (-1), .null, .int 0, .int 0, .int 0]))] := hD
  refine W.widen (k := 4) (n := 30723) (by decide) (by decide) ?_
  refine va_putF (D := D) (ci := 1) (v := .ref q97) (ty := .object "LostWood$Walker") (C := RX1) (T := TX1) (N := 10) hx hb hts in_X1 tyX1 tyX1_ok nmX1 hown hE.1 hP hD hS 0 rfl rfl 6 (by decide) (hts _ w_316) (fun _ h9 => h9) rfl hin rfl (by decide +kernel) rfl rfl (Nat.le_of_ble_eq_true rfl) dX1_init_15 (fun H locs hP hD hS => ?_)
  replace hP : va_P D vwCl [(h0, .inr (1, [.ref (u96 0), .ref (u96 1), .ref (u96 2), .int 0, .int 0, .int (-1), .ref q97, .int 0, .int 0, .int 0]))] H := hP
  replace hD : va_D A [(h0, .inr (1, [.ref (u96 0), .ref (u96 1), .ref (u96 2), .int 0, .int 0, .int (-1), .ref q97, .int 0, .int 0, .int 0]))] := hD
  refine W.widen (k := 4) (n := 30723) (by decide) (by decide) ?_
  exact ch_vret hC hr hk hS dX1_init_18 () trivial (hP.sub [] rfl) (hD.sub [] (by decide) rfl)
set_option maxRecDepth 40000 in
set_option maxHeartbeats 4000000 in
theorem c_X7_init (l : Launch) (D : va_G) (K : Nat → ClassId) (h0 : Nat) : Cv (S := Unit) l D K yX7_init cX7_init 1 2 35 3 3072 [.ref h0] [(h0, .inr (6, [.null, .null, .null, .int 0, .int 0, .int 0, .int 0]))] (fun _ => True) (fun _ => []) := by
  intro sz
  refine ch_of (Qc := fun A => va_Qv (S := Unit) (fun _ => True) (chB D A (fun _ => [])) A) (by decide) (Nat.le_of_ble_eq_true rfl) ?_
  intro p e s m below meth c A hC hr hk hin hE hD hA H locs hP hS ls hl
  replace hC : CallFix p m c cX7_init 1 s [.ref h0].toArray wl RX7 := hC
  have hx := hC.1
  have hb := hC.2.1
  have hml := hC.2.2.1
  have hown := hC.2.2.2.1
  have hts := hC.2.2.2.2
  replace hl : lv_has ls 1 [(0, .ref h0)] := hl
  refine lv_aload_n hx hb dX7_init_0 rfl (lv_at hl 0 rfl) ?_
  refine lv_sipush (v := 1024) hx hb dX7_init_1 (by decide) ?_
  refine cv_I (As := [.int 1024]) (rest := []) (wc := [(h0, .inr (6, [.null, .null, .null, .int 0, .int 0, .int 0, .int 0]))]) (wr := []) hC hE kI_X7_3 (c_X6_init_7 l D K h0) hP hD hS hA [0] [] rfl rfl rfl (by decide) (by decide) (by decide) rfl hl.1 rfl (Nat.le_of_ble_eq_true rfl) (by decide) (by decide) dX7_init_4 (fun u99 H locs hw hP hD hS => ?_)
  replace hP : va_P D vwCl [(h0, .inr (6, [.ref (u99 0), .ref (u99 1), .ref (u99 2), .int 0, .int 0, .int (-1), .int 0]))] H := hP
  replace hD : va_D A [(h0, .inr (6, [.ref (u99 0), .ref (u99 1), .ref (u99 2), .int 0, .int 0, .int (-1), .int 0]))] := hD
  refine W.widen (k := 3) (n := 3072) (by decide) (by decide) ?_
  refine W.widen (k := 3) (n := 3072) (by decide) (by decide) ?_
  exact ch_vret hC hr hk hS dX7_init_7 () trivial (hP.sub [] rfl) (hD.sub [] (by decide) rfl)
set_option maxRecDepth 40000 in
set_option maxHeartbeats 4000000 in
theorem c_X3_init (l : Launch) (D : va_G) (K : Nat → ClassId) (h0 : Nat) : Cv (S := (Nat → Nat)) l D K yX3_init cX3_init 1 1 12 3 5130 [.ref h0] [(h0, .inr (3, [.null, .null, .null, .int 0, .int 0]))] (fun _ => True) (fun u => [(h0, .inr (3, [.ref (u 0), .ref (u 1), .ref (u 2), .int 0, .int 0]))]) := by
  intro sz
  refine ch_of (Qc := fun A => va_Qv (S := (Nat → Nat)) (fun _ => True) (chB D A (fun u => [(h0, .inr (3, [.ref (u 0), .ref (u 1), .ref (u 2), .int 0, .int 0]))])) A) (by decide) (Nat.le_of_ble_eq_true rfl) ?_
  intro p e s m below meth c A hC hr hk hin hE hD hA H locs hP hS ls hl
  replace hC : CallFix p m c cX3_init 1 s [.ref h0].toArray wl RX3 := hC
  have hx := hC.1
  have hb := hC.2.1
  have hml := hC.2.2.1
  have hown := hC.2.2.2.1
  have hts := hC.2.2.2.2
  replace hl : lv_has ls 1 [(0, .ref h0)] := hl
  refine lv_aload_n hx hb dX3_init_0 rfl (lv_at hl 0 rfl) ?_
  refine W.objInit hx hb hown (hts _ w_318) (hts _ w_243) (hts _ w_244) rfl (by rw [hml]; exact hl.1) rfl dX3_init_1 (by decide) (Nat.le_of_ble_eq_true rfl) ?_
  refine W.eq (g2 := F0 m 4 ls []) rfl ?_
  refine lv_aload_n hx hb dX3_init_4 rfl (lv_at hl 0 rfl) ?_
  refine lv_sipush (v := 1024) hx hb dX3_init_5 (by decide) ?_
  refine na (a0 := (1024, .inl (fun _ => 0))) (ty := .int) hC hE rfl w_245 1 rfl (fun _ _ h => h) hP hD hS hA (fun _ => rfl) (by decide) (by decide) (by decide) (by decide) (by decide) dX3_init_8 (fun q100 H hP hD hS => ?_)
  replace hP : va_P D vwCl [(h0, .inr (3, [.null, .null, .null, .int 0, .int 0])), (q100, .inl (K 1, 1024, .inl (fun _ => 0)))] H := hP
  replace hD : va_D A [(h0, .inr (3, [.null, .null, .null, .int 0, .int 0])), (q100, .inl (K 1, 1024, .inl (fun _ => 0)))] := hD
  refine W.widen (k := 1) (n := 1024) (by decide) (by decide) ?_
  refine va_putF (D := D) (ci := 3) (v := .ref q100) (ty := .array .int) (C := RX3) (T := TX3) (N := 5) hx hb hts in_X3 tyX3 tyX3_ok nmX3 hown hE.1 hP hD hS 0 rfl rfl 0 (by decide) (hts _ w_324) (fun _ h9 => h9) rfl hin rfl (by decide +kernel) rfl rfl (Nat.le_of_ble_eq_true rfl) dX3_init_10 (fun H locs hP hD hS => ?_)
  replace hP : va_P D vwCl [(h0, .inr (3, [.ref q100, .null, .null, .int 0, .int 0])), (q100, .inl (K 1, 1024, .inl (fun _ => 0)))] H := hP
  replace hD : va_D A [(h0, .inr (3, [.ref q100, .null, .null, .int 0, .int 0])), (q100, .inl (K 1, 1024, .inl (fun _ => 0)))] := hD
  replace hP : va_P D vwCl [(h0, .inr (3, [.ref q100, .null, .null, .int 0, .int 0]))] H := hP.sub [0] rfl
  replace hD : va_D A [(h0, .inr (3, [.ref q100, .null, .null, .int 0, .int 0]))] := hD.sub [0] (by decide) rfl
  refine lv_aload_n hx hb dX3_init_13 rfl (lv_at hl 0 rfl) ?_
  refine lv_sipush (v := 4096) hx hb dX3_init_14 (by decide) ?_
  refine na (a0 := (4096, .inl (fun _ => 0))) (ty := .int) hC hE rfl w_245 1 rfl (fun _ _ h => h) hP hD hS hA (fun _ => rfl) (by decide) (by decide) (by decide) (by decide) (by decide) dX3_init_17 (fun q101 H hP hD hS => ?_)
  replace hP : va_P D vwCl [(h0, .inr (3, [.ref q100, .null, .null, .int 0, .int 0])), (q101, .inl (K 1, 4096, .inl (fun _ => 0)))] H := hP
  replace hD : va_D A [(h0, .inr (3, [.ref q100, .null, .null, .int 0, .int 0])), (q101, .inl (K 1, 4096, .inl (fun _ => 0)))] := hD
  refine W.widen (k := 2) (n := 5120) (by decide) (by decide) ?_
  refine va_putF (D := D) (ci := 3) (v := .ref q101) (ty := .array .int) (C := RX3) (T := TX3) (N := 5) hx hb hts in_X3 tyX3 tyX3_ok nmX3 hown hE.1 hP hD hS 0 rfl rfl 1 (by decide) (hts _ w_325) (fun _ h9 => h9) rfl hin rfl (by decide +kernel) rfl rfl (Nat.le_of_ble_eq_true rfl) dX3_init_19 (fun H locs hP hD hS => ?_)
  replace hP : va_P D vwCl [(h0, .inr (3, [.ref q100, .ref q101, .null, .int 0, .int 0])), (q101, .inl (K 1, 4096, .inl (fun _ => 0)))] H := hP
  replace hD : va_D A [(h0, .inr (3, [.ref q100, .ref q101, .null, .int 0, .int 0])), (q101, .inl (K 1, 4096, .inl (fun _ => 0)))] := hD
  replace hP : va_P D vwCl [(h0, .inr (3, [.ref q100, .ref q101, .null, .int 0, .int 0]))] H := hP.sub [0] rfl
  replace hD : va_D A [(h0, .inr (3, [.ref q100, .ref q101, .null, .int 0, .int 0]))] := hD.sub [0] (by decide) rfl
  refine lv_aload_n hx hb dX3_init_22 rfl (lv_at hl 0 rfl) ?_
  refine lv_bipush (v := 10) hx hb dX3_init_23 (by decide) ?_
  refine na (a0 := (10, .inl (fun _ => 0))) (ty := .int) hC hE rfl w_245 1 rfl (fun _ _ h => h) hP hD hS hA (fun _ => rfl) (by decide) (by decide) (by decide) (by decide) (by decide) dX3_init_25 (fun q102 H hP hD hS => ?_)
  replace hP : va_P D vwCl [(h0, .inr (3, [.ref q100, .ref q101, .null, .int 0, .int 0])), (q102, .inl (K 1, 10, .inl (fun _ => 0)))] H := hP
  replace hD : va_D A [(h0, .inr (3, [.ref q100, .ref q101, .null, .int 0, .int 0])), (q102, .inl (K 1, 10, .inl (fun _ => 0)))] := hD
  refine W.widen (k := 3) (n := 5130) (by decide) (by decide) ?_
  refine va_putF (D := D) (ci := 3) (v := .ref q102) (ty := .array .int) (C := RX3) (T := TX3) (N := 5) hx hb hts in_X3 tyX3 tyX3_ok nmX3 hown hE.1 hP hD hS 0 rfl rfl 2 (by decide) (hts _ w_326) (fun _ h9 => h9) rfl hin rfl (by decide +kernel) rfl rfl (Nat.le_of_ble_eq_true rfl) dX3_init_27 (fun H locs hP hD hS => ?_)
  replace hP : va_P D vwCl [(h0, .inr (3, [.ref q100, .ref q101, .ref q102, .int 0, .int 0])), (q102, .inl (K 1, 10, .inl (fun _ => 0)))] H := hP
  replace hD : va_D A [(h0, .inr (3, [.ref q100, .ref q101, .ref q102, .int 0, .int 0])), (q102, .inl (K 1, 10, .inl (fun _ => 0)))] := hD
  replace hP : va_P D vwCl [(h0, .inr (3, [.ref q100, .ref q101, .ref q102, .int 0, .int 0]))] H := hP.sub [0] rfl
  replace hD : va_D A [(h0, .inr (3, [.ref q100, .ref q101, .ref q102, .int 0, .int 0]))] := hD.sub [0] (by decide) rfl
  refine W.widen (k := 3) (n := 5130) (by decide) (by decide) ?_
  exact ch_vret hC hr hk hS dX3_init_30 (fun k => [q100, q101, q102].getD k 0) trivial (hP.sub [0] rfl) (hD.sub [0] (by decide) rfl)
set_option maxRecDepth 40000 in
set_option maxHeartbeats 4000000 in
theorem c_X0_init (l : Launch) (D : va_G) (K : Nat → ClassId) (h0 : Nat) : Cv (S := Unit) l D K yX0_init cX0_init 1 2 32 12 102 [.ref h0] [(h0, .inr (0, [.null, .null, .null, .null, .int 0, .int 0]))] (fun _ => True) (fun _ => []) := by
  intro sz
  refine ch_of (Qc := fun A => va_Qv (S := Unit) (fun _ => True) (chB D A (fun _ => [])) A) (by decide) (Nat.le_of_ble_eq_true rfl) ?_
  intro p e s m below meth c A hC hr hk hin hE hD hA H locs hP hS ls hl
  replace hC : CallFix p m c cX0_init 1 s [.ref h0].toArray wl RX0 := hC
  have hx := hC.1
  have hb := hC.2.1
  have hml := hC.2.2.1
  have hown := hC.2.2.2.1
  have hts := hC.2.2.2.2
  replace hl : lv_has ls 1 [(0, .ref h0)] := hl
  refine lv_aload_n hx hb dX0_init_0 rfl (lv_at hl 0 rfl) ?_
  refine W.objInit hx hb hown (hts _ w_327) (hts _ w_243) (hts _ w_244) rfl (by rw [hml]; exact hl.1) rfl dX0_init_1 (by decide) (Nat.le_of_ble_eq_true rfl) ?_
  refine W.eq (g2 := F0 m 4 ls []) rfl ?_
  refine lv_aload_n hx hb dX0_init_4 rfl (lv_at hl 0 rfl) ?_
  refine va_new (ci := 9) (fs := [.null, .null, .null, .null, .null, .null, .null, .null, .int 0, .int 0, .int 0, .int 0]) (C := RX10) (T := TX10) (N := 12) hx hb hts in_X10 tyX10 tyX10_ok hown (hts _ w_328) (hts _ w_259) (hts _ w_20) hE.1 hP hD hS hA rfl (bd_X10) (by decide) (by decide) dX0_init_5 (fun q103 H hP hD hS => ?_)
  replace hP : va_P D vwCl [(h0, .inr (0, [.null, .null, .null, .null, .int 0, .int 0])), (q103, .inr (9, [.null, .null, .null, .null, .null, .null, .null, .null, .int 0, .int 0, .int 0, .int 0]))] H := hP
  replace hD : va_D A [(h0, .inr (0, [.null, .null, .null, .null, .int 0, .int 0])), (q103, .inr (9, [.null, .null, .null, .null, .null, .null, .null, .null, .int 0, .int 0, .int 0, .int 0]))] := hD
  refine W.widen (k := 1) (n := 12) (by decide) (by decide) ?_
  refine lv_dup hx hb dX0_init_8 rfl ?_
  refine cv_IN (As := []) (rest := [.ref q103, .ref h0]) (wc := [(q103, .inr (9, [.null, .null, .null, .null, .null, .null, .null, .null, .int 0, .int 0, .int 0, .int 0]))]) (wr := [(h0, .inr (0, [.null, .null, .null, .null, .int 0, .int 0]))]) hC hE kIN_X0_11 (c_X10_init l D K q103) hP hD hS hA [1] [0] rfl rfl rfl (by decide) (by decide) (by decide) rfl hl.1 rfl (Nat.le_of_ble_eq_true rfl) (by decide) (by decide) dX0_init_9 (fun u104 H locs hw hP hD hS => ?_)
  replace hP : va_P D vwCl [(h0, .inr (0, [.null, .null, .null, .null, .int 0, .int 0])), (q103, .inr (9, [.ref (u104 0), .ref (u104 1), .ref (u104 2), .ref (u104 3), .ref (u104 4), .ref (u104 5), .ref (u104 6), .ref (u104 7), .int 0, .int 0, .int 0, .int 0])), (u104 0, .inl (K 1, 40, .inl (fun _ => 0))), (u104 1, .inl (K 1, 10, .inl (fun _ => 0))), (u104 2, .inl (K 1, 4, .inl (fun _ => 0))), (u104 3, .inl (K 1, 4, .inl (fun _ => 0))), (u104 4, .inl (K 1, 4, .inl (fun _ => 0))), (u104 5, .inl (K 1, 5, .inl (fun _ => 0))), (u104 6, .inl (K 1, 5, .inl (fun _ => 0))), (u104 7, .inl (K 1, 5, .inl (fun _ => 0)))] H := hP
  replace hD : va_D A [(h0, .inr (0, [.null, .null, .null, .null, .int 0, .int 0])), (q103, .inr (9, [.ref (u104 0), .ref (u104 1), .ref (u104 2), .ref (u104 3), .ref (u104 4), .ref (u104 5), .ref (u104 6), .ref (u104 7), .int 0, .int 0, .int 0, .int 0])), (u104 0, .inl (K 1, 40, .inl (fun _ => 0))), (u104 1, .inl (K 1, 10, .inl (fun _ => 0))), (u104 2, .inl (K 1, 4, .inl (fun _ => 0))), (u104 3, .inl (K 1, 4, .inl (fun _ => 0))), (u104 4, .inl (K 1, 4, .inl (fun _ => 0))), (u104 5, .inl (K 1, 5, .inl (fun _ => 0))), (u104 6, .inl (K 1, 5, .inl (fun _ => 0))), (u104 7, .inl (K 1, 5, .inl (fun _ => 0)))] := hD
  refine W.widen (k := 9) (n := 89) (by decide) (by decide) ?_
  refine va_putF (D := D) (ci := 0) (v := .ref q103) (ty := .object "LostWood$Wood") (C := RX0) (T := TX0) (N := 6) hx hb hts in_X0 tyX0 tyX0_ok nmX0 hown hE.1 hP hD hS 0 rfl rfl 0 (by decide) (hts _ w_335) (fun _ h9 => h9) rfl hin rfl (by decide +kernel) rfl rfl (Nat.le_of_ble_eq_true rfl) dX0_init_12 (fun H locs hP hD hS => ?_)
  replace hP : va_P D vwCl [(h0, .inr (0, [.ref q103, .null, .null, .null, .int 0, .int 0])), (q103, .inr (9, [.ref (u104 0), .ref (u104 1), .ref (u104 2), .ref (u104 3), .ref (u104 4), .ref (u104 5), .ref (u104 6), .ref (u104 7), .int 0, .int 0, .int 0, .int 0])), (u104 0, .inl (K 1, 40, .inl (fun _ => 0))), (u104 1, .inl (K 1, 10, .inl (fun _ => 0))), (u104 2, .inl (K 1, 4, .inl (fun _ => 0))), (u104 3, .inl (K 1, 4, .inl (fun _ => 0))), (u104 4, .inl (K 1, 4, .inl (fun _ => 0))), (u104 5, .inl (K 1, 5, .inl (fun _ => 0))), (u104 6, .inl (K 1, 5, .inl (fun _ => 0))), (u104 7, .inl (K 1, 5, .inl (fun _ => 0)))] H := hP
  replace hD : va_D A [(h0, .inr (0, [.ref q103, .null, .null, .null, .int 0, .int 0])), (q103, .inr (9, [.ref (u104 0), .ref (u104 1), .ref (u104 2), .ref (u104 3), .ref (u104 4), .ref (u104 5), .ref (u104 6), .ref (u104 7), .int 0, .int 0, .int 0, .int 0])), (u104 0, .inl (K 1, 40, .inl (fun _ => 0))), (u104 1, .inl (K 1, 10, .inl (fun _ => 0))), (u104 2, .inl (K 1, 4, .inl (fun _ => 0))), (u104 3, .inl (K 1, 4, .inl (fun _ => 0))), (u104 4, .inl (K 1, 4, .inl (fun _ => 0))), (u104 5, .inl (K 1, 5, .inl (fun _ => 0))), (u104 6, .inl (K 1, 5, .inl (fun _ => 0))), (u104 7, .inl (K 1, 5, .inl (fun _ => 0)))] := hD
  refine lv_aload_n hx hb dX0_init_15 rfl (lv_at hl 0 rfl) ?_
  refine va_new (ci := 8) (fs := [.int 0, .int 0, .int 0]) (C := RX9) (T := TX9) (N := 3) hx hb hts in_X9 tyX9 tyX9_ok hown (hts _ w_336) (hts _ w_312) (hts _ w_313) hE.1 hP hD hS hA rfl (bd_X9) (by decide) (by decide) dX0_init_16 (fun q105 H hP hD hS => ?_)
  replace hP : va_P D vwCl [(h0, .inr (0, [.ref q103, .null, .null, .null, .int 0, .int 0])), (q103, .inr (9, [.ref (u104 0), .ref (u104 1), .ref (u104 2), .ref (u104 3), .ref (u104 4), .ref (u104 5), .ref (u104 6), .ref (u104 7), .int 0, .int 0, .int 0, .int 0])), (u104 0, .inl (K 1, 40, .inl (fun _ => 0))), (u104 1, .inl (K 1, 10, .inl (fun _ => 0))), (u104 2, .inl (K 1, 4, .inl (fun _ => 0))), (u104 3, .inl (K 1, 4, .inl (fun _ => 0))), (u104 4, .inl (K 1, 4, .inl (fun _ => 0))), (u104 5, .inl (K 1, 5, .inl (fun _ => 0))), (u104 6, .inl (K 1, 5, .inl (fun _ => 0))), (u104 7, .inl (K 1, 5, .inl (fun _ => 0))), (q105, .inr (8, [.int 0, .int 0, .int 0]))] H := hP
  replace hD : va_D A [(h0, .inr (0, [.ref q103, .null, .null, .null, .int 0, .int 0])), (q103, .inr (9, [.ref (u104 0), .ref (u104 1), .ref (u104 2), .ref (u104 3), .ref (u104 4), .ref (u104 5), .ref (u104 6), .ref (u104 7), .int 0, .int 0, .int 0, .int 0])), (u104 0, .inl (K 1, 40, .inl (fun _ => 0))), (u104 1, .inl (K 1, 10, .inl (fun _ => 0))), (u104 2, .inl (K 1, 4, .inl (fun _ => 0))), (u104 3, .inl (K 1, 4, .inl (fun _ => 0))), (u104 4, .inl (K 1, 4, .inl (fun _ => 0))), (u104 5, .inl (K 1, 5, .inl (fun _ => 0))), (u104 6, .inl (K 1, 5, .inl (fun _ => 0))), (u104 7, .inl (K 1, 5, .inl (fun _ => 0))), (q105, .inr (8, [.int 0, .int 0, .int 0]))] := hD
  refine W.widen (k := 10) (n := 92) (by decide) (by decide) ?_
  refine lv_dup hx hb dX0_init_19 rfl ?_
  refine cv_IN (As := []) (rest := [.ref q105, .ref h0]) (wc := [(q105, .inr (8, [.int 0, .int 0, .int 0]))]) (wr := [(h0, .inr (0, [.ref q103, .null, .null, .null, .int 0, .int 0])), (q103, .inr (9, [.ref (u104 0), .ref (u104 1), .ref (u104 2), .ref (u104 3), .ref (u104 4), .ref (u104 5), .ref (u104 6), .ref (u104 7), .int 0, .int 0, .int 0, .int 0])), (u104 0, .inl (K 1, 40, .inl (fun _ => 0))), (u104 1, .inl (K 1, 10, .inl (fun _ => 0))), (u104 2, .inl (K 1, 4, .inl (fun _ => 0))), (u104 3, .inl (K 1, 4, .inl (fun _ => 0))), (u104 4, .inl (K 1, 4, .inl (fun _ => 0))), (u104 5, .inl (K 1, 5, .inl (fun _ => 0))), (u104 6, .inl (K 1, 5, .inl (fun _ => 0))), (u104 7, .inl (K 1, 5, .inl (fun _ => 0)))]) hC hE kIN_X0_20 (c_X9_init l D K q105) hP hD hS hA [10] [0, 1, 2, 3, 4, 5, 6, 7, 8, 9] rfl rfl rfl (by decide) (by decide) (by decide) rfl hl.1 rfl (Nat.le_of_ble_eq_true rfl) (by decide) (by decide) dX0_init_20 (fun u106 H locs hw hP hD hS => ?_)
  replace hP : va_P D vwCl [(h0, .inr (0, [.ref q103, .null, .null, .null, .int 0, .int 0])), (q103, .inr (9, [.ref (u104 0), .ref (u104 1), .ref (u104 2), .ref (u104 3), .ref (u104 4), .ref (u104 5), .ref (u104 6), .ref (u104 7), .int 0, .int 0, .int 0, .int 0])), (u104 0, .inl (K 1, 40, .inl (fun _ => 0))), (u104 1, .inl (K 1, 10, .inl (fun _ => 0))), (u104 2, .inl (K 1, 4, .inl (fun _ => 0))), (u104 3, .inl (K 1, 4, .inl (fun _ => 0))), (u104 4, .inl (K 1, 4, .inl (fun _ => 0))), (u104 5, .inl (K 1, 5, .inl (fun _ => 0))), (u104 6, .inl (K 1, 5, .inl (fun _ => 0))), (u104 7, .inl (K 1, 5, .inl (fun _ => 0)))] H := hP
  replace hD : va_D A [(h0, .inr (0, [.ref q103, .null, .null, .null, .int 0, .int 0])), (q103, .inr (9, [.ref (u104 0), .ref (u104 1), .ref (u104 2), .ref (u104 3), .ref (u104 4), .ref (u104 5), .ref (u104 6), .ref (u104 7), .int 0, .int 0, .int 0, .int 0])), (u104 0, .inl (K 1, 40, .inl (fun _ => 0))), (u104 1, .inl (K 1, 10, .inl (fun _ => 0))), (u104 2, .inl (K 1, 4, .inl (fun _ => 0))), (u104 3, .inl (K 1, 4, .inl (fun _ => 0))), (u104 4, .inl (K 1, 4, .inl (fun _ => 0))), (u104 5, .inl (K 1, 5, .inl (fun _ => 0))), (u104 6, .inl (K 1, 5, .inl (fun _ => 0))), (u104 7, .inl (K 1, 5, .inl (fun _ => 0)))] := hD
  refine W.widen (k := 10) (n := 92) (by decide) (by decide) ?_
  refine va_putF (D := D) (ci := 0) (v := .ref q105) (ty := .object "LostWood$Walker") (C := RX0) (T := TX0) (N := 6) hx hb hts in_X0 tyX0 tyX0_ok nmX0 hown hE.1 hP hD hS 0 rfl rfl 1 (by decide) (hts _ w_337) (fun _ h9 => h9) rfl hin rfl (by decide +kernel) rfl rfl (Nat.le_of_ble_eq_true rfl) dX0_init_23 (fun H locs hP hD hS => ?_)
  replace hP : va_P D vwCl [(h0, .inr (0, [.ref q103, .ref q105, .null, .null, .int 0, .int 0])), (q103, .inr (9, [.ref (u104 0), .ref (u104 1), .ref (u104 2), .ref (u104 3), .ref (u104 4), .ref (u104 5), .ref (u104 6), .ref (u104 7), .int 0, .int 0, .int 0, .int 0])), (u104 0, .inl (K 1, 40, .inl (fun _ => 0))), (u104 1, .inl (K 1, 10, .inl (fun _ => 0))), (u104 2, .inl (K 1, 4, .inl (fun _ => 0))), (u104 3, .inl (K 1, 4, .inl (fun _ => 0))), (u104 4, .inl (K 1, 4, .inl (fun _ => 0))), (u104 5, .inl (K 1, 5, .inl (fun _ => 0))), (u104 6, .inl (K 1, 5, .inl (fun _ => 0))), (u104 7, .inl (K 1, 5, .inl (fun _ => 0)))] H := hP
  replace hD : va_D A [(h0, .inr (0, [.ref q103, .ref q105, .null, .null, .int 0, .int 0])), (q103, .inr (9, [.ref (u104 0), .ref (u104 1), .ref (u104 2), .ref (u104 3), .ref (u104 4), .ref (u104 5), .ref (u104 6), .ref (u104 7), .int 0, .int 0, .int 0, .int 0])), (u104 0, .inl (K 1, 40, .inl (fun _ => 0))), (u104 1, .inl (K 1, 10, .inl (fun _ => 0))), (u104 2, .inl (K 1, 4, .inl (fun _ => 0))), (u104 3, .inl (K 1, 4, .inl (fun _ => 0))), (u104 4, .inl (K 1, 4, .inl (fun _ => 0))), (u104 5, .inl (K 1, 5, .inl (fun _ => 0))), (u104 6, .inl (K 1, 5, .inl (fun _ => 0))), (u104 7, .inl (K 1, 5, .inl (fun _ => 0)))] := hD
  refine lv_aload_n hx hb dX0_init_26 rfl (lv_at hl 0 rfl) ?_
  refine lv_iconst (v := 5) hx hb dX0_init_27 (by decide) ?_
  refine na (a0 := (5, .inl (fun _ => 0))) (ty := .int) hC hE rfl w_245 1 rfl (fun _ _ h => h) hP hD hS hA (fun _ => rfl) (by decide) (by decide) (by decide) (by decide) (by decide) dX0_init_28 (fun q107 H hP hD hS => ?_)
  replace hP : va_P D vwCl [(h0, .inr (0, [.ref q103, .ref q105, .null, .null, .int 0, .int 0])), (q103, .inr (9, [.ref (u104 0), .ref (u104 1), .ref (u104 2), .ref (u104 3), .ref (u104 4), .ref (u104 5), .ref (u104 6), .ref (u104 7), .int 0, .int 0, .int 0, .int 0])), (u104 0, .inl (K 1, 40, .inl (fun _ => 0))), (u104 1, .inl (K 1, 10, .inl (fun _ => 0))), (u104 2, .inl (K 1, 4, .inl (fun _ => 0))), (u104 3, .inl (K 1, 4, .inl (fun _ => 0))), (u104 4, .inl (K 1, 4, .inl (fun _ => 0))), (u104 5, .inl (K 1, 5, .inl (fun _ => 0))), (u104 6, .inl (K 1, 5, .inl (fun _ => 0))), (u104 7, .inl (K 1, 5, .inl (fun _ => 0))), (q107, .inl (K 1, 5, .inl (fun _ => 0)))] H := hP
  replace hD : va_D A [(h0, .inr (0, [.ref q103, .ref q105, .null, .null, .int 0, .int 0])), (q103, .inr (9, [.ref (u104 0), .ref (u104 1), .ref (u104 2), .ref (u104 3), .ref (u104 4), .ref (u104 5), .ref (u104 6), .ref (u104 7), .int 0, .int 0, .int 0, .int 0])), (u104 0, .inl (K 1, 40, .inl (fun _ => 0))), (u104 1, .inl (K 1, 10, .inl (fun _ => 0))), (u104 2, .inl (K 1, 4, .inl (fun _ => 0))), (u104 3, .inl (K 1, 4, .inl (fun _ => 0))), (u104 4, .inl (K 1, 4, .inl (fun _ => 0))), (u104 5, .inl (K 1, 5, .inl (fun _ => 0))), (u104 6, .inl (K 1, 5, .inl (fun _ => 0))), (u104 7, .inl (K 1, 5, .inl (fun _ => 0))), (q107, .inl (K 1, 5, .inl (fun _ => 0)))] := hD
  refine W.widen (k := 11) (n := 97) (by decide) (by decide) ?_
  refine va_putF (D := D) (ci := 0) (v := .ref q107) (ty := .array .int) (C := RX0) (T := TX0) (N := 6) hx hb hts in_X0 tyX0 tyX0_ok nmX0 hown hE.1 hP hD hS 0 rfl rfl 2 (by decide) (hts _ w_338) (fun _ h9 => h9) rfl hin rfl (by decide +kernel) rfl rfl (Nat.le_of_ble_eq_true rfl) dX0_init_30 (fun H locs hP hD hS => ?_)
  replace hP : va_P D vwCl [(h0, .inr (0, [.ref q103, .ref q105, .ref q107, .null, .int 0, .int 0])), (q103, .inr (9, [.ref (u104 0), .ref (u104 1), .ref (u104 2), .ref (u104 3), .ref (u104 4), .ref (u104 5), .ref (u104 6), .ref (u104 7), .int 0, .int 0, .int 0, .int 0])), (u104 0, .inl (K 1, 40, .inl (fun _ => 0))), (u104 1, .inl (K 1, 10, .inl (fun _ => 0))), (u104 2, .inl (K 1, 4, .inl (fun _ => 0))), (u104 3, .inl (K 1, 4, .inl (fun _ => 0))), (u104 4, .inl (K 1, 4, .inl (fun _ => 0))), (u104 5, .inl (K 1, 5, .inl (fun _ => 0))), (u104 6, .inl (K 1, 5, .inl (fun _ => 0))), (u104 7, .inl (K 1, 5, .inl (fun _ => 0))), (q107, .inl (K 1, 5, .inl (fun _ => 0)))] H := hP
  replace hD : va_D A [(h0, .inr (0, [.ref q103, .ref q105, .ref q107, .null, .int 0, .int 0])), (q103, .inr (9, [.ref (u104 0), .ref (u104 1), .ref (u104 2), .ref (u104 3), .ref (u104 4), .ref (u104 5), .ref (u104 6), .ref (u104 7), .int 0, .int 0, .int 0, .int 0])), (u104 0, .inl (K 1, 40, .inl (fun _ => 0))), (u104 1, .inl (K 1, 10, .inl (fun _ => 0))), (u104 2, .inl (K 1, 4, .inl (fun _ => 0))), (u104 3, .inl (K 1, 4, .inl (fun _ => 0))), (u104 4, .inl (K 1, 4, .inl (fun _ => 0))), (u104 5, .inl (K 1, 5, .inl (fun _ => 0))), (u104 6, .inl (K 1, 5, .inl (fun _ => 0))), (u104 7, .inl (K 1, 5, .inl (fun _ => 0))), (q107, .inl (K 1, 5, .inl (fun _ => 0)))] := hD
  replace hP : va_P D vwCl [(h0, .inr (0, [.ref q103, .ref q105, .ref q107, .null, .int 0, .int 0])), (q103, .inr (9, [.ref (u104 0), .ref (u104 1), .ref (u104 2), .ref (u104 3), .ref (u104 4), .ref (u104 5), .ref (u104 6), .ref (u104 7), .int 0, .int 0, .int 0, .int 0])), (u104 0, .inl (K 1, 40, .inl (fun _ => 0))), (u104 1, .inl (K 1, 10, .inl (fun _ => 0))), (u104 2, .inl (K 1, 4, .inl (fun _ => 0))), (u104 3, .inl (K 1, 4, .inl (fun _ => 0))), (u104 4, .inl (K 1, 4, .inl (fun _ => 0))), (u104 5, .inl (K 1, 5, .inl (fun _ => 0))), (u104 6, .inl (K 1, 5, .inl (fun _ => 0))), (u104 7, .inl (K 1, 5, .inl (fun _ => 0)))] H := hP.sub [0, 1, 2, 3, 4, 5, 6, 7, 8, 9] rfl
  replace hD : va_D A [(h0, .inr (0, [.ref q103, .ref q105, .ref q107, .null, .int 0, .int 0])), (q103, .inr (9, [.ref (u104 0), .ref (u104 1), .ref (u104 2), .ref (u104 3), .ref (u104 4), .ref (u104 5), .ref (u104 6), .ref (u104 7), .int 0, .int 0, .int 0, .int 0])), (u104 0, .inl (K 1, 40, .inl (fun _ => 0))), (u104 1, .inl (K 1, 10, .inl (fun _ => 0))), (u104 2, .inl (K 1, 4, .inl (fun _ => 0))), (u104 3, .inl (K 1, 4, .inl (fun _ => 0))), (u104 4, .inl (K 1, 4, .inl (fun _ => 0))), (u104 5, .inl (K 1, 5, .inl (fun _ => 0))), (u104 6, .inl (K 1, 5, .inl (fun _ => 0))), (u104 7, .inl (K 1, 5, .inl (fun _ => 0)))] := hD.sub [0, 1, 2, 3, 4, 5, 6, 7, 8, 9] (by decide) rfl
  refine lv_aload_n hx hb dX0_init_33 rfl (lv_at hl 0 rfl) ?_
  refine lv_iconst (v := 5) hx hb dX0_init_34 (by decide) ?_
  refine na (a0 := (5, .inl (fun _ => 0))) (ty := .int) hC hE rfl w_245 1 rfl (fun _ _ h => h) hP hD hS hA (fun _ => rfl) (by decide) (by decide) (by decide) (by decide) (by decide) dX0_init_35 (fun q108 H hP hD hS => ?_)
  replace hP : va_P D vwCl [(h0, .inr (0, [.ref q103, .ref q105, .ref q107, .null, .int 0, .int 0])), (q103, .inr (9, [.ref (u104 0), .ref (u104 1), .ref (u104 2), .ref (u104 3), .ref (u104 4), .ref (u104 5), .ref (u104 6), .ref (u104 7), .int 0, .int 0, .int 0, .int 0])), (u104 0, .inl (K 1, 40, .inl (fun _ => 0))), (u104 1, .inl (K 1, 10, .inl (fun _ => 0))), (u104 2, .inl (K 1, 4, .inl (fun _ => 0))), (u104 3, .inl (K 1, 4, .inl (fun _ => 0))), (u104 4, .inl (K 1, 4, .inl (fun _ => 0))), (u104 5, .inl (K 1, 5, .inl (fun _ => 0))), (u104 6, .inl (K 1, 5, .inl (fun _ => 0))), (u104 7, .inl (K 1, 5, .inl (fun _ => 0))), (q108, .inl (K 1, 5, .inl (fun _ => 0)))] H := hP
  replace hD : va_D A [(h0, .inr (0, [.ref q103, .ref q105, .ref q107, .null, .int 0, .int 0])), (q103, .inr (9, [.ref (u104 0), .ref (u104 1), .ref (u104 2), .ref (u104 3), .ref (u104 4), .ref (u104 5), .ref (u104 6), .ref (u104 7), .int 0, .int 0, .int 0, .int 0])), (u104 0, .inl (K 1, 40, .inl (fun _ => 0))), (u104 1, .inl (K 1, 10, .inl (fun _ => 0))), (u104 2, .inl (K 1, 4, .inl (fun _ => 0))), (u104 3, .inl (K 1, 4, .inl (fun _ => 0))), (u104 4, .inl (K 1, 4, .inl (fun _ => 0))), (u104 5, .inl (K 1, 5, .inl (fun _ => 0))), (u104 6, .inl (K 1, 5, .inl (fun _ => 0))), (u104 7, .inl (K 1, 5, .inl (fun _ => 0))), (q108, .inl (K 1, 5, .inl (fun _ => 0)))] := hD
  refine W.widen (k := 12) (n := 102) (by decide) (by decide) ?_
  refine va_putF (D := D) (ci := 0) (v := .ref q108) (ty := .array .int) (C := RX0) (T := TX0) (N := 6) hx hb hts in_X0 tyX0 tyX0_ok nmX0 hown hE.1 hP hD hS 0 rfl rfl 3 (by decide) (hts _ w_339) (fun _ h9 => h9) rfl hin rfl (by decide +kernel) rfl rfl (Nat.le_of_ble_eq_true rfl) dX0_init_37 (fun H locs hP hD hS => ?_)
  replace hP : va_P D vwCl [(h0, .inr (0, [.ref q103, .ref q105, .ref q107, .ref q108, .int 0, .int 0])), (q103, .inr (9, [.ref (u104 0), .ref (u104 1), .ref (u104 2), .ref (u104 3), .ref (u104 4), .ref (u104 5), .ref (u104 6), .ref (u104 7), .int 0, .int 0, .int 0, .int 0])), (u104 0, .inl (K 1, 40, .inl (fun _ => 0))), (u104 1, .inl (K 1, 10, .inl (fun _ => 0))), (u104 2, .inl (K 1, 4, .inl (fun _ => 0))), (u104 3, .inl (K 1, 4, .inl (fun _ => 0))), (u104 4, .inl (K 1, 4, .inl (fun _ => 0))), (u104 5, .inl (K 1, 5, .inl (fun _ => 0))), (u104 6, .inl (K 1, 5, .inl (fun _ => 0))), (u104 7, .inl (K 1, 5, .inl (fun _ => 0))), (q108, .inl (K 1, 5, .inl (fun _ => 0)))] H := hP
  replace hD : va_D A [(h0, .inr (0, [.ref q103, .ref q105, .ref q107, .ref q108, .int 0, .int 0])), (q103, .inr (9, [.ref (u104 0), .ref (u104 1), .ref (u104 2), .ref (u104 3), .ref (u104 4), .ref (u104 5), .ref (u104 6), .ref (u104 7), .int 0, .int 0, .int 0, .int 0])), (u104 0, .inl (K 1, 40, .inl (fun _ => 0))), (u104 1, .inl (K 1, 10, .inl (fun _ => 0))), (u104 2, .inl (K 1, 4, .inl (fun _ => 0))), (u104 3, .inl (K 1, 4, .inl (fun _ => 0))), (u104 4, .inl (K 1, 4, .inl (fun _ => 0))), (u104 5, .inl (K 1, 5, .inl (fun _ => 0))), (u104 6, .inl (K 1, 5, .inl (fun _ => 0))), (u104 7, .inl (K 1, 5, .inl (fun _ => 0))), (q108, .inl (K 1, 5, .inl (fun _ => 0)))] := hD
  replace hP : va_P D vwCl [(h0, .inr (0, [.ref q103, .ref q105, .ref q107, .ref q108, .int 0, .int 0])), (q103, .inr (9, [.ref (u104 0), .ref (u104 1), .ref (u104 2), .ref (u104 3), .ref (u104 4), .ref (u104 5), .ref (u104 6), .ref (u104 7), .int 0, .int 0, .int 0, .int 0])), (u104 0, .inl (K 1, 40, .inl (fun _ => 0))), (u104 1, .inl (K 1, 10, .inl (fun _ => 0))), (u104 2, .inl (K 1, 4, .inl (fun _ => 0))), (u104 3, .inl (K 1, 4, .inl (fun _ => 0))), (u104 4, .inl (K 1, 4, .inl (fun _ => 0))), (u104 5, .inl (K 1, 5, .inl (fun _ => 0))), (u104 6, .inl (K 1, 5, .inl (fun _ => 0))), (u104 7, .inl (K 1, 5, .inl (fun _ => 0)))] H := hP.sub [0, 1, 2, 3, 4, 5, 6, 7, 8, 9] rfl
  replace hD : va_D A [(h0, .inr (0, [.ref q103, .ref q105, .ref q107, .ref q108, .int 0, .int 0])), (q103, .inr (9, [.ref (u104 0), .ref (u104 1), .ref (u104 2), .ref (u104 3), .ref (u104 4), .ref (u104 5), .ref (u104 6), .ref (u104 7), .int 0, .int 0, .int 0, .int 0])), (u104 0, .inl (K 1, 40, .inl (fun _ => 0))), (u104 1, .inl (K 1, 10, .inl (fun _ => 0))), (u104 2, .inl (K 1, 4, .inl (fun _ => 0))), (u104 3, .inl (K 1, 4, .inl (fun _ => 0))), (u104 4, .inl (K 1, 4, .inl (fun _ => 0))), (u104 5, .inl (K 1, 5, .inl (fun _ => 0))), (u104 6, .inl (K 1, 5, .inl (fun _ => 0))), (u104 7, .inl (K 1, 5, .inl (fun _ => 0)))] := hD.sub [0, 1, 2, 3, 4, 5, 6, 7, 8, 9] (by decide) rfl
  refine W.widen (k := 12) (n := 102) (by decide) (by decide) ?_
  exact ch_vret hC hr hk hS dX0_init_40 () trivial (hP.sub [] rfl) (hD.sub [] (by decide) rfl)
set_option maxRecDepth 40000 in
set_option maxHeartbeats 4000000 in
theorem c_X8_init (l : Launch) (D : va_G) (K : Nat → ClassId) (h0 : Nat) : Cv (S := Unit) l D K yX8_init cX8_init 1 1 12 3 30 [.ref h0] [(h0, .inr (7, [.null, .null, .null]))] (fun _ => True) (fun _ => []) := by
  intro sz
  refine ch_of (Qc := fun A => va_Qv (S := Unit) (fun _ => True) (chB D A (fun _ => [])) A) (by decide) (Nat.le_of_ble_eq_true rfl) ?_
  intro p e s m below meth c A hC hr hk hin hE hD hA H locs hP hS ls hl
  replace hC : CallFix p m c cX8_init 1 s [.ref h0].toArray wl RX8 := hC
  have hx := hC.1
  have hb := hC.2.1
  have hml := hC.2.2.1
  have hown := hC.2.2.2.1
  have hts := hC.2.2.2.2
  replace hl : lv_has ls 1 [(0, .ref h0)] := hl
  refine lv_aload_n hx hb dX8_init_0 rfl (lv_at hl 0 rfl) ?_
  refine W.objInit hx hb hown (hts _ w_340) (hts _ w_243) (hts _ w_244) rfl (by rw [hml]; exact hl.1) rfl dX8_init_1 (by decide) (Nat.le_of_ble_eq_true rfl) ?_
  refine W.eq (g2 := F0 m 4 ls []) rfl ?_
  refine lv_aload_n hx hb dX8_init_4 rfl (lv_at hl 0 rfl) ?_
  refine lv_bipush (v := 10) hx hb dX8_init_5 (by decide) ?_
  refine na (a0 := (10, .inl (fun _ => 0))) (ty := .int) hC hE rfl w_245 1 rfl (fun _ _ h => h) hP hD hS hA (fun _ => rfl) (by decide) (by decide) (by decide) (by decide) (by decide) dX8_init_7 (fun q109 H hP hD hS => ?_)
  replace hP : va_P D vwCl [(h0, .inr (7, [.null, .null, .null])), (q109, .inl (K 1, 10, .inl (fun _ => 0)))] H := hP
  replace hD : va_D A [(h0, .inr (7, [.null, .null, .null])), (q109, .inl (K 1, 10, .inl (fun _ => 0)))] := hD
  refine W.widen (k := 1) (n := 10) (by decide) (by decide) ?_
  refine va_putF (D := D) (ci := 7) (v := .ref q109) (ty := .array .int) (C := RX8) (T := TX8) (N := 3) hx hb hts in_X8 tyX8 tyX8_ok nmX8 hown hE.1 hP hD hS 0 rfl rfl 0 (by decide) (hts _ w_344) (fun _ h9 => h9) rfl hin rfl (by decide +kernel) rfl rfl (Nat.le_of_ble_eq_true rfl) dX8_init_9 (fun H locs hP hD hS => ?_)
  replace hP : va_P D vwCl [(h0, .inr (7, [.ref q109, .null, .null])), (q109, .inl (K 1, 10, .inl (fun _ => 0)))] H := hP
  replace hD : va_D A [(h0, .inr (7, [.ref q109, .null, .null])), (q109, .inl (K 1, 10, .inl (fun _ => 0)))] := hD
  replace hP : va_P D vwCl [(h0, .inr (7, [.ref q109, .null, .null]))] H := hP.sub [0] rfl
  replace hD : va_D A [(h0, .inr (7, [.ref q109, .null, .null]))] := hD.sub [0] (by decide) rfl
  refine lv_aload_n hx hb dX8_init_12 rfl (lv_at hl 0 rfl) ?_
  refine lv_bipush (v := 10) hx hb dX8_init_13 (by decide) ?_
  refine na (a0 := (10, .inl (fun _ => 0))) (ty := .int) hC hE rfl w_245 1 rfl (fun _ _ h => h) hP hD hS hA (fun _ => rfl) (by decide) (by decide) (by decide) (by decide) (by decide) dX8_init_15 (fun q110 H hP hD hS => ?_)
  replace hP : va_P D vwCl [(h0, .inr (7, [.ref q109, .null, .null])), (q110, .inl (K 1, 10, .inl (fun _ => 0)))] H := hP
  replace hD : va_D A [(h0, .inr (7, [.ref q109, .null, .null])), (q110, .inl (K 1, 10, .inl (fun _ => 0)))] := hD
  refine W.widen (k := 2) (n := 20) (by decide) (by decide) ?_
  refine va_putF (D := D) (ci := 7) (v := .ref q110) (ty := .array .int) (C := RX8) (T := TX8) (N := 3) hx hb hts in_X8 tyX8 tyX8_ok nmX8 hown hE.1 hP hD hS 0 rfl rfl 1 (by decide) (hts _ w_345) (fun _ h9 => h9) rfl hin rfl (by decide +kernel) rfl rfl (Nat.le_of_ble_eq_true rfl) dX8_init_17 (fun H locs hP hD hS => ?_)
  replace hP : va_P D vwCl [(h0, .inr (7, [.ref q109, .ref q110, .null])), (q110, .inl (K 1, 10, .inl (fun _ => 0)))] H := hP
  replace hD : va_D A [(h0, .inr (7, [.ref q109, .ref q110, .null])), (q110, .inl (K 1, 10, .inl (fun _ => 0)))] := hD
  replace hP : va_P D vwCl [(h0, .inr (7, [.ref q109, .ref q110, .null]))] H := hP.sub [0] rfl
  replace hD : va_D A [(h0, .inr (7, [.ref q109, .ref q110, .null]))] := hD.sub [0] (by decide) rfl
  refine lv_aload_n hx hb dX8_init_20 rfl (lv_at hl 0 rfl) ?_
  refine lv_bipush (v := 10) hx hb dX8_init_21 (by decide) ?_
  refine na (a0 := (10, .inl (fun _ => 0))) (ty := .int) hC hE rfl w_245 1 rfl (fun _ _ h => h) hP hD hS hA (fun _ => rfl) (by decide) (by decide) (by decide) (by decide) (by decide) dX8_init_23 (fun q111 H hP hD hS => ?_)
  replace hP : va_P D vwCl [(h0, .inr (7, [.ref q109, .ref q110, .null])), (q111, .inl (K 1, 10, .inl (fun _ => 0)))] H := hP
  replace hD : va_D A [(h0, .inr (7, [.ref q109, .ref q110, .null])), (q111, .inl (K 1, 10, .inl (fun _ => 0)))] := hD
  refine W.widen (k := 3) (n := 30) (by decide) (by decide) ?_
  refine va_putF (D := D) (ci := 7) (v := .ref q111) (ty := .array .int) (C := RX8) (T := TX8) (N := 3) hx hb hts in_X8 tyX8 tyX8_ok nmX8 hown hE.1 hP hD hS 0 rfl rfl 2 (by decide) (hts _ w_346) (fun _ h9 => h9) rfl hin rfl (by decide +kernel) rfl rfl (Nat.le_of_ble_eq_true rfl) dX8_init_25 (fun H locs hP hD hS => ?_)
  replace hP : va_P D vwCl [(h0, .inr (7, [.ref q109, .ref q110, .ref q111])), (q111, .inl (K 1, 10, .inl (fun _ => 0)))] H := hP
  replace hD : va_D A [(h0, .inr (7, [.ref q109, .ref q110, .ref q111])), (q111, .inl (K 1, 10, .inl (fun _ => 0)))] := hD
  replace hP : va_P D vwCl [(h0, .inr (7, [.ref q109, .ref q110, .ref q111]))] H := hP.sub [0] rfl
  replace hD : va_D A [(h0, .inr (7, [.ref q109, .ref q110, .ref q111]))] := hD.sub [0] (by decide) rfl
  refine W.widen (k := 3) (n := 30) (by decide) (by decide) ?_
  exact ch_vret hC hr hk hS dX8_init_28 () trivial (hP.sub [] rfl) (hD.sub [] (by decide) rfl)
