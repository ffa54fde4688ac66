set_option maxRecDepth 40000 in
set_option maxHeartbeats 4000000 in
theorem c_X5_make (l : Launch) (D : va_G) (K : Nat → ClassId) (w : Nat) (a : Nat → Nat) (fs : Nat → Int32) (p0 p1 p2 : Int32) : Cv (S := Unit) l D K yX5_make cX5_make 5 2 47 0 0 [.ref w, .int p0, .int p1, .int p2] [(w, .inr (5, [.ref (a 0), .ref (a 1), .ref (a 2)])), (a 0, .inl (K 2, 240, .inr (.inl (fun _ => 0)))), (a 1, .inl (K 1, 4, .inl (fun _ => 0))), (a 2, .inl (K 1, 4, .inl fs))] (fun _ => True) (fun _ => []) := by
  intro sz
  refine ch_of (Qc := fun A => va_Qv (S := Unit) (fun _ => True) (chB D A (fun _ => [])) A) (by decide) (Nat.le_of_ble_eq_true rfl) ?_
  intro p e s m below meth c A hC hr hk hin hE hD hA H locs hP hS ls hl
  replace hC : CallFix p m c cX5_make 5 s [.ref w, .int p0, .int p1, .int p2].toArray wl RX5 := hC
  have hx := hC.1
  have hb := hC.2.1
  have hml := hC.2.2.1
  have hown := hC.2.2.2.1
  have hts := hC.2.2.2.2
  replace hl : lv_has ls 5 [(0, .ref w), (1, .int p0), (2, .int p1), (3, .int p2)] := hl
  refine lv_iload_n hx hb dX5_make_0 rfl (lv_at hl 1 rfl) ?_
  refine ro_SN (As := [.int p0]) (rest := []) hC hE kSN_X5_28 (c_X11_isSlot l D K p0) (hP.sub (ws' := []) [] rfl) rfl hl.1 rfl (Nat.le_of_ble_eq_true rfl) (by decide) (by decide) dX5_make_1 (fun r hq => ?_)
  rcases hq with ⟨h281, rfl⟩ | ⟨h282, rfl⟩
  · refine lv_if_eq (tgt := 17) hx hb dX5_make_4 (by decide) (fun h => absurd h (by decide)) (fun _ => ?_)
    refine lv_iload_n hx hb dX5_make_7 rfl (lv_at hl 3 rfl) ?_
    refine lv_if_lt (tgt := 17) hx hb dX5_make_8 (by decide) (fun c283 => ?_) (fun c283 => ?_)
    · refine W.widen (k := 0) (n := 0) (by decide) (by decide) ?_
      exact ch_vret hC hr hk hS dX5_make_17 () trivial (hP.sub [] rfl) (hD.sub [] (by decide) rfl)
    · refine lv_iload_n hx hb dX5_make_11 rfl (lv_at hl 3 rfl) ?_
      refine lv_bipush (v := 60) hx hb dX5_make_12 (by decide) ?_
      refine lv_icmp_le (tgt := 18) hx hb dX5_make_14 (by decide) (fun c284 => ?_) (fun c284 => ?_)
      · obtain ⟨j, hj, rfl⟩ := vp_in_of (n := 4) h281 (by decide)
        rcases (show j = 0 ∨ j = 1 ∨ j = 2 ∨ j = 3 by omega) with rfl | rfl | rfl | rfl
        · refine lv_iload_n hx hb dX5_make_18 rfl (lv_at hl 1 rfl) ?_
          refine lv_bipush (v := 60) hx hb dX5_make_19 (by decide) ?_
          refine lv_imul hx hb dX5_make_21 ?_
          refine tc (y := 0) (by decide) ?_
          refine lv_istore (lv' := [(4, .int 0), (0, .ref w), (1, .int (nI 0)), (2, .int p1), (3, .int p2)]) hx hb dX5_make_22 hl (by decide) rfl (fun ls hl => ?_)
          refine lv_aload_n hx hb dX5_make_24 rfl (lv_at hl 1 rfl) ?_
          refine va_get (D := D) (ci := 5) (v := .ref (a 0)) (C := RX5) (T := TX5) (N := 3) hx hb hts in_X5 hown hE.1 hP 0 rfl rfl 0 (by decide) (hts _ w_272) (fun _ h9 => h9) rfl dX5_make_25 ?_
          refine lv_iload hx hb dX5_make_28 (lv_at hl 0 rfl) ?_
          refine lv_iload hx hb dX5_make_30 (lv_at hl 0 rfl) ?_
          refine lv_bipush (v := 60) hx hb dX5_make_32 (by decide) ?_
          refine lv_iadd hx hb dX5_make_34 ?_
          refine tc (y := 60) (by decide) ?_
          refine lv_lconst (v := 0) hx hb dX5_make_35 (by decide) ?_
          refine cv_S (As := [.ref (a 0), .int 0, .int 60, .long 0]) (rest := []) (wc := [(a 0, .inl (K 2, 240, .inr (.inl (fun _ => 0))))]) (wr := [(w, .inr (5, [.ref (a 0), .ref (a 1), .ref (a 2)])), (a 1, .inl (K 1, 4, .inl (fun _ => 0))), (a 2, .inl (K 1, 4, .inl fs))]) hC hE kS_X5_32 (c_J7_fill_bad5a l D K (a 0) 0 (by decide) 0 60 (by decide) (by decide)) hP hD hS hA [1] [0, 2, 3] rfl rfl rfl (by decide) (by decide) (by decide) rfl hl.1 rfl (Nat.le_of_ble_eq_true rfl) (by decide) (by decide) dX5_make_36 (fun u285 H locs hw hP hD hS => ?_)
          replace hP : va_P D vwCl [(w, .inr (5, [.ref (a 0), .ref (a 1), .ref (a 2)])), (a 1, .inl (K 1, 4, .inl (fun _ => 0))), (a 2, .inl (K 1, 4, .inl fs)), (a 0, .inl (K 2, 240, .inr (.inl (fun _ => 0))))] H := hP
          replace hD : va_D A [(w, .inr (5, [.ref (a 0), .ref (a 1), .ref (a 2)])), (a 1, .inl (K 1, 4, .inl (fun _ => 0))), (a 2, .inl (K 1, 4, .inl fs)), (a 0, .inl (K 2, 240, .inr (.inl (fun _ => 0))))] := hD
          refine W.widen (k := 0) (n := 0) (by decide) (by decide) ?_
          refine lv_aload_n hx hb dX5_make_39 rfl (lv_at hl 1 rfl) ?_
          refine va_get (D := D) (ci := 5) (v := .ref (a 1)) (C := RX5) (T := TX5) (N := 3) hx hb hts in_X5 hown hE.1 hP 0 rfl rfl 1 (by decide) (hts _ w_273) (fun _ h9 => h9) rfl dX5_make_40 ?_
          refine lv_iload_n hx hb dX5_make_43 rfl (lv_at hl 2 rfl) ?_
          refine lv_iload_n hx hb dX5_make_44 rfl (lv_at hl 3 rfl) ?_
          refine sti hx hb hE.1 hP hD hS 1 1 rfl rfl (in_c (by decide)) dX5_make_45 (fun g286 H locs hP hD hS => ?_)
          replace hP : va_P D vwCl [(w, .inr (5, [.ref (a 0), .ref (a 1), .ref (a 2)])), (a 1, .inl (K 1, 4, .inl g286)), (a 2, .inl (K 1, 4, .inl fs)), (a 0, .inl (K 2, 240, .inr (.inl (fun _ => 0))))] H := hP
          replace hD : va_D A [(w, .inr (5, [.ref (a 0), .ref (a 1), .ref (a 2)])), (a 1, .inl (K 1, 4, .inl g286)), (a 2, .inl (K 1, 4, .inl fs)), (a 0, .inl (K 2, 240, .inr (.inl (fun _ => 0))))] := hD
          refine lv_aload_n hx hb dX5_make_46 rfl (lv_at hl 1 rfl) ?_
          refine va_get (D := D) (ci := 5) (v := .ref (a 2)) (C := RX5) (T := TX5) (N := 3) hx hb hts in_X5 hown hE.1 hP 0 rfl rfl 2 (by decide) (hts _ w_34) (fun _ h9 => h9) rfl dX5_make_47 ?_
          refine lv_iload_n hx hb dX5_make_50 rfl (lv_at hl 2 rfl) ?_
          refine lv_iload_n hx hb dX5_make_51 rfl (lv_at hl 4 rfl) ?_
          refine sti hx hb hE.1 hP hD hS 2 1 rfl rfl (in_c (by decide)) dX5_make_52 (fun g287 H locs hP hD hS => ?_)
          replace hP : va_P D vwCl [(w, .inr (5, [.ref (a 0), .ref (a 1), .ref (a 2)])), (a 1, .inl (K 1, 4, .inl g286)), (a 2, .inl (K 1, 4, .inl g287)), (a 0, .inl (K 2, 240, .inr (.inl (fun _ => 0))))] H := hP
          replace hD : va_D A [(w, .inr (5, [.ref (a 0), .ref (a 1), .ref (a 2)])), (a 1, .inl (K 1, 4, .inl g286)), (a 2, .inl (K 1, 4, .inl g287)), (a 0, .inl (K 2, 240, .inr (.inl (fun _ => 0))))] := hD
          refine W.widen (k := 0) (n := 0) (by decide) (by decide) ?_
          exact ch_vret hC hr hk hS dX5_make_53 () trivial (hP.sub [] rfl) (hD.sub [] (by decide) rfl)
        · refine lv_iload_n hx hb dX5_make_18 rfl (lv_at hl 1 rfl) ?_
          refine lv_bipush (v := 60) hx hb dX5_make_19 (by decide) ?_
          refine lv_imul hx hb dX5_make_21 ?_
          refine tc (y := 60) (by decide) ?_
          refine lv_istore (lv' := [(4, .int 60), (0, .ref w), (1, .int (nI 1)), (2, .int p1), (3, .int p2)]) hx hb dX5_make_22 hl (by decide) rfl (fun ls hl => ?_)
          refine lv_aload_n hx hb dX5_make_24 rfl (lv_at hl 1 rfl) ?_
          refine va_get (D := D) (ci := 5) (v := .ref (a 0)) (C := RX5) (T := TX5) (N := 3) hx hb hts in_X5 hown hE.1 hP 0 rfl rfl 0 (by decide) (hts _ w_272) (fun _ h9 => h9) rfl dX5_make_25 ?_
          refine lv_iload hx hb dX5_make_28 (lv_at hl 0 rfl) ?_
          refine lv_iload hx hb dX5_make_30 (lv_at hl 0 rfl) ?_
          refine lv_bipush (v := 60) hx hb dX5_make_32 (by decide) ?_
          refine lv_iadd hx hb dX5_make_34 ?_
          refine tc (y := 120) (by decide) ?_
          refine lv_lconst (v := 0) hx hb dX5_make_35 (by decide) ?_
          refine cv_S (As := [.ref (a 0), .int 60, .int 120, .long 0]) (rest := []) (wc := [(a 0, .inl (K 2, 240, .inr (.inl (fun _ => 0))))]) (wr := [(w, .inr (5, [.ref (a 0), .ref (a 1), .ref (a 2)])), (a 1, .inl (K 1, 4, .inl (fun _ => 0))), (a 2, .inl (K 1, 4, .inl fs))]) hC hE kS_X5_32 (c_J7_fill_bad5a l D K (a 0) 60 (by decide) 60 120 (by decide) (by decide)) hP hD hS hA [1] [0, 2, 3] rfl rfl rfl (by decide) (by decide) (by decide) rfl hl.1 rfl (Nat.le_of_ble_eq_true rfl) (by decide) (by decide) dX5_make_36 (fun u288 H locs hw hP hD hS => ?_)
          replace hP : va_P D vwCl [(w, .inr (5, [.ref (a 0), .ref (a 1), .ref (a 2)])), (a 1, .inl (K 1, 4, .inl (fun _ => 0))), (a 2, .inl (K 1, 4, .inl fs)), (a 0, .inl (K 2, 240, .inr (.inl (fun _ => 0))))] H := hP
          replace hD : va_D A [(w, .inr (5, [.ref (a 0), .ref (a 1), .ref (a 2)])), (a 1, .inl (K 1, 4, .inl (fun _ => 0))), (a 2, .inl (K 1, 4, .inl fs)), (a 0, .inl (K 2, 240, .inr (.inl (fun _ => 0))))] := hD
          refine W.widen (k := 0) (n := 0) (by decide) (by decide) ?_
          refine lv_aload_n hx hb dX5_make_39 rfl (lv_at hl 1 rfl) ?_
          refine va_get (D := D) (ci := 5) (v := .ref (a 1)) (C := RX5) (T := TX5) (N := 3) hx hb hts in_X5 hown hE.1 hP 0 rfl rfl 1 (by decide) (hts _ w_273) (fun _ h9 => h9) rfl dX5_make_40 ?_
          refine lv_iload_n hx hb dX5_make_43 rfl (lv_at hl 2 rfl) ?_
          refine lv_iload_n hx hb dX5_make_44 rfl (lv_at hl 3 rfl) ?_
          refine sti hx hb hE.1 hP hD hS 1 1 rfl rfl (in_c (by decide)) dX5_make_45 (fun g289 H locs hP hD hS => ?_)
          replace hP : va_P D vwCl [(w, .inr (5, [.ref (a 0), .ref (a 1), .ref (a 2)])), (a 1, .inl (K 1, 4, .inl g289)), (a 2, .inl (K 1, 4, .inl fs)), (a 0, .inl (K 2, 240, .inr (.inl (fun _ => 0))))] H := hP
          replace hD : va_D A [(w, .inr (5, [.ref (a 0), .ref (a 1), .ref (a 2)])), (a 1, .inl (K 1, 4, .inl g289)), (a 2, .inl (K 1, 4, .inl fs)), (a 0, .inl (K 2, 240, .inr (.inl (fun _ => 0))))] := hD
          refine lv_aload_n hx hb dX5_make_46 rfl (lv_at hl 1 rfl) ?_
          refine va_get (D := D) (ci := 5) (v := .ref (a 2)) (C := RX5) (T := TX5) (N := 3) hx hb hts in_X5 hown hE.1 hP 0 rfl rfl 2 (by decide) (hts _ w_34) (fun _ h9 => h9) rfl dX5_make_47 ?_
          refine lv_iload_n hx hb dX5_make_50 rfl (lv_at hl 2 rfl) ?_
          refine lv_iload_n hx hb dX5_make_51 rfl (lv_at hl 4 rfl) ?_
          refine sti hx hb hE.1 hP hD hS 2 1 rfl rfl (in_c (by decide)) dX5_make_52 (fun g290 H locs hP hD hS => ?_)
          replace hP : va_P D vwCl [(w, .inr (5, [.ref (a 0), .ref (a 1), .ref (a 2)])), (a 1, .inl (K 1, 4, .inl g289)), (a 2, .inl (K 1, 4, .inl g290)), (a 0, .inl (K 2, 240, .inr (.inl (fun _ => 0))))] H := hP
          replace hD : va_D A [(w, .inr (5, [.ref (a 0), .ref (a 1), .ref (a 2)])), (a 1, .inl (K 1, 4, .inl g289)), (a 2, .inl (K 1, 4, .inl g290)), (a 0, .inl (K 2, 240, .inr (.inl (fun _ => 0))))] := hD
          refine W.widen (k := 0) (n := 0) (by decide) (by decide) ?_
          exact ch_vret hC hr hk hS dX5_make_53 () trivial (hP.sub [] rfl) (hD.sub [] (by decide) rfl)
        · refine lv_iload_n hx hb dX5_make_18 rfl (lv_at hl 1 rfl) ?_
          refine lv_bipush (v := 60) hx hb dX5_make_19 (by decide) ?_
          refine lv_imul hx hb dX5_make_21 ?_
          refine tc (y := 120) (by decide) ?_
          refine lv_istore (lv' := [(4, .int 120), (0, .ref w), (1, .int (nI 2)), (2, .int p1), (3, .int p2)]) hx hb dX5_make_22 hl (by decide) rfl (fun ls hl => ?_)
          refine lv_aload_n hx hb dX5_make_24 rfl (lv_at hl 1 rfl) ?_
          refine va_get (D := D) (ci := 5) (v := .ref (a 0)) (C := RX5) (T := TX5) (N := 3) hx hb hts in_X5 hown hE.1 hP 0 rfl rfl 0 (by decide) (hts _ w_272) (fun _ h9 => h9) rfl dX5_make_25 ?_
          refine lv_iload hx hb dX5_make_28 (lv_at hl 0 rfl) ?_
          refine lv_iload hx hb dX5_make_30 (lv_at hl 0 rfl) ?_
          refine lv_bipush (v := 60) hx hb dX5_make_32 (by decide) ?_
          refine lv_iadd hx hb dX5_make_34 ?_
          refine tc (y := 180) (by decide) ?_
          refine lv_lconst (v := 0) hx hb dX5_make_35 (by decide) ?_
          refine cv_S (As := [.ref (a 0), .int 120, .int 180, .long 0]) (rest := []) (wc := [(a 0, .inl (K 2, 240, .inr (.inl (fun _ => 0))))]) (wr := [(w, .inr (5, [.ref (a 0), .ref (a 1), .ref (a 2)])), (a 1, .inl (K 1, 4, .inl (fun _ => 0))), (a 2, .inl (K 1, 4, .inl fs))]) hC hE kS_X5_32 (c_J7_fill_bad5a l D K (a 0) 120 (by decide) 120 180 (by decide) (by decide)) hP hD hS hA [1] [0, 2, 3] rfl rfl rfl (by decide) (by decide) (by decide) rfl hl.1 rfl (Nat.le_of_ble_eq_true rfl) (by decide) (by decide) dX5_make_36 (fun u291 H locs hw hP hD hS => ?_)
          replace hP : va_P D vwCl [(w, .inr (5, [.ref (a 0), .ref (a 1), .ref (a 2)])), (a 1, .inl (K 1, 4, .inl (fun _ => 0))), (a 2, .inl (K 1, 4, .inl fs)), (a 0, .inl (K 2, 240, .inr (.inl (fun _ => 0))))] H := hP
          replace hD : va_D A [(w, .inr (5, [.ref (a 0), .ref (a 1), .ref (a 2)])), (a 1, .inl (K 1, 4, .inl (fun _ => 0))), (a 2, .inl (K 1, 4, .inl fs)), (a 0, .inl (K 2, 240, .inr (.inl (fun _ => 0))))] := hD
          refine W.widen (k := 0) (n := 0) (by decide) (by decide) ?_
          refine lv_aload_n hx hb dX5_make_39 rfl (lv_at hl 1 rfl) ?_
          refine va_get (D := D) (ci := 5) (v := .ref (a 1)) (C := RX5) (T := TX5) (N := 3) hx hb hts in_X5 hown hE.1 hP 0 rfl rfl 1 (by decide) (hts _ w_273) (fun _ h9 => h9) rfl dX5_make_40 ?_
          refine lv_iload_n hx hb dX5_make_43 rfl (lv_at hl 2 rfl) ?_
          refine lv_iload_n hx hb dX5_make_44 rfl (lv_at hl 3 rfl) ?_
          refine sti hx hb hE.1 hP hD hS 1 1 rfl rfl (in_c (by decide)) dX5_make_45 (fun g292 H locs hP hD hS => ?_)
          replace hP : va_P D vwCl [(w, .inr (5, [.ref (a 0), .ref (a 1), .ref (a 2)])), (a 1, .inl (K 1, 4, .inl g292)), (a 2, .inl (K 1, 4, .inl fs)), (a 0, .inl (K 2, 240, .inr (.inl (fun _ => 0))))] H := hP
          replace hD : va_D A [(w, .inr (5, [.ref (a 0), .ref (a 1), .ref (a 2)])), (a 1, .inl (K 1, 4, .inl g292)), (a 2, .inl (K 1, 4, .inl fs)), (a 0, .inl (K 2, 240, .inr (.inl (fun _ => 0))))] := hD
          refine lv_aload_n hx hb dX5_make_46 rfl (lv_at hl 1 rfl) ?_
          refine va_get (D := D) (ci := 5) (v := .ref (a 2)) (C := RX5) (T := TX5) (N := 3) hx hb hts in_X5 hown hE.1 hP 0 rfl rfl 2 (by decide) (hts _ w_34) (fun _ h9 => h9) rfl dX5_make_47 ?_
          refine lv_iload_n hx hb dX5_make_50 rfl (lv_at hl 2 rfl) ?_
          refine lv_iload_n hx hb dX5_make_51 rfl (lv_at hl 4 rfl) ?_
          refine sti hx hb hE.1 hP hD hS 2 1 rfl rfl (in_c (by decide)) dX5_make_52 (fun g293 H locs hP hD hS => ?_)
          replace hP : va_P D vwCl [(w, .inr (5, [.ref (a 0), .ref (a 1), .ref (a 2)])), (a 1, .inl (K 1, 4, .inl g292)), (a 2, .inl (K 1, 4, .inl g293)), (a 0, .inl (K 2, 240, .inr (.inl (fun _ => 0))))] H := hP
          replace hD : va_D A [(w, .inr (5, [.ref (a 0), .ref (a 1), .ref (a 2)])), (a 1, .inl (K 1, 4, .inl g292)), (a 2, .inl (K 1, 4, .inl g293)), (a 0, .inl (K 2, 240, .inr (.inl (fun _ => 0))))] := hD
          refine W.widen (k := 0) (n := 0) (by decide) (by decide) ?_
          exact ch_vret hC hr hk hS dX5_make_53 () trivial (hP.sub [] rfl) (hD.sub [] (by decide) rfl)
        · refine lv_iload_n hx hb dX5_make_18 rfl (lv_at hl 1 rfl) ?_
          refine lv_bipush (v := 60) hx hb dX5_make_19 (by decide) ?_
          refine lv_imul hx hb dX5_make_21 ?_
          refine tc (y := 180) (by decide) ?_
          refine lv_istore (lv' := [(4, .int 180), (0, .ref w), (1, .int (nI 3)), (2, .int p1), (3, .int p2)]) hx hb dX5_make_22 hl (by decide) rfl (fun ls hl => ?_)
          refine lv_aload_n hx hb dX5_make_24 rfl (lv_at hl 1 rfl) ?_
          refine va_get (D := D) (ci := 5) (v := .ref (a 0)) (C := RX5) (T := TX5) (N := 3) hx hb hts in_X5 hown hE.1 hP 0 rfl rfl 0 (by decide) (hts _ w_272) (fun _ h9 => h9) rfl dX5_make_25 ?_
          refine lv_iload hx hb dX5_make_28 (lv_at hl 0 rfl) ?_
          refine lv_iload hx hb dX5_make_30 (lv_at hl 0 rfl) ?_
          refine lv_bipush (v := 60) hx hb dX5_make_32 (by decide) ?_
          refine lv_iadd hx hb dX5_make_34 ?_
          refine tc (y := 240) (by decide) ?_
          refine lv_lconst (v := 0) hx hb dX5_make_35 (by decide) ?_
          refine cv_S (As := [.ref (a 0), .int 180, .int 240, .long 0]) (rest := []) (wc := [(a 0, .inl (K 2, 240, .inr (.inl (fun _ => 0))))]) (wr := [(w, .inr (5, [.ref (a 0), .ref (a 1), .ref (a 2)])), (a 1, .inl (K 1, 4, .inl (fun _ => 0))), (a 2, .inl (K 1, 4, .inl fs))]) hC hE kS_X5_32 (c_J7_fill_bad5a l D K (a 0) 180 (by decide) 180 240 (by decide) (by decide)) hP hD hS hA [1] [0, 2, 3] rfl rfl rfl (by decide) (by decide) (by decide) rfl hl.1 rfl (Nat.le_of_ble_eq_true rfl) (by decide) (by decide) dX5_make_36 (fun u294 H locs hw hP hD hS => ?_)
          replace hP : va_P D vwCl [(w, .inr (5, [.ref (a 0), .ref (a 1), .ref (a 2)])), (a 1, .inl (K 1, 4, .inl (fun _ => 0))), (a 2, .inl (K 1, 4, .inl fs)), (a 0, .inl (K 2, 240, .inr (.inl (fun _ => 0))))] H := hP
          replace hD : va_D A [(w, .inr (5, [.ref (a 0), .ref (a 1), .ref (a 2)])), (a 1, .inl (K 1, 4, .inl (fun _ => 0))), (a 2, .inl (K 1, 4, .inl fs)), (a 0, .inl (K 2, 240, .inr (.inl (fun _ => 0))))] := hD
          refine W.widen (k := 0) (n := 0) (by decide) (by decide) ?_
          refine lv_aload_n hx hb dX5_make_39 rfl (lv_at hl 1 rfl) ?_
          refine va_get (D := D) (ci := 5) (v := .ref (a 1)) (C := RX5) (T := TX5) (N := 3) hx hb hts in_X5 hown hE.1 hP 0 rfl rfl 1 (by decide) (hts _ w_273) (fun _ h9 => h9) rfl dX5_make_40 ?_
          refine lv_iload_n hx hb dX5_make_43 rfl (lv_at hl 2 rfl) ?_
          refine lv_iload_n hx hb dX5_make_44 rfl (lv_at hl 3 rfl) ?_
          refine sti hx hb hE.1 hP hD hS 1 1 rfl rfl (in_c (by decide)) dX5_make_45 (fun g295 H locs hP hD hS => ?_)
          replace hP : va_P D vwCl [(w, .inr (5, [.ref (a 0), .ref (a 1), .ref (a 2)])), (a 1, .inl (K 1, 4, .inl g295)), (a 2, .inl (K 1, 4, .inl fs)), (a 0, .inl (K 2, 240, .inr (.inl (fun _ => 0))))] H := hP
          replace hD : va_D A [(w, .inr (5, [.ref (a 0), .ref (a 1), .ref (a 2)])), (a 1, .inl (K 1, 4, .inl g295)), (a 2, .inl (K 1, 4, .inl fs)), (a 0, .inl (K 2, 240, .inr (.inl (fun _ => 0))))] := hD
          refine lv_aload_n hx hb dX5_make_46 rfl (lv_at hl 1 rfl) ?_
          refine va_get (D := D) (ci := 5) (v := .ref (a 2)) (C := RX5) (T := TX5) (N := 3) hx hb hts in_X5 hown hE.1 hP 0 rfl rfl 2 (by decide) (hts _ w_34) (fun _ h9 => h9) rfl dX5_make_47 ?_
          refine lv_iload_n hx hb dX5_make_50 rfl (lv_at hl 2 rfl) ?_
          refine lv_iload_n hx hb dX5_make_51 rfl (lv_at hl 4 rfl) ?_
          refine sti hx hb hE.1 hP hD hS 2 1 rfl rfl (in_c (by decide)) dX5_make_52 (fun g296 H locs hP hD hS => ?_)
          replace hP : va_P D vwCl [(w, .inr (5, [.ref (a 0), .ref (a 1), .ref (a 2)])), (a 1, .inl (K 1, 4, .inl g295)), (a 2, .inl (K 1, 4, .inl g296)), (a 0, .inl (K 2, 240, .inr (.inl (fun _ => 0))))] H := hP
          replace hD : va_D A [(w, .inr (5, [.ref (a 0), .ref (a 1), .ref (a 2)])), (a 1, .inl (K 1, 4, .inl g295)), (a 2, .inl (K 1, 4, .inl g296)), (a 0, .inl (K 2, 240, .inr (.inl (fun _ => 0))))] := hD
          refine W.widen (k := 0) (n := 0) (by decide) (by decide) ?_
          exact ch_vret hC hr hk hS dX5_make_53 () trivial (hP.sub [] rfl) (hD.sub [] (by decide) rfl)
      · refine W.widen (k := 0) (n := 0) (by decide) (by decide) ?_
        exact ch_vret hC hr hk hS dX5_make_17 () trivial (hP.sub [] rfl) (hD.sub [] (by decide) rfl)
  · refine lv_if_eq (tgt := 17) hx hb dX5_make_4 (by decide) (fun _ => ?_) (fun h => absurd h (by decide))
    refine W.widen (k := 0) (n := 0) (by decide) (by decide) ?_
    exact ch_vret hC hr hk hS dX5_make_17 () trivial (hP.sub [] rfl) (hD.sub [] (by decide) rfl)
set_option maxRecDepth 40000 in
set_option maxHeartbeats 4000000 in
theorem c_X11_row (l : Launch) (D : va_G) (K : Nat → ClassId) (x : Nat → Nat) (fs : Nat → Int32) (p0 p1 p2 : Int32) : Ci (S := Unit) l D K yX11_row cX11_row 4 (some .int) 3 71 0 0 [.ref (x 0), .int p0, .int p1, .int p2] [(x 0, .inr (10, [.ref (x 1), .ref (x 2), .ref (x 3), .ref (x 40), .ref (x 4), .ref (x 41), .ref (x 42), .ref (x 5), .ref (x 43), .ref (x 44), .ref (x 6), .ref (x 7)])), (x 4, .inr (5, [.ref (x 23), .ref (x 24), .ref (x 25)])), (x 23, .inl (K 2, 240, .inr (.inl (fun _ => 0)))), (x 24, .inl (K 1, 4, .inl (fun _ => 0))), (x 25, .inl (K 1, 4, .inl fs))] (fun r _ => rowP p0 p1 p2 r) (fun _ => []) := by
  intro sz
  refine ch_of (Qc := fun A => va_Qi (S := Unit) (fun r _ => rowP p0 p1 p2 r) (chB D A (fun _ => [])) A) (by decide) (Nat.le_of_ble_eq_true rfl) ?_
  intro p e s m below meth c A hC hr hk hin hE hD hA H locs hP hS ls hl
  replace hC : CallFix p m c cX11_row 4 s [.ref (x 0), .int p0, .int p1, .int p2].toArray wl RX11 := hC
  have hx := hC.1
  have hb := hC.2.1
  have hml := hC.2.2.1
  have hown := hC.2.2.2.1
  have hts := hC.2.2.2.2
  replace hl : lv_has ls 4 [(0, .ref (x 0)), (1, .int p0), (2, .int p1), (3, .int p2)] := hl
  refine lv_iload_n hx hb dX11_row_0 rfl (lv_at hl 1 rfl) ?_
  refine ro_S (As := [.int p0]) (rest := []) hC hE kS_X11_352 (c_X11_isSlot l D K p0) (hP.sub (ws' := []) [] rfl) rfl hl.1 rfl (Nat.le_of_ble_eq_true rfl) (by decide) (by decide) dX11_row_1 (fun r hq => ?_)
  rcases hq with ⟨h297, rfl⟩ | ⟨h298, rfl⟩
  · refine lv_if_eq (tgt := 22) hx hb dX11_row_4 (by decide) (fun h => absurd h (by decide)) (fun _ => ?_)
    refine lv_iload_n hx hb dX11_row_7 rfl (lv_at hl 2 rfl) ?_
    refine lv_if_lt (tgt := 22) hx hb dX11_row_8 (by decide) (fun c299 => ?_) (fun c299 => ?_)
    · refine lv_bipush (v := (-2)) hx hb dX11_row_22 (by decide) ?_
      refine W.widen (k := 0) (n := 0) (by decide) (by decide) ?_
      exact ch_iret hC hr hk hS dX11_row_24 () (Or.inl ⟨(fun q => (no1 c299) q.2.1), rfl⟩) (hP.sub [] rfl) (hD.sub [] (by decide) rfl)
    · refine lv_iload_n hx hb dX11_row_11 rfl (lv_at hl 2 rfl) ?_
      refine lv_iconst (v := 4) hx hb dX11_row_12 (by decide) ?_
      refine lv_icmp_ge (tgt := 22) hx hb dX11_row_13 (by decide) (fun c300 => ?_) (fun c300 => ?_)
      · refine lv_bipush (v := (-2)) hx hb dX11_row_22 (by decide) ?_
        refine W.widen (k := 0) (n := 0) (by decide) (by decide) ?_
        exact ch_iret hC hr hk hS dX11_row_24 () (Or.inl ⟨(fun q => (no2 (k := 4) (by decide) c300) q.2.1), rfl⟩) (hP.sub [] rfl) (hD.sub [] (by decide) rfl)
      · refine lv_iload_n hx hb dX11_row_16 rfl (lv_at hl 3 rfl) ?_
        refine lv_bipush (v := 60) hx hb dX11_row_17 (by decide) ?_
        refine lv_icmp_le (tgt := 25) hx hb dX11_row_19 (by decide) (fun c301 => ?_) (fun c301 => ?_)
        · refine lv_iload_n hx hb dX11_row_25 rfl (lv_at hl 3 rfl) ?_
          refine lv_if_ge (tgt := 32) hx hb dX11_row_26 (by decide) (fun c302 => ?_) (fun c302 => ?_)
          · refine lv_aload_n hx hb dX11_row_32 rfl (lv_at hl 0 rfl) ?_
            refine va_get (D := D) (ci := 10) (v := .ref (x 4)) (C := RX11) (T := TX11) (N := 12) hx hb hts in_X11 hown hE.1 hP 0 rfl rfl 4 (by decide) (hts _ w_134) (fun _ h9 => h9) rfl dX11_row_33 ?_
            refine lv_iload_n hx hb dX11_row_36 rfl (lv_at hl 1 rfl) ?_
            refine lv_iload_n hx hb dX11_row_37 rfl (lv_at hl 2 rfl) ?_
            refine lv_iload_n hx hb dX11_row_38 rfl (lv_at hl 3 rfl) ?_
            refine cv_V (As := [.int p0, .int p1, .int p2]) (rest := []) (wc := [(x 4, .inr (5, [.ref (x 23), .ref (x 24), .ref (x 25)])), (x 23, .inl (K 2, 240, .inr (.inl (fun _ => 0)))), (x 24, .inl (K 1, 4, .inl (fun _ => 0))), (x 25, .inl (K 1, 4, .inl fs))]) (wr := [(x 0, .inr (10, [.ref (x 1), .ref (x 2), .ref (x 3), .ref (x 40), .ref (x 4), .ref (x 41), .ref (x 42), .ref (x 5), .ref (x 43), .ref (x 44), .ref (x 6), .ref (x 7)]))]) hC hE kV_X11_355 (c_X5_make l D K (x 4) (fun k => x (23 + k)) fs p0 p1 p2) hP hD hS hA [1, 2, 3, 4] [0] rfl rfl rfl (by decide) (by decide) (by decide) 0 5 rfl rfl rfl hl.1 rfl (Nat.le_of_ble_eq_true rfl) (by decide) (by decide) dX11_row_39 (fun u303 H locs hw hP hD hS => ?_)
            replace hP : va_P D vwCl [(x 0, .inr (10, [.ref (x 1), .ref (x 2), .ref (x 3), .ref (x 40), .ref (x 4), .ref (x 41), .ref (x 42), .ref (x 5), .ref (x 43), .ref (x 44), .ref (x 6), .ref (x 7)]))] H := hP
            replace hD : va_D A [(x 0, .inr (10, [.ref (x 1), .ref (x 2), .ref (x 3), .ref (x 40), .ref (x 4), .ref (x 41), .ref (x 42), .ref (x 5), .ref (x 43), .ref (x 44), .ref (x 6), .ref (x 7)]))] := hD
            refine W.widen (k := 0) (n := 0) (by decide) (by decide) ?_
            refine lv_iconst (v := 0) hx hb dX11_row_42 (by decide) ?_
            refine W.widen (k := 0) (n := 0) (by decide) (by decide) ?_
            exact ch_iret hC hr hk hS dX11_row_43 () (Or.inr (Or.inr ⟨⟨h297, (yes2 (k := 4) (by decide) c299 c300), c301⟩, nlt_of_ge c302, rfl⟩)) (hP.sub [] rfl) (hD.sub [] (by decide) rfl)
          · refine lv_bipush (v := (-3)) hx hb dX11_row_29 (by decide) ?_
            refine W.widen (k := 0) (n := 0) (by decide) (by decide) ?_
            exact ch_iret hC hr hk hS dX11_row_31 () (Or.inr (Or.inl ⟨⟨h297, (yes2 (k := 4) (by decide) c299 c300), c301⟩, lt_of_nge c302, rfl⟩)) (hP.sub [] rfl) (hD.sub [] (by decide) rfl)
        · refine lv_bipush (v := (-2)) hx hb dX11_row_22 (by decide) ?_
          refine W.widen (k := 0) (n := 0) (by decide) (by decide) ?_
          exact ch_iret hC hr hk hS dX11_row_24 () (Or.inl ⟨(fun q => c301 q.2.2), rfl⟩) (hP.sub [] rfl) (hD.sub [] (by decide) rfl)
  · refine lv_if_eq (tgt := 22) hx hb dX11_row_4 (by decide) (fun _ => ?_) (fun h => absurd h (by decide))
    refine lv_bipush (v := (-2)) hx hb dX11_row_22 (by decide) ?_
    refine W.widen (k := 0) (n := 0) (by decide) (by decide) ?_
    exact ch_iret hC hr hk hS dX11_row_24 () (Or.inl ⟨(fun q => h298 q.1), rfl⟩) (hP.sub [] rfl) (hD.sub [] (by decide) rfl)
