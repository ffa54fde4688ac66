set_option maxRecDepth 40000 in
set_option maxHeartbeats 4000000 in
theorem c_X11_arePlaces (l : Launch) (D : va_G) (K : Nat → ClassId) (x : Nat) (rd : Nat) (he : Nat) (pa : Nat) (wk : Nat) (ro : Nat) (mi : Nat) (se : Nat) (pl : Nat) (co : Nat) (tr : Nat) (iw : Nat) (ip : Nat) (hea0 : Nat) (hea1 : Nat) (hea2 : Nat) (hea3 : Nat) (hea4 : Nat) (hea5 : Nat) (hea6 : Nat) (hea7 : Nat) (hen8 : Int32) (hen9 : Int32) (hen10 : Int32) (hen11 : Int32) (p0 : Int32) (p1 : Int32) : Ro l D K yX11_arePlaces cX11_arePlaces 3 (some .boolean) 1 21 [.ref x, .int p0, .int p1] [(x, .inr (10, [.ref rd, .ref he, .ref pa, .ref wk, .ref ro, .ref mi, .ref se, .ref pl, .ref co, .ref tr, .ref iw, .ref ip])), (he, .inr (9, [.ref hea0, .ref hea1, .ref hea2, .ref hea3, .ref hea4, .ref hea5, .ref hea6, .ref hea7, .int hen8, .int hen9, .int hen10, .int hen11]))] (fun r => (r = 0) ∨ (r = 1)) := by
  refine ro_of (by decide) (Nat.le_of_ble_eq_true rfl) ?_
  intro p e s m below meth c hC hr hk hE hP ls hl
  replace hC : CallFix p m c cX11_arePlaces 3 s [.ref x, .int p0, .int p1].toArray wl RX11 := hC
  have hx := hC.1
  have hb := hC.2.1
  have hml := hC.2.2.1
  have hown := hC.2.2.2.1
  have hts := hC.2.2.2.2
  replace hl : lv_has ls 3 [(0, .ref x), (1, .int p0), (2, .int p1)] := hl
  refine lv_aload_n hx hb dX11_arePlaces_0 rfl (lv_at hl 0 rfl) ?_
  refine va_get (D := D) (ci := 10) (v := .ref he) (C := RX11) (T := TX11) (N := 12) hx hb hts in_X11 hown hE.1 hP 0 rfl rfl 1 (by decide) (hts _ w_511) (fun _ h9 => h9) rfl dX11_arePlaces_1 ?_
  refine lv_iload_n hx hb dX11_arePlaces_4 rfl (lv_at hl 1 rfl) ?_
  refine ro_V (As := [.int p0]) (rest := []) hC hE kV_X11_126 (c_X10_hasPlace l D K he hea0 hea1 hea2 hea3 hea4 hea5 hea6 hea7 hen8 hen9 hen10 hen11 p0) (hP.sub (ws' := [(he, .inr (9, [.ref hea0, .ref hea1, .ref hea2, .ref hea3, .ref hea4, .ref hea5, .ref hea6, .ref hea7, .int hen8, .int hen9, .int hen10, .int hen11]))]) [1] rfl) 0 9 rfl rfl rfl hl.1 rfl (Nat.le_of_ble_eq_true rfl) (by decide) (by decide) dX11_arePlaces_5 (fun r2994 hq => ?_)
  rcases hq with rfl | ⟨rfl, h2992, h2993⟩
  · refine lv_if_eq (tgt := 26) hx hb dX11_arePlaces_8 (by decide) (fun _ => ?_) (fun h => absurd h (by decide))
    refine lv_iconst (v := 0) hx hb dX11_arePlaces_26 (by decide) ?_
    exact ro_zret hC hr hk dX11_arePlaces_27 rfl (Or.inl rfl)
  · refine lv_if_eq (tgt := 26) hx hb dX11_arePlaces_8 (by decide) (fun h => absurd h (by decide)) (fun _ => ?_)
    refine lv_aload_n hx hb dX11_arePlaces_11 rfl (lv_at hl 0 rfl) ?_
    refine va_get (D := D) (ci := 10) (v := .ref he) (C := RX11) (T := TX11) (N := 12) hx hb hts in_X11 hown hE.1 hP 0 rfl rfl 1 (by decide) (hts _ w_511) (fun _ h9 => h9) rfl dX11_arePlaces_12 ?_
    refine lv_iload_n hx hb dX11_arePlaces_15 rfl (lv_at hl 2 rfl) ?_
    refine ro_V (As := [.int p1]) (rest := []) hC hE kV_X11_126 (c_X10_hasPlace l D K he hea0 hea1 hea2 hea3 hea4 hea5 hea6 hea7 hen8 hen9 hen10 hen11 p1) (hP.sub (ws' := [(he, .inr (9, [.ref hea0, .ref hea1, .ref hea2, .ref hea3, .ref hea4, .ref hea5, .ref hea6, .ref hea7, .int hen8, .int hen9, .int hen10, .int hen11]))]) [1] rfl) 0 9 rfl rfl rfl hl.1 rfl (Nat.le_of_ble_eq_true rfl) (by decide) (by decide) dX11_arePlaces_16 (fun r2997 hq => ?_)
    rcases hq with rfl | ⟨rfl, h2995, h2996⟩
    · refine lv_if_eq (tgt := 26) hx hb dX11_arePlaces_19 (by decide) (fun _ => ?_) (fun h => absurd h (by decide))
      refine lv_iconst (v := 0) hx hb dX11_arePlaces_26 (by decide) ?_
      exact ro_zret hC hr hk dX11_arePlaces_27 rfl (Or.inl rfl)
    · refine lv_if_eq (tgt := 26) hx hb dX11_arePlaces_19 (by decide) (fun h => absurd h (by decide)) (fun _ => ?_)
      refine lv_iconst (v := 1) hx hb dX11_arePlaces_22 (by decide) ?_
      refine lv_goto (tgt := 27) hx hb dX11_arePlaces_23 (by decide) ?_
      exact ro_zret hC hr hk dX11_arePlaces_27 rfl (Or.inr rfl)
set_option maxRecDepth 40000 in
set_option maxHeartbeats 4000000 in
theorem c_X11_stand (l : Launch) (D : va_G) (K : Nat → ClassId) (x : Nat) (rd : Nat) (he : Nat) (pa : Nat) (wk : Nat) (ro : Nat) (mi : Nat) (se : Nat) (pl : Nat) (co : Nat) (tr : Nat) (iw : Nat) (ip : Nat) (hea0 : Nat) (hea1 : Nat) (hea2 : Nat) (hea3 : Nat) (hea4 : Nat) (hea5 : Nat) (hea6 : Nat) (hea7 : Nat) (paa0 : Nat) (paa1 : Nat) (paa2 : Nat) (paa3 : Nat) (paa4 : Nat) (hen8 : Int32) (hen9 : Int32) (hen10 : Int32) (hen11 : Int32) (pan5 : Int32) (wkn0 : Int32) (wkn1 : Int32) (wkn2 : Int32) (hef3 : Nat → Int32) (paf0 : Nat → Int32) (paf1 : Nat → Int32) (p0 : Int32) : Ci (S := ((Nat → Int32) × (Nat → Nat → Int32) × (Nat → Nat → Int64))) l D K yX11_stand cX11_stand 2 (some .boolean) 1 23 0 0 [.ref x, .int p0] [(x, .inr (10, [.ref rd, .ref he, .ref pa, .ref wk, .ref ro, .ref mi, .ref se, .ref pl, .ref co, .ref tr, .ref iw, .ref ip])), (he, .inr (9, [.ref hea0, .ref hea1, .ref hea2, .ref hea3, .ref hea4, .ref hea5, .ref hea6, .ref hea7, .int hen8, .int hen9, .int hen10, .int hen11])), (hea3, .inl (K 1, 4, .inl hef3)), (pa, .inr (2, [.ref paa0, .ref paa1, .ref paa2, .ref paa3, .ref paa4, .int pan5])), (paa0, .inl (K 1, 4, .inl paf0)), (paa1, .inl (K 1, 4, .inl paf1)), (wk, .inr (8, [.int wkn0, .int wkn1, .int wkn2]))] (fun r u => ((r = 0) ∨ (r = 1))) (fun u => [(x, .inr (10, [.ref rd, .ref he, .ref pa, .ref wk, .ref ro, .ref mi, .ref se, .ref pl, .ref co, .ref tr, .ref iw, .ref ip])), (he, .inr (9, [.ref hea0, .ref hea1, .ref hea2, .ref hea3, .ref hea4, .ref hea5, .ref hea6, .ref hea7, .int hen8, .int hen9, .int hen10, .int hen11])), (hea3, .inl (K 1, 4, .inl hef3)), (pa, .inr (2, [.ref paa0, .ref paa1, .ref paa2, .ref paa3, .ref paa4, .int pan5])), (paa0, .inl (K 1, 4, .inl paf0)), (paa1, .inl (K 1, 4, .inl paf1)), (wk, .inr (8, [.int (u.1 0), .int (u.1 1), .int (u.1 2)]))]) := by
  intro sz
  refine ch_of (y := yX11_stand) (cc := cX11_stand) (maxL := 2) (ret := (some .boolean)) (av := [.ref x, .int p0]) (ws := [(x, .inr (10, [.ref rd, .ref he, .ref pa, .ref wk, .ref ro, .ref mi, .ref se, .ref pl, .ref co, .ref tr, .ref iw, .ref ip])), (he, .inr (9, [.ref hea0, .ref hea1, .ref hea2, .ref hea3, .ref hea4, .ref hea5, .ref hea6, .ref hea7, .int hen8, .int hen9, .int hen10, .int hen11])), (hea3, .inl (K 1, 4, .inl hef3)), (pa, .inr (2, [.ref paa0, .ref paa1, .ref paa2, .ref paa3, .ref paa4, .int pan5])), (paa0, .inl (K 1, 4, .inl paf0)), (paa1, .inl (K 1, 4, .inl paf1)), (wk, .inr (8, [.int wkn0, .int wkn1, .int wkn2]))]) (D := D) (K := K) (Qc := fun A => va_Qi (S := ((Nat → Int32) × (Nat → Nat → Int32) × (Nat → Nat → Int64))) (fun r u => ((r = 0) ∨ (r = 1))) (chB D A (fun u => [(x, .inr (10, [.ref rd, .ref he, .ref pa, .ref wk, .ref ro, .ref mi, .ref se, .ref pl, .ref co, .ref tr, .ref iw, .ref ip])), (he, .inr (9, [.ref hea0, .ref hea1, .ref hea2, .ref hea3, .ref hea4, .ref hea5, .ref hea6, .ref hea7, .int hen8, .int hen9, .int hen10, .int hen11])), (hea3, .inl (K 1, 4, .inl hef3)), (pa, .inr (2, [.ref paa0, .ref paa1, .ref paa2, .ref paa3, .ref paa4, .int pan5])), (paa0, .inl (K 1, 4, .inl paf0)), (paa1, .inl (K 1, 4, .inl paf1)), (wk, .inr (8, [.int (u.1 0), .int (u.1 1), .int (u.1 2)]))])) A) (by decide) (Nat.le_of_ble_eq_true rfl) ?_
  intro p e s m below meth c A hC hr hk hin hE hD hA H locs hP hS ls hl
  replace hC : CallFix p m c cX11_stand 2 s [.ref x, .int p0].toArray wl RX11 := hC
  have hx := hC.1
  have hb := hC.2.1
  have hml := hC.2.2.1
  have hown := hC.2.2.2.1
  have hts := hC.2.2.2.2
  replace hl : lv_has ls 2 [(0, .ref x), (1, .int p0)] := hl
  refine lv_aload_n hx hb dX11_stand_0 rfl (lv_at hl 0 rfl) ?_
  refine va_get (D := D) (ci := 10) (v := .ref he) (C := RX11) (T := TX11) (N := 12) hx hb hts in_X11 hown hE.1 hP 0 rfl rfl 1 (by decide) (hts _ w_511) (fun _ h9 => h9) rfl dX11_stand_1 ?_
  refine lv_iload_n hx hb dX11_stand_4 rfl (lv_at hl 1 rfl) ?_
  refine ro_V (As := [.int p0]) (rest := []) hC hE kV_X11_334 (c_X10_hasPupil l D K he hea0 hea1 hea2 hea3 hea4 hea5 hea6 hea7 hen8 hen9 hen10 hen11 p0) (hP.sub (ws' := [(he, .inr (9, [.ref hea0, .ref hea1, .ref hea2, .ref hea3, .ref hea4, .ref hea5, .ref hea6, .ref hea7, .int hen8, .int hen9, .int hen10, .int hen11]))]) [1] rfl) 0 9 rfl rfl rfl hl.1 rfl (Nat.le_of_ble_eq_true rfl) (by decide) (by decide) dX11_stand_5 (fun r3008 hq => ?_)
  rcases hq with rfl | ⟨rfl, h3006, h3007⟩
  · refine lv_if_ne (tgt := 13) hx hb dX11_stand_8 (by decide) (fun h => absurd h (by decide)) (fun _ => ?_)
    refine lv_iconst (v := 0) hx hb dX11_stand_11 (by decide) ?_
    refine W.widen (k := 0) (n := 0) (by decide) (by decide) ?_
    exact ch_zret hC hr hk hS dX11_stand_12 rfl ((fun k => [wkn0, wkn1, wkn2].getD k 0, fun k => [].getD k (fun _ => 0), fun k => [].getD k (fun _ => 0)) : ((Nat → Int32) × (Nat → Nat → Int32) × (Nat → Nat → Int64))) (Or.inl rfl) (hP.sub [0, 1, 2, 3, 4, 5, 6] rfl) (hD.sub [0, 1, 2, 3, 4, 5, 6] (by decide) rfl)
  · refine lv_if_ne (tgt := 13) hx hb dX11_stand_8 (by decide) (fun _ => ?_) (fun h => absurd h (by decide))
    refine lv_aload_n hx hb dX11_stand_13 rfl (lv_at hl 0 rfl) ?_
    refine va_get (D := D) (ci := 10) (v := .ref wk) (C := RX11) (T := TX11) (N := 12) hx hb hts in_X11 hown hE.1 hP 0 rfl rfl 3 (by decide) (hts _ w_513) (fun _ h9 => h9) rfl dX11_stand_14 ?_
    refine lv_aload_n hx hb dX11_stand_17 rfl (lv_at hl 0 rfl) ?_
    refine va_get (D := D) (ci := 10) (v := .ref pa) (C := RX11) (T := TX11) (N := 12) hx hb hts in_X11 hown hE.1 hP 0 rfl rfl 2 (by decide) (hts _ w_514) (fun _ h9 => h9) rfl dX11_stand_18 ?_
    refine va_get (D := D) (ci := 2) (v := .ref paa0) (C := RX2) (T := TX2) (N := 6) hx hb hts in_X2 hown hE.1 hP 3 rfl rfl 0 (by decide) (hts _ w_515) (fun _ h9 => h9) rfl dX11_stand_21 ?_
    refine lv_iload_n hx hb dX11_stand_24 rfl (lv_at hl 1 rfl) ?_
    refine va_iald hx hb hE.1 hP 4 1 rfl rfl (vp_in_iff.mpr (by omega)) dX11_stand_25 ?_
    refine lv_topi (fun v3009 ev3009 => ?_)
    refine lv_aload_n hx hb dX11_stand_26 rfl (lv_at hl 0 rfl) ?_
    refine va_get (D := D) (ci := 10) (v := .ref pa) (C := RX11) (T := TX11) (N := 12) hx hb hts in_X11 hown hE.1 hP 0 rfl rfl 2 (by decide) (hts _ w_514) (fun _ h9 => h9) rfl dX11_stand_27 ?_
    refine va_get (D := D) (ci := 2) (v := .ref paa1) (C := RX2) (T := TX2) (N := 6) hx hb hts in_X2 hown hE.1 hP 3 rfl rfl 1 (by decide) (hts _ w_516) (fun _ h9 => h9) rfl dX11_stand_30 ?_
    refine lv_iload_n hx hb dX11_stand_33 rfl (lv_at hl 1 rfl) ?_
    refine va_iald hx hb hE.1 hP 5 1 rfl rfl (vp_in_iff.mpr (by omega)) dX11_stand_34 ?_
    refine lv_topi (fun v3010 ev3010 => ?_)
    refine lv_aload_n hx hb dX11_stand_35 rfl (lv_at hl 0 rfl) ?_
    refine va_get (D := D) (ci := 10) (v := .ref he) (C := RX11) (T := TX11) (N := 12) hx hb hts in_X11 hown hE.1 hP 0 rfl rfl 1 (by decide) (hts _ w_511) (fun _ h9 => h9) rfl dX11_stand_36 ?_
    refine va_get (D := D) (ci := 9) (v := .ref hea3) (C := RX10) (T := TX10) (N := 12) hx hb hts in_X10 hown hE.1 hP 1 rfl rfl 3 (by decide) (hts _ w_517) (fun _ h9 => h9) rfl dX11_stand_39 ?_
    refine lv_iload_n hx hb dX11_stand_42 rfl (lv_at hl 1 rfl) ?_
    refine va_iald hx hb hE.1 hP 2 1 rfl rfl (vp_in_iff.mpr (by omega)) dX11_stand_43 ?_
    refine lv_topi (fun v3011 ev3011 => ?_)
    refine cv_V (As := [.int v3009, .int v3010, .int v3011]) (rest := []) (wc := [(wk, .inr (8, [.int wkn0, .int wkn1, .int wkn2]))]) (wr := [(x, .inr (10, [.ref rd, .ref he, .ref pa, .ref wk, .ref ro, .ref mi, .ref se, .ref pl, .ref co, .ref tr, .ref iw, .ref ip])), (he, .inr (9, [.ref hea0, .ref hea1, .ref hea2, .ref hea3, .ref hea4, .ref hea5, .ref hea6, .ref hea7, .int hen8, .int hen9, .int hen10, .int hen11])), (hea3, .inl (K 1, 4, .inl hef3)), (pa, .inr (2, [.ref paa0, .ref paa1, .ref paa2, .ref paa3, .ref paa4, .int pan5])), (paa0, .inl (K 1, 4, .inl paf0)), (paa1, .inl (K 1, 4, .inl paf1))]) hC hE kV_X11_383 (c_X9_place l D K wk wkn0 wkn1 wkn2 v3009 v3010 v3011) hP hD hS hA [6] [0, 1, 2, 3, 4, 5] rfl rfl rfl (by decide) (by decide) (by decide) 0 8 rfl rfl rfl hl.1 rfl (Nat.le_of_ble_eq_true rfl) (by decide) (by decide) dX11_stand_44 (fun u3012 H locs hw hP hD hS => ?_)
    replace hP : va_P D vwCl [(x, .inr (10, [.ref rd, .ref he, .ref pa, .ref wk, .ref ro, .ref mi, .ref se, .ref pl, .ref co, .ref tr, .ref iw, .ref ip])), (he, .inr (9, [.ref hea0, .ref hea1, .ref hea2, .ref hea3, .ref hea4, .ref hea5, .ref hea6, .ref hea7, .int hen8, .int hen9, .int hen10, .int hen11])), (hea3, .inl (K 1, 4, .inl hef3)), (pa, .inr (2, [.ref paa0, .ref paa1, .ref paa2, .ref paa3, .ref paa4, .int pan5])), (paa0, .inl (K 1, 4, .inl paf0)), (paa1, .inl (K 1, 4, .inl paf1)), (wk, .inr (8, [.int (u3012.1 0), .int (u3012.1 1), .int (u3012.1 2)]))] H := hP
    replace hD : va_D A [(x, .inr (10, [.ref rd, .ref he, .ref pa, .ref wk, .ref ro, .ref mi, .ref se, .ref pl, .ref co, .ref tr, .ref iw, .ref ip])), (he, .inr (9, [.ref hea0, .ref hea1, .ref hea2, .ref hea3, .ref hea4, .ref hea5, .ref hea6, .ref hea7, .int hen8, .int hen9, .int hen10, .int hen11])), (hea3, .inl (K 1, 4, .inl hef3)), (pa, .inr (2, [.ref paa0, .ref paa1, .ref paa2, .ref paa3, .ref paa4, .int pan5])), (paa0, .inl (K 1, 4, .inl paf0)), (paa1, .inl (K 1, 4, .inl paf1)), (wk, .inr (8, [.int (u3012.1 0), .int (u3012.1 1), .int (u3012.1 2)]))] := hD
    replace hP : va_P D vwCl [(x, .inr (10, [.ref rd, .ref he, .ref pa, .ref wk, .ref ro, .ref mi, .ref se, .ref pl, .ref co, .ref tr, .ref iw, .ref ip])), (he, .inr (9, [.ref hea0, .ref hea1, .ref hea2, .ref hea3, .ref hea4, .ref hea5, .ref hea6, .ref hea7, .int hen8, .int hen9, .int hen10, .int hen11])), (hea3, .inl (K 1, 4, .inl hef3)), (pa, .inr (2, [.ref paa0, .ref paa1, .ref paa2, .ref paa3, .ref paa4, .int pan5])), (paa0, .inl (K 1, 4, .inl paf0)), (paa1, .inl (K 1, 4, .inl paf1)), (wk, .inr (8, [.int (u3012.1 0), .int (u3012.1 1), .int (u3012.1 2)]))] H := hP.sub [0, 1, 2, 3, 4, 5, 6] rfl
    replace hD : va_D A [(x, .inr (10, [.ref rd, .ref he, .ref pa, .ref wk, .ref ro, .ref mi, .ref se, .ref pl, .ref co, .ref tr, .ref iw, .ref ip])), (he, .inr (9, [.ref hea0, .ref hea1, .ref hea2, .ref hea3, .ref hea4, .ref hea5, .ref hea6, .ref hea7, .int hen8, .int hen9, .int hen10, .int hen11])), (hea3, .inl (K 1, 4, .inl hef3)), (pa, .inr (2, [.ref paa0, .ref paa1, .ref paa2, .ref paa3, .ref paa4, .int pan5])), (paa0, .inl (K 1, 4, .inl paf0)), (paa1, .inl (K 1, 4, .inl paf1)), (wk, .inr (8, [.int (u3012.1 0), .int (u3012.1 1), .int (u3012.1 2)]))] := hD.sub [0, 1, 2, 3, 4, 5, 6] (by decide) rfl
    refine W.widen (k := 0) (n := 0) (by decide) (by decide) ?_
    refine lv_iconst (v := 1) hx hb dX11_stand_47 (by decide) ?_
    refine W.widen (k := 0) (n := 0) (by decide) (by decide) ?_
    exact ch_zret hC hr hk hS dX11_stand_48 rfl ((fun k => [(u3012.1 0), (u3012.1 1), (u3012.1 2)].getD k 0, fun k => [].getD k (fun _ => 0), fun k => [].getD k (fun _ => 0)) : ((Nat → Int32) × (Nat → Nat → Int32) × (Nat → Nat → Int64))) (Or.inr rfl) (hP.sub [0, 1, 2, 3, 4, 5, 6] rfl) (hD.sub [0, 1, 2, 3, 4, 5, 6] (by decide) rfl)
set_option maxRecDepth 40000 in
set_option maxHeartbeats 4000000 in
theorem c_X11_refuseWalk (l : Launch) (D : va_G) (K : Nat → ClassId) (x : Nat) (rd : Nat) (he : Nat) (pa : Nat) (wk : Nat) (ro : Nat) (mi : Nat) (se : Nat) (pl : Nat) (co : Nat) (tr : Nat) (iw : Nat) (ip : Nat) (hea0 : Nat) (hea1 : Nat) (hea2 : Nat) (hea3 : Nat) (hea4 : Nat) (hea5 : Nat) (hea6 : Nat) (hea7 : Nat) (paa0 : Nat) (paa1 : Nat) (paa2 : Nat) (paa3 : Nat) (paa4 : Nat) (roa0 : Nat) (roa1 : Nat) (roa2 : Nat) (hen8 : Int32) (hen9 : Int32) (hen10 : Int32) (hen11 : Int32) (pan5 : Int32) (wkn0 : Int32) (wkn1 : Int32) (wkn2 : Int32) (hef3 : Nat → Int32) (paf0 : Nat → Int32) (paf1 : Nat → Int32) (rof0 : Nat → Int64) (rof2 : Nat → Int32) (p0 : Int32) (p1 : Int32) (hsz : ∀ j, j < 4 → -1 ≤ (rof2 j).toInt ∧ (rof2 j).toInt ≤ 60) : Ci (S := ((Nat → Int32) × (Nat → Nat → Int32) × (Nat → Nat → Int64))) l D K yX11_refuseWalk cX11_refuseWalk 4 (some .int) 4 87 0 0 [.ref x, .int p0, .int p1] [(x, .inr (10, [.ref rd, .ref he, .ref pa, .ref wk, .ref ro, .ref mi, .ref se, .ref pl, .ref co, .ref tr, .ref iw, .ref ip])), (he, .inr (9, [.ref hea0, .ref hea1, .ref hea2, .ref hea3, .ref hea4, .ref hea5, .ref hea6, .ref hea7, .int hen8, .int hen9, .int hen10, .int hen11])), (hea3, .inl (K 1, 4, .inl hef3)), (pa, .inr (2, [.ref paa0, .ref paa1, .ref paa2, .ref paa3, .ref paa4, .int pan5])), (paa0, .inl (K 1, 4, .inl paf0)), (paa1, .inl (K 1, 4, .inl paf1)), (wk, .inr (8, [.int wkn0, .int wkn1, .int wkn2])), (ro, .inr (5, [.ref roa0, .ref roa1, .ref roa2])), (roa0, .inl (K 2, 240, .inr (.inl rof0))), (roa2, .inl (K 1, 4, .inl rof2))] (fun r u => ((r = (-2)) ∨ (r = (-6)) ∨ (r = 0))) (fun u => [(x, .inr (10, [.ref rd, .ref he, .ref pa, .ref wk, .ref ro, .ref mi, .ref se, .ref pl, .ref co, .ref tr, .ref iw, .ref ip])), (he, .inr (9, [.ref hea0, .ref hea1, .ref hea2, .ref hea3, .ref hea4, .ref hea5, .ref hea6, .ref hea7, .int hen8, .int hen9, .int hen10, .int hen11])), (hea3, .inl (K 1, 4, .inl hef3)), (pa, .inr (2, [.ref paa0, .ref paa1, .ref paa2, .ref paa3, .ref paa4, .int pan5])), (paa0, .inl (K 1, 4, .inl paf0)), (paa1, .inl (K 1, 4, .inl paf1)), (wk, .inr (8, [.int (u.1 0), .int (u.1 1), .int (u.1 2)])), (ro, .inr (5, [.ref roa0, .ref roa1, .ref roa2])), (roa0, .inl (K 2, 240, .inr (.inl rof0))), (roa2, .inl (K 1, 4, .inl rof2))]) := by
  intro sz
  refine ch_of (y := yX11_refuseWalk) (cc := cX11_refuseWalk) (maxL := 4) (ret := (some .int)) (av := [.ref x, .int p0, .int p1]) (ws := [(x, .inr (10, [.ref rd, .ref he, .ref pa, .ref wk, .ref ro, .ref mi, .ref se, .ref pl, .ref co, .ref tr, .ref iw, .ref ip])), (he, .inr (9, [.ref hea0, .ref hea1, .ref hea2, .ref hea3, .ref hea4, .ref hea5, .ref hea6, .ref hea7, .int hen8, .int hen9, .int hen10, .int hen11])), (hea3, .inl (K 1, 4, .inl hef3)), (pa, .inr (2, [.ref paa0, .ref paa1, .ref paa2, .ref paa3, .ref paa4, .int pan5])), (paa0, .inl (K 1, 4, .inl paf0)), (paa1, .inl (K 1, 4, .inl paf1)), (wk, .inr (8, [.int wkn0, .int wkn1, .int wkn2])), (ro, .inr (5, [.ref roa0, .ref roa1, .ref roa2])), (roa0, .inl (K 2, 240, .inr (.inl rof0))), (roa2, .inl (K 1, 4, .inl rof2))]) (D := D) (K := K) (Qc := fun A => va_Qi (S := ((Nat → Int32) × (Nat → Nat → Int32) × (Nat → Nat → Int64))) (fun r u => ((r = (-2)) ∨ (r = (-6)) ∨ (r = 0))) (chB D A (fun u => [(x, .inr (10, [.ref rd, .ref he, .ref pa, .ref wk, .ref ro, .ref mi, .ref se, .ref pl, .ref co, .ref tr, .ref iw, .ref ip])), (he, .inr (9, [.ref hea0, .ref hea1, .ref hea2, .ref hea3, .ref hea4, .ref hea5, .ref hea6, .ref hea7, .int hen8, .int hen9, .int hen10, .int hen11])), (hea3, .inl (K 1, 4, .inl hef3)), (pa, .inr (2, [.ref paa0, .ref paa1, .ref paa2, .ref paa3, .ref paa4, .int pan5])), (paa0, .inl (K 1, 4, .inl paf0)), (paa1, .inl (K 1, 4, .inl paf1)), (wk, .inr (8, [.int (u.1 0), .int (u.1 1), .int (u.1 2)])), (ro, .inr (5, [.ref roa0, .ref roa1, .ref roa2])), (roa0, .inl (K 2, 240, .inr (.inl rof0))), (roa2, .inl (K 1, 4, .inl rof2))])) A) (by decide) (Nat.le_of_ble_eq_true rfl) ?_
  intro p e s m below meth c A hC hr hk hin hE hD hA H locs hP hS ls hl
  replace hC : CallFix p m c cX11_refuseWalk 4 s [.ref x, .int p0, .int p1].toArray wl RX11 := hC
  have hx := hC.1
  have hb := hC.2.1
  have hml := hC.2.2.1
  have hown := hC.2.2.2.1
  have hts := hC.2.2.2.2
  replace hl : lv_has ls 4 [(0, .ref x), (1, .int p0), (2, .int p1)] := hl
  have kc_0 : (0 : Int32).toInt = 0 := by decide
  have kc_1 : (1 : Int32).toInt = 1 := by decide
  have kc_4 : (4 : Int32).toInt = 4 := by decide
  have kc_60 : (60 : Int32).toInt = 60 := by decide
  refine lv_iload_n hx hb dX11_refuseWalk_0 rfl (lv_at hl 1 rfl) ?_
  refine ro_S (As := [.int p0]) (rest := []) hC hE kS_X11_352 (c_X11_isSlot l D K p0) (hP.sub (ws' := []) [] rfl) rfl hl.1 rfl (Nat.le_of_ble_eq_true rfl) (by decide) (by decide) dX11_refuseWalk_1 (fun r3044 hq => ?_)
  rcases hq with ⟨rfl, h3041⟩ | ⟨rfl, h3042, h3043⟩
  · refine lv_if_eq (tgt := 15) hx hb dX11_refuseWalk_4 (by decide) (fun _ => ?_) (fun h => absurd h (by decide))
    refine lv_bipush (v := (-2)) hx hb dX11_refuseWalk_15 (by decide) ?_
    refine W.widen (k := 0) (n := 0) (by decide) (by decide) ?_
    exact ch_iret hC hr hk hS dX11_refuseWalk_17 ((fun k => [wkn0, wkn1, wkn2].getD k 0, fun k => [].getD k (fun _ => 0), fun k => [].getD k (fun _ => 0)) : ((Nat → Int32) × (Nat → Nat → Int32) × (Nat → Nat → Int64))) (Or.inl rfl) (hP.sub [0, 1, 2, 3, 4, 5, 6, 7, 8, 9] rfl) (hD.sub [0, 1, 2, 3, 4, 5, 6, 7, 8, 9] (by decide) rfl)
  · refine lv_if_eq (tgt := 15) hx hb dX11_refuseWalk_4 (by decide) (fun h => absurd h (by decide)) (fun _ => ?_)
    refine lv_aload_n hx hb dX11_refuseWalk_7 rfl (lv_at hl 0 rfl) ?_
    refine lv_iload_n hx hb dX11_refuseWalk_8 rfl (lv_at hl 2 rfl) ?_
    refine ci_V (As := [.int p1]) (rest := []) (wc := [(x, .inr (10, [.ref rd, .ref he, .ref pa, .ref wk, .ref ro, .ref mi, .ref se, .ref pl, .ref co, .ref tr, .ref iw, .ref ip])), (he, .inr (9, [.ref hea0, .ref hea1, .ref hea2, .ref hea3, .ref hea4, .ref hea5, .ref hea6, .ref hea7, .int hen8, .int hen9, .int hen10, .int hen11])), (hea3, .inl (K 1, 4, .inl hef3)), (pa, .inr (2, [.ref paa0, .ref paa1, .ref paa2, .ref paa3, .ref paa4, .int pan5])), (paa0, .inl (K 1, 4, .inl paf0)), (paa1, .inl (K 1, 4, .inl paf1)), (wk, .inr (8, [.int wkn0, .int wkn1, .int wkn2]))]) (wr := [(ro, .inr (5, [.ref roa0, .ref roa1, .ref roa2])), (roa0, .inl (K 2, 240, .inr (.inl rof0))), (roa2, .inl (K 1, 4, .inl rof2))]) hC hE kV_X11_152 (c_X11_stand l D K x rd he pa wk ro mi se pl co tr iw ip hea0 hea1 hea2 hea3 hea4 hea5 hea6 hea7 paa0 paa1 paa2 paa3 paa4 hen8 hen9 hen10 hen11 pan5 wkn0 wkn1 wkn2 hef3 paf0 paf1 p1) hP hD hS hA [0, 1, 2, 3, 4, 5, 6] [7, 8, 9] rfl rfl rfl (by decide) (by decide) (by decide) 0 10 rfl rfl rfl hl.1 rfl (Nat.le_of_ble_eq_true rfl) (by decide) (by decide) dX11_refuseWalk_9 (fun r3046 u3045 H locs hw hP hD hS => ?_)
    replace hP : va_P D vwCl [(ro, .inr (5, [.ref roa0, .ref roa1, .ref roa2])), (roa0, .inl (K 2, 240, .inr (.inl rof0))), (roa2, .inl (K 1, 4, .inl rof2)), (x, .inr (10, [.ref rd, .ref he, .ref pa, .ref wk, .ref ro, .ref mi, .ref se, .ref pl, .ref co, .ref tr, .ref iw, .ref ip])), (he, .inr (9, [.ref hea0, .ref hea1, .ref hea2, .ref hea3, .ref hea4, .ref hea5, .ref hea6, .ref hea7, .int hen8, .int hen9, .int hen10, .int hen11])), (hea3, .inl (K 1, 4, .inl hef3)), (pa, .inr (2, [.ref paa0, .ref paa1, .ref paa2, .ref paa3, .ref paa4, .int pan5])), (paa0, .inl (K 1, 4, .inl paf0)), (paa1, .inl (K 1, 4, .inl paf1)), (wk, .inr (8, [.int (u3045.1 0), .int (u3045.1 1), .int (u3045.1 2)]))] H := hP
    replace hD : va_D A [(ro, .inr (5, [.ref roa0, .ref roa1, .ref roa2])), (roa0, .inl (K 2, 240, .inr (.inl rof0))), (roa2, .inl (K 1, 4, .inl rof2)), (x, .inr (10, [.ref rd, .ref he, .ref pa, .ref wk, .ref ro, .ref mi, .ref se, .ref pl, .ref co, .ref tr, .ref iw, .ref ip])), (he, .inr (9, [.ref hea0, .ref hea1, .ref hea2, .ref hea3, .ref hea4, .ref hea5, .ref hea6, .ref hea7, .int hen8, .int hen9, .int hen10, .int hen11])), (hea3, .inl (K 1, 4, .inl hef3)), (pa, .inr (2, [.ref paa0, .ref paa1, .ref paa2, .ref paa3, .ref paa4, .int pan5])), (paa0, .inl (K 1, 4, .inl paf0)), (paa1, .inl (K 1, 4, .inl paf1)), (wk, .inr (8, [.int (u3045.1 0), .int (u3045.1 1), .int (u3045.1 2)]))] := hD
    replace hP : va_P D vwCl [(x, .inr (10, [.ref rd, .ref he, .ref pa, .ref wk, .ref ro, .ref mi, .ref se, .ref pl, .ref co, .ref tr, .ref iw, .ref ip])), (he, .inr (9, [.ref hea0, .ref hea1, .ref hea2, .ref hea3, .ref hea4, .ref hea5, .ref hea6, .ref hea7, .int hen8, .int hen9, .int hen10, .int hen11])), (hea3, .inl (K 1, 4, .inl hef3)), (pa, .inr (2, [.ref paa0, .ref paa1, .ref paa2, .ref paa3, .ref paa4, .int pan5])), (paa0, .inl (K 1, 4, .inl paf0)), (paa1, .inl (K 1, 4, .inl paf1)), (wk, .inr (8, [.int (u3045.1 0), .int (u3045.1 1), .int (u3045.1 2)])), (ro, .inr (5, [.ref roa0, .ref roa1, .ref roa2])), (roa0, .inl (K 2, 240, .inr (.inl rof0))), (roa2, .inl (K 1, 4, .inl rof2))] H := hP.sub [3, 4, 5, 6, 7, 8, 9, 0, 1, 2] rfl
    replace hD : va_D A [(x, .inr (10, [.ref rd, .ref he, .ref pa, .ref wk, .ref ro, .ref mi, .ref se, .ref pl, .ref co, .ref tr, .ref iw, .ref ip])), (he, .inr (9, [.ref hea0, .ref hea1, .ref hea2, .ref hea3, .ref hea4, .ref hea5, .ref hea6, .ref hea7, .int hen8, .int hen9, .int hen10, .int hen11])), (hea3, .inl (K 1, 4, .inl hef3)), (pa, .inr (2, [.ref paa0, .ref paa1, .ref paa2, .ref paa3, .ref paa4, .int pan5])), (paa0, .inl (K 1, 4, .inl paf0)), (paa1, .inl (K 1, 4, .inl paf1)), (wk, .inr (8, [.int (u3045.1 0), .int (u3045.1 1), .int (u3045.1 2)])), (ro, .inr (5, [.ref roa0, .ref roa1, .ref roa2])), (roa0, .inl (K 2, 240, .inr (.inl rof0))), (roa2, .inl (K 1, 4, .inl rof2))] := hD.sub [3, 4, 5, 6, 7, 8, 9, 0, 1, 2] (by decide) rfl
    refine W.widen (k := 0) (n := 0) (by decide) (by decide) ?_
    rcases hw with rfl | rfl
    · refine lv_if_ne (tgt := 18) hx hb dX11_refuseWalk_12 (by decide) (fun h => absurd h (by decide)) (fun _ => ?_)
      refine lv_bipush (v := (-2)) hx hb dX11_refuseWalk_15 (by decide) ?_
      refine W.widen (k := 0) (n := 0) (by decide) (by decide) ?_
      exact ch_iret hC hr hk hS dX11_refuseWalk_17 ((fun k => [(u3045.1 0), (u3045.1 1), (u3045.1 2)].getD k 0, fun k => [].getD k (fun _ => 0), fun k => [].getD k (fun _ => 0)) : ((Nat → Int32) × (Nat → Nat → Int32) × (Nat → Nat → Int64))) (Or.inl rfl) (hP.sub [0, 1, 2, 3, 4, 5, 6, 7, 8, 9] rfl) (hD.sub [0, 1, 2, 3, 4, 5, 6, 7, 8, 9] (by decide) rfl)
    · refine lv_if_ne (tgt := 18) hx hb dX11_refuseWalk_12 (by decide) (fun _ => ?_) (fun h => absurd h (by decide))
      refine lv_aload_n hx hb dX11_refuseWalk_18 rfl (lv_at hl 0 rfl) ?_
      refine va_get (D := D) (ci := 10) (v := .ref ro) (C := RX11) (T := TX11) (N := 12) hx hb hts in_X11 hown hE.1 hP 0 rfl rfl 4 (by decide) (hts _ w_523) (fun _ h9 => h9) rfl dX11_refuseWalk_19 ?_
      refine lv_iload_n hx hb dX11_refuseWalk_22 rfl (lv_at hl 1 rfl) ?_
      refine ro_V (As := [.int p0]) (rest := []) hC hE kV_X11_358 (c_X5_has l D K ro roa0 roa1 roa2 rof2 p0 hsz) (hP.sub (ws' := [(ro, .inr (5, [.ref roa0, .ref roa1, .ref roa2])), (roa2, .inl (K 1, 4, .inl rof2))]) [7, 9] rfl) 0 5 rfl rfl rfl hl.1 rfl (Nat.le_of_ble_eq_true rfl) (by decide) (by decide) dX11_refuseWalk_23 (fun r3051 hq => ?_)
      rcases hq with ⟨rfl, h3047⟩ | ⟨rfl, h3048, h3049, h3050⟩
      · refine lv_if_ne (tgt := 32) hx hb dX11_refuseWalk_26 (by decide) (fun h => absurd h (by decide)) (fun _ => ?_)
        refine lv_bipush (v := (-6)) hx hb dX11_refuseWalk_29 (by decide) ?_
        refine W.widen (k := 0) (n := 0) (by decide) (by decide) ?_
        exact ch_iret hC hr hk hS dX11_refuseWalk_31 ((fun k => [(u3045.1 0), (u3045.1 1), (u3045.1 2)].getD k 0, fun k => [].getD k (fun _ => 0), fun k => [].getD k (fun _ => 0)) : ((Nat → Int32) × (Nat → Nat → Int32) × (Nat → Nat → Int64))) (Or.inr (Or.inl rfl)) (hP.sub [0, 1, 2, 3, 4, 5, 6, 7, 8, 9] rfl) (hD.sub [0, 1, 2, 3, 4, 5, 6, 7, 8, 9] (by decide) rfl)
      · refine lv_if_ne (tgt := 32) hx hb dX11_refuseWalk_26 (by decide) (fun _ => ?_) (fun h => absurd h (by decide))
        refine lv_iconst (v := 0) hx hb dX11_refuseWalk_32 (by decide) ?_
        refine lv_istore_n (lv' := [(3, .int 0), (0, .ref x), (1, .int p0), (2, .int p1)]) hx hb dX11_refuseWalk_33 rfl hl (by decide) rfl (fun ls hl => ?_)
        have hl' := hl; have hP' := hP; have hD' := hD; clear hl hP hD
        obtain ⟨i3068, hi_34, hl, hP, hD⟩ : ∃ (i3068 : Int32), ((0 : Int) ≤ i3068.toInt) ∧ lv_has ls 4 [(3, .int i3068), (0, .ref x), (1, .int p0), (2, .int p1)] ∧ va_P D vwCl [(x, .inr (10, [.ref rd, .ref he, .ref pa, .ref wk, .ref ro, .ref mi, .ref se, .ref pl, .ref co, .ref tr, .ref iw, .ref ip])), (he, .inr (9, [.ref hea0, .ref hea1, .ref hea2, .ref hea3, .ref hea4, .ref hea5, .ref hea6, .ref hea7, .int hen8, .int hen9, .int hen10, .int hen11])), (hea3, .inl (K 1, 4, .inl hef3)), (pa, .inr (2, [.ref paa0, .ref paa1, .ref paa2, .ref paa3, .ref paa4, .int pan5])), (paa0, .inl (K 1, 4, .inl paf0)), (paa1, .inl (K 1, 4, .inl paf1)), (wk, .inr (8, [.int (u3045.1 0), .int (u3045.1 1), .int (u3045.1 2)])), (ro, .inr (5, [.ref roa0, .ref roa1, .ref roa2])), (roa0, .inl (K 2, 240, .inr (.inl rof0))), (roa2, .inl (K 1, 4, .inl rof2))] H ∧ va_D A [(x, .inr (10, [.ref rd, .ref he, .ref pa, .ref wk, .ref ro, .ref mi, .ref se, .ref pl, .ref co, .ref tr, .ref iw, .ref ip])), (he, .inr (9, [.ref hea0, .ref hea1, .ref hea2, .ref hea3, .ref hea4, .ref hea5, .ref hea6, .ref hea7, .int hen8, .int hen9, .int hen10, .int hen11])), (hea3, .inl (K 1, 4, .inl hef3)), (pa, .inr (2, [.ref paa0, .ref paa1, .ref paa2, .ref paa3, .ref paa4, .int pan5])), (paa0, .inl (K 1, 4, .inl paf0)), (paa1, .inl (K 1, 4, .inl paf1)), (wk, .inr (8, [.int (u3045.1 0), .int (u3045.1 1), .int (u3045.1 2)])), (ro, .inr (5, [.ref roa0, .ref roa1, .ref roa2])), (roa0, .inl (K 2, 240, .inr (.inl rof0))), (roa2, .inl (K 1, 4, .inl rof2))] := ⟨_, by omega, hl', hP', hD'⟩
        clear hl' hP' hD'
        obtain ⟨n_34, hn_34⟩ : ∃ n : Nat, (60 - i3068.toInt).toNat < n := ⟨_, Nat.lt_succ_self _⟩
        induction n_34 generalizing i3068 H locs ls with
        | zero => exact absurd hn_34 (Nat.not_lt_zero _)
        | succ n_34 ih_34 =>
          refine lv_iload_n hx hb dX11_refuseWalk_34 rfl (lv_at hl 0 rfl) ?_
          refine lv_aload_n hx hb dX11_refuseWalk_35 rfl (lv_at hl 1 rfl) ?_
          refine va_get (D := D) (ci := 10) (v := .ref ro) (C := RX11) (T := TX11) (N := 12) hx hb hts in_X11 hown hE.1 hP 0 rfl rfl 4 (by decide) (hts _ w_523) (fun _ h9 => h9) rfl dX11_refuseWalk_36 ?_
          refine lv_iload_n hx hb dX11_refuseWalk_39 rfl (lv_at hl 2 rfl) ?_
          refine ro_V (As := [.int p0]) (rest := [.int i3068]) hC hE kV_X11_201 (c_X5_size l D K ro roa0 roa1 roa2 rof2 p0 hsz) (hP.sub (ws' := [(ro, .inr (5, [.ref roa0, .ref roa1, .ref roa2])), (roa2, .inl (K 1, 4, .inl rof2))]) [7, 9] rfl) 0 5 rfl rfl rfl hl.1 rfl (Nat.le_of_ble_eq_true rfl) (by decide) (by decide) dX11_refuseWalk_40 (fun r3075 hq => ?_)
          rcases hq with ⟨rfl, h3069⟩ | ⟨h3070, h3071, h3072, h3073, h3074⟩
          · refine lv_icmp_ge (tgt := 74) hx hb dX11_refuseWalk_43 (by decide) (fun c3076 => ?_) (fun c3076 => ?_)
            · replace c3076 := le_i c3076
              refine lv_iconst (v := 0) hx hb dX11_refuseWalk_74 (by decide) ?_
              refine W.widen (k := 0) (n := 0) (by decide) (by decide) ?_
              exact ch_iret hC hr hk hS dX11_refuseWalk_75 ((fun k => [(u3045.1 0), (u3045.1 1), (u3045.1 2)].getD k 0, fun k => [].getD k (fun _ => 0), fun k => [].getD k (fun _ => 0)) : ((Nat → Int32) × (Nat → Nat → Int32) × (Nat → Nat → Int64))) (Or.inr (Or.inr rfl)) (hP.sub [0, 1, 2, 3, 4, 5, 6, 7, 8, 9] rfl) (hD.sub [0, 1, 2, 3, 4, 5, 6, 7, 8, 9] (by decide) rfl)
            · replace c3076 := nle_i c3076
              refine lv_iload_n hx hb dX11_refuseWalk_46 rfl (lv_at hl 0 rfl) ?_
              refine lv_bipush (v := 60) hx hb dX11_refuseWalk_47 (by decide) ?_
              refine lv_icmp_ge (tgt := 74) hx hb dX11_refuseWalk_49 (by decide) (fun c3077 => ?_) (fun c3077 => ?_)
              · replace c3077 := le_i c3077
                refine lv_iconst (v := 0) hx hb dX11_refuseWalk_74 (by decide) ?_
                refine W.widen (k := 0) (n := 0) (by decide) (by decide) ?_
                exact ch_iret hC hr hk hS dX11_refuseWalk_75 ((fun k => [(u3045.1 0), (u3045.1 1), (u3045.1 2)].getD k 0, fun k => [].getD k (fun _ => 0), fun k => [].getD k (fun _ => 0)) : ((Nat → Int32) × (Nat → Nat → Int32) × (Nat → Nat → Int64))) (Or.inr (Or.inr rfl)) (hP.sub [0, 1, 2, 3, 4, 5, 6, 7, 8, 9] rfl) (hD.sub [0, 1, 2, 3, 4, 5, 6, 7, 8, 9] (by decide) rfl)
              · replace c3077 := nle_i c3077
                refine lv_aload_n hx hb dX11_refuseWalk_52 rfl (lv_at hl 1 rfl) ?_
                refine va_get (D := D) (ci := 10) (v := .ref ro) (C := RX11) (T := TX11) (N := 12) hx hb hts in_X11 hown hE.1 hP 0 rfl rfl 4 (by decide) (hts _ w_523) (fun _ h9 => h9) rfl dX11_refuseWalk_53 ?_
                refine lv_iload_n hx hb dX11_refuseWalk_56 rfl (lv_at hl 2 rfl) ?_
                refine lv_iload_n hx hb dX11_refuseWalk_57 rfl (lv_at hl 0 rfl) ?_
                refine lv_iconst (v := 4) hx hb dX11_refuseWalk_58 (by decide) ?_
                refine ro_V (As := [.int p0, .int i3068, .int 4]) (rest := []) hC hE kV_X11_386 (c_X5_isWithin l D K ro roa0 roa1 roa2 rof0 rof2 p0 i3068 4 hsz) (hP.sub (ws' := [(ro, .inr (5, [.ref roa0, .ref roa1, .ref roa2])), (roa0, .inl (K 2, 240, .inr (.inl rof0))), (roa2, .inl (K 1, 4, .inl rof2))]) [7, 8, 9] rfl) 0 5 rfl rfl rfl hl.1 rfl (Nat.le_of_ble_eq_true rfl) (by decide) (by decide) dX11_refuseWalk_59 (fun r3078 hq => ?_)
                rcases hq with rfl | rfl
                · refine lv_if_ne (tgt := 68) hx hb dX11_refuseWalk_62 (by decide) (fun h => absurd h (by decide)) (fun _ => ?_)
                  refine lv_bipush (v := (-2)) hx hb dX11_refuseWalk_65 (by decide) ?_
                  refine W.widen (k := 0) (n := 0) (by decide) (by decide) ?_
                  exact ch_iret hC hr hk hS dX11_refuseWalk_67 ((fun k => [(u3045.1 0), (u3045.1 1), (u3045.1 2)].getD k 0, fun k => [].getD k (fun _ => 0), fun k => [].getD k (fun _ => 0)) : ((Nat → Int32) × (Nat → Nat → Int32) × (Nat → Nat → Int64))) (Or.inl rfl) (hP.sub [0, 1, 2, 3, 4, 5, 6, 7, 8, 9] rfl) (hD.sub [0, 1, 2, 3, 4, 5, 6, 7, 8, 9] (by decide) rfl)
                · refine lv_if_ne (tgt := 68) hx hb dX11_refuseWalk_62 (by decide) (fun _ => ?_) (fun h => absurd h (by decide))
                  obtain ⟨v3079, ev3079⟩ : ∃ z : Int32, z = i3068 + 1 := ⟨_, rfl⟩
                  refine lv_iinc (v := v3079) (lv' := [(3, .int v3079), (0, .ref x), (1, .int p0), (2, .int p1)]) hx hb dX11_refuseWalk_68 hl (k := 0) rfl (by rw [ev3079]; rfl) (by decide) rfl (fun ls hl => ?_)
                  refine lv_goto (tgt := 34) hx hb dX11_refuseWalk_71 (by decide) ?_
                  have tv3079 : v3079.toInt = (i3068 : Int32).toInt + (1 : Int32).toInt := add_i ev3079 (by omega) (by omega)
                  exact ih_34 (i3068 := v3079) (hi_34 := by omega) (H := H) (locs := locs) (ls := ls) (hn_34 := by omega) (hP := hP) (hS := hS) (hl := lv_sub hl [0, 1, 2, 3] rfl)
          · refine lv_icmp_ge (tgt := 74) hx hb dX11_refuseWalk_43 (by decide) (fun c3080 => ?_) (fun c3080 => ?_)
            · replace c3080 := le_i c3080
              refine lv_iconst (v := 0) hx hb dX11_refuseWalk_74 (by decide) ?_
              refine W.widen (k := 0) (n := 0) (by decide) (by decide) ?_
              exact ch_iret hC hr hk hS dX11_refuseWalk_75 ((fun k => [(u3045.1 0), (u3045.1 1), (u3045.1 2)].getD k 0, fun k => [].getD k (fun _ => 0), fun k => [].getD k (fun _ => 0)) : ((Nat → Int32) × (Nat → Nat → Int32) × (Nat → Nat → Int64))) (Or.inr (Or.inr rfl)) (hP.sub [0, 1, 2, 3, 4, 5, 6, 7, 8, 9] rfl) (hD.sub [0, 1, 2, 3, 4, 5, 6, 7, 8, 9] (by decide) rfl)
            · replace c3080 := nle_i c3080
              refine lv_iload_n hx hb dX11_refuseWalk_46 rfl (lv_at hl 0 rfl) ?_
              refine lv_bipush (v := 60) hx hb dX11_refuseWalk_47 (by decide) ?_
              refine lv_icmp_ge (tgt := 74) hx hb dX11_refuseWalk_49 (by decide) (fun c3081 => ?_) (fun c3081 => ?_)
              · replace c3081 := le_i c3081
                refine lv_iconst (v := 0) hx hb dX11_refuseWalk_74 (by decide) ?_
                refine W.widen (k := 0) (n := 0) (by decide) (by decide) ?_
                exact ch_iret hC hr hk hS dX11_refuseWalk_75 ((fun k => [(u3045.1 0), (u3045.1 1), (u3045.1 2)].getD k 0, fun k => [].getD k (fun _ => 0), fun k => [].getD k (fun _ => 0)) : ((Nat → Int32) × (Nat → Nat → Int32) × (Nat → Nat → Int64))) (Or.inr (Or.inr rfl)) (hP.sub [0, 1, 2, 3, 4, 5, 6, 7, 8, 9] rfl) (hD.sub [0, 1, 2, 3, 4, 5, 6, 7, 8, 9] (by decide) rfl)
              · replace c3081 := nle_i c3081
                refine lv_aload_n hx hb dX11_refuseWalk_52 rfl (lv_at hl 1 rfl) ?_
                refine va_get (D := D) (ci := 10) (v := .ref ro) (C := RX11) (T := TX11) (N := 12) hx hb hts in_X11 hown hE.1 hP 0 rfl rfl 4 (by decide) (hts _ w_523) (fun _ h9 => h9) rfl dX11_refuseWalk_53 ?_
                refine lv_iload_n hx hb dX11_refuseWalk_56 rfl (lv_at hl 2 rfl) ?_
                refine lv_iload_n hx hb dX11_refuseWalk_57 rfl (lv_at hl 0 rfl) ?_
                refine lv_iconst (v := 4) hx hb dX11_refuseWalk_58 (by decide) ?_
                refine ro_V (As := [.int p0, .int i3068, .int 4]) (rest := []) hC hE kV_X11_386 (c_X5_isWithin l D K ro roa0 roa1 roa2 rof0 rof2 p0 i3068 4 hsz) (hP.sub (ws' := [(ro, .inr (5, [.ref roa0, .ref roa1, .ref roa2])), (roa0, .inl (K 2, 240, .inr (.inl rof0))), (roa2, .inl (K 1, 4, .inl rof2))]) [7, 8, 9] rfl) 0 5 rfl rfl rfl hl.1 rfl (Nat.le_of_ble_eq_true rfl) (by decide) (by decide) dX11_refuseWalk_59 (fun r3082 hq => ?_)
                rcases hq with rfl | rfl
                · refine lv_if_ne (tgt := 68) hx hb dX11_refuseWalk_62 (by decide) (fun h => absurd h (by decide)) (fun _ => ?_)
                  refine lv_bipush (v := (-2)) hx hb dX11_refuseWalk_65 (by decide) ?_
                  refine W.widen (k := 0) (n := 0) (by decide) (by decide) ?_
                  exact ch_iret hC hr hk hS dX11_refuseWalk_67 ((fun k => [(u3045.1 0), (u3045.1 1), (u3045.1 2)].getD k 0, fun k => [].getD k (fun _ => 0), fun k => [].getD k (fun _ => 0)) : ((Nat → Int32) × (Nat → Nat → Int32) × (Nat → Nat → Int64))) (Or.inl rfl) (hP.sub [0, 1, 2, 3, 4, 5, 6, 7, 8, 9] rfl) (hD.sub [0, 1, 2, 3, 4, 5, 6, 7, 8, 9] (by decide) rfl)
                · refine lv_if_ne (tgt := 68) hx hb dX11_refuseWalk_62 (by decide) (fun _ => ?_) (fun h => absurd h (by decide))
                  obtain ⟨v3083, ev3083⟩ : ∃ z : Int32, z = i3068 + 1 := ⟨_, rfl⟩
                  refine lv_iinc (v := v3083) (lv' := [(3, .int v3083), (0, .ref x), (1, .int p0), (2, .int p1)]) hx hb dX11_refuseWalk_68 hl (k := 0) rfl (by rw [ev3083]; rfl) (by decide) rfl (fun ls hl => ?_)
                  refine lv_goto (tgt := 34) hx hb dX11_refuseWalk_71 (by decide) ?_
                  have tv3083 : v3083.toInt = (i3068 : Int32).toInt + (1 : Int32).toInt := add_i ev3083 (by omega) (by omega)
                  exact ih_34 (i3068 := v3083) (hi_34 := by omega) (H := H) (locs := locs) (ls := ls) (hn_34 := by omega) (hP := hP) (hS := hS) (hl := lv_sub hl [0, 1, 2, 3] rfl)
set_option maxRecDepth 40000 in
set_option maxHeartbeats 4000000 in
theorem c_X11_walkRow (l : Launch) (D : va_G) (K : Nat → ClassId) (x : Nat) (rd : Nat) (he : Nat) (pa : Nat) (wk : Nat) (ro : Nat) (mi : Nat) (se : Nat) (pl : Nat) (co : Nat) (tr : Nat) (iw : Nat) (ip : Nat) (hea0 : Nat) (hea1 : Nat) (hea2 : Nat) (hea3 : Nat) (hea4 : Nat) (hea5 : Nat) (hea6 : Nat) (hea7 : Nat) (roa0 : Nat) (roa1 : Nat) (roa2 : Nat) (hen8 : Int32) (hen9 : Int32) (hen10 : Int32) (hen11 : Int32) (wkn0 : Int32) (wkn1 : Int32) (wkn2 : Int32) (hef0 : Nat → Int32) (hef1 : Nat → Int32) (rof0 : Nat → Int64) (rof2 : Nat → Int32) (p0 : Int32) (hsz : ∀ j, j < 4 → -1 ≤ (rof2 j).toInt ∧ (rof2 j).toInt ≤ 60) : Cv (S := ((Nat → Int32) × (Nat → Nat → Int32) × (Nat → Nat → Int64))) l D K yX11_walkRow cX11_walkRow 3 4 84 0 0 [.ref x, .int p0] [(x, .inr (10, [.ref rd, .ref he, .ref pa, .ref wk, .ref ro, .ref mi, .ref se, .ref pl, .ref co, .ref tr, .ref iw, .ref ip])), (he, .inr (9, [.ref hea0, .ref hea1, .ref hea2, .ref hea3, .ref hea4, .ref hea5, .ref hea6, .ref hea7, .int hen8, .int hen9, .int hen10, .int hen11])), (hea0, .inl (K 1, 40, .inl hef0)), (hea1, .inl (K 1, 10, .inl hef1)), (wk, .inr (8, [.int wkn0, .int wkn1, .int wkn2])), (ro, .inr (5, [.ref roa0, .ref roa1, .ref roa2])), (roa0, .inl (K 2, 240, .inr (.inl rof0))), (roa2, .inl (K 1, 4, .inl rof2))] (fun _ => True) (fun u => [(x, .inr (10, [.ref rd, .ref he, .ref pa, .ref wk, .ref ro, .ref mi, .ref se, .ref pl, .ref co, .ref tr, .ref iw, .ref ip])), (he, .inr (9, [.ref hea0, .ref hea1, .ref hea2, .ref hea3, .ref hea4, .ref hea5, .ref hea6, .ref hea7, .int hen8, .int hen9, .int hen10, .int hen11])), (hea0, .inl (K 1, 40, .inl hef0)), (hea1, .inl (K 1, 10, .inl hef1)), (wk, .inr (8, [.int (u.1 0), .int (u.1 1), .int wkn2])), (ro, .inr (5, [.ref roa0, .ref roa1, .ref roa2])), (roa0, .inl (K 2, 240, .inr (.inl rof0))), (roa2, .inl (K 1, 4, .inl rof2))]) := by
  intro sz
  refine ch_of (y := yX11_walkRow) (cc := cX11_walkRow) (maxL := 3) (ret := none) (av := [.ref x, .int p0]) (ws := [(x, .inr (10, [.ref rd, .ref he, .ref pa, .ref wk, .ref ro, .ref mi, .ref se, .ref pl, .ref co, .ref tr, .ref iw, .ref ip])), (he, .inr (9, [.ref hea0, .ref hea1, .ref hea2, .ref hea3, .ref hea4, .ref hea5, .ref hea6, .ref hea7, .int hen8, .int hen9, .int hen10, .int hen11])), (hea0, .inl (K 1, 40, .inl hef0)), (hea1, .inl (K 1, 10, .inl hef1)), (wk, .inr (8, [.int wkn0, .int wkn1, .int wkn2])), (ro, .inr (5, [.ref roa0, .ref roa1, .ref roa2])), (roa0, .inl (K 2, 240, .inr (.inl rof0))), (roa2, .inl (K 1, 4, .inl rof2))]) (D := D) (K := K) (Qc := fun A => va_Qv (S := ((Nat → Int32) × (Nat → Nat → Int32) × (Nat → Nat → Int64))) (fun _ => True) (chB D A (fun u => [(x, .inr (10, [.ref rd, .ref he, .ref pa, .ref wk, .ref ro, .ref mi, .ref se, .ref pl, .ref co, .ref tr, .ref iw, .ref ip])), (he, .inr (9, [.ref hea0, .ref hea1, .ref hea2, .ref hea3, .ref hea4, .ref hea5, .ref hea6, .ref hea7, .int hen8, .int hen9, .int hen10, .int hen11])), (hea0, .inl (K 1, 40, .inl hef0)), (hea1, .inl (K 1, 10, .inl hef1)), (wk, .inr (8, [.int (u.1 0), .int (u.1 1), .int wkn2])), (ro, .inr (5, [.ref roa0, .ref roa1, .ref roa2])), (roa0, .inl (K 2, 240, .inr (.inl rof0))), (roa2, .inl (K 1, 4, .inl rof2))])) A) (by decide) (Nat.le_of_ble_eq_true rfl) ?_
  intro p e s m below meth c A hC hr hk hin hE hD hA H locs hP hS ls hl
  replace hC : CallFix p m c cX11_walkRow 3 s [.ref x, .int p0].toArray wl RX11 := hC
  have hx := hC.1
  have hb := hC.2.1
  have hml := hC.2.2.1
  have hown := hC.2.2.2.1
  have hts := hC.2.2.2.2
  replace hl : lv_has ls 3 [(0, .ref x), (1, .int p0)] := hl
  have kc_0 : (0 : Int32).toInt = 0 := by decide
  have kc_1 : (1 : Int32).toInt = 1 := by decide
  have kc_60 : (60 : Int32).toInt = 60 := by decide
  refine lv_iconst (v := 0) hx hb dX11_walkRow_0 (by decide) ?_
  refine lv_istore_n (lv' := [(2, .int 0), (0, .ref x), (1, .int p0)]) hx hb dX11_walkRow_1 rfl hl (by decide) rfl (fun ls hl => ?_)
  have hl' := hl; have hP' := hP; have hD' := hD; clear hl hP hD
  obtain ⟨i3124, w3125, w3126, hi_2, hl, hP, hD⟩ : ∃ (i3124 : Int32) (w3125 : Int32) (w3126 : Int32), ((0 : Int) ≤ i3124.toInt) ∧ lv_has ls 3 [(2, .int i3124), (0, .ref x), (1, .int p0)] ∧ va_P D vwCl [(x, .inr (10, [.ref rd, .ref he, .ref pa, .ref wk, .ref ro, .ref mi, .ref se, .ref pl, .ref co, .ref tr, .ref iw, .ref ip])), (he, .inr (9, [.ref hea0, .ref hea1, .ref hea2, .ref hea3, .ref hea4, .ref hea5, .ref hea6, .ref hea7, .int hen8, .int hen9, .int hen10, .int hen11])), (hea0, .inl (K 1, 40, .inl hef0)), (hea1, .inl (K 1, 10, .inl hef1)), (wk, .inr (8, [.int w3125, .int w3126, .int wkn2])), (ro, .inr (5, [.ref roa0, .ref roa1, .ref roa2])), (roa0, .inl (K 2, 240, .inr (.inl rof0))), (roa2, .inl (K 1, 4, .inl rof2))] H ∧ va_D A [(x, .inr (10, [.ref rd, .ref he, .ref pa, .ref wk, .ref ro, .ref mi, .ref se, .ref pl, .ref co, .ref tr, .ref iw, .ref ip])), (he, .inr (9, [.ref hea0, .ref hea1, .ref hea2, .ref hea3, .ref hea4, .ref hea5, .ref hea6, .ref hea7, .int hen8, .int hen9, .int hen10, .int hen11])), (hea0, .inl (K 1, 40, .inl hef0)), (hea1, .inl (K 1, 10, .inl hef1)), (wk, .inr (8, [.int w3125, .int w3126, .int wkn2])), (ro, .inr (5, [.ref roa0, .ref roa1, .ref roa2])), (roa0, .inl (K 2, 240, .inr (.inl rof0))), (roa2, .inl (K 1, 4, .inl rof2))] := ⟨_, _, _, by omega, hl', hP', hD'⟩
  clear hl' hP' hD'
  obtain ⟨n_2, hn_2⟩ : ∃ n : Nat, (60 - i3124.toInt).toNat < n := ⟨_, Nat.lt_succ_self _⟩
  induction n_2 generalizing i3124 w3125 w3126 H locs ls with
  | zero => exact absurd hn_2 (Nat.not_lt_zero _)
  | succ n_2 ih_2 =>
    refine lv_iload_n hx hb dX11_walkRow_2 rfl (lv_at hl 0 rfl) ?_
    refine lv_aload_n hx hb dX11_walkRow_3 rfl (lv_at hl 1 rfl) ?_
    refine va_get (D := D) (ci := 10) (v := .ref ro) (C := RX11) (T := TX11) (N := 12) hx hb hts in_X11 hown hE.1 hP 0 rfl rfl 4 (by decide) (hts _ w_523) (fun _ h9 => h9) rfl dX11_walkRow_4 ?_
    refine lv_iload_n hx hb dX11_walkRow_7 rfl (lv_at hl 2 rfl) ?_
    refine ro_V (As := [.int p0]) (rest := [.int i3124]) hC hE kV_X11_201 (c_X5_size l D K ro roa0 roa1 roa2 rof2 p0 hsz) (hP.sub (ws' := [(ro, .inr (5, [.ref roa0, .ref roa1, .ref roa2])), (roa2, .inl (K 1, 4, .inl rof2))]) [5, 7] rfl) 0 5 rfl rfl rfl hl.1 rfl (Nat.le_of_ble_eq_true rfl) (by decide) (by decide) dX11_walkRow_8 (fun r3133 hq => ?_)
    rcases hq with ⟨rfl, h3127⟩ | ⟨h3128, h3129, h3130, h3131, h3132⟩
    · refine lv_icmp_ge (tgt := 46) hx hb dX11_walkRow_11 (by decide) (fun c3134 => ?_) (fun c3134 => ?_)
      · replace c3134 := le_i c3134
        refine W.widen (k := 0) (n := 0) (by decide) (by decide) ?_
        exact ch_vret hC hr hk hS dX11_walkRow_46 ((fun k => [w3125, w3126].getD k 0, fun k => [].getD k (fun _ => 0), fun k => [].getD k (fun _ => 0)) : ((Nat → Int32) × (Nat → Nat → Int32) × (Nat → Nat → Int64))) trivial (hP.sub [0, 1, 2, 3, 4, 5, 6, 7] rfl) (hD.sub [0, 1, 2, 3, 4, 5, 6, 7] (by decide) rfl)
      · replace c3134 := nle_i c3134
        refine lv_iload_n hx hb dX11_walkRow_14 rfl (lv_at hl 0 rfl) ?_
        refine lv_bipush (v := 60) hx hb dX11_walkRow_15 (by decide) ?_
        refine lv_icmp_ge (tgt := 46) hx hb dX11_walkRow_17 (by decide) (fun c3135 => ?_) (fun c3135 => ?_)
        · replace c3135 := le_i c3135
          refine W.widen (k := 0) (n := 0) (by decide) (by decide) ?_
          exact ch_vret hC hr hk hS dX11_walkRow_46 ((fun k => [w3125, w3126].getD k 0, fun k => [].getD k (fun _ => 0), fun k => [].getD k (fun _ => 0)) : ((Nat → Int32) × (Nat → Nat → Int32) × (Nat → Nat → Int64))) trivial (hP.sub [0, 1, 2, 3, 4, 5, 6, 7] rfl) (hD.sub [0, 1, 2, 3, 4, 5, 6, 7] (by decide) rfl)
        · replace c3135 := nle_i c3135
          refine lv_aload_n hx hb dX11_walkRow_20 rfl (lv_at hl 1 rfl) ?_
          refine va_get (D := D) (ci := 10) (v := .ref wk) (C := RX11) (T := TX11) (N := 12) hx hb hts in_X11 hown hE.1 hP 0 rfl rfl 3 (by decide) (hts _ w_513) (fun _ h9 => h9) rfl dX11_walkRow_21 ?_
          refine lv_aload_n hx hb dX11_walkRow_24 rfl (lv_at hl 1 rfl) ?_
          refine va_get (D := D) (ci := 10) (v := .ref he) (C := RX11) (T := TX11) (N := 12) hx hb hts in_X11 hown hE.1 hP 0 rfl rfl 1 (by decide) (hts _ w_511) (fun _ h9 => h9) rfl dX11_walkRow_25 ?_
          refine lv_aload_n hx hb dX11_walkRow_28 rfl (lv_at hl 1 rfl) ?_
          refine va_get (D := D) (ci := 10) (v := .ref ro) (C := RX11) (T := TX11) (N := 12) hx hb hts in_X11 hown hE.1 hP 0 rfl rfl 4 (by decide) (hts _ w_523) (fun _ h9 => h9) rfl dX11_walkRow_29 ?_
          refine lv_iload_n hx hb dX11_walkRow_32 rfl (lv_at hl 2 rfl) ?_
          refine lv_iload_n hx hb dX11_walkRow_33 rfl (lv_at hl 0 rfl) ?_
          refine ro_V (As := [.int p0, .int i3124]) (rest := [.ref he, .ref wk]) hC hE kV_X11_204 (c_X5_small l D K ro roa0 roa1 roa2 rof0 rof2 p0 i3124 hsz) (hP.sub (ws' := [(ro, .inr (5, [.ref roa0, .ref roa1, .ref roa2])), (roa0, .inl (K 2, 240, .inr (.inl rof0))), (roa2, .inl (K 1, 4, .inl rof2))]) [5, 6, 7] rfl) 0 5 rfl rfl rfl hl.1 rfl (Nat.le_of_ble_eq_true rfl) (by decide) (by decide) dX11_walkRow_34 (fun r3136 _ => ?_)
          refine cv_V (As := [.ref he, .int r3136]) (rest := []) (wc := [(wk, .inr (8, [.int w3125, .int w3126, .int wkn2])), (he, .inr (9, [.ref hea0, .ref hea1, .ref hea2, .ref hea3, .ref hea4, .ref hea5, .ref hea6, .ref hea7, .int hen8, .int hen9, .int hen10, .int hen11])), (hea0, .inl (K 1, 40, .inl hef0)), (hea1, .inl (K 1, 10, .inl hef1))]) (wr := [(x, .inr (10, [.ref rd, .ref he, .ref pa, .ref wk, .ref ro, .ref mi, .ref se, .ref pl, .ref co, .ref tr, .ref iw, .ref ip])), (ro, .inr (5, [.ref roa0, .ref roa1, .ref roa2])), (roa0, .inl (K 2, 240, .inr (.inl rof0))), (roa2, .inl (K 1, 4, .inl rof2))]) hC hE kV_X11_177 (c_X9_step l D K wk he hea0 hea1 hea2 hea3 hea4 hea5 hea6 hea7 w3125 w3126 wkn2 hen8 hen9 hen10 hen11 hef0 hef1 r3136) hP hD hS hA [4, 1, 2, 3] [0, 5, 6, 7] rfl rfl rfl (by decide) (by decide) (by decide) 0 8 rfl rfl rfl hl.1 rfl (Nat.le_of_ble_eq_true rfl) (by decide) (by decide) dX11_walkRow_37 (fun u3137 H locs hw hP hD hS => ?_)
          replace hP : va_P D vwCl [(x, .inr (10, [.ref rd, .ref he, .ref pa, .ref wk, .ref ro, .ref mi, .ref se, .ref pl, .ref co, .ref tr, .ref iw, .ref ip])), (ro, .inr (5, [.ref roa0, .ref roa1, .ref roa2])), (roa0, .inl (K 2, 240, .inr (.inl rof0))), (roa2, .inl (K 1, 4, .inl rof2)), (wk, .inr (8, [.int (u3137.1 0), .int (u3137.1 1), .int wkn2])), (he, .inr (9, [.ref hea0, .ref hea1, .ref hea2, .ref hea3, .ref hea4, .ref hea5, .ref hea6, .ref hea7, .int hen8, .int hen9, .int hen10, .int hen11])), (hea0, .inl (K 1, 40, .inl hef0)), (hea1, .inl (K 1, 10, .inl hef1))] H := hP
          replace hD : va_D A [(x, .inr (10, [.ref rd, .ref he, .ref pa, .ref wk, .ref ro, .ref mi, .ref se, .ref pl, .ref co, .ref tr, .ref iw, .ref ip])), (ro, .inr (5, [.ref roa0, .ref roa1, .ref roa2])), (roa0, .inl (K 2, 240, .inr (.inl rof0))), (roa2, .inl (K 1, 4, .inl rof2)), (wk, .inr (8, [.int (u3137.1 0), .int (u3137.1 1), .int wkn2])), (he, .inr (9, [.ref hea0, .ref hea1, .ref hea2, .ref hea3, .ref hea4, .ref hea5, .ref hea6, .ref hea7, .int hen8, .int hen9, .int hen10, .int hen11])), (hea0, .inl (K 1, 40, .inl hef0)), (hea1, .inl (K 1, 10, .inl hef1))] := hD
          replace hP : va_P D vwCl [(x, .inr (10, [.ref rd, .ref he, .ref pa, .ref wk, .ref ro, .ref mi, .ref se, .ref pl, .ref co, .ref tr, .ref iw, .ref ip])), (he, .inr (9, [.ref hea0, .ref hea1, .ref hea2, .ref hea3, .ref hea4, .ref hea5, .ref hea6, .ref hea7, .int hen8, .int hen9, .int hen10, .int hen11])), (hea0, .inl (K 1, 40, .inl hef0)), (hea1, .inl (K 1, 10, .inl hef1)), (wk, .inr (8, [.int (u3137.1 0), .int (u3137.1 1), .int wkn2])), (ro, .inr (5, [.ref roa0, .ref roa1, .ref roa2])), (roa0, .inl (K 2, 240, .inr (.inl rof0))), (roa2, .inl (K 1, 4, .inl rof2))] H := hP.sub [0, 5, 6, 7, 4, 1, 2, 3] rfl
          replace hD : va_D A [(x, .inr (10, [.ref rd, .ref he, .ref pa, .ref wk, .ref ro, .ref mi, .ref se, .ref pl, .ref co, .ref tr, .ref iw, .ref ip])), (he, .inr (9, [.ref hea0, .ref hea1, .ref hea2, .ref hea3, .ref hea4, .ref hea5, .ref hea6, .ref hea7, .int hen8, .int hen9, .int hen10, .int hen11])), (hea0, .inl (K 1, 40, .inl hef0)), (hea1, .inl (K 1, 10, .inl hef1)), (wk, .inr (8, [.int (u3137.1 0), .int (u3137.1 1), .int wkn2])), (ro, .inr (5, [.ref roa0, .ref roa1, .ref roa2])), (roa0, .inl (K 2, 240, .inr (.inl rof0))), (roa2, .inl (K 1, 4, .inl rof2))] := hD.sub [0, 5, 6, 7, 4, 1, 2, 3] (by decide) rfl
          refine W.widen (k := 0) (n := 0) (by decide) (by decide) ?_
          obtain ⟨v3139, ev3139⟩ : ∃ z : Int32, z = i3124 + 1 := ⟨_, rfl⟩
          refine lv_iinc (v := v3139) (lv' := [(2, .int v3139), (0, .ref x), (1, .int p0)]) hx hb dX11_walkRow_40 hl (k := 0) rfl (by rw [ev3139]; rfl) (by decide) rfl (fun ls hl => ?_)
          refine lv_goto (tgt := 2) hx hb dX11_walkRow_43 (by decide) ?_
          have tv3139 : v3139.toInt = (i3124 : Int32).toInt + (1 : Int32).toInt := add_i ev3139 (by omega) (by omega)
          exact ih_2 (i3124 := v3139) (w3125 := (u3137.1 0)) (w3126 := (u3137.1 1)) (hi_2 := by omega) (H := H) (locs := locs) (ls := ls) (hn_2 := by omega) (hP := hP) (hD := hD) (hS := hS) (hl := lv_sub hl [0, 1, 2] rfl)
    · refine lv_icmp_ge (tgt := 46) hx hb dX11_walkRow_11 (by decide) (fun c3140 => ?_) (fun c3140 => ?_)
      · replace c3140 := le_i c3140
        refine W.widen (k := 0) (n := 0) (by decide) (by decide) ?_
        exact ch_vret hC hr hk hS dX11_walkRow_46 ((fun k => [w3125, w3126].getD k 0, fun k => [].getD k (fun _ => 0), fun k => [].getD k (fun _ => 0)) : ((Nat → Int32) × (Nat → Nat → Int32) × (Nat → Nat → Int64))) trivial (hP.sub [0, 1, 2, 3, 4, 5, 6, 7] rfl) (hD.sub [0, 1, 2, 3, 4, 5, 6, 7] (by decide) rfl)
      · replace c3140 := nle_i c3140
        refine lv_iload_n hx hb dX11_walkRow_14 rfl (lv_at hl 0 rfl) ?_
        refine lv_bipush (v := 60) hx hb dX11_walkRow_15 (by decide) ?_
        refine lv_icmp_ge (tgt := 46) hx hb dX11_walkRow_17 (by decide) (fun c3141 => ?_) (fun c3141 => ?_)
        · replace c3141 := le_i c3141
          refine W.widen (k := 0) (n := 0) (by decide) (by decide) ?_
          exact ch_vret hC hr hk hS dX11_walkRow_46 ((fun k => [w3125, w3126].getD k 0, fun k => [].getD k (fun _ => 0), fun k => [].getD k (fun _ => 0)) : ((Nat → Int32) × (Nat → Nat → Int32) × (Nat → Nat → Int64))) trivial (hP.sub [0, 1, 2, 3, 4, 5, 6, 7] rfl) (hD.sub [0, 1, 2, 3, 4, 5, 6, 7] (by decide) rfl)
        · replace c3141 := nle_i c3141
          refine lv_aload_n hx hb dX11_walkRow_20 rfl (lv_at hl 1 rfl) ?_
          refine va_get (D := D) (ci := 10) (v := .ref wk) (C := RX11) (T := TX11) (N := 12) hx hb hts in_X11 hown hE.1 hP 0 rfl rfl 3 (by decide) (hts _ w_513) (fun _ h9 => h9) rfl dX11_walkRow_21 ?_
          refine lv_aload_n hx hb dX11_walkRow_24 rfl (lv_at hl 1 rfl) ?_
          refine va_get (D := D) (ci := 10) (v := .ref he) (C := RX11) (T := TX11) (N := 12) hx hb hts in_X11 hown hE.1 hP 0 rfl rfl 1 (by decide) (hts _ w_511) (fun _ h9 => h9) rfl dX11_walkRow_25 ?_
          refine lv_aload_n hx hb dX11_walkRow_28 rfl (lv_at hl 1 rfl) ?_
          refine va_get (D := D) (ci := 10) (v := .ref ro) (C := RX11) (T := TX11) (N := 12) hx hb hts in_X11 hown hE.1 hP 0 rfl rfl 4 (by decide) (hts _ w_523) (fun _ h9 => h9) rfl dX11_walkRow_29 ?_
          refine lv_iload_n hx hb dX11_walkRow_32 rfl (lv_at hl 2 rfl) ?_
          refine lv_iload_n hx hb dX11_walkRow_33 rfl (lv_at hl 0 rfl) ?_
          refine ro_V (As := [.int p0, .int i3124]) (rest := [.ref he, .ref wk]) hC hE kV_X11_204 (c_X5_small l D K ro roa0 roa1 roa2 rof0 rof2 p0 i3124 hsz) (hP.sub (ws' := [(ro, .inr (5, [.ref roa0, .ref roa1, .ref roa2])), (roa0, .inl (K 2, 240, .inr (.inl rof0))), (roa2, .inl (K 1, 4, .inl rof2))]) [5, 6, 7] rfl) 0 5 rfl rfl rfl hl.1 rfl (Nat.le_of_ble_eq_true rfl) (by decide) (by decide) dX11_walkRow_34 (fun r3142 _ => ?_)
          refine cv_V (As := [.ref he, .int r3142]) (rest := []) (wc := [(wk, .inr (8, [.int w3125, .int w3126, .int wkn2])), (he, .inr (9, [.ref hea0, .ref hea1, .ref hea2, .ref hea3, .ref hea4, .ref hea5, .ref hea6, .ref hea7, .int hen8, .int hen9, .int hen10, .int hen11])), (hea0, .inl (K 1, 40, .inl hef0)), (hea1, .inl (K 1, 10, .inl hef1))]) (wr := [(x, .inr (10, [.ref rd, .ref he, .ref pa, .ref wk, .ref ro, .ref mi, .ref se, .ref pl, .ref co, .ref tr, .ref iw, .ref ip])), (ro, .inr (5, [.ref roa0, .ref roa1, .ref roa2])), (roa0, .inl (K 2, 240, .inr (.inl rof0))), (roa2, .inl (K 1, 4, .inl rof2))]) hC hE kV_X11_177 (c_X9_step l D K wk he hea0 hea1 hea2 hea3 hea4 hea5 hea6 hea7 w3125 w3126 wkn2 hen8 hen9 hen10 hen11 hef0 hef1 r3142) hP hD hS hA [4, 1, 2, 3] [0, 5, 6, 7] rfl rfl rfl (by decide) (by decide) (by decide) 0 8 rfl rfl rfl hl.1 rfl (Nat.le_of_ble_eq_true rfl) (by decide) (by decide) dX11_walkRow_37 (fun u3143 H locs hw hP hD hS => ?_)
          replace hP : va_P D vwCl [(x, .inr (10, [.ref rd, .ref he, .ref pa, .ref wk, .ref ro, .ref mi, .ref se, .ref pl, .ref co, .ref tr, .ref iw, .ref ip])), (ro, .inr (5, [.ref roa0, .ref roa1, .ref roa2])), (roa0, .inl (K 2, 240, .inr (.inl rof0))), (roa2, .inl (K 1, 4, .inl rof2)), (wk, .inr (8, [.int (u3143.1 0), .int (u3143.1 1), .int wkn2])), (he, .inr (9, [.ref hea0, .ref hea1, .ref hea2, .ref hea3, .ref hea4, .ref hea5, .ref hea6, .ref hea7, .int hen8, .int hen9, .int hen10, .int hen11])), (hea0, .inl (K 1, 40, .inl hef0)), (hea1, .inl (K 1, 10, .inl hef1))] H := hP
          replace hD : va_D A [(x, .inr (10, [.ref rd, .ref he, .ref pa, .ref wk, .ref ro, .ref mi, .ref se, .ref pl, .ref co, .ref tr, .ref iw, .ref ip])), (ro, .inr (5, [.ref roa0, .ref roa1, .ref roa2])), (roa0, .inl (K 2, 240, .inr (.inl rof0))), (roa2, .inl (K 1, 4, .inl rof2)), (wk, .inr (8, [.int (u3143.1 0), .int (u3143.1 1), .int wkn2])), (he, .inr (9, [.ref hea0, .ref hea1, .ref hea2, .ref hea3, .ref hea4, .ref hea5, .ref hea6, .ref hea7, .int hen8, .int hen9, .int hen10, .int hen11])), (hea0, .inl (K 1, 40, .inl hef0)), (hea1, .inl (K 1, 10, .inl hef1))] := hD
          replace hP : va_P D vwCl [(x, .inr (10, [.ref rd, .ref he, .ref pa, .ref wk, .ref ro, .ref mi, .ref se, .ref pl, .ref co, .ref tr, .ref iw, .ref ip])), (he, .inr (9, [.ref hea0, .ref hea1, .ref hea2, .ref hea3, .ref hea4, .ref hea5, .ref hea6, .ref hea7, .int hen8, .int hen9, .int hen10, .int hen11])), (hea0, .inl (K 1, 40, .inl hef0)), (hea1, .inl (K 1, 10, .inl hef1)), (wk, .inr (8, [.int (u3143.1 0), .int (u3143.1 1), .int wkn2])), (ro, .inr (5, [.ref roa0, .ref roa1, .ref roa2])), (roa0, .inl (K 2, 240, .inr (.inl rof0))), (roa2, .inl (K 1, 4, .inl rof2))] H := hP.sub [0, 5, 6, 7, 4, 1, 2, 3] rfl
          replace hD : va_D A [(x, .inr (10, [.ref rd, .ref he, .ref pa, .ref wk, .ref ro, .ref mi, .ref se, .ref pl, .ref co, .ref tr, .ref iw, .ref ip])), (he, .inr (9, [.ref hea0, .ref hea1, .ref hea2, .ref hea3, .ref hea4, .ref hea5, .ref hea6, .ref hea7, .int hen8, .int hen9, .int hen10, .int hen11])), (hea0, .inl (K 1, 40, .inl hef0)), (hea1, .inl (K 1, 10, .inl hef1)), (wk, .inr (8, [.int (u3143.1 0), .int (u3143.1 1), .int wkn2])), (ro, .inr (5, [.ref roa0, .ref roa1, .ref roa2])), (roa0, .inl (K 2, 240, .inr (.inl rof0))), (roa2, .inl (K 1, 4, .inl rof2))] := hD.sub [0, 5, 6, 7, 4, 1, 2, 3] (by decide) rfl
          refine W.widen (k := 0) (n := 0) (by decide) (by decide) ?_
          obtain ⟨v3145, ev3145⟩ : ∃ z : Int32, z = i3124 + 1 := ⟨_, rfl⟩
          refine lv_iinc (v := v3145) (lv' := [(2, .int v3145), (0, .ref x), (1, .int p0)]) hx hb dX11_walkRow_40 hl (k := 0) rfl (by rw [ev3145]; rfl) (by decide) rfl (fun ls hl => ?_)
          refine lv_goto (tgt := 2) hx hb dX11_walkRow_43 (by decide) ?_
          have tv3145 : v3145.toInt = (i3124 : Int32).toInt + (1 : Int32).toInt := add_i ev3145 (by omega) (by omega)
          exact ih_2 (i3124 := v3145) (w3125 := (u3143.1 0)) (w3126 := (u3143.1 1)) (hi_2 := by omega) (H := H) (locs := locs) (ls := ls) (hn_2 := by omega) (hP := hP) (hD := hD) (hS := hS) (hl := lv_sub hl [0, 1, 2] rfl)
set_option maxRecDepth 40000 in
set_option maxHeartbeats 4000000 in
theorem c_X11_stepsUntil (l : Launch) (D : va_G) (K : Nat → ClassId) (x : Nat) (rd : Nat) (he : Nat) (pa : Nat) (wk : Nat) (ro : Nat) (mi : Nat) (se : Nat) (pl : Nat) (co : Nat) (tr : Nat) (iw : Nat) (ip : Nat) (hea0 : Nat) (hea1 : Nat) (hea2 : Nat) (hea3 : Nat) (hea4 : Nat) (hea5 : Nat) (hea6 : Nat) (hea7 : Nat) (roa0 : Nat) (roa1 : Nat) (roa2 : Nat) (hen8 : Int32) (hen9 : Int32) (hen10 : Int32) (hen11 : Int32) (wkn0 : Int32) (wkn1 : Int32) (wkn2 : Int32) (hef0 : Nat → Int32) (hef1 : Nat → Int32) (rof0 : Nat → Int64) (rof2 : Nat → Int32) (p0 : Int32) (p1 : Int32) (hsz : ∀ j, j < 4 → -1 ≤ (rof2 j).toInt ∧ (rof2 j).toInt ≤ 60) : Ci (S := ((Nat → Int32) × (Nat → Nat → Int32) × (Nat → Nat → Int64))) l D K yX11_stepsUntil cX11_stepsUntil 5 (some .int) 4 84 0 0 [.ref x, .int p0, .int p1] [(x, .inr (10, [.ref rd, .ref he, .ref pa, .ref wk, .ref ro, .ref mi, .ref se, .ref pl, .ref co, .ref tr, .ref iw, .ref ip])), (he, .inr (9, [.ref hea0, .ref hea1, .ref hea2, .ref hea3, .ref hea4, .ref hea5, .ref hea6, .ref hea7, .int hen8, .int hen9, .int hen10, .int hen11])), (hea0, .inl (K 1, 40, .inl hef0)), (hea1, .inl (K 1, 10, .inl hef1)), (wk, .inr (8, [.int wkn0, .int wkn1, .int wkn2])), (ro, .inr (5, [.ref roa0, .ref roa1, .ref roa2])), (roa0, .inl (K 2, 240, .inr (.inl rof0))), (roa2, .inl (K 1, 4, .inl rof2))] (fun _ _ => True) (fun u => [(x, .inr (10, [.ref rd, .ref he, .ref pa, .ref wk, .ref ro, .ref mi, .ref se, .ref pl, .ref co, .ref tr, .ref iw, .ref ip])), (he, .inr (9, [.ref hea0, .ref hea1, .ref hea2, .ref hea3, .ref hea4, .ref hea5, .ref hea6, .ref hea7, .int hen8, .int hen9, .int hen10, .int hen11])), (hea0, .inl (K 1, 40, .inl hef0)), (hea1, .inl (K 1, 10, .inl hef1)), (wk, .inr (8, [.int (u.1 0), .int (u.1 1), .int wkn2])), (ro, .inr (5, [.ref roa0, .ref roa1, .ref roa2])), (roa0, .inl (K 2, 240, .inr (.inl rof0))), (roa2, .inl (K 1, 4, .inl rof2))]) := by
  intro sz
  refine ch_of (y := yX11_stepsUntil) (cc := cX11_stepsUntil) (maxL := 5) (ret := (some .int)) (av := [.ref x, .int p0, .int p1]) (ws := [(x, .inr (10, [.ref rd, .ref he, .ref pa, .ref wk, .ref ro, .ref mi, .ref se, .ref pl, .ref co, .ref tr, .ref iw, .ref ip])), (he, .inr (9, [.ref hea0, .ref hea1, .ref hea2, .ref hea3, .ref hea4, .ref hea5, .ref hea6, .ref hea7, .int hen8, .int hen9, .int hen10, .int hen11])), (hea0, .inl (K 1, 40, .inl hef0)), (hea1, .inl (K 1, 10, .inl hef1)), (wk, .inr (8, [.int wkn0, .int wkn1, .int wkn2])), (ro, .inr (5, [.ref roa0, .ref roa1, .ref roa2])), (roa0, .inl (K 2, 240, .inr (.inl rof0))), (roa2, .inl (K 1, 4, .inl rof2))]) (D := D) (K := K) (Qc := fun A => va_Qi (S := ((Nat → Int32) × (Nat → Nat → Int32) × (Nat → Nat → Int64))) (fun _ _ => True) (chB D A (fun u => [(x, .inr (10, [.ref rd, .ref he, .ref pa, .ref wk, .ref ro, .ref mi, .ref se, .ref pl, .ref co, .ref tr, .ref iw, .ref ip])), (he, .inr (9, [.ref hea0, .ref hea1, .ref hea2, .ref hea3, .ref hea4, .ref hea5, .ref hea6, .ref hea7, .int hen8, .int hen9, .int hen10, .int hen11])), (hea0, .inl (K 1, 40, .inl hef0)), (hea1, .inl (K 1, 10, .inl hef1)), (wk, .inr (8, [.int (u.1 0), .int (u.1 1), .int wkn2])), (ro, .inr (5, [.ref roa0, .ref roa1, .ref roa2])), (roa0, .inl (K 2, 240, .inr (.inl rof0))), (roa2, .inl (K 1, 4, .inl rof2))])) A) (by decide) (Nat.le_of_ble_eq_true rfl) ?_
  intro p e s m below meth c A hC hr hk hin hE hD hA H locs hP hS ls hl
  replace hC : CallFix p m c cX11_stepsUntil 5 s [.ref x, .int p0, .int p1].toArray wl RX11 := hC
  have hx := hC.1
  have hb := hC.2.1
  have hml := hC.2.2.1
  have hown := hC.2.2.2.1
  have hts := hC.2.2.2.2
  replace hl : lv_has ls 5 [(0, .ref x), (1, .int p0), (2, .int p1)] := hl
  have kc_0 : (0 : Int32).toInt = 0 := by decide
  have kc_1 : (1 : Int32).toInt = 1 := by decide
  have kc_60 : (60 : Int32).toInt = 60 := by decide
  refine lv_aload_n hx hb dX11_stepsUntil_0 rfl (lv_at hl 0 rfl) ?_
  refine va_get (D := D) (ci := 10) (v := .ref ro) (C := RX11) (T := TX11) (N := 12) hx hb hts in_X11 hown hE.1 hP 0 rfl rfl 4 (by decide) (hts _ w_523) (fun _ h9 => h9) rfl dX11_stepsUntil_1 ?_
  refine lv_iload_n hx hb dX11_stepsUntil_4 rfl (lv_at hl 1 rfl) ?_
  refine ro_V (As := [.int p0]) (rest := []) hC hE kV_X11_201 (c_X5_size l D K ro roa0 roa1 roa2 rof2 p0 hsz) (hP.sub (ws' := [(ro, .inr (5, [.ref roa0, .ref roa1, .ref roa2])), (roa2, .inl (K 1, 4, .inl rof2))]) [5, 7] rfl) 0 5 rfl rfl rfl hl.1 rfl (Nat.le_of_ble_eq_true rfl) (by decide) (by decide) dX11_stepsUntil_5 (fun r3194 hq => ?_)
  rcases hq with ⟨rfl, h3188⟩ | ⟨h3189, h3190, h3191, h3192, h3193⟩
  · refine lv_bipush (v := 60) hx hb dX11_stepsUntil_8 (by decide) ?_
    refine va_mmin hx hb (hml.trans hl.1.symm) hown (hts _ w_537) (hts _ w_142) (hts _ w_143) (hts _ w_144) (by decide) (Nat.le_of_ble_eq_true rfl) (by decide) (by decide) dX11_stepsUntil_10 ?_
    refine tc (y := 0) (by decide) ?_
    refine lv_istore_n (lv' := [(3, .int 0), (0, .ref x), (1, .int p0), (2, .int p1)]) hx hb dX11_stepsUntil_13 rfl hl (by decide) rfl (fun ls hl => ?_)
    refine lv_iconst (v := 0) hx hb dX11_stepsUntil_14 (by decide) ?_
    refine lv_istore (lv' := [(4, .int 0), (3, .int 0), (0, .ref x), (1, .int p0), (2, .int p1)]) hx hb dX11_stepsUntil_15 hl (by decide) rfl (fun ls hl => ?_)
    have hl' := hl; have hP' := hP; have hD' := hD; clear hl hP hD
    obtain ⟨i3212, w3213, w3214, hi_17, hl, hP, hD⟩ : ∃ (i3212 : Int32) (w3213 : Int32) (w3214 : Int32), ((0 : Int) ≤ i3212.toInt) ∧ lv_has ls 5 [(4, .int i3212), (3, .int 0), (0, .ref x), (1, .int p0), (2, .int p1)] ∧ va_P D vwCl [(x, .inr (10, [.ref rd, .ref he, .ref pa, .ref wk, .ref ro, .ref mi, .ref se, .ref pl, .ref co, .ref tr, .ref iw, .ref ip])), (he, .inr (9, [.ref hea0, .ref hea1, .ref hea2, .ref hea3, .ref hea4, .ref hea5, .ref hea6, .ref hea7, .int hen8, .int hen9, .int hen10, .int hen11])), (hea0, .inl (K 1, 40, .inl hef0)), (hea1, .inl (K 1, 10, .inl hef1)), (wk, .inr (8, [.int w3213, .int w3214, .int wkn2])), (ro, .inr (5, [.ref roa0, .ref roa1, .ref roa2])), (roa0, .inl (K 2, 240, .inr (.inl rof0))), (roa2, .inl (K 1, 4, .inl rof2))] H ∧ va_D A [(x, .inr (10, [.ref rd, .ref he, .ref pa, .ref wk, .ref ro, .ref mi, .ref se, .ref pl, .ref co, .ref tr, .ref iw, .ref ip])), (he, .inr (9, [.ref hea0, .ref hea1, .ref hea2, .ref hea3, .ref hea4, .ref hea5, .ref hea6, .ref hea7, .int hen8, .int hen9, .int hen10, .int hen11])), (hea0, .inl (K 1, 40, .inl hef0)), (hea1, .inl (K 1, 10, .inl hef1)), (wk, .inr (8, [.int w3213, .int w3214, .int wkn2])), (ro, .inr (5, [.ref roa0, .ref roa1, .ref roa2])), (roa0, .inl (K 2, 240, .inr (.inl rof0))), (roa2, .inl (K 1, 4, .inl rof2))] := ⟨_, _, _, by omega, hl', hP', hD'⟩
    clear hl' hP' hD'
    obtain ⟨n_17, hn_17⟩ : ∃ n : Nat, ((0 : Int32).toInt + 1 - i3212.toInt).toNat < n := ⟨_, Nat.lt_succ_self _⟩
    induction n_17 generalizing i3212 w3213 w3214 H locs ls with
    | zero => exact absurd hn_17 (Nat.not_lt_zero _)
    | succ n_17 ih_17 =>
      refine lv_iload hx hb dX11_stepsUntil_17 (lv_at hl 0 rfl) ?_
      refine lv_iload_n hx hb dX11_stepsUntil_19 rfl (lv_at hl 1 rfl) ?_
      refine lv_icmp_gt (tgt := 86) hx hb dX11_stepsUntil_20 (by decide) (fun c3215 => ?_) (fun c3215 => ?_)
      · replace c3215 := lt_i c3215
        refine lv_iconst (v := (-1)) hx hb dX11_stepsUntil_86 (by decide) ?_
        refine W.widen (k := 0) (n := 0) (by decide) (by decide) ?_
        exact ch_iret hC hr hk hS dX11_stepsUntil_87 ((fun k => [w3213, w3214].getD k 0, fun k => [].getD k (fun _ => 0), fun k => [].getD k (fun _ => 0)) : ((Nat → Int32) × (Nat → Nat → Int32) × (Nat → Nat → Int64))) trivial (hP.sub [0, 1, 2, 3, 4, 5, 6, 7] rfl) (hD.sub [0, 1, 2, 3, 4, 5, 6, 7] (by decide) rfl)
      · replace c3215 := nlt_i c3215
        refine lv_iload_n hx hb dX11_stepsUntil_23 rfl (lv_at hl 4 rfl) ?_
        refine lv_if_eq (tgt := 40) hx hb dX11_stepsUntil_24 (by decide) (fun c3216 => ?_) (fun c3216 => ?_)
        · replace c3216 := eq_i c3216
          refine lv_aload_n hx hb dX11_stepsUntil_40 rfl (lv_at hl 2 rfl) ?_
          refine va_get (D := D) (ci := 10) (v := .ref wk) (C := RX11) (T := TX11) (N := 12) hx hb hts in_X11 hown hE.1 hP 0 rfl rfl 3 (by decide) (hts _ w_513) (fun _ h9 => h9) rfl dX11_stepsUntil_41 ?_
          refine ro_V (As := []) (rest := []) hC hE kV_X11_171 (c_X9_isAstray l D K wk w3213 w3214 wkn2) (hP.sub (ws' := [(wk, .inr (8, [.int w3213, .int w3214, .int wkn2]))]) [4] rfl) 0 8 rfl rfl rfl hl.1 rfl (Nat.le_of_ble_eq_true rfl) (by decide) (by decide) dX11_stepsUntil_44 (fun r3217 hq => ?_)
          rcases hq with rfl | rfl
          · refine lv_if_eq (tgt := 53) hx hb dX11_stepsUntil_47 (by decide) (fun _ => ?_) (fun h => absurd h (by decide))
            refine lv_iload hx hb dX11_stepsUntil_53 (lv_at hl 0 rfl) ?_
            refine lv_iload_n hx hb dX11_stepsUntil_55 rfl (lv_at hl 1 rfl) ?_
            refine lv_icmp_ge (tgt := 80) hx hb dX11_stepsUntil_56 (by decide) (fun c3218 => ?_) (fun c3218 => ?_)
            · replace c3218 := le_i c3218
              obtain ⟨v3219, ev3219⟩ : ∃ z : Int32, z = i3212 + 1 := ⟨_, rfl⟩
              refine lv_iinc (v := v3219) (lv' := [(4, .int v3219), (3, .int 0), (0, .ref x), (1, .int p0), (2, .int p1)]) hx hb dX11_stepsUntil_80 hl (k := 0) rfl (by rw [ev3219]; rfl) (by decide) rfl (fun ls hl => ?_)
              refine lv_goto (tgt := 17) hx hb dX11_stepsUntil_83 (by decide) ?_
              have tv3219 : v3219.toInt = (i3212 : Int32).toInt + (1 : Int32).toInt := add_i ev3219 (by omega) (by omega)
              exact ih_17 (i3212 := v3219) (w3213 := w3213) (w3214 := w3214) (hi_17 := by omega) (H := H) (locs := locs) (ls := ls) (hn_17 := by omega) (hP := hP) (hD := hD) (hS := hS) (hl := lv_sub hl [0, 1, 2, 3, 4] rfl)
            · replace c3218 := nle_i c3218
              refine lv_aload_n hx hb dX11_stepsUntil_59 rfl (lv_at hl 2 rfl) ?_
              refine va_get (D := D) (ci := 10) (v := .ref wk) (C := RX11) (T := TX11) (N := 12) hx hb hts in_X11 hown hE.1 hP 0 rfl rfl 3 (by decide) (hts _ w_513) (fun _ h9 => h9) rfl dX11_stepsUntil_60 ?_
              refine lv_aload_n hx hb dX11_stepsUntil_63 rfl (lv_at hl 2 rfl) ?_
              refine va_get (D := D) (ci := 10) (v := .ref he) (C := RX11) (T := TX11) (N := 12) hx hb hts in_X11 hown hE.1 hP 0 rfl rfl 1 (by decide) (hts _ w_511) (fun _ h9 => h9) rfl dX11_stepsUntil_64 ?_
              refine lv_aload_n hx hb dX11_stepsUntil_67 rfl (lv_at hl 2 rfl) ?_
              refine va_get (D := D) (ci := 10) (v := .ref ro) (C := RX11) (T := TX11) (N := 12) hx hb hts in_X11 hown hE.1 hP 0 rfl rfl 4 (by decide) (hts _ w_523) (fun _ h9 => h9) rfl dX11_stepsUntil_68 ?_
              refine lv_iload_n hx hb dX11_stepsUntil_71 rfl (lv_at hl 3 rfl) ?_
              refine lv_iload hx hb dX11_stepsUntil_72 (lv_at hl 0 rfl) ?_
              refine ro_V (As := [.int p0, .int i3212]) (rest := [.ref he, .ref wk]) hC hE kV_X11_204 (c_X5_small l D K ro roa0 roa1 roa2 rof0 rof2 p0 i3212 hsz) (hP.sub (ws' := [(ro, .inr (5, [.ref roa0, .ref roa1, .ref roa2])), (roa0, .inl (K 2, 240, .inr (.inl rof0))), (roa2, .inl (K 1, 4, .inl rof2))]) [5, 6, 7] rfl) 0 5 rfl rfl rfl hl.1 rfl (Nat.le_of_ble_eq_true rfl) (by decide) (by decide) dX11_stepsUntil_74 (fun r3220 _ => ?_)
              refine cv_V (As := [.ref he, .int r3220]) (rest := []) (wc := [(wk, .inr (8, [.int w3213, .int w3214, .int wkn2])), (he, .inr (9, [.ref hea0, .ref hea1, .ref hea2, .ref hea3, .ref hea4, .ref hea5, .ref hea6, .ref hea7, .int hen8, .int hen9, .int hen10, .int hen11])), (hea0, .inl (K 1, 40, .inl hef0)), (hea1, .inl (K 1, 10, .inl hef1))]) (wr := [(x, .inr (10, [.ref rd, .ref he, .ref pa, .ref wk, .ref ro, .ref mi, .ref se, .ref pl, .ref co, .ref tr, .ref iw, .ref ip])), (ro, .inr (5, [.ref roa0, .ref roa1, .ref roa2])), (roa0, .inl (K 2, 240, .inr (.inl rof0))), (roa2, .inl (K 1, 4, .inl rof2))]) hC hE kV_X11_177 (c_X9_step l D K wk he hea0 hea1 hea2 hea3 hea4 hea5 hea6 hea7 w3213 w3214 wkn2 hen8 hen9 hen10 hen11 hef0 hef1 r3220) hP hD hS hA [4, 1, 2, 3] [0, 5, 6, 7] rfl rfl rfl (by decide) (by decide) (by decide) 0 8 rfl rfl rfl hl.1 rfl (Nat.le_of_ble_eq_true rfl) (by decide) (by decide) dX11_stepsUntil_77 (fun u3221 H locs hw hP hD hS => ?_)
              replace hP : va_P D vwCl [(x, .inr (10, [.ref rd, .ref he, .ref pa, .ref wk, .ref ro, .ref mi, .ref se, .ref pl, .ref co, .ref tr, .ref iw, .ref ip])), (ro, .inr (5, [.ref roa0, .ref roa1, .ref roa2])), (roa0, .inl (K 2, 240, .inr (.inl rof0))), (roa2, .inl (K 1, 4, .inl rof2)), (wk, .inr (8, [.int (u3221.1 0), .int (u3221.1 1), .int wkn2])), (he, .inr (9, [.ref hea0, .ref hea1, .ref hea2, .ref hea3, .ref hea4, .ref hea5, .ref hea6, .ref hea7, .int hen8, .int hen9, .int hen10, .int hen11])), (hea0, .inl (K 1, 40, .inl hef0)), (hea1, .inl (K 1, 10, .inl hef1))] H := hP
              replace hD : va_D A [(x, .inr (10, [.ref rd, .ref he, .ref pa, .ref wk, .ref ro, .ref mi, .ref se, .ref pl, .ref co, .ref tr, .ref iw, .ref ip])), (ro, .inr (5, [.ref roa0, .ref roa1, .ref roa2])), (roa0, .inl (K 2, 240, .inr (.inl rof0))), (roa2, .inl (K 1, 4, .inl rof2)), (wk, .inr (8, [.int (u3221.1 0), .int (u3221.1 1), .int wkn2])), (he, .inr (9, [.ref hea0, .ref hea1, .ref hea2, .ref hea3, .ref hea4, .ref hea5, .ref hea6, .ref hea7, .int hen8, .int hen9, .int hen10, .int hen11])), (hea0, .inl (K 1, 40, .inl hef0)), (hea1, .inl (K 1, 10, .inl hef1))] := hD
              replace hP : va_P D vwCl [(x, .inr (10, [.ref rd, .ref he, .ref pa, .ref wk, .ref ro, .ref mi, .ref se, .ref pl, .ref co, .ref tr, .ref iw, .ref ip])), (he, .inr (9, [.ref hea0, .ref hea1, .ref hea2, .ref hea3, .ref hea4, .ref hea5, .ref hea6, .ref hea7, .int hen8, .int hen9, .int hen10, .int hen11])), (hea0, .inl (K 1, 40, .inl hef0)), (hea1, .inl (K 1, 10, .inl hef1)), (wk, .inr (8, [.int (u3221.1 0), .int (u3221.1 1), .int wkn2])), (ro, .inr (5, [.ref roa0, .ref roa1, .ref roa2])), (roa0, .inl (K 2, 240, .inr (.inl rof0))), (roa2, .inl (K 1, 4, .inl rof2))] H := hP.sub [0, 5, 6, 7, 4, 1, 2, 3] rfl
              replace hD : va_D A [(x, .inr (10, [.ref rd, .ref he, .ref pa, .ref wk, .ref ro, .ref mi, .ref se, .ref pl, .ref co, .ref tr, .ref iw, .ref ip])), (he, .inr (9, [.ref hea0, .ref hea1, .ref hea2, .ref hea3, .ref hea4, .ref hea5, .ref hea6, .ref hea7, .int hen8, .int hen9, .int hen10, .int hen11])), (hea0, .inl (K 1, 40, .inl hef0)), (hea1, .inl (K 1, 10, .inl hef1)), (wk, .inr (8, [.int (u3221.1 0), .int (u3221.1 1), .int wkn2])), (ro, .inr (5, [.ref roa0, .ref roa1, .ref roa2])), (roa0, .inl (K 2, 240, .inr (.inl rof0))), (roa2, .inl (K 1, 4, .inl rof2))] := hD.sub [0, 5, 6, 7, 4, 1, 2, 3] (by decide) rfl
              refine W.widen (k := 0) (n := 0) (by decide) (by decide) ?_
              obtain ⟨v3223, ev3223⟩ : ∃ z : Int32, z = i3212 + 1 := ⟨_, rfl⟩
              refine lv_iinc (v := v3223) (lv' := [(4, .int v3223), (3, .int 0), (0, .ref x), (1, .int p0), (2, .int p1)]) hx hb dX11_stepsUntil_80 hl (k := 0) rfl (by rw [ev3223]; rfl) (by decide) rfl (fun ls hl => ?_)
              refine lv_goto (tgt := 17) hx hb dX11_stepsUntil_83 (by decide) ?_
              have tv3223 : v3223.toInt = (i3212 : Int32).toInt + (1 : Int32).toInt := add_i ev3223 (by omega) (by omega)
              exact ih_17 (i3212 := v3223) (w3213 := (u3221.1 0)) (w3214 := (u3221.1 1)) (hi_17 := by omega) (H := H) (locs := locs) (ls := ls) (hn_17 := by omega) (hP := hP) (hD := hD) (hS := hS) (hl := lv_sub hl [0, 1, 2, 3, 4] rfl)
          · refine lv_if_eq (tgt := 53) hx hb dX11_stepsUntil_47 (by decide) (fun h => absurd h (by decide)) (fun _ => ?_)
            refine lv_iload hx hb dX11_stepsUntil_50 (lv_at hl 0 rfl) ?_
            refine W.widen (k := 0) (n := 0) (by decide) (by decide) ?_
            exact ch_iret hC hr hk hS dX11_stepsUntil_52 ((fun k => [w3213, w3214].getD k 0, fun k => [].getD k (fun _ => 0), fun k => [].getD k (fun _ => 0)) : ((Nat → Int32) × (Nat → Nat → Int32) × (Nat → Nat → Int64))) trivial (hP.sub [0, 1, 2, 3, 4, 5, 6, 7] rfl) (hD.sub [0, 1, 2, 3, 4, 5, 6, 7] (by decide) rfl)
        · replace c3216 := ne_i c3216
          refine lv_aload_n hx hb dX11_stepsUntil_27 rfl (lv_at hl 2 rfl) ?_
          refine va_get (D := D) (ci := 10) (v := .ref wk) (C := RX11) (T := TX11) (N := 12) hx hb hts in_X11 hown hE.1 hP 0 rfl rfl 3 (by decide) (hts _ w_513) (fun _ h9 => h9) rfl dX11_stepsUntil_28 ?_
          refine ro_V (As := []) (rest := []) hC hE kV_X11_168 (c_X9_isSure l D K wk w3213 w3214 wkn2) (hP.sub (ws' := [(wk, .inr (8, [.int w3213, .int w3214, .int wkn2]))]) [4] rfl) 0 8 rfl rfl rfl hl.1 rfl (Nat.le_of_ble_eq_true rfl) (by decide) (by decide) dX11_stepsUntil_31 (fun r3224 hq => ?_)
          rcases hq with rfl | rfl
          · refine lv_if_eq (tgt := 53) hx hb dX11_stepsUntil_34 (by decide) (fun _ => ?_) (fun h => absurd h (by decide))
            refine lv_iload hx hb dX11_stepsUntil_53 (lv_at hl 0 rfl) ?_
            refine lv_iload_n hx hb dX11_stepsUntil_55 rfl (lv_at hl 1 rfl) ?_
            refine lv_icmp_ge (tgt := 80) hx hb dX11_stepsUntil_56 (by decide) (fun c3225 => ?_) (fun c3225 => ?_)
            · replace c3225 := le_i c3225
              obtain ⟨v3226, ev3226⟩ : ∃ z : Int32, z = i3212 + 1 := ⟨_, rfl⟩
              refine lv_iinc (v := v3226) (lv' := [(4, .int v3226), (3, .int 0), (0, .ref x), (1, .int p0), (2, .int p1)]) hx hb dX11_stepsUntil_80 hl (k := 0) rfl (by rw [ev3226]; rfl) (by decide) rfl (fun ls hl => ?_)
              refine lv_goto (tgt := 17) hx hb dX11_stepsUntil_83 (by decide) ?_
              have tv3226 : v3226.toInt = (i3212 : Int32).toInt + (1 : Int32).toInt := add_i ev3226 (by omega) (by omega)
              exact ih_17 (i3212 := v3226) (w3213 := w3213) (w3214 := w3214) (hi_17 := by omega) (H := H) (locs := locs) (ls := ls) (hn_17 := by omega) (hP := hP) (hD := hD) (hS := hS) (hl := lv_sub hl [0, 1, 2, 3, 4] rfl)
            · replace c3225 := nle_i c3225
              refine lv_aload_n hx hb dX11_stepsUntil_59 rfl (lv_at hl 2 rfl) ?_
              refine va_get (D := D) (ci := 10) (v := .ref wk) (C := RX11) (T := TX11) (N := 12) hx hb hts in_X11 hown hE.1 hP 0 rfl rfl 3 (by decide) (hts _ w_513) (fun _ h9 => h9) rfl dX11_stepsUntil_60 ?_
              refine lv_aload_n hx hb dX11_stepsUntil_63 rfl (lv_at hl 2 rfl) ?_
              refine va_get (D := D) (ci := 10) (v := .ref he) (C := RX11) (T := TX11) (N := 12) hx hb hts in_X11 hown hE.1 hP 0 rfl rfl 1 (by decide) (hts _ w_511) (fun _ h9 => h9) rfl dX11_stepsUntil_64 ?_
              refine lv_aload_n hx hb dX11_stepsUntil_67 rfl (lv_at hl 2 rfl) ?_
              refine va_get (D := D) (ci := 10) (v := .ref ro) (C := RX11) (T := TX11) (N := 12) hx hb hts in_X11 hown hE.1 hP 0 rfl rfl 4 (by decide) (hts _ w_523) (fun _ h9 => h9) rfl dX11_stepsUntil_68 ?_
              refine lv_iload_n hx hb dX11_stepsUntil_71 rfl (lv_at hl 3 rfl) ?_
              refine lv_iload hx hb dX11_stepsUntil_72 (lv_at hl 0 rfl) ?_
              refine ro_V (As := [.int p0, .int i3212]) (rest := [.ref he, .ref wk]) hC hE kV_X11_204 (c_X5_small l D K ro roa0 roa1 roa2 rof0 rof2 p0 i3212 hsz) (hP.sub (ws' := [(ro, .inr (5, [.ref roa0, .ref roa1, .ref roa2])), (roa0, .inl (K 2, 240, .inr (.inl rof0))), (roa2, .inl (K 1, 4, .inl rof2))]) [5, 6, 7] rfl) 0 5 rfl rfl rfl hl.1 rfl (Nat.le_of_ble_eq_true rfl) (by decide) (by decide) dX11_stepsUntil_74 (fun r3227 _ => ?_)
              refine cv_V (As := [.ref he, .int r3227]) (rest := []) (wc := [(wk, .inr (8, [.int w3213, .int w3214, .int wkn2])), (he, .inr (9, [.ref hea0, .ref hea1, .ref hea2, .ref hea3, .ref hea4, .ref hea5, .ref hea6, .ref hea7, .int hen8, .int hen9, .int hen10, .int hen11])), (hea0, .inl (K 1, 40, .inl hef0)), (hea1, .inl (K 1, 10, .inl hef1))]) (wr := [(x, .inr (10, [.ref rd, .ref he, .ref pa, .ref wk, .ref ro, .ref mi, .ref se, .ref pl, .ref co, .ref tr, .ref iw, .ref ip])), (ro, .inr (5, [.ref roa0, .ref roa1, .ref roa2])), (roa0, .inl (K 2, 240, .inr (.inl rof0))), (roa2, .inl (K 1, 4, .inl rof2))]) hC hE kV_X11_177 (c_X9_step l D K wk he hea0 hea1 hea2 hea3 hea4 hea5 hea6 hea7 w3213 w3214 wkn2 hen8 hen9 hen10 hen11 hef0 hef1 r3227) hP hD hS hA [4, 1, 2, 3] [0, 5, 6, 7] rfl rfl rfl (by decide) (by decide) (by decide) 0 8 rfl rfl rfl hl.1 rfl (Nat.le_of_ble_eq_true rfl) (by decide) (by decide) dX11_stepsUntil_77 (fun u3228 H locs hw hP hD hS => ?_)
              replace hP : va_P D vwCl [(x, .inr (10, [.ref rd, .ref he, .ref pa, .ref wk, .ref ro, .ref mi, .ref se, .ref pl, .ref co, .ref tr, .ref iw, .ref ip])), (ro, .inr (5, [.ref roa0, .ref roa1, .ref roa2])), (roa0, .inl (K 2, 240, .inr (.inl rof0))), (roa2, .inl (K 1, 4, .inl rof2)), (wk, .inr (8, [.int (u3228.1 0), .int (u3228.1 1), .int wkn2])), (he, .inr (9, [.ref hea0, .ref hea1, .ref hea2, .ref hea3, .ref hea4, .ref hea5, .ref hea6, .ref hea7, .int hen8, .int hen9, .int hen10, .int hen11])), (hea0, .inl (K 1, 40, .inl hef0)), (hea1, .inl (K 1, 10, .inl hef1))] H := hP
              replace hD : va_D A [(x, .inr (10, [.ref rd, .ref he, .ref pa, .ref wk, .ref ro, .ref mi, .ref se, .ref pl, .ref co, .ref tr, .ref iw, .ref ip])), (ro, .inr (5, [.ref roa0, .ref roa1, .ref roa2])), (roa0, .inl (K 2, 240, .inr (.inl rof0))), (roa2, .inl (K 1, 4, .inl rof2)), (wk, .inr (8, [.int (u3228.1 0), .int (u3228.1 1), .int wkn2])), (he, .inr (9, [.ref hea0, .ref hea1, .ref hea2, .ref hea3, .ref hea4, .ref hea5, .ref hea6, .ref hea7, .int hen8, .int hen9, .int hen10, .int hen11])), (hea0, .inl (K 1, 40, .inl hef0)), (hea1, .inl (K 1, 10, .inl hef1))] := hD
              replace hP : va_P D vwCl [(x, .inr (10, [.ref rd, .ref he, .ref pa, .ref wk, .ref ro, .ref mi, .ref se, .ref pl, .ref co, .ref tr, .ref iw, .ref ip])), (he, .inr (9, [.ref hea0, .ref hea1, .ref hea2, .ref hea3, .ref hea4, .ref hea5, .ref hea6, .ref hea7, .int hen8, .int hen9, .int hen10, .int hen11])), (hea0, .inl (K 1, 40, .inl hef0)), (hea1, .inl (K 1, 10, .inl hef1)), (wk, .inr (8, [.int (u3228.1 0), .int (u3228.1 1), .int wkn2])), (ro, .inr (5, [.ref roa0, .ref roa1, .ref roa2])), (roa0, .inl (K 2, 240, .inr (.inl rof0))), (roa2, .inl (K 1, 4, .inl rof2))] H := hP.sub [0, 5, 6, 7, 4, 1, 2, 3] rfl
              replace hD : va_D A [(x, .inr (10, [.ref rd, .ref he, .ref pa, .ref wk, .ref ro, .ref mi, .ref se, .ref pl, .ref co, .ref tr, .ref iw, .ref ip])), (he, .inr (9, [.ref hea0, .ref hea1, .ref hea2, .ref hea3, .ref hea4, .ref hea5, .ref hea6, .ref hea7, .int hen8, .int hen9, .int hen10, .int hen11])), (hea0, .inl (K 1, 40, .inl hef0)), (hea1, .inl (K 1, 10, .inl hef1)), (wk, .inr (8, [.int (u3228.1 0), .int (u3228.1 1), .int wkn2])), (ro, .inr (5, [.ref roa0, .ref roa1, .ref roa2])), (roa0, .inl (K 2, 240, .inr (.inl rof0))), (roa2, .inl (K 1, 4, .inl rof2))] := hD.sub [0, 5, 6, 7, 4, 1, 2, 3] (by decide) rfl
              refine W.widen (k := 0) (n := 0) (by decide) (by decide) ?_
              obtain ⟨v3230, ev3230⟩ : ∃ z : Int32, z = i3212 + 1 := ⟨_, rfl⟩
              refine lv_iinc (v := v3230) (lv' := [(4, .int v3230), (3, .int 0), (0, .ref x), (1, .int p0), (2, .int p1)]) hx hb dX11_stepsUntil_80 hl (k := 0) rfl (by rw [ev3230]; rfl) (by decide) rfl (fun ls hl => ?_)
              refine lv_goto (tgt := 17) hx hb dX11_stepsUntil_83 (by decide) ?_
              have tv3230 : v3230.toInt = (i3212 : Int32).toInt + (1 : Int32).toInt := add_i ev3230 (by omega) (by omega)
              exact ih_17 (i3212 := v3230) (w3213 := (u3228.1 0)) (w3214 := (u3228.1 1)) (hi_17 := by omega) (H := H) (locs := locs) (ls := ls) (hn_17 := by omega) (hP := hP) (hD := hD) (hS := hS) (hl := lv_sub hl [0, 1, 2, 3, 4] rfl)
          · refine lv_if_eq (tgt := 53) hx hb dX11_stepsUntil_34 (by decide) (fun h => absurd h (by decide)) (fun _ => ?_)
            refine lv_goto (tgt := 50) hx hb dX11_stepsUntil_37 (by decide) ?_
            refine lv_iload hx hb dX11_stepsUntil_50 (lv_at hl 0 rfl) ?_
            refine W.widen (k := 0) (n := 0) (by decide) (by decide) ?_
            exact ch_iret hC hr hk hS dX11_stepsUntil_52 ((fun k => [w3213, w3214].getD k 0, fun k => [].getD k (fun _ => 0), fun k => [].getD k (fun _ => 0)) : ((Nat → Int32) × (Nat → Nat → Int32) × (Nat → Nat → Int64))) trivial (hP.sub [0, 1, 2, 3, 4, 5, 6, 7] rfl) (hD.sub [0, 1, 2, 3, 4, 5, 6, 7] (by decide) rfl)
  · refine lv_bipush (v := 60) hx hb dX11_stepsUntil_8 (by decide) ?_
    refine va_mmin hx hb (hml.trans hl.1.symm) hown (hts _ w_537) (hts _ w_142) (hts _ w_143) (hts _ w_144) (by decide) (Nat.le_of_ble_eq_true rfl) (by decide) (by decide) dX11_stepsUntil_10 ?_
    refine lv_topi (fun v3231 ev3231 => ?_)
    have tv3231 := min_i ev3231
    refine lv_istore_n (lv' := [(3, .int v3231), (0, .ref x), (1, .int p0), (2, .int p1)]) hx hb dX11_stepsUntil_13 rfl hl (by decide) rfl (fun ls hl => ?_)
    refine lv_iconst (v := 0) hx hb dX11_stepsUntil_14 (by decide) ?_
    refine lv_istore (lv' := [(4, .int 0), (3, .int v3231), (0, .ref x), (1, .int p0), (2, .int p1)]) hx hb dX11_stepsUntil_15 hl (by decide) rfl (fun ls hl => ?_)
    have hl' := hl; have hP' := hP; have hD' := hD; clear hl hP hD
    obtain ⟨i3249, w3250, w3251, hi_17, hl, hP, hD⟩ : ∃ (i3249 : Int32) (w3250 : Int32) (w3251 : Int32), ((0 : Int) ≤ i3249.toInt) ∧ lv_has ls 5 [(4, .int i3249), (3, .int v3231), (0, .ref x), (1, .int p0), (2, .int p1)] ∧ va_P D vwCl [(x, .inr (10, [.ref rd, .ref he, .ref pa, .ref wk, .ref ro, .ref mi, .ref se, .ref pl, .ref co, .ref tr, .ref iw, .ref ip])), (he, .inr (9, [.ref hea0, .ref hea1, .ref hea2, .ref hea3, .ref hea4, .ref hea5, .ref hea6, .ref hea7, .int hen8, .int hen9, .int hen10, .int hen11])), (hea0, .inl (K 1, 40, .inl hef0)), (hea1, .inl (K 1, 10, .inl hef1)), (wk, .inr (8, [.int w3250, .int w3251, .int wkn2])), (ro, .inr (5, [.ref roa0, .ref roa1, .ref roa2])), (roa0, .inl (K 2, 240, .inr (.inl rof0))), (roa2, .inl (K 1, 4, .inl rof2))] H ∧ va_D A [(x, .inr (10, [.ref rd, .ref he, .ref pa, .ref wk, .ref ro, .ref mi, .ref se, .ref pl, .ref co, .ref tr, .ref iw, .ref ip])), (he, .inr (9, [.ref hea0, .ref hea1, .ref hea2, .ref hea3, .ref hea4, .ref hea5, .ref hea6, .ref hea7, .int hen8, .int hen9, .int hen10, .int hen11])), (hea0, .inl (K 1, 40, .inl hef0)), (hea1, .inl (K 1, 10, .inl hef1)), (wk, .inr (8, [.int w3250, .int w3251, .int wkn2])), (ro, .inr (5, [.ref roa0, .ref roa1, .ref roa2])), (roa0, .inl (K 2, 240, .inr (.inl rof0))), (roa2, .inl (K 1, 4, .inl rof2))] := ⟨_, _, _, by omega, hl', hP', hD'⟩
    clear hl' hP' hD'
    obtain ⟨n_17, hn_17⟩ : ∃ n : Nat, (v3231.toInt + 1 - i3249.toInt).toNat < n := ⟨_, Nat.lt_succ_self _⟩
    induction n_17 generalizing i3249 w3250 w3251 H locs ls with
    | zero => exact absurd hn_17 (Nat.not_lt_zero _)
    | succ n_17 ih_17 =>
      refine lv_iload hx hb dX11_stepsUntil_17 (lv_at hl 0 rfl) ?_
      refine lv_iload_n hx hb dX11_stepsUntil_19 rfl (lv_at hl 1 rfl) ?_
      refine lv_icmp_gt (tgt := 86) hx hb dX11_stepsUntil_20 (by decide) (fun c3252 => ?_) (fun c3252 => ?_)
      · replace c3252 := lt_i c3252
        refine lv_iconst (v := (-1)) hx hb dX11_stepsUntil_86 (by decide) ?_
        refine W.widen (k := 0) (n := 0) (by decide) (by decide) ?_
        exact ch_iret hC hr hk hS dX11_stepsUntil_87 ((fun k => [w3250, w3251].getD k 0, fun k => [].getD k (fun _ => 0), fun k => [].getD k (fun _ => 0)) : ((Nat → Int32) × (Nat → Nat → Int32) × (Nat → Nat → Int64))) trivial (hP.sub [0, 1, 2, 3, 4, 5, 6, 7] rfl) (hD.sub [0, 1, 2, 3, 4, 5, 6, 7] (by decide) rfl)
      · replace c3252 := nlt_i c3252
        refine lv_iload_n hx hb dX11_stepsUntil_23 rfl (lv_at hl 4 rfl) ?_
        refine lv_if_eq (tgt := 40) hx hb dX11_stepsUntil_24 (by decide) (fun c3253 => ?_) (fun c3253 => ?_)
        · replace c3253 := eq_i c3253
          refine lv_aload_n hx hb dX11_stepsUntil_40 rfl (lv_at hl 2 rfl) ?_
          refine va_get (D := D) (ci := 10) (v := .ref wk) (C := RX11) (T := TX11) (N := 12) hx hb hts in_X11 hown hE.1 hP 0 rfl rfl 3 (by decide) (hts _ w_513) (fun _ h9 => h9) rfl dX11_stepsUntil_41 ?_
          refine ro_V (As := []) (rest := []) hC hE kV_X11_171 (c_X9_isAstray l D K wk w3250 w3251 wkn2) (hP.sub (ws' := [(wk, .inr (8, [.int w3250, .int w3251, .int wkn2]))]) [4] rfl) 0 8 rfl rfl rfl hl.1 rfl (Nat.le_of_ble_eq_true rfl) (by decide) (by decide) dX11_stepsUntil_44 (fun r3254 hq => ?_)
          rcases hq with rfl | rfl
          · refine lv_if_eq (tgt := 53) hx hb dX11_stepsUntil_47 (by decide) (fun _ => ?_) (fun h => absurd h (by decide))
            refine lv_iload hx hb dX11_stepsUntil_53 (lv_at hl 0 rfl) ?_
            refine lv_iload_n hx hb dX11_stepsUntil_55 rfl (lv_at hl 1 rfl) ?_
            refine lv_icmp_ge (tgt := 80) hx hb dX11_stepsUntil_56 (by decide) (fun c3255 => ?_) (fun c3255 => ?_)
            · replace c3255 := le_i c3255
              obtain ⟨v3256, ev3256⟩ : ∃ z : Int32, z = i3249 + 1 := ⟨_, rfl⟩
              refine lv_iinc (v := v3256) (lv' := [(4, .int v3256), (3, .int v3231), (0, .ref x), (1, .int p0), (2, .int p1)]) hx hb dX11_stepsUntil_80 hl (k := 0) rfl (by rw [ev3256]; rfl) (by decide) rfl (fun ls hl => ?_)
              refine lv_goto (tgt := 17) hx hb dX11_stepsUntil_83 (by decide) ?_
              have tv3256 : v3256.toInt = (i3249 : Int32).toInt + (1 : Int32).toInt := add_i ev3256 (by omega) (by omega)
              exact ih_17 (i3249 := v3256) (w3250 := w3250) (w3251 := w3251) (hi_17 := by omega) (H := H) (locs := locs) (ls := ls) (hn_17 := by omega) (hP := hP) (hD := hD) (hS := hS) (hl := lv_sub hl [0, 1, 2, 3, 4] rfl)
            · replace c3255 := nle_i c3255
              refine lv_aload_n hx hb dX11_stepsUntil_59 rfl (lv_at hl 2 rfl) ?_
              refine va_get (D := D) (ci := 10) (v := .ref wk) (C := RX11) (T := TX11) (N := 12) hx hb hts in_X11 hown hE.1 hP 0 rfl rfl 3 (by decide) (hts _ w_513) (fun _ h9 => h9) rfl dX11_stepsUntil_60 ?_
              refine lv_aload_n hx hb dX11_stepsUntil_63 rfl (lv_at hl 2 rfl) ?_
              refine va_get (D := D) (ci := 10) (v := .ref he) (C := RX11) (T := TX11) (N := 12) hx hb hts in_X11 hown hE.1 hP 0 rfl rfl 1 (by decide) (hts _ w_511) (fun _ h9 => h9) rfl dX11_stepsUntil_64 ?_
              refine lv_aload_n hx hb dX11_stepsUntil_67 rfl (lv_at hl 2 rfl) ?_
              refine va_get (D := D) (ci := 10) (v := .ref ro) (C := RX11) (T := TX11) (N := 12) hx hb hts in_X11 hown hE.1 hP 0 rfl rfl 4 (by decide) (hts _ w_523) (fun _ h9 => h9) rfl dX11_stepsUntil_68 ?_
              refine lv_iload_n hx hb dX11_stepsUntil_71 rfl (lv_at hl 3 rfl) ?_
              refine lv_iload hx hb dX11_stepsUntil_72 (lv_at hl 0 rfl) ?_
              refine ro_V (As := [.int p0, .int i3249]) (rest := [.ref he, .ref wk]) hC hE kV_X11_204 (c_X5_small l D K ro roa0 roa1 roa2 rof0 rof2 p0 i3249 hsz) (hP.sub (ws' := [(ro, .inr (5, [.ref roa0, .ref roa1, .ref roa2])), (roa0, .inl (K 2, 240, .inr (.inl rof0))), (roa2, .inl (K 1, 4, .inl rof2))]) [5, 6, 7] rfl) 0 5 rfl rfl rfl hl.1 rfl (Nat.le_of_ble_eq_true rfl) (by decide) (by decide) dX11_stepsUntil_74 (fun r3257 _ => ?_)
              refine cv_V (As := [.ref he, .int r3257]) (rest := []) (wc := [(wk, .inr (8, [.int w3250, .int w3251, .int wkn2])), (he, .inr (9, [.ref hea0, .ref hea1, .ref hea2, .ref hea3, .ref hea4, .ref hea5, .ref hea6, .ref hea7, .int hen8, .int hen9, .int hen10, .int hen11])), (hea0, .inl (K 1, 40, .inl hef0)), (hea1, .inl (K 1, 10, .inl hef1))]) (wr := [(x, .inr (10, [.ref rd, .ref he, .ref pa, .ref wk, .ref ro, .ref mi, .ref se, .ref pl, .ref co, .ref tr, .ref iw, .ref ip])), (ro, .inr (5, [.ref roa0, .ref roa1, .ref roa2])), (roa0, .inl (K 2, 240, .inr (.inl rof0))), (roa2, .inl (K 1, 4, .inl rof2))]) hC hE kV_X11_177 (c_X9_step l D K wk he hea0 hea1 hea2 hea3 hea4 hea5 hea6 hea7 w3250 w3251 wkn2 hen8 hen9 hen10 hen11 hef0 hef1 r3257) hP hD hS hA [4, 1, 2, 3] [0, 5, 6, 7] rfl rfl rfl (by decide) (by decide) (by decide) 0 8 rfl rfl rfl hl.1 rfl (Nat.le_of_ble_eq_true rfl) (by decide) (by decide) dX11_stepsUntil_77 (fun u3258 H locs hw hP hD hS => ?_)
              replace hP : va_P D vwCl [(x, .inr (10, [.ref rd, .ref he, .ref pa, .ref wk, .ref ro, .ref mi, .ref se, .ref pl, .ref co, .ref tr, .ref iw, .ref ip])), (ro, .inr (5, [.ref roa0, .ref roa1, .ref roa2])), (roa0, .inl (K 2, 240, .inr (.inl rof0))), (roa2, .inl (K 1, 4, .inl rof2)), (wk, .inr (8, [.int (u3258.1 0), .int (u3258.1 1), .int wkn2])), (he, .inr (9, [.ref hea0, .ref hea1, .ref hea2, .ref hea3, .ref hea4, .ref hea5, .ref hea6, .ref hea7, .int hen8, .int hen9, .int hen10, .int hen11])), (hea0, .inl (K 1, 40, .inl hef0)), (hea1, .inl (K 1, 10, .inl hef1))] H := hP
              replace hD : va_D A [(x, .inr (10, [.ref rd, .ref he, .ref pa, .ref wk, .ref ro, .ref mi, .ref se, .ref pl, .ref co, .ref tr, .ref iw, .ref ip])), (ro, .inr (5, [.ref roa0, .ref roa1, .ref roa2])), (roa0, .inl (K 2, 240, .inr (.inl rof0))), (roa2, .inl (K 1, 4, .inl rof2)), (wk, .inr (8, [.int (u3258.1 0), .int (u3258.1 1), .int wkn2])), (he, .inr (9, [.ref hea0, .ref hea1, .ref hea2, .ref hea3, .ref hea4, .ref hea5, .ref hea6, .ref hea7, .int hen8, .int hen9, .int hen10, .int hen11])), (hea0, .inl (K 1, 40, .inl hef0)), (hea1, .inl (K 1, 10, .inl hef1))] := hD
              replace hP : va_P D vwCl [(x, .inr (10, [.ref rd, .ref he, .ref pa, .ref wk, .ref ro, .ref mi, .ref se, .ref pl, .ref co, .ref tr, .ref iw, .ref ip])), (he, .inr (9, [.ref hea0, .ref hea1, .ref hea2, .ref hea3, .ref hea4, .ref hea5, .ref hea6, .ref hea7, .int hen8, .int hen9, .int hen10, .int hen11])), (hea0, .inl (K 1, 40, .inl hef0)), (hea1, .inl (K 1, 10, .inl hef1)), (wk, .inr (8, [.int (u3258.1 0), .int (u3258.1 1), .int wkn2])), (ro, .inr (5, [.ref roa0, .ref roa1, .ref roa2])), (roa0, .inl (K 2, 240, .inr (.inl rof0))), (roa2, .inl (K 1, 4, .inl rof2))] H := hP.sub [0, 5, 6, 7, 4, 1, 2, 3] rfl
              replace hD : va_D A [(x, .inr (10, [.ref rd, .ref he, .ref pa, .ref wk, .ref ro, .ref mi, .ref se, .ref pl, .ref co, .ref tr, .ref iw, .ref ip])), (he, .inr (9, [.ref hea0, .ref hea1, .ref hea2, .ref hea3, .ref hea4, .ref hea5, .ref hea6, .ref hea7, .int hen8, .int hen9, .int hen10, .int hen11])), (hea0, .inl (K 1, 40, .inl hef0)), (hea1, .inl (K 1, 10, .inl hef1)), (wk, .inr (8, [.int (u3258.1 0), .int (u3258.1 1), .int wkn2])), (ro, .inr (5, [.ref roa0, .ref roa1, .ref roa2])), (roa0, .inl (K 2, 240, .inr (.inl rof0))), (roa2, .inl (K 1, 4, .inl rof2))] := hD.sub [0, 5, 6, 7, 4, 1, 2, 3] (by decide) rfl
              refine W.widen (k := 0) (n := 0) (by decide) (by decide) ?_
              obtain ⟨v3260, ev3260⟩ : ∃ z : Int32, z = i3249 + 1 := ⟨_, rfl⟩
              refine lv_iinc (v := v3260) (lv' := [(4, .int v3260), (3, .int v3231), (0, .ref x), (1, .int p0), (2, .int p1)]) hx hb dX11_stepsUntil_80 hl (k := 0) rfl (by rw [ev3260]; rfl) (by decide) rfl (fun ls hl => ?_)
              refine lv_goto (tgt := 17) hx hb dX11_stepsUntil_83 (by decide) ?_
              have tv3260 : v3260.toInt = (i3249 : Int32).toInt + (1 : Int32).toInt := add_i ev3260 (by omega) (by omega)
              exact ih_17 (i3249 := v3260) (w3250 := (u3258.1 0)) (w3251 := (u3258.1 1)) (hi_17 := by omega) (H := H) (locs := locs) (ls := ls) (hn_17 := by omega) (hP := hP) (hD := hD) (hS := hS) (hl := lv_sub hl [0, 1, 2, 3, 4] rfl)
          · refine lv_if_eq (tgt := 53) hx hb dX11_stepsUntil_47 (by decide) (fun h => absurd h (by decide)) (fun _ => ?_)
            refine lv_iload hx hb dX11_stepsUntil_50 (lv_at hl 0 rfl) ?_
            refine W.widen (k := 0) (n := 0) (by decide) (by decide) ?_
            exact ch_iret hC hr hk hS dX11_stepsUntil_52 ((fun k => [w3250, w3251].getD k 0, fun k => [].getD k (fun _ => 0), fun k => [].getD k (fun _ => 0)) : ((Nat → Int32) × (Nat → Nat → Int32) × (Nat → Nat → Int64))) trivial (hP.sub [0, 1, 2, 3, 4, 5, 6, 7] rfl) (hD.sub [0, 1, 2, 3, 4, 5, 6, 7] (by decide) rfl)
        · replace c3253 := ne_i c3253
          refine lv_aload_n hx hb dX11_stepsUntil_27 rfl (lv_at hl 2 rfl) ?_
          refine va_get (D := D) (ci := 10) (v := .ref wk) (C := RX11) (T := TX11) (N := 12) hx hb hts in_X11 hown hE.1 hP 0 rfl rfl 3 (by decide) (hts _ w_513) (fun _ h9 => h9) rfl dX11_stepsUntil_28 ?_
          refine ro_V (As := []) (rest := []) hC hE kV_X11_168 (c_X9_isSure l D K wk w3250 w3251 wkn2) (hP.sub (ws' := [(wk, .inr (8, [.int w3250, .int w3251, .int wkn2]))]) [4] rfl) 0 8 rfl rfl rfl hl.1 rfl (Nat.le_of_ble_eq_true rfl) (by decide) (by decide) dX11_stepsUntil_31 (fun r3261 hq => ?_)
          rcases hq with rfl | rfl
          · refine lv_if_eq (tgt := 53) hx hb dX11_stepsUntil_34 (by decide) (fun _ => ?_) (fun h => absurd h (by decide))
            refine lv_iload hx hb dX11_stepsUntil_53 (lv_at hl 0 rfl) ?_
            refine lv_iload_n hx hb dX11_stepsUntil_55 rfl (lv_at hl 1 rfl) ?_
            refine lv_icmp_ge (tgt := 80) hx hb dX11_stepsUntil_56 (by decide) (fun c3262 => ?_) (fun c3262 => ?_)
            · replace c3262 := le_i c3262
              obtain ⟨v3263, ev3263⟩ : ∃ z : Int32, z = i3249 + 1 := ⟨_, rfl⟩
              refine lv_iinc (v := v3263) (lv' := [(4, .int v3263), (3, .int v3231), (0, .ref x), (1, .int p0), (2, .int p1)]) hx hb dX11_stepsUntil_80 hl (k := 0) rfl (by rw [ev3263]; rfl) (by decide) rfl (fun ls hl => ?_)
              refine lv_goto (tgt := 17) hx hb dX11_stepsUntil_83 (by decide) ?_
              have tv3263 : v3263.toInt = (i3249 : Int32).toInt + (1 : Int32).toInt := add_i ev3263 (by omega) (by omega)
              exact ih_17 (i3249 := v3263) (w3250 := w3250) (w3251 := w3251) (hi_17 := by omega) (H := H) (locs := locs) (ls := ls) (hn_17 := by omega) (hP := hP) (hD := hD) (hS := hS) (hl := lv_sub hl [0, 1, 2, 3, 4] rfl)
            · replace c3262 := nle_i c3262
              refine lv_aload_n hx hb dX11_stepsUntil_59 rfl (lv_at hl 2 rfl) ?_
              refine va_get (D := D) (ci := 10) (v := .ref wk) (C := RX11) (T := TX11) (N := 12) hx hb hts in_X11 hown hE.1 hP 0 rfl rfl 3 (by decide) (hts _ w_513) (fun _ h9 => h9) rfl dX11_stepsUntil_60 ?_
              refine lv_aload_n hx hb dX11_stepsUntil_63 rfl (lv_at hl 2 rfl) ?_
              refine va_get (D := D) (ci := 10) (v := .ref he) (C := RX11) (T := TX11) (N := 12) hx hb hts in_X11 hown hE.1 hP 0 rfl rfl 1 (by decide) (hts _ w_511) (fun _ h9 => h9) rfl dX11_stepsUntil_64 ?_
              refine lv_aload_n hx hb dX11_stepsUntil_67 rfl (lv_at hl 2 rfl) ?_
              refine va_get (D := D) (ci := 10) (v := .ref ro) (C := RX11) (T := TX11) (N := 12) hx hb hts in_X11 hown hE.1 hP 0 rfl rfl 4 (by decide) (hts _ w_523) (fun _ h9 => h9) rfl dX11_stepsUntil_68 ?_
              refine lv_iload_n hx hb dX11_stepsUntil_71 rfl (lv_at hl 3 rfl) ?_
              refine lv_iload hx hb dX11_stepsUntil_72 (lv_at hl 0 rfl) ?_
              refine ro_V (As := [.int p0, .int i3249]) (rest := [.ref he, .ref wk]) hC hE kV_X11_204 (c_X5_small l D K ro roa0 roa1 roa2 rof0 rof2 p0 i3249 hsz) (hP.sub (ws' := [(ro, .inr (5, [.ref roa0, .ref roa1, .ref roa2])), (roa0, .inl (K 2, 240, .inr (.inl rof0))), (roa2, .inl (K 1, 4, .inl rof2))]) [5, 6, 7] rfl) 0 5 rfl rfl rfl hl.1 rfl (Nat.le_of_ble_eq_true rfl) (by decide) (by decide) dX11_stepsUntil_74 (fun r3264 _ => ?_)
              refine cv_V (As := [.ref he, .int r3264]) (rest := []) (wc := [(wk, .inr (8, [.int w3250, .int w3251, .int wkn2])), (he, .inr (9, [.ref hea0, .ref hea1, .ref hea2, .ref hea3, .ref hea4, .ref hea5, .ref hea6, .ref hea7, .int hen8, .int hen9, .int hen10, .int hen11])), (hea0, .inl (K 1, 40, .inl hef0)), (hea1, .inl (K 1, 10, .inl hef1))]) (wr := [(x, .inr (10, [.ref rd, .ref he, .ref pa, .ref wk, .ref ro, .ref mi, .ref se, .ref pl, .ref co, .ref tr, .ref iw, .ref ip])), (ro, .inr (5, [.ref roa0, .ref roa1, .ref roa2])), (roa0, .inl (K 2, 240, .inr (.inl rof0))), (roa2, .inl (K 1, 4, .inl rof2))]) hC hE kV_X11_177 (c_X9_step l D K wk he hea0 hea1 hea2 hea3 hea4 hea5 hea6 hea7 w3250 w3251 wkn2 hen8 hen9 hen10 hen11 hef0 hef1 r3264) hP hD hS hA [4, 1, 2, 3] [0, 5, 6, 7] rfl rfl rfl (by decide) (by decide) (by decide) 0 8 rfl rfl rfl hl.1 rfl (Nat.le_of_ble_eq_true rfl) (by decide) (by decide) dX11_stepsUntil_77 (fun u3265 H locs hw hP hD hS => ?_)
              replace hP : va_P D vwCl [(x, .inr (10, [.ref rd, .ref he, .ref pa, .ref wk, .ref ro, .ref mi, .ref se, .ref pl, .ref co, .ref tr, .ref iw, .ref ip])), (ro, .inr (5, [.ref roa0, .ref roa1, .ref roa2])), (roa0, .inl (K 2, 240, .inr (.inl rof0))), (roa2, .inl (K 1, 4, .inl rof2)), (wk, .inr (8, [.int (u3265.1 0), .int (u3265.1 1), .int wkn2])), (he, .inr (9, [.ref hea0, .ref hea1, .ref hea2, .ref hea3, .ref hea4, .ref hea5, .ref hea6, .ref hea7, .int hen8, .int hen9, .int hen10, .int hen11])), (hea0, .inl (K 1, 40, .inl hef0)), (hea1, .inl (K 1, 10, .inl hef1))] H := hP
              replace hD : va_D A [(x, .inr (10, [.ref rd, .ref he, .ref pa, .ref wk, .ref ro, .ref mi, .ref se, .ref pl, .ref co, .ref tr, .ref iw, .ref ip])), (ro, .inr (5, [.ref roa0, .ref roa1, .ref roa2])), (roa0, .inl (K 2, 240, .inr (.inl rof0))), (roa2, .inl (K 1, 4, .inl rof2)), (wk, .inr (8, [.int (u3265.1 0), .int (u3265.1 1), .int wkn2])), (he, .inr (9, [.ref hea0, .ref hea1, .ref hea2, .ref hea3, .ref hea4, .ref hea5, .ref hea6, .ref hea7, .int hen8, .int hen9, .int hen10, .int hen11])), (hea0, .inl (K 1, 40, .inl hef0)), (hea1, .inl (K 1, 10, .inl hef1))] := hD
              replace hP : va_P D vwCl [(x, .inr (10, [.ref rd, .ref he, .ref pa, .ref wk, .ref ro, .ref mi, .ref se, .ref pl, .ref co, .ref tr, .ref iw, .ref ip])), (he, .inr (9, [.ref hea0, .ref hea1, .ref hea2, .ref hea3, .ref hea4, .ref hea5, .ref hea6, .ref hea7, .int hen8, .int hen9, .int hen10, .int hen11])), (hea0, .inl (K 1, 40, .inl hef0)), (hea1, .inl (K 1, 10, .inl hef1)), (wk, .inr (8, [.int (u3265.1 0), .int (u3265.1 1), .int wkn2])), (ro, .inr (5, [.ref roa0, .ref roa1, .ref roa2])), (roa0, .inl (K 2, 240, .inr (.inl rof0))), (roa2, .inl (K 1, 4, .inl rof2))] H := hP.sub [0, 5, 6, 7, 4, 1, 2, 3] rfl
              replace hD : va_D A [(x, .inr (10, [.ref rd, .ref he, .ref pa, .ref wk, .ref ro, .ref mi, .ref se, .ref pl, .ref co, .ref tr, .ref iw, .ref ip])), (he, .inr (9, [.ref hea0, .ref hea1, .ref hea2, .ref hea3, .ref hea4, .ref hea5, .ref hea6, .ref hea7, .int hen8, .int hen9, .int hen10, .int hen11])), (hea0, .inl (K 1, 40, .inl hef0)), (hea1, .inl (K 1, 10, .inl hef1)), (wk, .inr (8, [.int (u3265.1 0), .int (u3265.1 1), .int wkn2])), (ro, .inr (5, [.ref roa0, .ref roa1, .ref roa2])), (roa0, .inl (K 2, 240, .inr (.inl rof0))), (roa2, .inl (K 1, 4, .inl rof2))] := hD.sub [0, 5, 6, 7, 4, 1, 2, 3] (by decide) rfl
              refine W.widen (k := 0) (n := 0) (by decide) (by decide) ?_
              obtain ⟨v3267, ev3267⟩ : ∃ z : Int32, z = i3249 + 1 := ⟨_, rfl⟩
              refine lv_iinc (v := v3267) (lv' := [(4, .int v3267), (3, .int v3231), (0, .ref x), (1, .int p0), (2, .int p1)]) hx hb dX11_stepsUntil_80 hl (k := 0) rfl (by rw [ev3267]; rfl) (by decide) rfl (fun ls hl => ?_)
              refine lv_goto (tgt := 17) hx hb dX11_stepsUntil_83 (by decide) ?_
              have tv3267 : v3267.toInt = (i3249 : Int32).toInt + (1 : Int32).toInt := add_i ev3267 (by omega) (by omega)
              exact ih_17 (i3249 := v3267) (w3250 := (u3265.1 0)) (w3251 := (u3265.1 1)) (hi_17 := by omega) (H := H) (locs := locs) (ls := ls) (hn_17 := by omega) (hP := hP) (hD := hD) (hS := hS) (hl := lv_sub hl [0, 1, 2, 3, 4] rfl)
          · refine lv_if_eq (tgt := 53) hx hb dX11_stepsUntil_34 (by decide) (fun h => absurd h (by decide)) (fun _ => ?_)
            refine lv_goto (tgt := 50) hx hb dX11_stepsUntil_37 (by decide) ?_
            refine lv_iload hx hb dX11_stepsUntil_50 (lv_at hl 0 rfl) ?_
            refine W.widen (k := 0) (n := 0) (by decide) (by decide) ?_
            exact ch_iret hC hr hk hS dX11_stepsUntil_52 ((fun k => [w3250, w3251].getD k 0, fun k => [].getD k (fun _ => 0), fun k => [].getD k (fun _ => 0)) : ((Nat → Int32) × (Nat → Nat → Int32) × (Nat → Nat → Int64))) trivial (hP.sub [0, 1, 2, 3, 4, 5, 6, 7] rfl) (hD.sub [0, 1, 2, 3, 4, 5, 6, 7] (by decide) rfl)
set_option maxRecDepth 40000 in
set_option maxHeartbeats 4000000 in
theorem c_X11_seek (l : Launch) (D : va_G) (K : Nat → ClassId) (x : Nat) (rd : Nat) (he : Nat) (pa : Nat) (wk : Nat) (ro : Nat) (mi : Nat) (se : Nat) (pl : Nat) (co : Nat) (tr : Nat) (iw : Nat) (ip : Nat) (hea0 : Nat) (hea1 : Nat) (hea2 : Nat) (hea3 : Nat) (hea4 : Nat) (hea5 : Nat) (hea6 : Nat) (hea7 : Nat) (paa0 : Nat) (paa1 : Nat) (paa2 : Nat) (paa3 : Nat) (paa4 : Nat) (mia0 : Nat) (mia1 : Nat) (mia2 : Nat) (mia6 : Nat) (hen8 : Int32) (hen9 : Int32) (hen10 : Int32) (hen11 : Int32) (pan5 : Int32) (wkn0 : Int32) (wkn1 : Int32) (wkn2 : Int32) (min3 : Int32) (min4 : Int32) (min5 : Int32) (min7 : Int32) (min8 : Int32) (min9 : Int32) (mia6n0 : Int32) (mia6n1 : Int32) (mia6n2 : Int32) (hef0 : Nat → Int32) (hef1 : Nat → Int32) (hef3 : Nat → Int32) (paf0 : Nat → Int32) (paf1 : Nat → Int32) (mif0 : Nat → Int32) (mif1 : Nat → Int32) (mif2 : Nat → Int32) (p0 : Int32) (p1 : Int32) (p2 : Int32) : Ci (S := ((Nat → Int32) × (Nat → Nat → Int32) × (Nat → Nat → Int64))) l D K yX11_seek cX11_seek 4 (some .boolean) 5 115 0 0 [.ref x, .int p0, .int p1, .int p2] [(x, .inr (10, [.ref rd, .ref he, .ref pa, .ref wk, .ref ro, .ref mi, .ref se, .ref pl, .ref co, .ref tr, .ref iw, .ref ip])), (he, .inr (9, [.ref hea0, .ref hea1, .ref hea2, .ref hea3, .ref hea4, .ref hea5, .ref hea6, .ref hea7, .int hen8, .int hen9, .int hen10, .int hen11])), (hea0, .inl (K 1, 40, .inl hef0)), (hea1, .inl (K 1, 10, .inl hef1)), (hea3, .inl (K 1, 4, .inl hef3)), (pa, .inr (2, [.ref paa0, .ref paa1, .ref paa2, .ref paa3, .ref paa4, .int pan5])), (paa0, .inl (K 1, 4, .inl paf0)), (paa1, .inl (K 1, 4, .inl paf1)), (wk, .inr (8, [.int wkn0, .int wkn1, .int wkn2])), (mi, .inr (1, [.ref mia0, .ref mia1, .ref mia2, .int min3, .int min4, .int min5, .ref mia6, .int min7, .int min8, .int min9])), (mia0, .inl (K 1, 10240, .inl mif0)), (mia1, .inl (K 1, 10240, .inl mif1)), (mia2, .inl (K 1, 10240, .inl mif2)), (mia6, .inr (8, [.int mia6n0, .int mia6n1, .int mia6n2]))] (fun r u => ((r = 0) ∨ (r = 1))) (fun u => [(x, .inr (10, [.ref rd, .ref he, .ref pa, .ref wk, .ref ro, .ref mi, .ref se, .ref pl, .ref co, .ref tr, .ref iw, .ref ip])), (he, .inr (9, [.ref hea0, .ref hea1, .ref hea2, .ref hea3, .ref hea4, .ref hea5, .ref hea6, .ref hea7, .int hen8, .int hen9, .int hen10, .int hen11])), (hea0, .inl (K 1, 40, .inl hef0)), (hea1, .inl (K 1, 10, .inl hef1)), (hea3, .inl (K 1, 4, .inl hef3)), (pa, .inr (2, [.ref paa0, .ref paa1, .ref paa2, .ref paa3, .ref paa4, .int pan5])), (paa0, .inl (K 1, 4, .inl paf0)), (paa1, .inl (K 1, 4, .inl paf1)), (wk, .inr (8, [.int (u.1 0), .int (u.1 1), .int (u.1 2)])), (mi, .inr (1, [.ref mia0, .ref mia1, .ref mia2, .int (u.1 3), .int (u.1 4), .int (u.1 5), .ref mia6, .int (u.1 6), .int (u.1 7), .int (u.1 8)])), (mia0, .inl (K 1, 10240, .inl (u.2.1 0))), (mia1, .inl (K 1, 10240, .inl (u.2.1 1))), (mia2, .inl (K 1, 10240, .inl (u.2.1 2))), (mia6, .inr (8, [.int (u.1 9), .int (u.1 10), .int (u.1 11)]))]) := by
  intro sz
  refine ch_of (y := yX11_seek) (cc := cX11_seek) (maxL := 4) (ret := (some .boolean)) (av := [.ref x, .int p0, .int p1, .int p2]) (ws := [(x, .inr (10, [.ref rd, .ref he, .ref pa, .ref wk, .ref ro, .ref mi, .ref se, .ref pl, .ref co, .ref tr, .ref iw, .ref ip])), (he, .inr (9, [.ref hea0, .ref hea1, .ref hea2, .ref hea3, .ref hea4, .ref hea5, .ref hea6, .ref hea7, .int hen8, .int hen9, .int hen10, .int hen11])), (hea0, .inl (K 1, 40, .inl hef0)), (hea1, .inl (K 1, 10, .inl hef1)), (hea3, .inl (K 1, 4, .inl hef3)), (pa, .inr (2, [.ref paa0, .ref paa1, .ref paa2, .ref paa3, .ref paa4, .int pan5])), (paa0, .inl (K 1, 4, .inl paf0)), (paa1, .inl (K 1, 4, .inl paf1)), (wk, .inr (8, [.int wkn0, .int wkn1, .int wkn2])), (mi, .inr (1, [.ref mia0, .ref mia1, .ref mia2, .int min3, .int min4, .int min5, .ref mia6, .int min7, .int min8, .int min9])), (mia0, .inl (K 1, 10240, .inl mif0)), (mia1, .inl (K 1, 10240, .inl mif1)), (mia2, .inl (K 1, 10240, .inl mif2)), (mia6, .inr (8, [.int mia6n0, .int mia6n1, .int mia6n2]))]) (D := D) (K := K) (Qc := fun A => va_Qi (S := ((Nat → Int32) × (Nat → Nat → Int32) × (Nat → Nat → Int64))) (fun r u => ((r = 0) ∨ (r = 1))) (chB D A (fun u => [(x, .inr (10, [.ref rd, .ref he, .ref pa, .ref wk, .ref ro, .ref mi, .ref se, .ref pl, .ref co, .ref tr, .ref iw, .ref ip])), (he, .inr (9, [.ref hea0, .ref hea1, .ref hea2, .ref hea3, .ref hea4, .ref hea5, .ref hea6, .ref hea7, .int hen8, .int hen9, .int hen10, .int hen11])), (hea0, .inl (K 1, 40, .inl hef0)), (hea1, .inl (K 1, 10, .inl hef1)), (hea3, .inl (K 1, 4, .inl hef3)), (pa, .inr (2, [.ref paa0, .ref paa1, .ref paa2, .ref paa3, .ref paa4, .int pan5])), (paa0, .inl (K 1, 4, .inl paf0)), (paa1, .inl (K 1, 4, .inl paf1)), (wk, .inr (8, [.int (u.1 0), .int (u.1 1), .int (u.1 2)])), (mi, .inr (1, [.ref mia0, .ref mia1, .ref mia2, .int (u.1 3), .int (u.1 4), .int (u.1 5), .ref mia6, .int (u.1 6), .int (u.1 7), .int (u.1 8)])), (mia0, .inl (K 1, 10240, .inl (u.2.1 0))), (mia1, .inl (K 1, 10240, .inl (u.2.1 1))), (mia2, .inl (K 1, 10240, .inl (u.2.1 2))), (mia6, .inr (8, [.int (u.1 9), .int (u.1 10), .int (u.1 11)]))])) A) (by decide) (Nat.le_of_ble_eq_true rfl) ?_
  intro p e s m below meth c A hC hr hk hin hE hD hA H locs hP hS ls hl
  replace hC : CallFix p m c cX11_seek 4 s [.ref x, .int p0, .int p1, .int p2].toArray wl RX11 := hC
  have hx := hC.1
  have hb := hC.2.1
  have hml := hC.2.2.1
  have hown := hC.2.2.2.1
  have hts := hC.2.2.2.2
  replace hl : lv_has ls 4 [(0, .ref x), (1, .int p0), (2, .int p1), (3, .int p2)] := hl
  refine lv_aload_n hx hb dX11_seek_0 rfl (lv_at hl 0 rfl) ?_
  refine lv_iload_n hx hb dX11_seek_1 rfl (lv_at hl 1 rfl) ?_
  refine ci_V (As := [.int p0]) (rest := []) (wc := [(x, .inr (10, [.ref rd, .ref he, .ref pa, .ref wk, .ref ro, .ref mi, .ref se, .ref pl, .ref co, .ref tr, .ref iw, .ref ip])), (he, .inr (9, [.ref hea0, .ref hea1, .ref hea2, .ref hea3, .ref hea4, .ref hea5, .ref hea6, .ref hea7, .int hen8, .int hen9, .int hen10, .int hen11])), (hea3, .inl (K 1, 4, .inl hef3)), (pa, .inr (2, [.ref paa0, .ref paa1, .ref paa2, .ref paa3, .ref paa4, .int pan5])), (paa0, .inl (K 1, 4, .inl paf0)), (paa1, .inl (K 1, 4, .inl paf1)), (wk, .inr (8, [.int wkn0, .int wkn1, .int wkn2]))]) (wr := [(hea0, .inl (K 1, 40, .inl hef0)), (hea1, .inl (K 1, 10, .inl hef1)), (mi, .inr (1, [.ref mia0, .ref mia1, .ref mia2, .int min3, .int min4, .int min5, .ref mia6, .int min7, .int min8, .int min9])), (mia0, .inl (K 1, 10240, .inl mif0)), (mia1, .inl (K 1, 10240, .inl mif1)), (mia2, .inl (K 1, 10240, .inl mif2)), (mia6, .inr (8, [.int mia6n0, .int mia6n1, .int mia6n2]))]) hC hE kV_X11_152 (c_X11_stand l D K x rd he pa wk ro mi se pl co tr iw ip hea0 hea1 hea2 hea3 hea4 hea5 hea6 hea7 paa0 paa1 paa2 paa3 paa4 hen8 hen9 hen10 hen11 pan5 wkn0 wkn1 wkn2 hef3 paf0 paf1 p0) hP hD hS hA [0, 1, 4, 5, 6, 7, 8] [2, 3, 9, 10, 11, 12, 13] rfl rfl rfl (by decide) (by decide) (by decide) 0 10 rfl rfl rfl hl.1 rfl (Nat.le_of_ble_eq_true rfl) (by decide) (by decide) dX11_seek_2 (fun r3277 u3276 H locs hw hP hD hS => ?_)
  replace hP : va_P D vwCl [(hea0, .inl (K 1, 40, .inl hef0)), (hea1, .inl (K 1, 10, .inl hef1)), (mi, .inr (1, [.ref mia0, .ref mia1, .ref mia2, .int min3, .int min4, .int min5, .ref mia6, .int min7, .int min8, .int min9])), (mia0, .inl (K 1, 10240, .inl mif0)), (mia1, .inl (K 1, 10240, .inl mif1)), (mia2, .inl (K 1, 10240, .inl mif2)), (mia6, .inr (8, [.int mia6n0, .int mia6n1, .int mia6n2])), (x, .inr (10, [.ref rd, .ref he, .ref pa, .ref wk, .ref ro, .ref mi, .ref se, .ref pl, .ref co, .ref tr, .ref iw, .ref ip])), (he, .inr (9, [.ref hea0, .ref hea1, .ref hea2, .ref hea3, .ref hea4, .ref hea5, .ref hea6, .ref hea7, .int hen8, .int hen9, .int hen10, .int hen11])), (hea3, .inl (K 1, 4, .inl hef3)), (pa, .inr (2, [.ref paa0, .ref paa1, .ref paa2, .ref paa3, .ref paa4, .int pan5])), (paa0, .inl (K 1, 4, .inl paf0)), (paa1, .inl (K 1, 4, .inl paf1)), (wk, .inr (8, [.int (u3276.1 0), .int (u3276.1 1), .int (u3276.1 2)]))] H := hP
  replace hD : va_D A [(hea0, .inl (K 1, 40, .inl hef0)), (hea1, .inl (K 1, 10, .inl hef1)), (mi, .inr (1, [.ref mia0, .ref mia1, .ref mia2, .int min3, .int min4, .int min5, .ref mia6, .int min7, .int min8, .int min9])), (mia0, .inl (K 1, 10240, .inl mif0)), (mia1, .inl (K 1, 10240, .inl mif1)), (mia2, .inl (K 1, 10240, .inl mif2)), (mia6, .inr (8, [.int mia6n0, .int mia6n1, .int mia6n2])), (x, .inr (10, [.ref rd, .ref he, .ref pa, .ref wk, .ref ro, .ref mi, .ref se, .ref pl, .ref co, .ref tr, .ref iw, .ref ip])), (he, .inr (9, [.ref hea0, .ref hea1, .ref hea2, .ref hea3, .ref hea4, .ref hea5, .ref hea6, .ref hea7, .int hen8, .int hen9, .int hen10, .int hen11])), (hea3, .inl (K 1, 4, .inl hef3)), (pa, .inr (2, [.ref paa0, .ref paa1, .ref paa2, .ref paa3, .ref paa4, .int pan5])), (paa0, .inl (K 1, 4, .inl paf0)), (paa1, .inl (K 1, 4, .inl paf1)), (wk, .inr (8, [.int (u3276.1 0), .int (u3276.1 1), .int (u3276.1 2)]))] := hD
  replace hP : va_P D vwCl [(x, .inr (10, [.ref rd, .ref he, .ref pa, .ref wk, .ref ro, .ref mi, .ref se, .ref pl, .ref co, .ref tr, .ref iw, .ref ip])), (he, .inr (9, [.ref hea0, .ref hea1, .ref hea2, .ref hea3, .ref hea4, .ref hea5, .ref hea6, .ref hea7, .int hen8, .int hen9, .int hen10, .int hen11])), (hea0, .inl (K 1, 40, .inl hef0)), (hea1, .inl (K 1, 10, .inl hef1)), (hea3, .inl (K 1, 4, .inl hef3)), (pa, .inr (2, [.ref paa0, .ref paa1, .ref paa2, .ref paa3, .ref paa4, .int pan5])), (paa0, .inl (K 1, 4, .inl paf0)), (paa1, .inl (K 1, 4, .inl paf1)), (wk, .inr (8, [.int (u3276.1 0), .int (u3276.1 1), .int (u3276.1 2)])), (mi, .inr (1, [.ref mia0, .ref mia1, .ref mia2, .int min3, .int min4, .int min5, .ref mia6, .int min7, .int min8, .int min9])), (mia0, .inl (K 1, 10240, .inl mif0)), (mia1, .inl (K 1, 10240, .inl mif1)), (mia2, .inl (K 1, 10240, .inl mif2)), (mia6, .inr (8, [.int mia6n0, .int mia6n1, .int mia6n2]))] H := hP.sub [7, 8, 0, 1, 9, 10, 11, 12, 13, 2, 3, 4, 5, 6] rfl
  replace hD : va_D A [(x, .inr (10, [.ref rd, .ref he, .ref pa, .ref wk, .ref ro, .ref mi, .ref se, .ref pl, .ref co, .ref tr, .ref iw, .ref ip])), (he, .inr (9, [.ref hea0, .ref hea1, .ref hea2, .ref hea3, .ref hea4, .ref hea5, .ref hea6, .ref hea7, .int hen8, .int hen9, .int hen10, .int hen11])), (hea0, .inl (K 1, 40, .inl hef0)), (hea1, .inl (K 1, 10, .inl hef1)), (hea3, .inl (K 1, 4, .inl hef3)), (pa, .inr (2, [.ref paa0, .ref paa1, .ref paa2, .ref paa3, .ref paa4, .int pan5])), (paa0, .inl (K 1, 4, .inl paf0)), (paa1, .inl (K 1, 4, .inl paf1)), (wk, .inr (8, [.int (u3276.1 0), .int (u3276.1 1), .int (u3276.1 2)])), (mi, .inr (1, [.ref mia0, .ref mia1, .ref mia2, .int min3, .int min4, .int min5, .ref mia6, .int min7, .int min8, .int min9])), (mia0, .inl (K 1, 10240, .inl mif0)), (mia1, .inl (K 1, 10240, .inl mif1)), (mia2, .inl (K 1, 10240, .inl mif2)), (mia6, .inr (8, [.int mia6n0, .int mia6n1, .int mia6n2]))] := hD.sub [7, 8, 0, 1, 9, 10, 11, 12, 13, 2, 3, 4, 5, 6] (by decide) rfl
  refine W.widen (k := 0) (n := 0) (by decide) (by decide) ?_
  rcases hw with rfl | rfl
  · refine lv_if_ne (tgt := 10) hx hb dX11_seek_5 (by decide) (fun h => absurd h (by decide)) (fun _ => ?_)
    refine lv_iconst (v := 0) hx hb dX11_seek_8 (by decide) ?_
    refine W.widen (k := 0) (n := 0) (by decide) (by decide) ?_
    exact ch_zret hC hr hk hS dX11_seek_9 rfl ((fun k => [(u3276.1 0), (u3276.1 1), (u3276.1 2), min3, min4, min5, min7, min8, min9, mia6n0, mia6n1, mia6n2].getD k 0, fun k => [mif0, mif1, mif2].getD k (fun _ => 0), fun k => [].getD k (fun _ => 0)) : ((Nat → Int32) × (Nat → Nat → Int32) × (Nat → Nat → Int64))) (Or.inl rfl) (hP.sub [0, 1, 2, 3, 4, 5, 6, 7, 8, 9, 10, 11, 12, 13] rfl) (hD.sub [0, 1, 2, 3, 4, 5, 6, 7, 8, 9, 10, 11, 12, 13] (by decide) rfl)
  · refine lv_if_ne (tgt := 10) hx hb dX11_seek_5 (by decide) (fun _ => ?_) (fun h => absurd h (by decide))
    refine lv_aload_n hx hb dX11_seek_10 rfl (lv_at hl 0 rfl) ?_
    refine va_get (D := D) (ci := 10) (v := .ref mi) (C := RX11) (T := TX11) (N := 12) hx hb hts in_X11 hown hE.1 hP 0 rfl rfl 5 (by decide) (hts _ w_540) (fun _ h9 => h9) rfl dX11_seek_11 ?_
    refine lv_aload_n hx hb dX11_seek_14 rfl (lv_at hl 0 rfl) ?_
    refine va_get (D := D) (ci := 10) (v := .ref wk) (C := RX11) (T := TX11) (N := 12) hx hb hts in_X11 hown hE.1 hP 0 rfl rfl 3 (by decide) (hts _ w_513) (fun _ h9 => h9) rfl dX11_seek_15 ?_
    refine va_get (D := D) (ci := 8) (v := .int (u3276.1 2)) (C := RX9) (T := TX9) (N := 3) hx hb hts in_X9 hown hE.1 hP 8 rfl rfl 2 (by decide) (hts _ w_541) (fun _ h9 => h9) rfl dX11_seek_18 ?_
    refine lv_iload_n hx hb dX11_seek_21 rfl (lv_at hl 2 rfl) ?_
    refine lv_iload_n hx hb dX11_seek_22 rfl (lv_at hl 3 rfl) ?_
    refine cv_V (As := [.int (u3276.1 2), .int p1, .int p2]) (rest := []) (wc := [(mi, .inr (1, [.ref mia0, .ref mia1, .ref mia2, .int min3, .int min4, .int min5, .ref mia6, .int min7, .int min8, .int min9]))]) (wr := [(x, .inr (10, [.ref rd, .ref he, .ref pa, .ref wk, .ref ro, .ref mi, .ref se, .ref pl, .ref co, .ref tr, .ref iw, .ref ip])), (he, .inr (9, [.ref hea0, .ref hea1, .ref hea2, .ref hea3, .ref hea4, .ref hea5, .ref hea6, .ref hea7, .int hen8, .int hen9, .int hen10, .int hen11])), (hea0, .inl (K 1, 40, .inl hef0)), (hea1, .inl (K 1, 10, .inl hef1)), (hea3, .inl (K 1, 4, .inl hef3)), (pa, .inr (2, [.ref paa0, .ref paa1, .ref paa2, .ref paa3, .ref paa4, .int pan5])), (paa0, .inl (K 1, 4, .inl paf0)), (paa1, .inl (K 1, 4, .inl paf1)), (wk, .inr (8, [.int (u3276.1 0), .int (u3276.1 1), .int (u3276.1 2)])), (mia0, .inl (K 1, 10240, .inl mif0)), (mia1, .inl (K 1, 10240, .inl mif1)), (mia2, .inl (K 1, 10240, .inl mif2)), (mia6, .inr (8, [.int mia6n0, .int mia6n1, .int mia6n2]))]) hC hE kV_X11_389 (c_X1_aimAt l D K mi mia0 mia1 mia2 mia6 min3 min4 min5 min7 min8 min9 (u3276.1 2) p1 p2) hP hD hS hA [9] [0, 1, 2, 3, 4, 5, 6, 7, 8, 10, 11, 12, 13] rfl rfl rfl (by decide) (by decide) (by decide) 0 1 rfl rfl rfl hl.1 rfl (Nat.le_of_ble_eq_true rfl) (by decide) (by decide) dX11_seek_23 (fun u3278 H locs hw hP hD hS => ?_)
    replace hP : va_P D vwCl [(x, .inr (10, [.ref rd, .ref he, .ref pa, .ref wk, .ref ro, .ref mi, .ref se, .ref pl, .ref co, .ref tr, .ref iw, .ref ip])), (he, .inr (9, [.ref hea0, .ref hea1, .ref hea2, .ref hea3, .ref hea4, .ref hea5, .ref hea6, .ref hea7, .int hen8, .int hen9, .int hen10, .int hen11])), (hea0, .inl (K 1, 40, .inl hef0)), (hea1, .inl (K 1, 10, .inl hef1)), (hea3, .inl (K 1, 4, .inl hef3)), (pa, .inr (2, [.ref paa0, .ref paa1, .ref paa2, .ref paa3, .ref paa4, .int pan5])), (paa0, .inl (K 1, 4, .inl paf0)), (paa1, .inl (K 1, 4, .inl paf1)), (wk, .inr (8, [.int (u3276.1 0), .int (u3276.1 1), .int (u3276.1 2)])), (mia0, .inl (K 1, 10240, .inl mif0)), (mia1, .inl (K 1, 10240, .inl mif1)), (mia2, .inl (K 1, 10240, .inl mif2)), (mia6, .inr (8, [.int mia6n0, .int mia6n1, .int mia6n2])), (mi, .inr (1, [.ref mia0, .ref mia1, .ref mia2, .int min3, .int min4, .int min5, .ref mia6, .int (u3278.1 0), .int (u3278.1 1), .int (u3278.1 2)]))] H := hP
    replace hD : va_D A [(x, .inr (10, [.ref rd, .ref he, .ref pa, .ref wk, .ref ro, .ref mi, .ref se, .ref pl, .ref co, .ref tr, .ref iw, .ref ip])), (he, .inr (9, [.ref hea0, .ref hea1, .ref hea2, .ref hea3, .ref hea4, .ref hea5, .ref hea6, .ref hea7, .int hen8, .int hen9, .int hen10, .int hen11])), (hea0, .inl (K 1, 40, .inl hef0)), (hea1, .inl (K 1, 10, .inl hef1)), (hea3, .inl (K 1, 4, .inl hef3)), (pa, .inr (2, [.ref paa0, .ref paa1, .ref paa2, .ref paa3, .ref paa4, .int pan5])), (paa0, .inl (K 1, 4, .inl paf0)), (paa1, .inl (K 1, 4, .inl paf1)), (wk, .inr (8, [.int (u3276.1 0), .int (u3276.1 1), .int (u3276.1 2)])), (mia0, .inl (K 1, 10240, .inl mif0)), (mia1, .inl (K 1, 10240, .inl mif1)), (mia2, .inl (K 1, 10240, .inl mif2)), (mia6, .inr (8, [.int mia6n0, .int mia6n1, .int mia6n2])), (mi, .inr (1, [.ref mia0, .ref mia1, .ref mia2, .int min3, .int min4, .int min5, .ref mia6, .int (u3278.1 0), .int (u3278.1 1), .int (u3278.1 2)]))] := hD
    replace hP : va_P D vwCl [(x, .inr (10, [.ref rd, .ref he, .ref pa, .ref wk, .ref ro, .ref mi, .ref se, .ref pl, .ref co, .ref tr, .ref iw, .ref ip])), (he, .inr (9, [.ref hea0, .ref hea1, .ref hea2, .ref hea3, .ref hea4, .ref hea5, .ref hea6, .ref hea7, .int hen8, .int hen9, .int hen10, .int hen11])), (hea0, .inl (K 1, 40, .inl hef0)), (hea1, .inl (K 1, 10, .inl hef1)), (hea3, .inl (K 1, 4, .inl hef3)), (pa, .inr (2, [.ref paa0, .ref paa1, .ref paa2, .ref paa3, .ref paa4, .int pan5])), (paa0, .inl (K 1, 4, .inl paf0)), (paa1, .inl (K 1, 4, .inl paf1)), (wk, .inr (8, [.int (u3276.1 0), .int (u3276.1 1), .int (u3276.1 2)])), (mi, .inr (1, [.ref mia0, .ref mia1, .ref mia2, .int min3, .int min4, .int min5, .ref mia6, .int (u3278.1 0), .int (u3278.1 1), .int (u3278.1 2)])), (mia0, .inl (K 1, 10240, .inl mif0)), (mia1, .inl (K 1, 10240, .inl mif1)), (mia2, .inl (K 1, 10240, .inl mif2)), (mia6, .inr (8, [.int mia6n0, .int mia6n1, .int mia6n2]))] H := hP.sub [0, 1, 2, 3, 4, 5, 6, 7, 8, 13, 9, 10, 11, 12] rfl
    replace hD : va_D A [(x, .inr (10, [.ref rd, .ref he, .ref pa, .ref wk, .ref ro, .ref mi, .ref se, .ref pl, .ref co, .ref tr, .ref iw, .ref ip])), (he, .inr (9, [.ref hea0, .ref hea1, .ref hea2, .ref hea3, .ref hea4, .ref hea5, .ref hea6, .ref hea7, .int hen8, .int hen9, .int hen10, .int hen11])), (hea0, .inl (K 1, 40, .inl hef0)), (hea1, .inl (K 1, 10, .inl hef1)), (hea3, .inl (K 1, 4, .inl hef3)), (pa, .inr (2, [.ref paa0, .ref paa1, .ref paa2, .ref paa3, .ref paa4, .int pan5])), (paa0, .inl (K 1, 4, .inl paf0)), (paa1, .inl (K 1, 4, .inl paf1)), (wk, .inr (8, [.int (u3276.1 0), .int (u3276.1 1), .int (u3276.1 2)])), (mi, .inr (1, [.ref mia0, .ref mia1, .ref mia2, .int min3, .int min4, .int min5, .ref mia6, .int (u3278.1 0), .int (u3278.1 1), .int (u3278.1 2)])), (mia0, .inl (K 1, 10240, .inl mif0)), (mia1, .inl (K 1, 10240, .inl mif1)), (mia2, .inl (K 1, 10240, .inl mif2)), (mia6, .inr (8, [.int mia6n0, .int mia6n1, .int mia6n2]))] := hD.sub [0, 1, 2, 3, 4, 5, 6, 7, 8, 13, 9, 10, 11, 12] (by decide) rfl
    refine W.widen (k := 0) (n := 0) (by decide) (by decide) ?_
    refine lv_aload_n hx hb dX11_seek_26 rfl (lv_at hl 0 rfl) ?_
    refine va_get (D := D) (ci := 10) (v := .ref mi) (C := RX11) (T := TX11) (N := 12) hx hb hts in_X11 hown hE.1 hP 0 rfl rfl 5 (by decide) (hts _ w_540) (fun _ h9 => h9) rfl dX11_seek_27 ?_
    refine lv_aload_n hx hb dX11_seek_30 rfl (lv_at hl 0 rfl) ?_
    refine va_get (D := D) (ci := 10) (v := .ref he) (C := RX11) (T := TX11) (N := 12) hx hb hts in_X11 hown hE.1 hP 0 rfl rfl 1 (by decide) (hts _ w_511) (fun _ h9 => h9) rfl dX11_seek_31 ?_
    refine lv_aload_n hx hb dX11_seek_34 rfl (lv_at hl 0 rfl) ?_
    refine va_get (D := D) (ci := 10) (v := .ref wk) (C := RX11) (T := TX11) (N := 12) hx hb hts in_X11 hown hE.1 hP 0 rfl rfl 3 (by decide) (hts _ w_513) (fun _ h9 => h9) rfl dX11_seek_35 ?_
    refine va_get (D := D) (ci := 8) (v := .int (u3276.1 0)) (C := RX9) (T := TX9) (N := 3) hx hb hts in_X9 hown hE.1 hP 8 rfl rfl 0 (by decide) (hts _ w_542) (fun _ h9 => h9) rfl dX11_seek_38 ?_
    refine lv_sipush (v := 1024) hx hb dX11_seek_41 (by decide) ?_
    refine lv_imul hx hb dX11_seek_44 ?_
    refine lv_topi (fun v3280 ev3280 => ?_)
    refine lv_aload_n hx hb dX11_seek_45 rfl (lv_at hl 0 rfl) ?_
    refine va_get (D := D) (ci := 10) (v := .ref wk) (C := RX11) (T := TX11) (N := 12) hx hb hts in_X11 hown hE.1 hP 0 rfl rfl 3 (by decide) (hts _ w_513) (fun _ h9 => h9) rfl dX11_seek_46 ?_
    refine va_get (D := D) (ci := 8) (v := .int (u3276.1 1)) (C := RX9) (T := TX9) (N := 3) hx hb hts in_X9 hown hE.1 hP 8 rfl rfl 1 (by decide) (hts _ w_543) (fun _ h9 => h9) rfl dX11_seek_49 ?_
    refine lv_iadd hx hb dX11_seek_52 ?_
    refine lv_topi (fun v3281 ev3281 => ?_)
    refine cv_U (As := [.ref he, .int v3281]) (rest := []) (wc := [(mi, .inr (1, [.ref mia0, .ref mia1, .ref mia2, .int min3, .int min4, .int min5, .ref mia6, .int (u3278.1 0), .int (u3278.1 1), .int (u3278.1 2)])), (mia0, .inl (K 1, 10240, .inl mif0)), (mia1, .inl (K 1, 10240, .inl mif1)), (mia2, .inl (K 1, 10240, .inl mif2)), (mia6, .inr (8, [.int mia6n0, .int mia6n1, .int mia6n2])), (he, .inr (9, [.ref hea0, .ref hea1, .ref hea2, .ref hea3, .ref hea4, .ref hea5, .ref hea6, .ref hea7, .int hen8, .int hen9, .int hen10, .int hen11])), (hea0, .inl (K 1, 40, .inl hef0)), (hea1, .inl (K 1, 10, .inl hef1))]) (wr := [(x, .inr (10, [.ref rd, .ref he, .ref pa, .ref wk, .ref ro, .ref mi, .ref se, .ref pl, .ref co, .ref tr, .ref iw, .ref ip])), (hea3, .inl (K 1, 4, .inl hef3)), (pa, .inr (2, [.ref paa0, .ref paa1, .ref paa2, .ref paa3, .ref paa4, .int pan5])), (paa0, .inl (K 1, 4, .inl paf0)), (paa1, .inl (K 1, 4, .inl paf1)), (wk, .inr (8, [.int (u3276.1 0), .int (u3276.1 1), .int (u3276.1 2)]))]) hC hE kU_X11_392_X6_explore (decl_of hC kU_X11_392_X6_explore rfl) (c_X6_explore_1 l D K mi mia0 mia1 mia2 mia6 he hea0 hea1 hea2 hea3 hea4 hea5 hea6 hea7 min3 min4 min5 (u3278.1 0) (u3278.1 1) (u3278.1 2) mia6n0 mia6n1 mia6n2 hen8 hen9 hen10 hen11 mif0 mif1 mif2 hef0 hef1 v3281) hP hD hS hA [9, 10, 11, 12, 13, 1, 2, 3] [0, 4, 5, 6, 7, 8] rfl rfl rfl (by decide) (by decide) (by decide) 0 1 rfl rfl (hts _ w_550) rfl hl.1 rfl (Nat.le_of_ble_eq_true rfl) (by decide) (by decide) dX11_seek_53 (fun u3282 H locs hw hP hD hS => ?_)
    replace hP : va_P D vwCl [(x, .inr (10, [.ref rd, .ref he, .ref pa, .ref wk, .ref ro, .ref mi, .ref se, .ref pl, .ref co, .ref tr, .ref iw, .ref ip])), (hea3, .inl (K 1, 4, .inl hef3)), (pa, .inr (2, [.ref paa0, .ref paa1, .ref paa2, .ref paa3, .ref paa4, .int pan5])), (paa0, .inl (K 1, 4, .inl paf0)), (paa1, .inl (K 1, 4, .inl paf1)), (wk, .inr (8, [.int (u3276.1 0), .int (u3276.1 1), .int (u3276.1 2)])), (mi, .inr (1, [.ref mia0, .ref mia1, .ref mia2, .int (u3282.1 0), .int (u3282.1 1), .int (u3282.1 2), .ref mia6, .int (u3278.1 0), .int (u3278.1 1), .int (u3278.1 2)])), (mia0, .inl (K 1, 10240, .inl (u3282.2.1 0))), (mia1, .inl (K 1, 10240, .inl (u3282.2.1 1))), (mia2, .inl (K 1, 10240, .inl (u3282.2.1 2))), (mia6, .inr (8, [.int (u3282.1 3), .int (u3282.1 4), .int (u3282.1 5)])), (he, .inr (9, [.ref hea0, .ref hea1, .ref hea2, .ref hea3, .ref hea4, .ref hea5, .ref hea6, .ref hea7, .int hen8, .int hen9, .int hen10, .int hen11])), (hea0, .inl (K 1, 40, .inl hef0)), (hea1, .inl (K 1, 10, .inl hef1))] H := hP
    replace hD : va_D A [(x, .inr (10, [.ref rd, .ref he, .ref pa, .ref wk, .ref ro, .ref mi, .ref se, .ref pl, .ref co, .ref tr, .ref iw, .ref ip])), (hea3, .inl (K 1, 4, .inl hef3)), (pa, .inr (2, [.ref paa0, .ref paa1, .ref paa2, .ref paa3, .ref paa4, .int pan5])), (paa0, .inl (K 1, 4, .inl paf0)), (paa1, .inl (K 1, 4, .inl paf1)), (wk, .inr (8, [.int (u3276.1 0), .int (u3276.1 1), .int (u3276.1 2)])), (mi, .inr (1, [.ref mia0, .ref mia1, .ref mia2, .int (u3282.1 0), .int (u3282.1 1), .int (u3282.1 2), .ref mia6, .int (u3278.1 0), .int (u3278.1 1), .int (u3278.1 2)])), (mia0, .inl (K 1, 10240, .inl (u3282.2.1 0))), (mia1, .inl (K 1, 10240, .inl (u3282.2.1 1))), (mia2, .inl (K 1, 10240, .inl (u3282.2.1 2))), (mia6, .inr (8, [.int (u3282.1 3), .int (u3282.1 4), .int (u3282.1 5)])), (he, .inr (9, [.ref hea0, .ref hea1, .ref hea2, .ref hea3, .ref hea4, .ref hea5, .ref hea6, .ref hea7, .int hen8, .int hen9, .int hen10, .int hen11])), (hea0, .inl (K 1, 40, .inl hef0)), (hea1, .inl (K 1, 10, .inl hef1))] := hD
    replace hP : va_P D vwCl [(x, .inr (10, [.ref rd, .ref he, .ref pa, .ref wk, .ref ro, .ref mi, .ref se, .ref pl, .ref co, .ref tr, .ref iw, .ref ip])), (he, .inr (9, [.ref hea0, .ref hea1, .ref hea2, .ref hea3, .ref hea4, .ref hea5, .ref hea6, .ref hea7, .int hen8, .int hen9, .int hen10, .int hen11])), (hea0, .inl (K 1, 40, .inl hef0)), (hea1, .inl (K 1, 10, .inl hef1)), (hea3, .inl (K 1, 4, .inl hef3)), (pa, .inr (2, [.ref paa0, .ref paa1, .ref paa2, .ref paa3, .ref paa4, .int pan5])), (paa0, .inl (K 1, 4, .inl paf0)), (paa1, .inl (K 1, 4, .inl paf1)), (wk, .inr (8, [.int (u3276.1 0), .int (u3276.1 1), .int (u3276.1 2)])), (mi, .inr (1, [.ref mia0, .ref mia1, .ref mia2, .int (u3282.1 0), .int (u3282.1 1), .int (u3282.1 2), .ref mia6, .int (u3278.1 0), .int (u3278.1 1), .int (u3278.1 2)])), (mia0, .inl (K 1, 10240, .inl (u3282.2.1 0))), (mia1, .inl (K 1, 10240, .inl (u3282.2.1 1))), (mia2, .inl (K 1, 10240, .inl (u3282.2.1 2))), (mia6, .inr (8, [.int (u3282.1 3), .int (u3282.1 4), .int (u3282.1 5)]))] H := hP.sub [0, 11, 12, 13, 1, 2, 3, 4, 5, 6, 7, 8, 9, 10] rfl
    replace hD : va_D A [(x, .inr (10, [.ref rd, .ref he, .ref pa, .ref wk, .ref ro, .ref mi, .ref se, .ref pl, .ref co, .ref tr, .ref iw, .ref ip])), (he, .inr (9, [.ref hea0, .ref hea1, .ref hea2, .ref hea3, .ref hea4, .ref hea5, .ref hea6, .ref hea7, .int hen8, .int hen9, .int hen10, .int hen11])), (hea0, .inl (K 1, 40, .inl hef0)), (hea1, .inl (K 1, 10, .inl hef1)), (hea3, .inl (K 1, 4, .inl hef3)), (pa, .inr (2, [.ref paa0, .ref paa1, .ref paa2, .ref paa3, .ref paa4, .int pan5])), (paa0, .inl (K 1, 4, .inl paf0)), (paa1, .inl (K 1, 4, .inl paf1)), (wk, .inr (8, [.int (u3276.1 0), .int (u3276.1 1), .int (u3276.1 2)])), (mi, .inr (1, [.ref mia0, .ref mia1, .ref mia2, .int (u3282.1 0), .int (u3282.1 1), .int (u3282.1 2), .ref mia6, .int (u3278.1 0), .int (u3278.1 1), .int (u3278.1 2)])), (mia0, .inl (K 1, 10240, .inl (u3282.2.1 0))), (mia1, .inl (K 1, 10240, .inl (u3282.2.1 1))), (mia2, .inl (K 1, 10240, .inl (u3282.2.1 2))), (mia6, .inr (8, [.int (u3282.1 3), .int (u3282.1 4), .int (u3282.1 5)]))] := hD.sub [0, 11, 12, 13, 1, 2, 3, 4, 5, 6, 7, 8, 9, 10] (by decide) rfl
    refine W.widen (k := 0) (n := 0) (by decide) (by decide) ?_
    refine lv_iconst (v := 1) hx hb dX11_seek_56 (by decide) ?_
    refine W.widen (k := 0) (n := 0) (by decide) (by decide) ?_
    exact ch_zret hC hr hk hS dX11_seek_57 rfl ((fun k => [(u3276.1 0), (u3276.1 1), (u3276.1 2), (u3282.1 0), (u3282.1 1), (u3282.1 2), (u3278.1 0), (u3278.1 1), (u3278.1 2), (u3282.1 3), (u3282.1 4), (u3282.1 5)].getD k 0, fun k => [(u3282.2.1 0), (u3282.2.1 1), (u3282.2.1 2)].getD k (fun _ => 0), fun k => [].getD k (fun _ => 0)) : ((Nat → Int32) × (Nat → Nat → Int32) × (Nat → Nat → Int64))) (Or.inr rfl) (hP.sub [0, 1, 2, 3, 4, 5, 6, 7, 8, 9, 10, 11, 12, 13] rfl) (hD.sub [0, 1, 2, 3, 4, 5, 6, 7, 8, 9, 10, 11, 12, 13] (by decide) rfl)
set_option maxRecDepth 40000 in
set_option maxHeartbeats 4000000 in
theorem c_X11_lookSame (l : Launch) (D : va_G) (K : Nat → ClassId) (x : Nat) (rd : Nat) (he : Nat) (pa : Nat) (wk : Nat) (ro : Nat) (mi : Nat) (se : Nat) (pl : Nat) (co : Nat) (tr : Nat) (iw : Nat) (ip : Nat) (sea0 : Nat) (sea1 : Nat) (sea2 : Nat) (hea0 : Nat) (hea1 : Nat) (hea2 : Nat) (hea3 : Nat) (hea4 : Nat) (hea5 : Nat) (hea6 : Nat) (hea7 : Nat) (sen3 : Int32) (sen4 : Int32) (sen5 : Int32) (sen6 : Int32) (hen8 : Int32) (hen9 : Int32) (hen10 : Int32) (hen11 : Int32) (sef0 : Nat → Int32) (sef1 : Nat → Int32) (sef2 : Nat → Int32) (hef0 : Nat → Int32) (hef1 : Nat → Int32) (p0 : Int32) (p1 : Int32) : Ci (S := ((Nat → Int32) × (Nat → Nat → Int32) × (Nat → Nat → Int64))) l D K yX11_lookSame cX11_lookSame 3 (some .boolean) 6 136 0 0 [.ref x, .int p0, .int p1] [(x, .inr (10, [.ref rd, .ref he, .ref pa, .ref wk, .ref ro, .ref mi, .ref se, .ref pl, .ref co, .ref tr, .ref iw, .ref ip])), (se, .inr (6, [.ref sea0, .ref sea1, .ref sea2, .int sen3, .int sen4, .int sen5, .int sen6])), (sea0, .inl (K 1, 1024, .inl sef0)), (sea1, .inl (K 1, 1024, .inl sef1)), (sea2, .inl (K 1, 1024, .inl sef2)), (he, .inr (9, [.ref hea0, .ref hea1, .ref hea2, .ref hea3, .ref hea4, .ref hea5, .ref hea6, .ref hea7, .int hen8, .int hen9, .int hen10, .int hen11])), (hea0, .inl (K 1, 40, .inl hef0)), (hea1, .inl (K 1, 10, .inl hef1))] (fun r u => ((r = 0) ∨ (r = 1))) (fun u => [(x, .inr (10, [.ref rd, .ref he, .ref pa, .ref wk, .ref ro, .ref mi, .ref se, .ref pl, .ref co, .ref tr, .ref iw, .ref ip])), (se, .inr (6, [.ref sea0, .ref sea1, .ref sea2, .int (u.1 0), .int (u.1 1), .int (u.1 2), .int (u.1 3)])), (sea0, .inl (K 1, 1024, .inl (u.2.1 0))), (sea1, .inl (K 1, 1024, .inl (u.2.1 1))), (sea2, .inl (K 1, 1024, .inl (u.2.1 2))), (he, .inr (9, [.ref hea0, .ref hea1, .ref hea2, .ref hea3, .ref hea4, .ref hea5, .ref hea6, .ref hea7, .int hen8, .int hen9, .int hen10, .int hen11])), (hea0, .inl (K 1, 40, .inl hef0)), (hea1, .inl (K 1, 10, .inl hef1))]) := by
  intro sz
  refine ch_of (y := yX11_lookSame) (cc := cX11_lookSame) (maxL := 3) (ret := (some .boolean)) (av := [.ref x, .int p0, .int p1]) (ws := [(x, .inr (10, [.ref rd, .ref he, .ref pa, .ref wk, .ref ro, .ref mi, .ref se, .ref pl, .ref co, .ref tr, .ref iw, .ref ip])), (se, .inr (6, [.ref sea0, .ref sea1, .ref sea2, .int sen3, .int sen4, .int sen5, .int sen6])), (sea0, .inl (K 1, 1024, .inl sef0)), (sea1, .inl (K 1, 1024, .inl sef1)), (sea2, .inl (K 1, 1024, .inl sef2)), (he, .inr (9, [.ref hea0, .ref hea1, .ref hea2, .ref hea3, .ref hea4, .ref hea5, .ref hea6, .ref hea7, .int hen8, .int hen9, .int hen10, .int hen11])), (hea0, .inl (K 1, 40, .inl hef0)), (hea1, .inl (K 1, 10, .inl hef1))]) (D := D) (K := K) (Qc := fun A => va_Qi (S := ((Nat → Int32) × (Nat → Nat → Int32) × (Nat → Nat → Int64))) (fun r u => ((r = 0) ∨ (r = 1))) (chB D A (fun u => [(x, .inr (10, [.ref rd, .ref he, .ref pa, .ref wk, .ref ro, .ref mi, .ref se, .ref pl, .ref co, .ref tr, .ref iw, .ref ip])), (se, .inr (6, [.ref sea0, .ref sea1, .ref sea2, .int (u.1 0), .int (u.1 1), .int (u.1 2), .int (u.1 3)])), (sea0, .inl (K 1, 1024, .inl (u.2.1 0))), (sea1, .inl (K 1, 1024, .inl (u.2.1 1))), (sea2, .inl (K 1, 1024, .inl (u.2.1 2))), (he, .inr (9, [.ref hea0, .ref hea1, .ref hea2, .ref hea3, .ref hea4, .ref hea5, .ref hea6, .ref hea7, .int hen8, .int hen9, .int hen10, .int hen11])), (hea0, .inl (K 1, 40, .inl hef0)), (hea1, .inl (K 1, 10, .inl hef1))])) A) (by decide) (Nat.le_of_ble_eq_true rfl) ?_
  intro p e s m below meth c A hC hr hk hin hE hD hA H locs hP hS ls hl
  replace hC : CallFix p m c cX11_lookSame 3 s [.ref x, .int p0, .int p1].toArray wl RX11 := hC
  have hx := hC.1
  have hb := hC.2.1
  have hml := hC.2.2.1
  have hown := hC.2.2.2.1
  have hts := hC.2.2.2.2
  replace hl : lv_has ls 3 [(0, .ref x), (1, .int p0), (2, .int p1)] := hl
  have kc_m1 : (-1 : Int32).toInt = -1 := by decide
  refine lv_aload_n hx hb dX11_lookSame_0 rfl (lv_at hl 0 rfl) ?_
  refine va_get (D := D) (ci := 10) (v := .ref se) (C := RX11) (T := TX11) (N := 12) hx hb hts in_X11 hown hE.1 hP 0 rfl rfl 6 (by decide) (hts _ w_551) (fun _ h9 => h9) rfl dX11_lookSame_1 ?_
  refine lv_aload_n hx hb dX11_lookSame_4 rfl (lv_at hl 0 rfl) ?_
  refine va_get (D := D) (ci := 10) (v := .ref he) (C := RX11) (T := TX11) (N := 12) hx hb hts in_X11 hown hE.1 hP 0 rfl rfl 1 (by decide) (hts _ w_511) (fun _ h9 => h9) rfl dX11_lookSame_5 ?_
  refine lv_iconst (v := 1) hx hb dX11_lookSame_8 (by decide) ?_
  refine lv_iload_n hx hb dX11_lookSame_9 rfl (lv_at hl 1 rfl) ?_
  refine lv_ishl hx hb dX11_lookSame_10 ?_
  refine lv_topi (fun v3290 ev3290 => ?_)
  refine lv_iconst (v := 1) hx hb dX11_lookSame_11 (by decide) ?_
  refine lv_iload_n hx hb dX11_lookSame_12 rfl (lv_at hl 2 rfl) ?_
  refine lv_ishl hx hb dX11_lookSame_13 ?_
  refine lv_topi (fun v3291 ev3291 => ?_)
  refine lv_ior hx hb dX11_lookSame_14 ?_
  refine lv_topi (fun v3292 ev3292 => ?_)
  refine lv_iconst (v := 2) hx hb dX11_lookSame_15 (by decide) ?_
  refine cv_V (As := [.ref he, .int v3292, .int 2]) (rest := []) (wc := [(se, .inr (6, [.ref sea0, .ref sea1, .ref sea2, .int sen3, .int sen4, .int sen5, .int sen6])), (sea0, .inl (K 1, 1024, .inl sef0)), (sea1, .inl (K 1, 1024, .inl sef1)), (sea2, .inl (K 1, 1024, .inl sef2)), (he, .inr (9, [.ref hea0, .ref hea1, .ref hea2, .ref hea3, .ref hea4, .ref hea5, .ref hea6, .ref hea7, .int hen8, .int hen9, .int hen10, .int hen11])), (hea0, .inl (K 1, 40, .inl hef0)), (hea1, .inl (K 1, 10, .inl hef1))]) (wr := [(x, .inr (10, [.ref rd, .ref he, .ref pa, .ref wk, .ref ro, .ref mi, .ref se, .ref pl, .ref co, .ref tr, .ref iw, .ref ip]))]) hC hE kV_X11_243 (c_X7_seek l D K se sea0 sea1 sea2 he hea0 hea1 hea2 hea3 hea4 hea5 hea6 hea7 sen3 sen4 sen5 sen6 hen8 hen9 hen10 hen11 sef0 sef1 sef2 hef0 hef1 v3292 2) hP hD hS hA [1, 2, 3, 4, 5, 6, 7] [0] rfl rfl rfl (by decide) (by decide) (by decide) 0 6 rfl rfl rfl hl.1 rfl (Nat.le_of_ble_eq_true rfl) (by decide) (by decide) dX11_lookSame_16 (fun u3293 H locs hw hP hD hS => ?_)
  replace hP : va_P D vwCl [(x, .inr (10, [.ref rd, .ref he, .ref pa, .ref wk, .ref ro, .ref mi, .ref se, .ref pl, .ref co, .ref tr, .ref iw, .ref ip])), (se, .inr (6, [.ref sea0, .ref sea1, .ref sea2, .int (u3293.1 0), .int (u3293.1 1), .int (u3293.1 2), .int (u3293.1 3)])), (sea0, .inl (K 1, 1024, .inl (u3293.2.1 0))), (sea1, .inl (K 1, 1024, .inl (u3293.2.1 1))), (sea2, .inl (K 1, 1024, .inl (u3293.2.1 2))), (he, .inr (9, [.ref hea0, .ref hea1, .ref hea2, .ref hea3, .ref hea4, .ref hea5, .ref hea6, .ref hea7, .int hen8, .int hen9, .int hen10, .int hen11])), (hea0, .inl (K 1, 40, .inl hef0)), (hea1, .inl (K 1, 10, .inl hef1))] H := hP
  replace hD : va_D A [(x, .inr (10, [.ref rd, .ref he, .ref pa, .ref wk, .ref ro, .ref mi, .ref se, .ref pl, .ref co, .ref tr, .ref iw, .ref ip])), (se, .inr (6, [.ref sea0, .ref sea1, .ref sea2, .int (u3293.1 0), .int (u3293.1 1), .int (u3293.1 2), .int (u3293.1 3)])), (sea0, .inl (K 1, 1024, .inl (u3293.2.1 0))), (sea1, .inl (K 1, 1024, .inl (u3293.2.1 1))), (sea2, .inl (K 1, 1024, .inl (u3293.2.1 2))), (he, .inr (9, [.ref hea0, .ref hea1, .ref hea2, .ref hea3, .ref hea4, .ref hea5, .ref hea6, .ref hea7, .int hen8, .int hen9, .int hen10, .int hen11])), (hea0, .inl (K 1, 40, .inl hef0)), (hea1, .inl (K 1, 10, .inl hef1))] := hD
  replace hP : va_P D vwCl [(x, .inr (10, [.ref rd, .ref he, .ref pa, .ref wk, .ref ro, .ref mi, .ref se, .ref pl, .ref co, .ref tr, .ref iw, .ref ip])), (se, .inr (6, [.ref sea0, .ref sea1, .ref sea2, .int (u3293.1 0), .int (u3293.1 1), .int (u3293.1 2), .int (u3293.1 3)])), (sea0, .inl (K 1, 1024, .inl (u3293.2.1 0))), (sea1, .inl (K 1, 1024, .inl (u3293.2.1 1))), (sea2, .inl (K 1, 1024, .inl (u3293.2.1 2))), (he, .inr (9, [.ref hea0, .ref hea1, .ref hea2, .ref hea3, .ref hea4, .ref hea5, .ref hea6, .ref hea7, .int hen8, .int hen9, .int hen10, .int hen11])), (hea0, .inl (K 1, 40, .inl hef0)), (hea1, .inl (K 1, 10, .inl hef1))] H := hP.sub [0, 1, 2, 3, 4, 5, 6, 7] rfl
  replace hD : va_D A [(x, .inr (10, [.ref rd, .ref he, .ref pa, .ref wk, .ref ro, .ref mi, .ref se, .ref pl, .ref co, .ref tr, .ref iw, .ref ip])), (se, .inr (6, [.ref sea0, .ref sea1, .ref sea2, .int (u3293.1 0), .int (u3293.1 1), .int (u3293.1 2), .int (u3293.1 3)])), (sea0, .inl (K 1, 1024, .inl (u3293.2.1 0))), (sea1, .inl (K 1, 1024, .inl (u3293.2.1 1))), (sea2, .inl (K 1, 1024, .inl (u3293.2.1 2))), (he, .inr (9, [.ref hea0, .ref hea1, .ref hea2, .ref hea3, .ref hea4, .ref hea5, .ref hea6, .ref hea7, .int hen8, .int hen9, .int hen10, .int hen11])), (hea0, .inl (K 1, 40, .inl hef0)), (hea1, .inl (K 1, 10, .inl hef1))] := hD.sub [0, 1, 2, 3, 4, 5, 6, 7] (by decide) rfl
  refine W.widen (k := 0) (n := 0) (by decide) (by decide) ?_
  refine lv_aload_n hx hb dX11_lookSame_19 rfl (lv_at hl 0 rfl) ?_
  refine va_get (D := D) (ci := 10) (v := .ref se) (C := RX11) (T := TX11) (N := 12) hx hb hts in_X11 hown hE.1 hP 0 rfl rfl 6 (by decide) (hts _ w_551) (fun _ h9 => h9) rfl dX11_lookSame_20 ?_
  refine va_get (D := D) (ci := 6) (v := .int (u3293.1 2)) (C := RX7) (T := TX7) (N := 7) hx hb hts in_X7 hown hE.1 hP 1 rfl rfl 5 (by decide) (hts _ w_552) (u_same (hts _ w_554)) rfl dX11_lookSame_23 ?_
  refine lv_iconst (v := (-1)) hx hb dX11_lookSame_26 (by decide) ?_
  refine lv_icmp_ne (tgt := 34) hx hb dX11_lookSame_27 (by decide) (fun c3295 => ?_) (fun c3295 => ?_)
  · replace c3295 := ne_i c3295
    refine lv_iconst (v := 0) hx hb dX11_lookSame_34 (by decide) ?_
    refine W.widen (k := 0) (n := 0) (by decide) (by decide) ?_
    exact ch_zret hC hr hk hS dX11_lookSame_35 rfl ((fun k => [(u3293.1 0), (u3293.1 1), (u3293.1 2), (u3293.1 3)].getD k 0, fun k => [(u3293.2.1 0), (u3293.2.1 1), (u3293.2.1 2)].getD k (fun _ => 0), fun k => [].getD k (fun _ => 0)) : ((Nat → Int32) × (Nat → Nat → Int32) × (Nat → Nat → Int64))) (Or.inl rfl) (hP.sub [0, 1, 2, 3, 4, 5, 6, 7] rfl) (hD.sub [0, 1, 2, 3, 4, 5, 6, 7] (by decide) rfl)
  · replace c3295 := eq_i c3295
    refine lv_iconst (v := 1) hx hb dX11_lookSame_30 (by decide) ?_
    refine lv_goto (tgt := 35) hx hb dX11_lookSame_31 (by decide) ?_
    refine W.widen (k := 0) (n := 0) (by decide) (by decide) ?_
    exact ch_zret hC hr hk hS dX11_lookSame_35 rfl ((fun k => [(u3293.1 0), (u3293.1 1), (u3293.1 2), (u3293.1 3)].getD k 0, fun k => [(u3293.2.1 0), (u3293.2.1 1), (u3293.2.1 2)].getD k (fun _ => 0), fun k => [].getD k (fun _ => 0)) : ((Nat → Int32) × (Nat → Nat → Int32) × (Nat → Nat → Int64))) (Or.inr rfl) (hP.sub [0, 1, 2, 3, 4, 5, 6, 7] rfl) (hD.sub [0, 1, 2, 3, 4, 5, 6, 7] (by decide) rfl)
set_option maxRecDepth 40000 in
set_option maxHeartbeats 4000000 in
theorem c_X11_leastBare (l : Launch) (D : va_G) (K : Nat → ClassId) (x : Nat) (rd : Nat) (he : Nat) (pa : Nat) (wk : Nat) (ro : Nat) (mi : Nat) (se : Nat) (pl : Nat) (co : Nat) (tr : Nat) (iw : Nat) (ip : Nat) (sea0 : Nat) (sea1 : Nat) (sea2 : Nat) (hea0 : Nat) (hea1 : Nat) (hea2 : Nat) (hea3 : Nat) (hea4 : Nat) (hea5 : Nat) (hea6 : Nat) (hea7 : Nat) (sen3 : Int32) (sen4 : Int32) (sen5 : Int32) (sen6 : Int32) (hen8 : Int32) (hen9 : Int32) (hen10 : Int32) (hen11 : Int32) (sef0 : Nat → Int32) (sef1 : Nat → Int32) (sef2 : Nat → Int32) (hef0 : Nat → Int32) (hef1 : Nat → Int32) (p0 : Int32) (p1 : Int32) : Ci (S := ((Nat → Int32) × (Nat → Nat → Int32) × (Nat → Nat → Int64))) l D K yX11_leastBare cX11_leastBare 7 (some .int) 6 136 0 0 [.ref x, .int p0, .int p1] [(x, .inr (10, [.ref rd, .ref he, .ref pa, .ref wk, .ref ro, .ref mi, .ref se, .ref pl, .ref co, .ref tr, .ref iw, .ref ip])), (se, .inr (6, [.ref sea0, .ref sea1, .ref sea2, .int sen3, .int sen4, .int sen5, .int sen6])), (sea0, .inl (K 1, 1024, .inl sef0)), (sea1, .inl (K 1, 1024, .inl sef1)), (sea2, .inl (K 1, 1024, .inl sef2)), (he, .inr (9, [.ref hea0, .ref hea1, .ref hea2, .ref hea3, .ref hea4, .ref hea5, .ref hea6, .ref hea7, .int hen8, .int hen9, .int hen10, .int hen11])), (hea0, .inl (K 1, 40, .inl hef0)), (hea1, .inl (K 1, 10, .inl hef1))] (fun _ _ => True) (fun u => [(x, .inr (10, [.ref rd, .ref he, .ref pa, .ref wk, .ref ro, .ref mi, .ref se, .ref pl, .ref co, .ref tr, .ref iw, .ref ip])), (se, .inr (6, [.ref sea0, .ref sea1, .ref sea2, .int (u.1 0), .int (u.1 1), .int (u.1 2), .int (u.1 3)])), (sea0, .inl (K 1, 1024, .inl (u.2.1 0))), (sea1, .inl (K 1, 1024, .inl (u.2.1 1))), (sea2, .inl (K 1, 1024, .inl (u.2.1 2))), (he, .inr (9, [.ref hea0, .ref hea1, .ref hea2, .ref hea3, .ref hea4, .ref hea5, .ref hea6, .ref hea7, .int hen8, .int hen9, .int hen10, .int hen11])), (hea0, .inl (K 1, 40, .inl hef0)), (hea1, .inl (K 1, 10, .inl hef1))]) := by
  intro sz
  refine ch_of (y := yX11_leastBare) (cc := cX11_leastBare) (maxL := 7) (ret := (some .int)) (av := [.ref x, .int p0, .int p1]) (ws := [(x, .inr (10, [.ref rd, .ref he, .ref pa, .ref wk, .ref ro, .ref mi, .ref se, .ref pl, .ref co, .ref tr, .ref iw, .ref ip])), (se, .inr (6, [.ref sea0, .ref sea1, .ref sea2, .int sen3, .int sen4, .int sen5, .int sen6])), (sea0, .inl (K 1, 1024, .inl sef0)), (sea1, .inl (K 1, 1024, .inl sef1)), (sea2, .inl (K 1, 1024, .inl sef2)), (he, .inr (9, [.ref hea0, .ref hea1, .ref hea2, .ref hea3, .ref hea4, .ref hea5, .ref hea6, .ref hea7, .int hen8, .int hen9, .int hen10, .int hen11])), (hea0, .inl (K 1, 40, .inl hef0)), (hea1, .inl (K 1, 10, .inl hef1))]) (D := D) (K := K) (Qc := fun A => va_Qi (S := ((Nat → Int32) × (Nat → Nat → Int32) × (Nat → Nat → Int64))) (fun _ _ => True) (chB D A (fun u => [(x, .inr (10, [.ref rd, .ref he, .ref pa, .ref wk, .ref ro, .ref mi, .ref se, .ref pl, .ref co, .ref tr, .ref iw, .ref ip])), (se, .inr (6, [.ref sea0, .ref sea1, .ref sea2, .int (u.1 0), .int (u.1 1), .int (u.1 2), .int (u.1 3)])), (sea0, .inl (K 1, 1024, .inl (u.2.1 0))), (sea1, .inl (K 1, 1024, .inl (u.2.1 1))), (sea2, .inl (K 1, 1024, .inl (u.2.1 2))), (he, .inr (9, [.ref hea0, .ref hea1, .ref hea2, .ref hea3, .ref hea4, .ref hea5, .ref hea6, .ref hea7, .int hen8, .int hen9, .int hen10, .int hen11])), (hea0, .inl (K 1, 40, .inl hef0)), (hea1, .inl (K 1, 10, .inl hef1))])) A) (by decide) (Nat.le_of_ble_eq_true rfl) ?_
  intro p e s m below meth c A hC hr hk hin hE hD hA H locs hP hS ls hl
  replace hC : CallFix p m c cX11_leastBare 7 s [.ref x, .int p0, .int p1].toArray wl RX11 := hC
  have hx := hC.1
  have hb := hC.2.1
  have hml := hC.2.2.1
  have hown := hC.2.2.2.1
  have hts := hC.2.2.2.2
  replace hl : lv_has ls 7 [(0, .ref x), (1, .int p0), (2, .int p1)] := hl
  have kc_0 : (0 : Int32).toInt = 0 := by decide
  have kc_1 : (1 : Int32).toInt = 1 := by decide
  refine lv_aload_n hx hb dX11_leastBare_0 rfl (lv_at hl 0 rfl) ?_
  refine va_get (D := D) (ci := 10) (v := .ref se) (C := RX11) (T := TX11) (N := 12) hx hb hts in_X11 hown hE.1 hP 0 rfl rfl 6 (by decide) (hts _ w_551) (fun _ h9 => h9) rfl dX11_leastBare_1 ?_
  refine lv_aload_n hx hb dX11_leastBare_4 rfl (lv_at hl 0 rfl) ?_
  refine va_get (D := D) (ci := 10) (v := .ref he) (C := RX11) (T := TX11) (N := 12) hx hb hts in_X11 hown hE.1 hP 0 rfl rfl 1 (by decide) (hts _ w_511) (fun _ h9 => h9) rfl dX11_leastBare_5 ?_
  refine lv_iconst (v := 1) hx hb dX11_leastBare_8 (by decide) ?_
  refine lv_iload_n hx hb dX11_leastBare_9 rfl (lv_at hl 1 rfl) ?_
  refine lv_ishl hx hb dX11_leastBare_10 ?_
  refine lv_topi (fun v3320 ev3320 => ?_)
  refine lv_iconst (v := 1) hx hb dX11_leastBare_11 (by decide) ?_
  refine lv_iload_n hx hb dX11_leastBare_12 rfl (lv_at hl 2 rfl) ?_
  refine lv_ishl hx hb dX11_leastBare_13 ?_
  refine lv_topi (fun v3321 ev3321 => ?_)
  refine lv_ior hx hb dX11_leastBare_14 ?_
  refine lv_topi (fun v3322 ev3322 => ?_)
  refine lv_iconst (v := 0) hx hb dX11_leastBare_15 (by decide) ?_
  refine cv_V (As := [.ref he, .int v3322, .int 0]) (rest := []) (wc := [(se, .inr (6, [.ref sea0, .ref sea1, .ref sea2, .int sen3, .int sen4, .int sen5, .int sen6])), (sea0, .inl (K 1, 1024, .inl sef0)), (sea1, .inl (K 1, 1024, .inl sef1)), (sea2, .inl (K 1, 1024, .inl sef2)), (he, .inr (9, [.ref hea0, .ref hea1, .ref hea2, .ref hea3, .ref hea4, .ref hea5, .ref hea6, .ref hea7, .int hen8, .int hen9, .int hen10, .int hen11])), (hea0, .inl (K 1, 40, .inl hef0)), (hea1, .inl (K 1, 10, .inl hef1))]) (wr := [(x, .inr (10, [.ref rd, .ref he, .ref pa, .ref wk, .ref ro, .ref mi, .ref se, .ref pl, .ref co, .ref tr, .ref iw, .ref ip]))]) hC hE kV_X11_243 (c_X7_seek l D K se sea0 sea1 sea2 he hea0 hea1 hea2 hea3 hea4 hea5 hea6 hea7 sen3 sen4 sen5 sen6 hen8 hen9 hen10 hen11 sef0 sef1 sef2 hef0 hef1 v3322 0) hP hD hS hA [1, 2, 3, 4, 5, 6, 7] [0] rfl rfl rfl (by decide) (by decide) (by decide) 0 6 rfl rfl rfl hl.1 rfl (Nat.le_of_ble_eq_true rfl) (by decide) (by decide) dX11_leastBare_16 (fun u3323 H locs hw hP hD hS => ?_)
  replace hP : va_P D vwCl [(x, .inr (10, [.ref rd, .ref he, .ref pa, .ref wk, .ref ro, .ref mi, .ref se, .ref pl, .ref co, .ref tr, .ref iw, .ref ip])), (se, .inr (6, [.ref sea0, .ref sea1, .ref sea2, .int (u3323.1 0), .int (u3323.1 1), .int (u3323.1 2), .int (u3323.1 3)])), (sea0, .inl (K 1, 1024, .inl (u3323.2.1 0))), (sea1, .inl (K 1, 1024, .inl (u3323.2.1 1))), (sea2, .inl (K 1, 1024, .inl (u3323.2.1 2))), (he, .inr (9, [.ref hea0, .ref hea1, .ref hea2, .ref hea3, .ref hea4, .ref hea5, .ref hea6, .ref hea7, .int hen8, .int hen9, .int hen10, .int hen11])), (hea0, .inl (K 1, 40, .inl hef0)), (hea1, .inl (K 1, 10, .inl hef1))] H := hP
  replace hD : va_D A [(x, .inr (10, [.ref rd, .ref he, .ref pa, .ref wk, .ref ro, .ref mi, .ref se, .ref pl, .ref co, .ref tr, .ref iw, .ref ip])), (se, .inr (6, [.ref sea0, .ref sea1, .ref sea2, .int (u3323.1 0), .int (u3323.1 1), .int (u3323.1 2), .int (u3323.1 3)])), (sea0, .inl (K 1, 1024, .inl (u3323.2.1 0))), (sea1, .inl (K 1, 1024, .inl (u3323.2.1 1))), (sea2, .inl (K 1, 1024, .inl (u3323.2.1 2))), (he, .inr (9, [.ref hea0, .ref hea1, .ref hea2, .ref hea3, .ref hea4, .ref hea5, .ref hea6, .ref hea7, .int hen8, .int hen9, .int hen10, .int hen11])), (hea0, .inl (K 1, 40, .inl hef0)), (hea1, .inl (K 1, 10, .inl hef1))] := hD
  replace hP : va_P D vwCl [(x, .inr (10, [.ref rd, .ref he, .ref pa, .ref wk, .ref ro, .ref mi, .ref se, .ref pl, .ref co, .ref tr, .ref iw, .ref ip])), (se, .inr (6, [.ref sea0, .ref sea1, .ref sea2, .int (u3323.1 0), .int (u3323.1 1), .int (u3323.1 2), .int (u3323.1 3)])), (sea0, .inl (K 1, 1024, .inl (u3323.2.1 0))), (sea1, .inl (K 1, 1024, .inl (u3323.2.1 1))), (sea2, .inl (K 1, 1024, .inl (u3323.2.1 2))), (he, .inr (9, [.ref hea0, .ref hea1, .ref hea2, .ref hea3, .ref hea4, .ref hea5, .ref hea6, .ref hea7, .int hen8, .int hen9, .int hen10, .int hen11])), (hea0, .inl (K 1, 40, .inl hef0)), (hea1, .inl (K 1, 10, .inl hef1))] H := hP.sub [0, 1, 2, 3, 4, 5, 6, 7] rfl
  replace hD : va_D A [(x, .inr (10, [.ref rd, .ref he, .ref pa, .ref wk, .ref ro, .ref mi, .ref se, .ref pl, .ref co, .ref tr, .ref iw, .ref ip])), (se, .inr (6, [.ref sea0, .ref sea1, .ref sea2, .int (u3323.1 0), .int (u3323.1 1), .int (u3323.1 2), .int (u3323.1 3)])), (sea0, .inl (K 1, 1024, .inl (u3323.2.1 0))), (sea1, .inl (K 1, 1024, .inl (u3323.2.1 1))), (sea2, .inl (K 1, 1024, .inl (u3323.2.1 2))), (he, .inr (9, [.ref hea0, .ref hea1, .ref hea2, .ref hea3, .ref hea4, .ref hea5, .ref hea6, .ref hea7, .int hen8, .int hen9, .int hen10, .int hen11])), (hea0, .inl (K 1, 40, .inl hef0)), (hea1, .inl (K 1, 10, .inl hef1))] := hD.sub [0, 1, 2, 3, 4, 5, 6, 7] (by decide) rfl
  refine W.widen (k := 0) (n := 0) (by decide) (by decide) ?_
  refine lv_aload_n hx hb dX11_leastBare_19 rfl (lv_at hl 0 rfl) ?_
  refine va_get (D := D) (ci := 10) (v := .ref he) (C := RX11) (T := TX11) (N := 12) hx hb hts in_X11 hown hE.1 hP 0 rfl rfl 1 (by decide) (hts _ w_511) (fun _ h9 => h9) rfl dX11_leastBare_20 ?_
  refine ro_V (As := []) (rest := []) hC hE kV_X11_340 (c_X10_marked l D K he hea0 hea1 hea2 hea3 hea4 hea5 hea6 hea7 hen8 hen9 hen10 hen11 hef1) (hP.sub (ws' := [(he, .inr (9, [.ref hea0, .ref hea1, .ref hea2, .ref hea3, .ref hea4, .ref hea5, .ref hea6, .ref hea7, .int hen8, .int hen9, .int hen10, .int hen11])), (hea1, .inl (K 1, 10, .inl hef1))]) [5, 7] rfl) 0 9 rfl rfl rfl hl.1 rfl (Nat.le_of_ble_eq_true rfl) (by decide) (by decide) dX11_leastBare_23 (fun r3325 _ => ?_)
  refine lv_istore_n (lv' := [(3, .int r3325), (0, .ref x), (1, .int p0), (2, .int p1)]) hx hb dX11_leastBare_26 rfl hl (by decide) rfl (fun ls hl => ?_)
  refine lv_iload_n hx hb dX11_leastBare_27 rfl (lv_at hl 0 rfl) ?_
  refine lv_istore (lv' := [(4, .int r3325), (3, .int r3325), (0, .ref x), (1, .int p0), (2, .int p1)]) hx hb dX11_leastBare_28 hl (by decide) rfl (fun ls hl => ?_)
  refine lv_iconst (v := 0) hx hb dX11_leastBare_30 (by decide) ?_
  refine lv_istore (lv' := [(5, .int 0), (4, .int r3325), (3, .int r3325), (0, .ref x), (1, .int p0), (2, .int p1)]) hx hb dX11_leastBare_31 hl (by decide) rfl (fun ls hl => ?_)
  have hl' := hl; have hP' := hP; have hD' := hD; clear hl hP hD
  obtain ⟨i3344, i3345, hi_33, hl, hP, hD⟩ : ∃ (i3344 : Int32) (i3345 : Int32), ((0 : Int) ≤ i3344.toInt) ∧ lv_has ls 7 [(5, .int i3344), (4, .int i3345), (3, .int r3325), (0, .ref x), (1, .int p0), (2, .int p1)] ∧ va_P D vwCl [(x, .inr (10, [.ref rd, .ref he, .ref pa, .ref wk, .ref ro, .ref mi, .ref se, .ref pl, .ref co, .ref tr, .ref iw, .ref ip])), (se, .inr (6, [.ref sea0, .ref sea1, .ref sea2, .int (u3323.1 0), .int (u3323.1 1), .int (u3323.1 2), .int (u3323.1 3)])), (sea0, .inl (K 1, 1024, .inl (u3323.2.1 0))), (sea1, .inl (K 1, 1024, .inl (u3323.2.1 1))), (sea2, .inl (K 1, 1024, .inl (u3323.2.1 2))), (he, .inr (9, [.ref hea0, .ref hea1, .ref hea2, .ref hea3, .ref hea4, .ref hea5, .ref hea6, .ref hea7, .int hen8, .int hen9, .int hen10, .int hen11])), (hea0, .inl (K 1, 40, .inl hef0)), (hea1, .inl (K 1, 10, .inl hef1))] H ∧ va_D A [(x, .inr (10, [.ref rd, .ref he, .ref pa, .ref wk, .ref ro, .ref mi, .ref se, .ref pl, .ref co, .ref tr, .ref iw, .ref ip])), (se, .inr (6, [.ref sea0, .ref sea1, .ref sea2, .int (u3323.1 0), .int (u3323.1 1), .int (u3323.1 2), .int (u3323.1 3)])), (sea0, .inl (K 1, 1024, .inl (u3323.2.1 0))), (sea1, .inl (K 1, 1024, .inl (u3323.2.1 1))), (sea2, .inl (K 1, 1024, .inl (u3323.2.1 2))), (he, .inr (9, [.ref hea0, .ref hea1, .ref hea2, .ref hea3, .ref hea4, .ref hea5, .ref hea6, .ref hea7, .int hen8, .int hen9, .int hen10, .int hen11])), (hea0, .inl (K 1, 40, .inl hef0)), (hea1, .inl (K 1, 10, .inl hef1))] := ⟨_, _, by omega, hl', hP', hD'⟩
  clear hl' hP' hD'
  have hb_33 := i32_hi r3325
  obtain ⟨n_33, hn_33⟩ : ∃ n : Nat, (r3325.toInt - i3344.toInt).toNat < n := ⟨_, Nat.lt_succ_self _⟩
  induction n_33 generalizing i3344 i3345 H locs ls with
  | zero => exact absurd hn_33 (Nat.not_lt_zero _)
  | succ n_33 ih_33 =>
    refine lv_iload hx hb dX11_leastBare_33 (lv_at hl 0 rfl) ?_
    refine lv_iload_n hx hb dX11_leastBare_35 rfl (lv_at hl 2 rfl) ?_
    refine lv_icmp_ge (tgt := 99) hx hb dX11_leastBare_36 (by decide) (fun c3346 => ?_) (fun c3346 => ?_)
    · replace c3346 := le_i c3346
      refine lv_iload hx hb dX11_leastBare_99 (lv_at hl 1 rfl) ?_
      refine W.widen (k := 0) (n := 0) (by decide) (by decide) ?_
      exact ch_iret hC hr hk hS dX11_leastBare_101 ((fun k => [(u3323.1 0), (u3323.1 1), (u3323.1 2), (u3323.1 3)].getD k 0, fun k => [(u3323.2.1 0), (u3323.2.1 1), (u3323.2.1 2)].getD k (fun _ => 0), fun k => [].getD k (fun _ => 0)) : ((Nat → Int32) × (Nat → Nat → Int32) × (Nat → Nat → Int64))) trivial (hP.sub [0, 1, 2, 3, 4, 5, 6, 7] rfl) (hD.sub [0, 1, 2, 3, 4, 5, 6, 7] (by decide) rfl)
    · replace c3346 := nle_i c3346
      refine lv_iload hx hb dX11_leastBare_39 (lv_at hl 0 rfl) ?_
      refine ro_S (As := [.int i3344]) (rest := []) hC hE kS_X11_251 (c_J6_bitCount_0f7a4 l D K i3344) (hP.sub (ws' := []) [] rfl) rfl hl.1 rfl (Nat.le_of_ble_eq_true rfl) (by decide) (by decide) dX11_leastBare_41 (fun r3347 _ => ?_)
      refine lv_iload hx hb dX11_leastBare_44 (lv_at hl 1 rfl) ?_
      refine ro_S (As := [.int i3345]) (rest := [.int r3347]) hC hE kS_X11_251 (c_J6_bitCount_0f7a4 l D K i3345) (hP.sub (ws' := []) [] rfl) rfl hl.1 rfl (Nat.le_of_ble_eq_true rfl) (by decide) (by decide) dX11_leastBare_46 (fun r3348 _ => ?_)
      refine lv_icmp_ge (tgt := 56) hx hb dX11_leastBare_49 (by decide) (fun c3349 => ?_) (fun c3349 => ?_)
      · replace c3349 := le_i c3349
        refine lv_iconst (v := 0) hx hb dX11_leastBare_56 (by decide) ?_
        refine lv_istore (lv' := [(6, .int 0), (5, .int i3344), (4, .int i3345), (3, .int r3325), (0, .ref x), (1, .int p0), (2, .int p1)]) hx hb dX11_leastBare_57 hl (by decide) rfl (fun ls hl => ?_)
        refine lv_iload hx hb dX11_leastBare_59 (lv_at hl 1 rfl) ?_
        refine lv_iload_n hx hb dX11_leastBare_61 rfl (lv_at hl 3 rfl) ?_
        refine lv_iconst (v := (-1)) hx hb dX11_leastBare_62 (by decide) ?_
        refine lv_ixor hx hb dX11_leastBare_63 ?_
        refine lv_topi (fun v3350 ev3350 => ?_)
        refine lv_iand hx hb dX11_leastBare_64 ?_
        refine lv_topi (fun v3351 ev3351 => ?_)
        refine lv_if_ne (tgt := 93) hx hb dX11_leastBare_65 (by decide) (fun c3352 => ?_) (fun c3352 => ?_)
        · replace c3352 := ne_i c3352
          obtain ⟨v3353, ev3353⟩ : ∃ z : Int32, z = i3344 + 1 := ⟨_, rfl⟩
          refine lv_iinc (v := v3353) (lv' := [(5, .int v3353), (6, .int 0), (4, .int i3345), (3, .int r3325), (0, .ref x), (1, .int p0), (2, .int p1)]) hx hb dX11_leastBare_93 hl (k := 1) rfl (by rw [ev3353]; rfl) (by decide) rfl (fun ls hl => ?_)
          refine lv_goto (tgt := 33) hx hb dX11_leastBare_96 (by decide) ?_
          have tv3353 : v3353.toInt = (i3344 : Int32).toInt + (1 : Int32).toInt := add_i ev3353 (by omega) (by omega)
          exact ih_33 (i3344 := v3353) (i3345 := i3345) (hi_33 := by omega) (H := H) (locs := locs) (ls := ls) (hn_33 := by omega) (hP := hP) (hS := hS) (hl := lv_sub hl [0, 2, 3, 4, 5, 6] rfl)
        · replace c3352 := eq_i c3352
          refine lv_iload hx hb dX11_leastBare_68 (lv_at hl 0 rfl) ?_
          refine lv_if_eq (tgt := 93) hx hb dX11_leastBare_70 (by decide) (fun _ => ?_) (fun h => absurd h (by decide))
          obtain ⟨v3354, ev3354⟩ : ∃ z : Int32, z = i3344 + 1 := ⟨_, rfl⟩
          refine lv_iinc (v := v3354) (lv' := [(5, .int v3354), (6, .int 0), (4, .int i3345), (3, .int r3325), (0, .ref x), (1, .int p0), (2, .int p1)]) hx hb dX11_leastBare_93 hl (k := 1) rfl (by rw [ev3354]; rfl) (by decide) rfl (fun ls hl => ?_)
          refine lv_goto (tgt := 33) hx hb dX11_leastBare_96 (by decide) ?_
          have tv3354 : v3354.toInt = (i3344 : Int32).toInt + (1 : Int32).toInt := add_i ev3354 (by omega) (by omega)
          exact ih_33 (i3344 := v3354) (i3345 := i3345) (hi_33 := by omega) (H := H) (locs := locs) (ls := ls) (hn_33 := by omega) (hP := hP) (hS := hS) (hl := lv_sub hl [0, 2, 3, 4, 5, 6] rfl)
      · replace c3349 := nle_i c3349
        refine lv_iconst (v := 1) hx hb dX11_leastBare_52 (by decide) ?_
        refine lv_goto (tgt := 57) hx hb dX11_leastBare_53 (by decide) ?_
        refine lv_istore (lv' := [(6, .int 1), (5, .int i3344), (4, .int i3345), (3, .int r3325), (0, .ref x), (1, .int p0), (2, .int p1)]) hx hb dX11_leastBare_57 hl (by decide) rfl (fun ls hl => ?_)
        refine lv_iload hx hb dX11_leastBare_59 (lv_at hl 1 rfl) ?_
        refine lv_iload_n hx hb dX11_leastBare_61 rfl (lv_at hl 3 rfl) ?_
        refine lv_iconst (v := (-1)) hx hb dX11_leastBare_62 (by decide) ?_
        refine lv_ixor hx hb dX11_leastBare_63 ?_
        refine lv_topi (fun v3355 ev3355 => ?_)
        refine lv_iand hx hb dX11_leastBare_64 ?_
        refine lv_topi (fun v3356 ev3356 => ?_)
        refine lv_if_ne (tgt := 93) hx hb dX11_leastBare_65 (by decide) (fun c3357 => ?_) (fun c3357 => ?_)
        · replace c3357 := ne_i c3357
          obtain ⟨v3358, ev3358⟩ : ∃ z : Int32, z = i3344 + 1 := ⟨_, rfl⟩
          refine lv_iinc (v := v3358) (lv' := [(5, .int v3358), (6, .int 1), (4, .int i3345), (3, .int r3325), (0, .ref x), (1, .int p0), (2, .int p1)]) hx hb dX11_leastBare_93 hl (k := 1) rfl (by rw [ev3358]; rfl) (by decide) rfl (fun ls hl => ?_)
          refine lv_goto (tgt := 33) hx hb dX11_leastBare_96 (by decide) ?_
          have tv3358 : v3358.toInt = (i3344 : Int32).toInt + (1 : Int32).toInt := add_i ev3358 (by omega) (by omega)
          exact ih_33 (i3344 := v3358) (i3345 := i3345) (hi_33 := by omega) (H := H) (locs := locs) (ls := ls) (hn_33 := by omega) (hP := hP) (hS := hS) (hl := lv_sub hl [0, 2, 3, 4, 5, 6] rfl)
        · replace c3357 := eq_i c3357
          refine lv_iload hx hb dX11_leastBare_68 (lv_at hl 0 rfl) ?_
          refine lv_if_eq (tgt := 93) hx hb dX11_leastBare_70 (by decide) (fun h => absurd h (by decide)) (fun _ => ?_)
          refine lv_aload_n hx hb dX11_leastBare_73 rfl (lv_at hl 4 rfl) ?_
          refine va_get (D := D) (ci := 10) (v := .ref se) (C := RX11) (T := TX11) (N := 12) hx hb hts in_X11 hown hE.1 hP 0 rfl rfl 6 (by decide) (hts _ w_551) (fun _ h9 => h9) rfl dX11_leastBare_74 ?_
          refine lv_aload_n hx hb dX11_leastBare_77 rfl (lv_at hl 4 rfl) ?_
          refine va_get (D := D) (ci := 10) (v := .ref he) (C := RX11) (T := TX11) (N := 12) hx hb hts in_X11 hown hE.1 hP 0 rfl rfl 1 (by decide) (hts _ w_511) (fun _ h9 => h9) rfl dX11_leastBare_78 ?_
          refine lv_iload hx hb dX11_leastBare_81 (lv_at hl 1 rfl) ?_
          refine ro_V (As := [.ref he, .int i3344]) (rest := []) hC hE kV_X11_398 (c_X7_allShowOne l D K se sea0 sea1 sea2 he hea0 hea1 hea2 hea3 hea4 hea5 hea6 hea7 (u3323.1 0) (u3323.1 1) (u3323.1 2) (u3323.1 3) hen8 hen9 hen10 hen11 (u3323.2.1 1) hef1 i3344) (hP.sub (ws' := [(se, .inr (6, [.ref sea0, .ref sea1, .ref sea2, .int (u3323.1 0), .int (u3323.1 1), .int (u3323.1 2), .int (u3323.1 3)])), (sea1, .inl (K 1, 1024, .inl (u3323.2.1 1))), (he, .inr (9, [.ref hea0, .ref hea1, .ref hea2, .ref hea3, .ref hea4, .ref hea5, .ref hea6, .ref hea7, .int hen8, .int hen9, .int hen10, .int hen11])), (hea1, .inl (K 1, 10, .inl hef1))]) [1, 3, 5, 7] rfl) 0 6 rfl rfl rfl hl.1 rfl (Nat.le_of_ble_eq_true rfl) (by decide) (by decide) dX11_leastBare_83 (fun r3359 hq => ?_)
          rcases hq with rfl | rfl
          · refine lv_if_eq (tgt := 93) hx hb dX11_leastBare_86 (by decide) (fun _ => ?_) (fun h => absurd h (by decide))
            obtain ⟨v3360, ev3360⟩ : ∃ z : Int32, z = i3344 + 1 := ⟨_, rfl⟩
            refine lv_iinc (v := v3360) (lv' := [(5, .int v3360), (6, .int 1), (4, .int i3345), (3, .int r3325), (0, .ref x), (1, .int p0), (2, .int p1)]) hx hb dX11_leastBare_93 hl (k := 1) rfl (by rw [ev3360]; rfl) (by decide) rfl (fun ls hl => ?_)
            refine lv_goto (tgt := 33) hx hb dX11_leastBare_96 (by decide) ?_
            have tv3360 : v3360.toInt = (i3344 : Int32).toInt + (1 : Int32).toInt := add_i ev3360 (by omega) (by omega)
            exact ih_33 (i3344 := v3360) (i3345 := i3345) (hi_33 := by omega) (H := H) (locs := locs) (ls := ls) (hn_33 := by omega) (hP := hP) (hS := hS) (hl := lv_sub hl [0, 2, 3, 4, 5, 6] rfl)
          · refine lv_if_eq (tgt := 93) hx hb dX11_leastBare_86 (by decide) (fun h => absurd h (by decide)) (fun _ => ?_)
            refine lv_iload hx hb dX11_leastBare_89 (lv_at hl 1 rfl) ?_
            refine lv_istore (lv' := [(4, .int i3344), (6, .int 1), (5, .int i3344), (3, .int r3325), (0, .ref x), (1, .int p0), (2, .int p1)]) hx hb dX11_leastBare_91 hl (by decide) rfl (fun ls hl => ?_)
            obtain ⟨v3361, ev3361⟩ : ∃ z : Int32, z = i3344 + 1 := ⟨_, rfl⟩
            refine lv_iinc (v := v3361) (lv' := [(5, .int v3361), (4, .int i3344), (6, .int 1), (3, .int r3325), (0, .ref x), (1, .int p0), (2, .int p1)]) hx hb dX11_leastBare_93 hl (k := 2) rfl (by rw [ev3361]; rfl) (by decide) rfl (fun ls hl => ?_)
            refine lv_goto (tgt := 33) hx hb dX11_leastBare_96 (by decide) ?_
            have tv3361 : v3361.toInt = (i3344 : Int32).toInt + (1 : Int32).toInt := add_i ev3361 (by omega) (by omega)
            exact ih_33 (i3344 := v3361) (i3345 := i3344) (hi_33 := by omega) (H := H) (locs := locs) (ls := ls) (hn_33 := by omega) (hP := hP) (hS := hS) (hl := lv_sub hl [0, 1, 3, 4, 5, 6] rfl)
set_option maxRecDepth 40000 in
set_option maxHeartbeats 4000000 in
theorem c_X11_reach (l : Launch) (D : va_G) (K : Nat → ClassId) (x : Nat) (rd : Nat) (he : Nat) (pa : Nat) (wk : Nat) (ro : Nat) (mi : Nat) (se : Nat) (pl : Nat) (co : Nat) (tr : Nat) (iw : Nat) (ip : Nat) (hea0 : Nat) (hea1 : Nat) (hea2 : Nat) (hea3 : Nat) (hea4 : Nat) (hea5 : Nat) (hea6 : Nat) (hea7 : Nat) (hen8 : Int32) (hen9 : Int32) (hen10 : Int32) (hen11 : Int32) (hef0 : Nat → Int32) (p0 : Int32) (p1 : Int32) : Ro l D K yX11_reach cX11_reach 5 (some .int) 3 67 [.ref x, .int p0, .int p1] [(x, .inr (10, [.ref rd, .ref he, .ref pa, .ref wk, .ref ro, .ref mi, .ref se, .ref pl, .ref co, .ref tr, .ref iw, .ref ip])), (he, .inr (9, [.ref hea0, .ref hea1, .ref hea2, .ref hea3, .ref hea4, .ref hea5, .ref hea6, .ref hea7, .int hen8, .int hen9, .int hen10, .int hen11])), (hea0, .inl (K 1, 40, .inl hef0))] (fun _ => True) := by
  refine ro_of (by decide) (Nat.le_of_ble_eq_true rfl) ?_
  intro p e s m below meth c hC hr hk hE hP ls hl
  replace hC : CallFix p m c cX11_reach 5 s [.ref x, .int p0, .int p1].toArray wl RX11 := hC
  have hx := hC.1
  have hb := hC.2.1
  have hml := hC.2.2.1
  have hown := hC.2.2.2.1
  have hts := hC.2.2.2.2
  replace hl : lv_has ls 5 [(0, .ref x), (1, .int p0), (2, .int p1)] := hl
  have kc_0 : (0 : Int32).toInt = 0 := by decide
  have kc_1 : (1 : Int32).toInt = 1 := by decide
  refine lv_iconst (v := 1) hx hb dX11_reach_0 (by decide) ?_
  refine lv_iload_n hx hb dX11_reach_1 rfl (lv_at hl 1 rfl) ?_
  refine lv_ishl hx hb dX11_reach_2 ?_
  refine lv_topi (fun v3362 ev3362 => ?_)
  refine lv_istore_n (lv' := [(3, .int v3362), (0, .ref x), (1, .int p0), (2, .int p1)]) hx hb dX11_reach_3 rfl hl (by decide) rfl (fun ls hl => ?_)
  refine lv_iconst (v := 0) hx hb dX11_reach_4 (by decide) ?_
  refine lv_istore (lv' := [(4, .int 0), (3, .int v3362), (0, .ref x), (1, .int p0), (2, .int p1)]) hx hb dX11_reach_5 hl (by decide) rfl (fun ls hl => ?_)
  have hl' := hl; clear hl
  obtain ⟨i3368, i3369, hi_7, hl⟩ : ∃ (i3368 : Int32) (i3369 : Int32), ((0 : Int) ≤ i3368.toInt) ∧ lv_has ls 5 [(4, .int i3368), (3, .int i3369), (0, .ref x), (1, .int p0), (2, .int p1)] := ⟨_, _, by omega, hl'⟩
  clear hl'
  have hb_7 := i32_hi p1
  obtain ⟨n_7, hn_7⟩ : ∃ n : Nat, (p1.toInt - i3368.toInt).toNat < n := ⟨_, Nat.lt_succ_self _⟩
  induction n_7 generalizing i3368 i3369 ls with
  | zero => exact absurd hn_7 (Nat.not_lt_zero _)
  | succ n_7 ih_7 =>
    refine lv_iload hx hb dX11_reach_7 (lv_at hl 0 rfl) ?_
    refine lv_iload_n hx hb dX11_reach_9 rfl (lv_at hl 4 rfl) ?_
    refine lv_icmp_ge (tgt := 28) hx hb dX11_reach_10 (by decide) (fun c3370 => ?_) (fun c3370 => ?_)
    · replace c3370 := le_i c3370
      refine lv_iload_n hx hb dX11_reach_28 rfl (lv_at hl 1 rfl) ?_
      exact ro_ret hC hr hk dX11_reach_29 trivial
    · replace c3370 := nle_i c3370
      refine lv_aload_n hx hb dX11_reach_13 rfl (lv_at hl 2 rfl) ?_
      refine va_get (D := D) (ci := 10) (v := .ref he) (C := RX11) (T := TX11) (N := 12) hx hb hts in_X11 hown hE.1 hP 0 rfl rfl 1 (by decide) (hts _ w_511) (fun _ h9 => h9) rfl dX11_reach_14 ?_
      refine lv_iload_n hx hb dX11_reach_17 rfl (lv_at hl 1 rfl) ?_
      refine ro_V (As := [.int i3369]) (rest := []) hC hE kV_X11_402 (c_X10_spreadAnyhow l D K he hea0 hea1 hea2 hea3 hea4 hea5 hea6 hea7 hen8 hen9 hen10 hen11 hef0 i3369) (hP.sub (ws' := [(he, .inr (9, [.ref hea0, .ref hea1, .ref hea2, .ref hea3, .ref hea4, .ref hea5, .ref hea6, .ref hea7, .int hen8, .int hen9, .int hen10, .int hen11])), (hea0, .inl (K 1, 40, .inl hef0))]) [1, 2] rfl) 0 9 rfl rfl rfl hl.1 rfl (Nat.le_of_ble_eq_true rfl) (by decide) (by decide) dX11_reach_18 (fun r3371 _ => ?_)
      refine lv_istore_n (lv' := [(3, .int r3371), (4, .int i3368), (0, .ref x), (1, .int p0), (2, .int p1)]) hx hb dX11_reach_21 rfl hl (by decide) rfl (fun ls hl => ?_)
      obtain ⟨v3372, ev3372⟩ : ∃ z : Int32, z = i3368 + 1 := ⟨_, rfl⟩
      refine lv_iinc (v := v3372) (lv' := [(4, .int v3372), (3, .int r3371), (0, .ref x), (1, .int p0), (2, .int p1)]) hx hb dX11_reach_22 hl (k := 1) rfl (by rw [ev3372]; rfl) (by decide) rfl (fun ls hl => ?_)
      refine lv_goto (tgt := 7) hx hb dX11_reach_25 (by decide) ?_
      have tv3372 : v3372.toInt = (i3368 : Int32).toInt + (1 : Int32).toInt := add_i ev3372 (by omega) (by omega)
      exact ih_7 (i3368 := v3372) (i3369 := r3371) (hi_7 := by omega) (ls := ls) (hn_7 := by omega) (hl := lv_sub hl [0, 1, 2, 3, 4] rfl)
set_option maxRecDepth 40000 in
set_option maxHeartbeats 4000000 in
theorem c_X11_stepsToMeet (l : Launch) (D : va_G) (K : Nat → ClassId) (x : Nat) (rd : Nat) (he : Nat) (pa : Nat) (wk : Nat) (ro : Nat) (mi : Nat) (se : Nat) (pl : Nat) (co : Nat) (tr : Nat) (iw : Nat) (ip : Nat) (hea0 : Nat) (hea1 : Nat) (hea2 : Nat) (hea3 : Nat) (hea4 : Nat) (hea5 : Nat) (hea6 : Nat) (hea7 : Nat) (hen8 : Int32) (hen9 : Int32) (hen10 : Int32) (hen11 : Int32) (hef0 : Nat → Int32) (p0 : Int32) (p1 : Int32) : Ro l D K yX11_stepsToMeet cX11_stepsToMeet 6 (some .int) 3 67 [.ref x, .int p0, .int p1] [(x, .inr (10, [.ref rd, .ref he, .ref pa, .ref wk, .ref ro, .ref mi, .ref se, .ref pl, .ref co, .ref tr, .ref iw, .ref ip])), (he, .inr (9, [.ref hea0, .ref hea1, .ref hea2, .ref hea3, .ref hea4, .ref hea5, .ref hea6, .ref hea7, .int hen8, .int hen9, .int hen10, .int hen11])), (hea0, .inl (K 1, 40, .inl hef0))] (fun _ => True) := by
  refine ro_of (by decide) (Nat.le_of_ble_eq_true rfl) ?_
  intro p e s m below meth c hC hr hk hE hP ls hl
  replace hC : CallFix p m c cX11_stepsToMeet 6 s [.ref x, .int p0, .int p1].toArray wl RX11 := hC
  have hx := hC.1
  have hb := hC.2.1
  have hml := hC.2.2.1
  have hown := hC.2.2.2.1
  have hts := hC.2.2.2.2
  replace hl : lv_has ls 6 [(0, .ref x), (1, .int p0), (2, .int p1)] := hl
  have kc_0 : (0 : Int32).toInt = 0 := by decide
  have kc_1 : (1 : Int32).toInt = 1 := by decide
  have kc_100 : (100 : Int32).toInt = 100 := by decide
  refine lv_iconst (v := 1) hx hb dX11_stepsToMeet_0 (by decide) ?_
  refine lv_iload_n hx hb dX11_stepsToMeet_1 rfl (lv_at hl 1 rfl) ?_
  refine lv_ishl hx hb dX11_stepsToMeet_2 ?_
  refine lv_topi (fun v3373 ev3373 => ?_)
  refine lv_istore_n (lv' := [(3, .int v3373), (0, .ref x), (1, .int p0), (2, .int p1)]) hx hb dX11_stepsToMeet_3 rfl hl (by decide) rfl (fun ls hl => ?_)
  refine lv_iconst (v := 1) hx hb dX11_stepsToMeet_4 (by decide) ?_
  refine lv_iload_n hx hb dX11_stepsToMeet_5 rfl (lv_at hl 3 rfl) ?_
  refine lv_ishl hx hb dX11_stepsToMeet_6 ?_
  refine lv_topi (fun v3374 ev3374 => ?_)
  refine lv_istore (lv' := [(4, .int v3374), (3, .int v3373), (0, .ref x), (1, .int p0), (2, .int p1)]) hx hb dX11_stepsToMeet_7 hl (by decide) rfl (fun ls hl => ?_)
  refine lv_iconst (v := 0) hx hb dX11_stepsToMeet_9 (by decide) ?_
  refine lv_istore (lv' := [(5, .int 0), (4, .int v3374), (3, .int v3373), (0, .ref x), (1, .int p0), (2, .int p1)]) hx hb dX11_stepsToMeet_10 hl (by decide) rfl (fun ls hl => ?_)
  have hl' := hl; clear hl
  obtain ⟨i3384, i3385, i3386, hi_12, hl⟩ : ∃ (i3384 : Int32) (i3385 : Int32) (i3386 : Int32), ((0 : Int) ≤ i3384.toInt) ∧ lv_has ls 6 [(5, .int i3384), (4, .int i3385), (3, .int i3386), (0, .ref x), (1, .int p0), (2, .int p1)] := ⟨_, _, _, by omega, hl'⟩
  clear hl'
  obtain ⟨n_12, hn_12⟩ : ∃ n : Nat, (101 - i3384.toInt).toNat < n := ⟨_, Nat.lt_succ_self _⟩
  induction n_12 generalizing i3384 i3385 i3386 ls with
  | zero => exact absurd hn_12 (Nat.not_lt_zero _)
  | succ n_12 ih_12 =>
    refine lv_iload hx hb dX11_stepsToMeet_12 (lv_at hl 0 rfl) ?_
    refine lv_bipush (v := 100) hx hb dX11_stepsToMeet_14 (by decide) ?_
    refine lv_icmp_gt (tgt := 55) hx hb dX11_stepsToMeet_16 (by decide) (fun c3387 => ?_) (fun c3387 => ?_)
    · replace c3387 := lt_i c3387
      refine lv_iconst (v := (-1)) hx hb dX11_stepsToMeet_55 (by decide) ?_
      exact ro_ret hC hr hk dX11_stepsToMeet_56 trivial
    · replace c3387 := nlt_i c3387
      refine lv_iload_n hx hb dX11_stepsToMeet_19 rfl (lv_at hl 2 rfl) ?_
      refine lv_iload hx hb dX11_stepsToMeet_20 (lv_at hl 1 rfl) ?_
      refine lv_iand hx hb dX11_stepsToMeet_22 ?_
      refine lv_topi (fun v3388 ev3388 => ?_)
      refine lv_if_eq (tgt := 29) hx hb dX11_stepsToMeet_23 (by decide) (fun c3389 => ?_) (fun c3389 => ?_)
      · replace c3389 := eq_i c3389
        refine lv_aload_n hx hb dX11_stepsToMeet_29 rfl (lv_at hl 3 rfl) ?_
        refine va_get (D := D) (ci := 10) (v := .ref he) (C := RX11) (T := TX11) (N := 12) hx hb hts in_X11 hown hE.1 hP 0 rfl rfl 1 (by decide) (hts _ w_511) (fun _ h9 => h9) rfl dX11_stepsToMeet_30 ?_
        refine lv_iload_n hx hb dX11_stepsToMeet_33 rfl (lv_at hl 2 rfl) ?_
        refine ro_V (As := [.int i3386]) (rest := []) hC hE kV_X11_402 (c_X10_spreadAnyhow l D K he hea0 hea1 hea2 hea3 hea4 hea5 hea6 hea7 hen8 hen9 hen10 hen11 hef0 i3386) (hP.sub (ws' := [(he, .inr (9, [.ref hea0, .ref hea1, .ref hea2, .ref hea3, .ref hea4, .ref hea5, .ref hea6, .ref hea7, .int hen8, .int hen9, .int hen10, .int hen11])), (hea0, .inl (K 1, 40, .inl hef0))]) [1, 2] rfl) 0 9 rfl rfl rfl hl.1 rfl (Nat.le_of_ble_eq_true rfl) (by decide) (by decide) dX11_stepsToMeet_34 (fun r3390 _ => ?_)
        refine lv_istore_n (lv' := [(3, .int r3390), (5, .int i3384), (4, .int i3385), (0, .ref x), (1, .int p0), (2, .int p1)]) hx hb dX11_stepsToMeet_37 rfl hl (by decide) rfl (fun ls hl => ?_)
        refine lv_aload_n hx hb dX11_stepsToMeet_38 rfl (lv_at hl 3 rfl) ?_
        refine va_get (D := D) (ci := 10) (v := .ref he) (C := RX11) (T := TX11) (N := 12) hx hb hts in_X11 hown hE.1 hP 0 rfl rfl 1 (by decide) (hts _ w_511) (fun _ h9 => h9) rfl dX11_stepsToMeet_39 ?_
        refine lv_iload hx hb dX11_stepsToMeet_42 (lv_at hl 2 rfl) ?_
        refine ro_V (As := [.int i3385]) (rest := []) hC hE kV_X11_402 (c_X10_spreadAnyhow l D K he hea0 hea1 hea2 hea3 hea4 hea5 hea6 hea7 hen8 hen9 hen10 hen11 hef0 i3385) (hP.sub (ws' := [(he, .inr (9, [.ref hea0, .ref hea1, .ref hea2, .ref hea3, .ref hea4, .ref hea5, .ref hea6, .ref hea7, .int hen8, .int hen9, .int hen10, .int hen11])), (hea0, .inl (K 1, 40, .inl hef0))]) [1, 2] rfl) 0 9 rfl rfl rfl hl.1 rfl (Nat.le_of_ble_eq_true rfl) (by decide) (by decide) dX11_stepsToMeet_44 (fun r3391 _ => ?_)
        refine lv_istore (lv' := [(4, .int r3391), (3, .int r3390), (5, .int i3384), (0, .ref x), (1, .int p0), (2, .int p1)]) hx hb dX11_stepsToMeet_47 hl (by decide) rfl (fun ls hl => ?_)
        obtain ⟨v3392, ev3392⟩ : ∃ z : Int32, z = i3384 + 1 := ⟨_, rfl⟩
        refine lv_iinc (v := v3392) (lv' := [(5, .int v3392), (4, .int r3391), (3, .int r3390), (0, .ref x), (1, .int p0), (2, .int p1)]) hx hb dX11_stepsToMeet_49 hl (k := 2) rfl (by rw [ev3392]; rfl) (by decide) rfl (fun ls hl => ?_)
        refine lv_goto (tgt := 12) hx hb dX11_stepsToMeet_52 (by decide) ?_
        have tv3392 : v3392.toInt = (i3384 : Int32).toInt + (1 : Int32).toInt := add_i ev3392 (by omega) (by omega)
        exact ih_12 (i3384 := v3392) (i3385 := r3391) (i3386 := r3390) (hi_12 := by omega) (ls := ls) (hn_12 := by omega) (hl := lv_sub hl [0, 1, 2, 3, 4, 5] rfl)
      · replace c3389 := ne_i c3389
        refine lv_iload hx hb dX11_stepsToMeet_26 (lv_at hl 0 rfl) ?_
        exact ro_ret hC hr hk dX11_stepsToMeet_28 trivial
set_option maxRecDepth 40000 in
set_option maxHeartbeats 4000000 in
theorem c_X11_refuseReading (l : Launch) (D : va_G) (K : Nat → ClassId) (x : Nat) (rd : Nat) (he : Nat) (pa : Nat) (wk : Nat) (ro : Nat) (mi : Nat) (se : Nat) (pl : Nat) (co : Nat) (tr : Nat) (iw : Nat) (ip : Nat) (hea0 : Nat) (hea1 : Nat) (hea2 : Nat) (hea3 : Nat) (hea4 : Nat) (hea5 : Nat) (hea6 : Nat) (hea7 : Nat) (roa0 : Nat) (roa1 : Nat) (roa2 : Nat) (hen8 : Int32) (hen9 : Int32) (hen10 : Int32) (hen11 : Int32) (rof0 : Nat → Int64) (rof2 : Nat → Int32) (p0 : Int32) (hsz : ∀ j, j < 4 → -1 ≤ (rof2 j).toInt ∧ (rof2 j).toInt ≤ 60) : Ro l D K yX11_refuseReading cX11_refuseReading 3 (some .int) 4 87 [.ref x, .int p0] [(x, .inr (10, [.ref rd, .ref he, .ref pa, .ref wk, .ref ro, .ref mi, .ref se, .ref pl, .ref co, .ref tr, .ref iw, .ref ip])), (he, .inr (9, [.ref hea0, .ref hea1, .ref hea2, .ref hea3, .ref hea4, .ref hea5, .ref hea6, .ref hea7, .int hen8, .int hen9, .int hen10, .int hen11])), (ro, .inr (5, [.ref roa0, .ref roa1, .ref roa2])), (roa0, .inl (K 2, 240, .inr (.inl rof0))), (roa2, .inl (K 1, 4, .inl rof2))] (fun r => (r = (-2)) ∨ (r = (-6)) ∨ (r = 0)) := by
  refine ro_of (by decide) (Nat.le_of_ble_eq_true rfl) ?_
  intro p e s m below meth c hC hr hk hE hP ls hl
  replace hC : CallFix p m c cX11_refuseReading 3 s [.ref x, .int p0].toArray wl RX11 := hC
  have hx := hC.1
  have hb := hC.2.1
  have hml := hC.2.2.1
  have hown := hC.2.2.2.1
  have hts := hC.2.2.2.2
  replace hl : lv_has ls 3 [(0, .ref x), (1, .int p0)] := hl
  have kc_0 : (0 : Int32).toInt = 0 := by decide
  have kc_1 : (1 : Int32).toInt = 1 := by decide
  have kc_5 : (5 : Int32).toInt = 5 := by decide
  have kc_10 : (10 : Int32).toInt = 10 := by decide
  have kc_60 : (60 : Int32).toInt = 60 := by decide
  refine lv_iload_n hx hb dX11_refuseReading_0 rfl (lv_at hl 1 rfl) ?_
  refine ro_S (As := [.int p0]) (rest := []) hC hE kS_X11_352 (c_X11_isSlot l D K p0) (hP.sub (ws' := []) [] rfl) rfl hl.1 rfl (Nat.le_of_ble_eq_true rfl) (by decide) (by decide) dX11_refuseReading_1 (fun r3396 hq => ?_)
  rcases hq with ⟨rfl, h3393⟩ | ⟨rfl, h3394, h3395⟩
  · refine lv_if_eq (tgt := 17) hx hb dX11_refuseReading_4 (by decide) (fun _ => ?_) (fun h => absurd h (by decide))
    refine lv_bipush (v := (-2)) hx hb dX11_refuseReading_17 (by decide) ?_
    exact ro_ret hC hr hk dX11_refuseReading_19 (Or.inl rfl)
  · refine lv_if_eq (tgt := 17) hx hb dX11_refuseReading_4 (by decide) (fun h => absurd h (by decide)) (fun _ => ?_)
    refine lv_aload_n hx hb dX11_refuseReading_7 rfl (lv_at hl 0 rfl) ?_
    refine va_get (D := D) (ci := 10) (v := .ref he) (C := RX11) (T := TX11) (N := 12) hx hb hts in_X11 hown hE.1 hP 0 rfl rfl 1 (by decide) (hts _ w_511) (fun _ h9 => h9) rfl dX11_refuseReading_8 ?_
    refine ro_V (As := []) (rest := []) hC hE kV_X11_185 (c_X10_stands l D K he hea0 hea1 hea2 hea3 hea4 hea5 hea6 hea7 hen8 hen9 hen10 hen11) (hP.sub (ws' := [(he, .inr (9, [.ref hea0, .ref hea1, .ref hea2, .ref hea3, .ref hea4, .ref hea5, .ref hea6, .ref hea7, .int hen8, .int hen9, .int hen10, .int hen11]))]) [1] rfl) 0 9 rfl rfl rfl hl.1 rfl (Nat.le_of_ble_eq_true rfl) (by decide) (by decide) dX11_refuseReading_11 (fun r3397 hq => ?_)
    rcases hq with rfl | rfl
    · refine lv_if_ne (tgt := 20) hx hb dX11_refuseReading_14 (by decide) (fun h => absurd h (by decide)) (fun _ => ?_)
      refine lv_bipush (v := (-2)) hx hb dX11_refuseReading_17 (by decide) ?_
      exact ro_ret hC hr hk dX11_refuseReading_19 (Or.inl rfl)
    · refine lv_if_ne (tgt := 20) hx hb dX11_refuseReading_14 (by decide) (fun _ => ?_) (fun h => absurd h (by decide))
      refine lv_aload_n hx hb dX11_refuseReading_20 rfl (lv_at hl 0 rfl) ?_
      refine va_get (D := D) (ci := 10) (v := .ref ro) (C := RX11) (T := TX11) (N := 12) hx hb hts in_X11 hown hE.1 hP 0 rfl rfl 4 (by decide) (hts _ w_523) (fun _ h9 => h9) rfl dX11_refuseReading_21 ?_
      refine lv_iload_n hx hb dX11_refuseReading_24 rfl (lv_at hl 1 rfl) ?_
      refine ro_V (As := [.int p0]) (rest := []) hC hE kV_X11_358 (c_X5_has l D K ro roa0 roa1 roa2 rof2 p0 hsz) (hP.sub (ws' := [(ro, .inr (5, [.ref roa0, .ref roa1, .ref roa2])), (roa2, .inl (K 1, 4, .inl rof2))]) [2, 4] rfl) 0 5 rfl rfl rfl hl.1 rfl (Nat.le_of_ble_eq_true rfl) (by decide) (by decide) dX11_refuseReading_25 (fun r3402 hq => ?_)
      rcases hq with ⟨rfl, h3398⟩ | ⟨rfl, h3399, h3400, h3401⟩
      · refine lv_if_ne (tgt := 34) hx hb dX11_refuseReading_28 (by decide) (fun h => absurd h (by decide)) (fun _ => ?_)
        refine lv_bipush (v := (-6)) hx hb dX11_refuseReading_31 (by decide) ?_
        exact ro_ret hC hr hk dX11_refuseReading_33 (Or.inr (Or.inl rfl))
      · refine lv_if_ne (tgt := 34) hx hb dX11_refuseReading_28 (by decide) (fun _ => ?_) (fun h => absurd h (by decide))
        refine lv_aload_n hx hb dX11_refuseReading_34 rfl (lv_at hl 0 rfl) ?_
        refine va_get (D := D) (ci := 10) (v := .ref ro) (C := RX11) (T := TX11) (N := 12) hx hb hts in_X11 hown hE.1 hP 0 rfl rfl 4 (by decide) (hts _ w_523) (fun _ h9 => h9) rfl dX11_refuseReading_35 ?_
        refine lv_iload_n hx hb dX11_refuseReading_38 rfl (lv_at hl 1 rfl) ?_
        refine ro_V (As := [.int p0]) (rest := []) hC hE kV_X11_201 (c_X5_size l D K ro roa0 roa1 roa2 rof2 p0 hsz) (hP.sub (ws' := [(ro, .inr (5, [.ref roa0, .ref roa1, .ref roa2])), (roa2, .inl (K 1, 4, .inl rof2))]) [2, 4] rfl) 0 5 rfl rfl rfl hl.1 rfl (Nat.le_of_ble_eq_true rfl) (by decide) (by decide) dX11_refuseReading_39 (fun r3409 hq => ?_)
        rcases hq with ⟨rfl, h3403⟩ | ⟨h3404, h3405, h3406, h3407, h3408⟩
        · refine lv_iconst (v := 2) hx hb dX11_refuseReading_42 (by decide) ?_
          refine lv_irem hx hb dX11_refuseReading_43 (by decide) ?_
          refine tc (y := 0) (by decide) ?_
          refine lv_if_eq (tgt := 50) hx hb dX11_refuseReading_44 (by decide) (fun _ => ?_) (fun h => absurd h (by decide))
          refine lv_iconst (v := 0) hx hb dX11_refuseReading_50 (by decide) ?_
          refine lv_istore_n (lv' := [(2, .int 0), (0, .ref x), (1, .int p0)]) hx hb dX11_refuseReading_51 rfl hl (by decide) rfl (fun ls hl => ?_)
          have hl' := hl; clear hl
          obtain ⟨i3434, hi_52, hl⟩ : ∃ (i3434 : Int32), ((0 : Int) ≤ i3434.toInt) ∧ lv_has ls 3 [(2, .int i3434), (0, .ref x), (1, .int p0)] := ⟨_, by omega, hl'⟩
          clear hl'
          obtain ⟨n_52, hn_52⟩ : ∃ n : Nat, (60 - i3434.toInt).toNat < n := ⟨_, Nat.lt_succ_self _⟩
          induction n_52 generalizing i3434 ls with
          | zero => exact absurd hn_52 (Nat.not_lt_zero _)
          | succ n_52 ih_52 =>
            refine lv_iload_n hx hb dX11_refuseReading_52 rfl (lv_at hl 0 rfl) ?_
            refine lv_aload_n hx hb dX11_refuseReading_53 rfl (lv_at hl 1 rfl) ?_
            refine va_get (D := D) (ci := 10) (v := .ref ro) (C := RX11) (T := TX11) (N := 12) hx hb hts in_X11 hown hE.1 hP 0 rfl rfl 4 (by decide) (hts _ w_523) (fun _ h9 => h9) rfl dX11_refuseReading_54 ?_
            refine lv_iload_n hx hb dX11_refuseReading_57 rfl (lv_at hl 2 rfl) ?_
            refine ro_V (As := [.int p0]) (rest := [.int i3434]) hC hE kV_X11_201 (c_X5_size l D K ro roa0 roa1 roa2 rof2 p0 hsz) (hP.sub (ws' := [(ro, .inr (5, [.ref roa0, .ref roa1, .ref roa2])), (roa2, .inl (K 1, 4, .inl rof2))]) [2, 4] rfl) 0 5 rfl rfl rfl hl.1 rfl (Nat.le_of_ble_eq_true rfl) (by decide) (by decide) dX11_refuseReading_58 (fun r3441 hq => ?_)
            rcases hq with ⟨rfl, h3435⟩ | ⟨h3436, h3437, h3438, h3439, h3440⟩
            · refine lv_icmp_ge (tgt := 103) hx hb dX11_refuseReading_61 (by decide) (fun c3442 => ?_) (fun c3442 => ?_)
              · replace c3442 := le_i c3442
                refine lv_iconst (v := 0) hx hb dX11_refuseReading_103 (by decide) ?_
                exact ro_ret hC hr hk dX11_refuseReading_104 (Or.inr (Or.inr rfl))
              · replace c3442 := nle_i c3442
                refine lv_iload_n hx hb dX11_refuseReading_64 rfl (lv_at hl 0 rfl) ?_
                refine lv_bipush (v := 60) hx hb dX11_refuseReading_65 (by decide) ?_
                refine lv_icmp_ge (tgt := 103) hx hb dX11_refuseReading_67 (by decide) (fun c3443 => ?_) (fun c3443 => ?_)
                · replace c3443 := le_i c3443
                  refine lv_iconst (v := 0) hx hb dX11_refuseReading_103 (by decide) ?_
                  exact ro_ret hC hr hk dX11_refuseReading_104 (Or.inr (Or.inr rfl))
                · replace c3443 := nle_i c3443
                  refine lv_aload_n hx hb dX11_refuseReading_70 rfl (lv_at hl 1 rfl) ?_
                  refine va_get (D := D) (ci := 10) (v := .ref ro) (C := RX11) (T := TX11) (N := 12) hx hb hts in_X11 hown hE.1 hP 0 rfl rfl 4 (by decide) (hts _ w_523) (fun _ h9 => h9) rfl dX11_refuseReading_71 ?_
                  refine lv_iload_n hx hb dX11_refuseReading_74 rfl (lv_at hl 2 rfl) ?_
                  refine lv_iload_n hx hb dX11_refuseReading_75 rfl (lv_at hl 0 rfl) ?_
                  refine lv_iload_n hx hb dX11_refuseReading_76 rfl (lv_at hl 0 rfl) ?_
                  refine lv_iconst (v := 2) hx hb dX11_refuseReading_77 (by decide) ?_
                  refine lv_irem hx hb dX11_refuseReading_78 (by decide) ?_
                  refine lv_topi (fun v3444 ev3444 => ?_)
                  have tv3444 := rem_i (n := 2) ev3444 (by decide) (by decide)
                  refine lv_if_ne (tgt := 86) hx hb dX11_refuseReading_79 (by decide) (fun c3445 => ?_) (fun c3445 => ?_)
                  · replace c3445 := ne_i c3445
                    refine lv_bipush (v := 10) hx hb dX11_refuseReading_86 (by decide) ?_
                    refine ro_V (As := [.int p0, .int i3434, .int 10]) (rest := []) hC hE kV_X11_386 (c_X5_isWithin l D K ro roa0 roa1 roa2 rof0 rof2 p0 i3434 10 hsz) (hP.sub (ws' := [(ro, .inr (5, [.ref roa0, .ref roa1, .ref roa2])), (roa0, .inl (K 2, 240, .inr (.inl rof0))), (roa2, .inl (K 1, 4, .inl rof2))]) [2, 3, 4] rfl) 0 5 rfl rfl rfl hl.1 rfl (Nat.le_of_ble_eq_true rfl) (by decide) (by decide) dX11_refuseReading_88 (fun r3446 hq => ?_)
                    rcases hq with rfl | rfl
                    · refine lv_if_ne (tgt := 97) hx hb dX11_refuseReading_91 (by decide) (fun h => absurd h (by decide)) (fun _ => ?_)
                      refine lv_bipush (v := (-2)) hx hb dX11_refuseReading_94 (by decide) ?_
                      exact ro_ret hC hr hk dX11_refuseReading_96 (Or.inl rfl)
                    · refine lv_if_ne (tgt := 97) hx hb dX11_refuseReading_91 (by decide) (fun _ => ?_) (fun h => absurd h (by decide))
                      obtain ⟨v3447, ev3447⟩ : ∃ z : Int32, z = i3434 + 1 := ⟨_, rfl⟩
                      refine lv_iinc (v := v3447) (lv' := [(2, .int v3447), (0, .ref x), (1, .int p0)]) hx hb dX11_refuseReading_97 hl (k := 0) rfl (by rw [ev3447]; rfl) (by decide) rfl (fun ls hl => ?_)
                      refine lv_goto (tgt := 52) hx hb dX11_refuseReading_100 (by decide) ?_
                      have tv3447 : v3447.toInt = (i3434 : Int32).toInt + (1 : Int32).toInt := add_i ev3447 (by omega) (by omega)
                      exact ih_52 (i3434 := v3447) (hi_52 := by omega) (ls := ls) (hn_52 := by omega) (hl := lv_sub hl [0, 1, 2] rfl)
                  · replace c3445 := eq_i c3445
                    refine lv_iconst (v := 5) hx hb dX11_refuseReading_82 (by decide) ?_
                    refine lv_goto (tgt := 88) hx hb dX11_refuseReading_83 (by decide) ?_
                    refine ro_V (As := [.int p0, .int i3434, .int 5]) (rest := []) hC hE kV_X11_386 (c_X5_isWithin l D K ro roa0 roa1 roa2 rof0 rof2 p0 i3434 5 hsz) (hP.sub (ws' := [(ro, .inr (5, [.ref roa0, .ref roa1, .ref roa2])), (roa0, .inl (K 2, 240, .inr (.inl rof0))), (roa2, .inl (K 1, 4, .inl rof2))]) [2, 3, 4] rfl) 0 5 rfl rfl rfl hl.1 rfl (Nat.le_of_ble_eq_true rfl) (by decide) (by decide) dX11_refuseReading_88 (fun r3448 hq => ?_)
                    rcases hq with rfl | rfl
                    · refine lv_if_ne (tgt := 97) hx hb dX11_refuseReading_91 (by decide) (fun h => absurd h (by decide)) (fun _ => ?_)
                      refine lv_bipush (v := (-2)) hx hb dX11_refuseReading_94 (by decide) ?_
                      exact ro_ret hC hr hk dX11_refuseReading_96 (Or.inl rfl)
                    · refine lv_if_ne (tgt := 97) hx hb dX11_refuseReading_91 (by decide) (fun _ => ?_) (fun h => absurd h (by decide))
                      obtain ⟨v3449, ev3449⟩ : ∃ z : Int32, z = i3434 + 1 := ⟨_, rfl⟩
                      refine lv_iinc (v := v3449) (lv' := [(2, .int v3449), (0, .ref x), (1, .int p0)]) hx hb dX11_refuseReading_97 hl (k := 0) rfl (by rw [ev3449]; rfl) (by decide) rfl (fun ls hl => ?_)
                      refine lv_goto (tgt := 52) hx hb dX11_refuseReading_100 (by decide) ?_
                      have tv3449 : v3449.toInt = (i3434 : Int32).toInt + (1 : Int32).toInt := add_i ev3449 (by omega) (by omega)
                      exact ih_52 (i3434 := v3449) (hi_52 := by omega) (ls := ls) (hn_52 := by omega) (hl := lv_sub hl [0, 1, 2] rfl)
            · refine lv_icmp_ge (tgt := 103) hx hb dX11_refuseReading_61 (by decide) (fun c3450 => ?_) (fun c3450 => ?_)
              · replace c3450 := le_i c3450
                refine lv_iconst (v := 0) hx hb dX11_refuseReading_103 (by decide) ?_
                exact ro_ret hC hr hk dX11_refuseReading_104 (Or.inr (Or.inr rfl))
              · replace c3450 := nle_i c3450
                refine lv_iload_n hx hb dX11_refuseReading_64 rfl (lv_at hl 0 rfl) ?_
                refine lv_bipush (v := 60) hx hb dX11_refuseReading_65 (by decide) ?_
                refine lv_icmp_ge (tgt := 103) hx hb dX11_refuseReading_67 (by decide) (fun c3451 => ?_) (fun c3451 => ?_)
                · replace c3451 := le_i c3451
                  refine lv_iconst (v := 0) hx hb dX11_refuseReading_103 (by decide) ?_
                  exact ro_ret hC hr hk dX11_refuseReading_104 (Or.inr (Or.inr rfl))
                · replace c3451 := nle_i c3451
                  refine lv_aload_n hx hb dX11_refuseReading_70 rfl (lv_at hl 1 rfl) ?_
                  refine va_get (D := D) (ci := 10) (v := .ref ro) (C := RX11) (T := TX11) (N := 12) hx hb hts in_X11 hown hE.1 hP 0 rfl rfl 4 (by decide) (hts _ w_523) (fun _ h9 => h9) rfl dX11_refuseReading_71 ?_
                  refine lv_iload_n hx hb dX11_refuseReading_74 rfl (lv_at hl 2 rfl) ?_
                  refine lv_iload_n hx hb dX11_refuseReading_75 rfl (lv_at hl 0 rfl) ?_
                  refine lv_iload_n hx hb dX11_refuseReading_76 rfl (lv_at hl 0 rfl) ?_
                  refine lv_iconst (v := 2) hx hb dX11_refuseReading_77 (by decide) ?_
                  refine lv_irem hx hb dX11_refuseReading_78 (by decide) ?_
                  refine lv_topi (fun v3452 ev3452 => ?_)
                  have tv3452 := rem_i (n := 2) ev3452 (by decide) (by decide)
                  refine lv_if_ne (tgt := 86) hx hb dX11_refuseReading_79 (by decide) (fun c3453 => ?_) (fun c3453 => ?_)
                  · replace c3453 := ne_i c3453
                    refine lv_bipush (v := 10) hx hb dX11_refuseReading_86 (by decide) ?_
                    refine ro_V (As := [.int p0, .int i3434, .int 10]) (rest := []) hC hE kV_X11_386 (c_X5_isWithin l D K ro roa0 roa1 roa2 rof0 rof2 p0 i3434 10 hsz) (hP.sub (ws' := [(ro, .inr (5, [.ref roa0, .ref roa1, .ref roa2])), (roa0, .inl (K 2, 240, .inr (.inl rof0))), (roa2, .inl (K 1, 4, .inl rof2))]) [2, 3, 4] rfl) 0 5 rfl rfl rfl hl.1 rfl (Nat.le_of_ble_eq_true rfl) (by decide) (by decide) dX11_refuseReading_88 (fun r3454 hq => ?_)
                    rcases hq with rfl | rfl
                    · refine lv_if_ne (tgt := 97) hx hb dX11_refuseReading_91 (by decide) (fun h => absurd h (by decide)) (fun _ => ?_)
                      refine lv_bipush (v := (-2)) hx hb dX11_refuseReading_94 (by decide) ?_
                      exact ro_ret hC hr hk dX11_refuseReading_96 (Or.inl rfl)
                    · refine lv_if_ne (tgt := 97) hx hb dX11_refuseReading_91 (by decide) (fun _ => ?_) (fun h => absurd h (by decide))
                      obtain ⟨v3455, ev3455⟩ : ∃ z : Int32, z = i3434 + 1 := ⟨_, rfl⟩
                      refine lv_iinc (v := v3455) (lv' := [(2, .int v3455), (0, .ref x), (1, .int p0)]) hx hb dX11_refuseReading_97 hl (k := 0) rfl (by rw [ev3455]; rfl) (by decide) rfl (fun ls hl => ?_)
                      refine lv_goto (tgt := 52) hx hb dX11_refuseReading_100 (by decide) ?_
                      have tv3455 : v3455.toInt = (i3434 : Int32).toInt + (1 : Int32).toInt := add_i ev3455 (by omega) (by omega)
                      exact ih_52 (i3434 := v3455) (hi_52 := by omega) (ls := ls) (hn_52 := by omega) (hl := lv_sub hl [0, 1, 2] rfl)
                  · replace c3453 := eq_i c3453
                    refine lv_iconst (v := 5) hx hb dX11_refuseReading_82 (by decide) ?_
                    refine lv_goto (tgt := 88) hx hb dX11_refuseReading_83 (by decide) ?_
                    refine ro_V (As := [.int p0, .int i3434, .int 5]) (rest := []) hC hE kV_X11_386 (c_X5_isWithin l D K ro roa0 roa1 roa2 rof0 rof2 p0 i3434 5 hsz) (hP.sub (ws' := [(ro, .inr (5, [.ref roa0, .ref roa1, .ref roa2])), (roa0, .inl (K 2, 240, .inr (.inl rof0))), (roa2, .inl (K 1, 4, .inl rof2))]) [2, 3, 4] rfl) 0 5 rfl rfl rfl hl.1 rfl (Nat.le_of_ble_eq_true rfl) (by decide) (by decide) dX11_refuseReading_88 (fun r3456 hq => ?_)
                    rcases hq with rfl | rfl
                    · refine lv_if_ne (tgt := 97) hx hb dX11_refuseReading_91 (by decide) (fun h => absurd h (by decide)) (fun _ => ?_)
                      refine lv_bipush (v := (-2)) hx hb dX11_refuseReading_94 (by decide) ?_
                      exact ro_ret hC hr hk dX11_refuseReading_96 (Or.inl rfl)
                    · refine lv_if_ne (tgt := 97) hx hb dX11_refuseReading_91 (by decide) (fun _ => ?_) (fun h => absurd h (by decide))
                      obtain ⟨v3457, ev3457⟩ : ∃ z : Int32, z = i3434 + 1 := ⟨_, rfl⟩
                      refine lv_iinc (v := v3457) (lv' := [(2, .int v3457), (0, .ref x), (1, .int p0)]) hx hb dX11_refuseReading_97 hl (k := 0) rfl (by rw [ev3457]; rfl) (by decide) rfl (fun ls hl => ?_)
                      refine lv_goto (tgt := 52) hx hb dX11_refuseReading_100 (by decide) ?_
                      have tv3457 : v3457.toInt = (i3434 : Int32).toInt + (1 : Int32).toInt := add_i ev3457 (by omega) (by omega)
                      exact ih_52 (i3434 := v3457) (hi_52 := by omega) (ls := ls) (hn_52 := by omega) (hl := lv_sub hl [0, 1, 2] rfl)
        · refine lv_iconst (v := 2) hx hb dX11_refuseReading_42 (by decide) ?_
          refine lv_irem hx hb dX11_refuseReading_43 (by decide) ?_
          refine lv_topi (fun v3458 ev3458 => ?_)
          have tv3458 := rem_i (n := 2) ev3458 (by decide) (by decide)
          refine lv_if_eq (tgt := 50) hx hb dX11_refuseReading_44 (by decide) (fun c3459 => ?_) (fun c3459 => ?_)
          · replace c3459 := eq_i c3459
            refine lv_iconst (v := 0) hx hb dX11_refuseReading_50 (by decide) ?_
            refine lv_istore_n (lv' := [(2, .int 0), (0, .ref x), (1, .int p0)]) hx hb dX11_refuseReading_51 rfl hl (by decide) rfl (fun ls hl => ?_)
            have hl' := hl; clear hl
            obtain ⟨i3484, hi_52, hl⟩ : ∃ (i3484 : Int32), ((0 : Int) ≤ i3484.toInt) ∧ lv_has ls 3 [(2, .int i3484), (0, .ref x), (1, .int p0)] := ⟨_, by omega, hl'⟩
            clear hl'
            obtain ⟨n_52, hn_52⟩ : ∃ n : Nat, (60 - i3484.toInt).toNat < n := ⟨_, Nat.lt_succ_self _⟩
            induction n_52 generalizing i3484 ls with
            | zero => exact absurd hn_52 (Nat.not_lt_zero _)
            | succ n_52 ih_52 =>
              refine lv_iload_n hx hb dX11_refuseReading_52 rfl (lv_at hl 0 rfl) ?_
              refine lv_aload_n hx hb dX11_refuseReading_53 rfl (lv_at hl 1 rfl) ?_
              refine va_get (D := D) (ci := 10) (v := .ref ro) (C := RX11) (T := TX11) (N := 12) hx hb hts in_X11 hown hE.1 hP 0 rfl rfl 4 (by decide) (hts _ w_523) (fun _ h9 => h9) rfl dX11_refuseReading_54 ?_
              refine lv_iload_n hx hb dX11_refuseReading_57 rfl (lv_at hl 2 rfl) ?_
              refine ro_V (As := [.int p0]) (rest := [.int i3484]) hC hE kV_X11_201 (c_X5_size l D K ro roa0 roa1 roa2 rof2 p0 hsz) (hP.sub (ws' := [(ro, .inr (5, [.ref roa0, .ref roa1, .ref roa2])), (roa2, .inl (K 1, 4, .inl rof2))]) [2, 4] rfl) 0 5 rfl rfl rfl hl.1 rfl (Nat.le_of_ble_eq_true rfl) (by decide) (by decide) dX11_refuseReading_58 (fun r3491 hq => ?_)
              rcases hq with ⟨rfl, h3485⟩ | ⟨h3486, h3487, h3488, h3489, h3490⟩
              · refine lv_icmp_ge (tgt := 103) hx hb dX11_refuseReading_61 (by decide) (fun c3492 => ?_) (fun c3492 => ?_)
                · replace c3492 := le_i c3492
                  refine lv_iconst (v := 0) hx hb dX11_refuseReading_103 (by decide) ?_
                  exact ro_ret hC hr hk dX11_refuseReading_104 (Or.inr (Or.inr rfl))
                · replace c3492 := nle_i c3492
                  refine lv_iload_n hx hb dX11_refuseReading_64 rfl (lv_at hl 0 rfl) ?_
                  refine lv_bipush (v := 60) hx hb dX11_refuseReading_65 (by decide) ?_
                  refine lv_icmp_ge (tgt := 103) hx hb dX11_refuseReading_67 (by decide) (fun c3493 => ?_) (fun c3493 => ?_)
                  · replace c3493 := le_i c3493
                    refine lv_iconst (v := 0) hx hb dX11_refuseReading_103 (by decide) ?_
                    exact ro_ret hC hr hk dX11_refuseReading_104 (Or.inr (Or.inr rfl))
                  · replace c3493 := nle_i c3493
                    refine lv_aload_n hx hb dX11_refuseReading_70 rfl (lv_at hl 1 rfl) ?_
                    refine va_get (D := D) (ci := 10) (v := .ref ro) (C := RX11) (T := TX11) (N := 12) hx hb hts in_X11 hown hE.1 hP 0 rfl rfl 4 (by decide) (hts _ w_523) (fun _ h9 => h9) rfl dX11_refuseReading_71 ?_
                    refine lv_iload_n hx hb dX11_refuseReading_74 rfl (lv_at hl 2 rfl) ?_
                    refine lv_iload_n hx hb dX11_refuseReading_75 rfl (lv_at hl 0 rfl) ?_
                    refine lv_iload_n hx hb dX11_refuseReading_76 rfl (lv_at hl 0 rfl) ?_
                    refine lv_iconst (v := 2) hx hb dX11_refuseReading_77 (by decide) ?_
                    refine lv_irem hx hb dX11_refuseReading_78 (by decide) ?_
                    refine lv_topi (fun v3494 ev3494 => ?_)
                    have tv3494 := rem_i (n := 2) ev3494 (by decide) (by decide)
                    refine lv_if_ne (tgt := 86) hx hb dX11_refuseReading_79 (by decide) (fun c3495 => ?_) (fun c3495 => ?_)
                    · replace c3495 := ne_i c3495
                      refine lv_bipush (v := 10) hx hb dX11_refuseReading_86 (by decide) ?_
                      refine ro_V (As := [.int p0, .int i3484, .int 10]) (rest := []) hC hE kV_X11_386 (c_X5_isWithin l D K ro roa0 roa1 roa2 rof0 rof2 p0 i3484 10 hsz) (hP.sub (ws' := [(ro, .inr (5, [.ref roa0, .ref roa1, .ref roa2])), (roa0, .inl (K 2, 240, .inr (.inl rof0))), (roa2, .inl (K 1, 4, .inl rof2))]) [2, 3, 4] rfl) 0 5 rfl rfl rfl hl.1 rfl (Nat.le_of_ble_eq_true rfl) (by decide) (by decide) dX11_refuseReading_88 (fun r3496 hq => ?_)
                      rcases hq with rfl | rfl
                      · refine lv_if_ne (tgt := 97) hx hb dX11_refuseReading_91 (by decide) (fun h => absurd h (by decide)) (fun _ => ?_)
                        refine lv_bipush (v := (-2)) hx hb dX11_refuseReading_94 (by decide) ?_
                        exact ro_ret hC hr hk dX11_refuseReading_96 (Or.inl rfl)
                      · refine lv_if_ne (tgt := 97) hx hb dX11_refuseReading_91 (by decide) (fun _ => ?_) (fun h => absurd h (by decide))
                        obtain ⟨v3497, ev3497⟩ : ∃ z : Int32, z = i3484 + 1 := ⟨_, rfl⟩
                        refine lv_iinc (v := v3497) (lv' := [(2, .int v3497), (0, .ref x), (1, .int p0)]) hx hb dX11_refuseReading_97 hl (k := 0) rfl (by rw [ev3497]; rfl) (by decide) rfl (fun ls hl => ?_)
                        refine lv_goto (tgt := 52) hx hb dX11_refuseReading_100 (by decide) ?_
                        have tv3497 : v3497.toInt = (i3484 : Int32).toInt + (1 : Int32).toInt := add_i ev3497 (by omega) (by omega)
                        exact ih_52 (i3484 := v3497) (hi_52 := by omega) (ls := ls) (hn_52 := by omega) (hl := lv_sub hl [0, 1, 2] rfl)
                    · replace c3495 := eq_i c3495
                      refine lv_iconst (v := 5) hx hb dX11_refuseReading_82 (by decide) ?_
                      refine lv_goto (tgt := 88) hx hb dX11_refuseReading_83 (by decide) ?_
                      refine ro_V (As := [.int p0, .int i3484, .int 5]) (rest := []) hC hE kV_X11_386 (c_X5_isWithin l D K ro roa0 roa1 roa2 rof0 rof2 p0 i3484 5 hsz) (hP.sub (ws' := [(ro, .inr (5, [.ref roa0, .ref roa1, .ref roa2])), (roa0, .inl (K 2, 240, .inr (.inl rof0))), (roa2, .inl (K 1, 4, .inl rof2))]) [2, 3, 4] rfl) 0 5 rfl rfl rfl hl.1 rfl (Nat.le_of_ble_eq_true rfl) (by decide) (by decide) dX11_refuseReading_88 (fun r3498 hq => ?_)
                      rcases hq with rfl | rfl
                      · refine lv_if_ne (tgt := 97) hx hb dX11_refuseReading_91 (by decide) (fun h => absurd h (by decide)) (fun _ => ?_)
                        refine lv_bipush (v := (-2)) hx hb dX11_refuseReading_94 (by decide) ?_
                        exact ro_ret hC hr hk dX11_refuseReading_96 (Or.inl rfl)
                      · refine lv_if_ne (tgt := 97) hx hb dX11_refuseReading_91 (by decide) (fun _ => ?_) (fun h => absurd h (by decide))
                        obtain ⟨v3499, ev3499⟩ : ∃ z : Int32, z = i3484 + 1 := ⟨_, rfl⟩
                        refine lv_iinc (v := v3499) (lv' := [(2, .int v3499), (0, .ref x), (1, .int p0)]) hx hb dX11_refuseReading_97 hl (k := 0) rfl (by rw [ev3499]; rfl) (by decide) rfl (fun ls hl => ?_)
                        refine lv_goto (tgt := 52) hx hb dX11_refuseReading_100 (by decide) ?_
                        have tv3499 : v3499.toInt = (i3484 : Int32).toInt + (1 : Int32).toInt := add_i ev3499 (by omega) (by omega)
                        exact ih_52 (i3484 := v3499) (hi_52 := by omega) (ls := ls) (hn_52 := by omega) (hl := lv_sub hl [0, 1, 2] rfl)
              · refine lv_icmp_ge (tgt := 103) hx hb dX11_refuseReading_61 (by decide) (fun c3500 => ?_) (fun c3500 => ?_)
                · replace c3500 := le_i c3500
                  refine lv_iconst (v := 0) hx hb dX11_refuseReading_103 (by decide) ?_
                  exact ro_ret hC hr hk dX11_refuseReading_104 (Or.inr (Or.inr rfl))
                · replace c3500 := nle_i c3500
                  refine lv_iload_n hx hb dX11_refuseReading_64 rfl (lv_at hl 0 rfl) ?_
                  refine lv_bipush (v := 60) hx hb dX11_refuseReading_65 (by decide) ?_
                  refine lv_icmp_ge (tgt := 103) hx hb dX11_refuseReading_67 (by decide) (fun c3501 => ?_) (fun c3501 => ?_)
                  · replace c3501 := le_i c3501
                    refine lv_iconst (v := 0) hx hb dX11_refuseReading_103 (by decide) ?_
                    exact ro_ret hC hr hk dX11_refuseReading_104 (Or.inr (Or.inr rfl))
                  · replace c3501 := nle_i c3501
                    refine lv_aload_n hx hb dX11_refuseReading_70 rfl (lv_at hl 1 rfl) ?_
                    refine va_get (D := D) (ci := 10) (v := .ref ro) (C := RX11) (T := TX11) (N := 12) hx hb hts in_X11 hown hE.1 hP 0 rfl rfl 4 (by decide) (hts _ w_523) (fun _ h9 => h9) rfl dX11_refuseReading_71 ?_
                    refine lv_iload_n hx hb dX11_refuseReading_74 rfl (lv_at hl 2 rfl) ?_
                    refine lv_iload_n hx hb dX11_refuseReading_75 rfl (lv_at hl 0 rfl) ?_
                    refine lv_iload_n hx hb dX11_refuseReading_76 rfl (lv_at hl 0 rfl) ?_
                    refine lv_iconst (v := 2) hx hb dX11_refuseReading_77 (by decide) ?_
                    refine lv_irem hx hb dX11_refuseReading_78 (by decide) ?_
                    refine lv_topi (fun v3502 ev3502 => ?_)
                    have tv3502 := rem_i (n := 2) ev3502 (by decide) (by decide)
                    refine lv_if_ne (tgt := 86) hx hb dX11_refuseReading_79 (by decide) (fun c3503 => ?_) (fun c3503 => ?_)
                    · replace c3503 := ne_i c3503
                      refine lv_bipush (v := 10) hx hb dX11_refuseReading_86 (by decide) ?_
                      refine ro_V (As := [.int p0, .int i3484, .int 10]) (rest := []) hC hE kV_X11_386 (c_X5_isWithin l D K ro roa0 roa1 roa2 rof0 rof2 p0 i3484 10 hsz) (hP.sub (ws' := [(ro, .inr (5, [.ref roa0, .ref roa1, .ref roa2])), (roa0, .inl (K 2, 240, .inr (.inl rof0))), (roa2, .inl (K 1, 4, .inl rof2))]) [2, 3, 4] rfl) 0 5 rfl rfl rfl hl.1 rfl (Nat.le_of_ble_eq_true rfl) (by decide) (by decide) dX11_refuseReading_88 (fun r3504 hq => ?_)
                      rcases hq with rfl | rfl
                      · refine lv_if_ne (tgt := 97) hx hb dX11_refuseReading_91 (by decide) (fun h => absurd h (by decide)) (fun _ => ?_)
                        refine lv_bipush (v := (-2)) hx hb dX11_refuseReading_94 (by decide) ?_
                        exact ro_ret hC hr hk dX11_refuseReading_96 (Or.inl rfl)
                      · refine lv_if_ne (tgt := 97) hx hb dX11_refuseReading_91 (by decide) (fun _ => ?_) (fun h => absurd h (by decide))
                        obtain ⟨v3505, ev3505⟩ : ∃ z : Int32, z = i3484 + 1 := ⟨_, rfl⟩
                        refine lv_iinc (v := v3505) (lv' := [(2, .int v3505), (0, .ref x), (1, .int p0)]) hx hb dX11_refuseReading_97 hl (k := 0) rfl (by rw [ev3505]; rfl) (by decide) rfl (fun ls hl => ?_)
                        refine lv_goto (tgt := 52) hx hb dX11_refuseReading_100 (by decide) ?_
                        have tv3505 : v3505.toInt = (i3484 : Int32).toInt + (1 : Int32).toInt := add_i ev3505 (by omega) (by omega)
                        exact ih_52 (i3484 := v3505) (hi_52 := by omega) (ls := ls) (hn_52 := by omega) (hl := lv_sub hl [0, 1, 2] rfl)
                    · replace c3503 := eq_i c3503
                      refine lv_iconst (v := 5) hx hb dX11_refuseReading_82 (by decide) ?_
                      refine lv_goto (tgt := 88) hx hb dX11_refuseReading_83 (by decide) ?_
                      refine ro_V (As := [.int p0, .int i3484, .int 5]) (rest := []) hC hE kV_X11_386 (c_X5_isWithin l D K ro roa0 roa1 roa2 rof0 rof2 p0 i3484 5 hsz) (hP.sub (ws' := [(ro, .inr (5, [.ref roa0, .ref roa1, .ref roa2])), (roa0, .inl (K 2, 240, .inr (.inl rof0))), (roa2, .inl (K 1, 4, .inl rof2))]) [2, 3, 4] rfl) 0 5 rfl rfl rfl hl.1 rfl (Nat.le_of_ble_eq_true rfl) (by decide) (by decide) dX11_refuseReading_88 (fun r3506 hq => ?_)
                      rcases hq with rfl | rfl
                      · refine lv_if_ne (tgt := 97) hx hb dX11_refuseReading_91 (by decide) (fun h => absurd h (by decide)) (fun _ => ?_)
                        refine lv_bipush (v := (-2)) hx hb dX11_refuseReading_94 (by decide) ?_
                        exact ro_ret hC hr hk dX11_refuseReading_96 (Or.inl rfl)
                      · refine lv_if_ne (tgt := 97) hx hb dX11_refuseReading_91 (by decide) (fun _ => ?_) (fun h => absurd h (by decide))
                        obtain ⟨v3507, ev3507⟩ : ∃ z : Int32, z = i3484 + 1 := ⟨_, rfl⟩
                        refine lv_iinc (v := v3507) (lv' := [(2, .int v3507), (0, .ref x), (1, .int p0)]) hx hb dX11_refuseReading_97 hl (k := 0) rfl (by rw [ev3507]; rfl) (by decide) rfl (fun ls hl => ?_)
                        refine lv_goto (tgt := 52) hx hb dX11_refuseReading_100 (by decide) ?_
                        have tv3507 : v3507.toInt = (i3484 : Int32).toInt + (1 : Int32).toInt := add_i ev3507 (by omega) (by omega)
                        exact ih_52 (i3484 := v3507) (hi_52 := by omega) (ls := ls) (hn_52 := by omega) (hl := lv_sub hl [0, 1, 2] rfl)
          · replace c3459 := ne_i c3459
            refine lv_bipush (v := (-2)) hx hb dX11_refuseReading_47 (by decide) ?_
            exact ro_ret hC hr hk dX11_refuseReading_49 (Or.inl rfl)
set_option maxRecDepth 40000 in
set_option maxHeartbeats 4000000 in
theorem c_X11_fitting (l : Launch) (D : va_G) (K : Nat → ClassId) (x : Nat) (rd : Nat) (he : Nat) (pa : Nat) (wk : Nat) (ro : Nat) (mi : Nat) (se : Nat) (pl : Nat) (co : Nat) (tr : Nat) (iw : Nat) (ip : Nat) (hea0 : Nat) (hea1 : Nat) (hea2 : Nat) (hea3 : Nat) (hea4 : Nat) (hea5 : Nat) (hea6 : Nat) (hea7 : Nat) (roa0 : Nat) (roa1 : Nat) (roa2 : Nat) (hen8 : Int32) (hen9 : Int32) (hen10 : Int32) (hen11 : Int32) (hef0 : Nat → Int32) (hef1 : Nat → Int32) (rof0 : Nat → Int64) (rof2 : Nat → Int32) (p0 : Int32) (p1 : Int32) (hsz : ∀ j, j < 4 → -1 ≤ (rof2 j).toInt ∧ (rof2 j).toInt ≤ 60) : Ro l D K yX11_fitting cX11_fitting 7 (some .int) 4 84 [.ref x, .int p0, .int p1] [(x, .inr (10, [.ref rd, .ref he, .ref pa, .ref wk, .ref ro, .ref mi, .ref se, .ref pl, .ref co, .ref tr, .ref iw, .ref ip])), (he, .inr (9, [.ref hea0, .ref hea1, .ref hea2, .ref hea3, .ref hea4, .ref hea5, .ref hea6, .ref hea7, .int hen8, .int hen9, .int hen10, .int hen11])), (hea0, .inl (K 1, 40, .inl hef0)), (hea1, .inl (K 1, 10, .inl hef1)), (ro, .inr (5, [.ref roa0, .ref roa1, .ref roa2])), (roa0, .inl (K 2, 240, .inr (.inl rof0))), (roa2, .inl (K 1, 4, .inl rof2))] (fun _ => True) := by
  refine ro_of (by decide) (Nat.le_of_ble_eq_true rfl) ?_
  intro p e s m below meth c hC hr hk hE hP ls hl
  replace hC : CallFix p m c cX11_fitting 7 s [.ref x, .int p0, .int p1].toArray wl RX11 := hC
  have hx := hC.1
  have hb := hC.2.1
  have hml := hC.2.2.1
  have hown := hC.2.2.2.1
  have hts := hC.2.2.2.2
  replace hl : lv_has ls 7 [(0, .ref x), (1, .int p0), (2, .int p1)] := hl
  have kc_0 : (0 : Int32).toInt = 0 := by decide
  have kc_1 : (1 : Int32).toInt = 1 := by decide
  have kc_2 : (2 : Int32).toInt = 2 := by decide
  have kc_4 : (4 : Int32).toInt = 4 := by decide
  have kc_60 : (60 : Int32).toInt = 60 := by decide
  refine lv_iload_n hx hb dX11_fitting_0 rfl (lv_at hl 2 rfl) ?_
  refine lv_istore_n (lv' := [(3, .int p1), (0, .ref x), (1, .int p0), (2, .int p1)]) hx hb dX11_fitting_1 rfl hl (by decide) rfl (fun ls hl => ?_)
  refine lv_iconst (v := 0) hx hb dX11_fitting_2 (by decide) ?_
  refine lv_istore (lv' := [(4, .int 0), (3, .int p1), (0, .ref x), (1, .int p0), (2, .int p1)]) hx hb dX11_fitting_3 hl (by decide) rfl (fun ls hl => ?_)
  have hl' := hl; clear hl
  obtain ⟨i3544, i3545, hi_5, hl⟩ : ∃ (i3544 : Int32) (i3545 : Int32), ((0 : Int) ≤ i3544.toInt) ∧ lv_has ls 7 [(4, .int i3544), (3, .int i3545), (0, .ref x), (1, .int p0), (2, .int p1)] := ⟨_, _, by omega, hl'⟩
  clear hl'
  obtain ⟨n_5, hn_5⟩ : ∃ n : Nat, (60 - i3544.toInt).toNat < n := ⟨_, Nat.lt_succ_self _⟩
  induction n_5 generalizing i3544 i3545 ls with
  | zero => exact absurd hn_5 (Nat.not_lt_zero _)
  | succ n_5 ih_5 =>
    refine lv_iload hx hb dX11_fitting_5 (lv_at hl 0 rfl) ?_
    refine lv_iconst (v := 1) hx hb dX11_fitting_7 (by decide) ?_
    refine lv_iadd hx hb dX11_fitting_8 ?_
    refine lv_topi (fun v3546 ev3546 => ?_)
    refine lv_aload_n hx hb dX11_fitting_9 rfl (lv_at hl 2 rfl) ?_
    refine va_get (D := D) (ci := 10) (v := .ref ro) (C := RX11) (T := TX11) (N := 12) hx hb hts in_X11 hown hE.1 hP 0 rfl rfl 4 (by decide) (hts _ w_523) (fun _ h9 => h9) rfl dX11_fitting_10 ?_
    refine lv_iload_n hx hb dX11_fitting_13 rfl (lv_at hl 3 rfl) ?_
    refine ro_V (As := [.int p0]) (rest := [.int v3546]) hC hE kV_X11_201 (c_X5_size l D K ro roa0 roa1 roa2 rof2 p0 hsz) (hP.sub (ws' := [(ro, .inr (5, [.ref roa0, .ref roa1, .ref roa2])), (roa2, .inl (K 1, 4, .inl rof2))]) [4, 6] rfl) 0 5 rfl rfl rfl hl.1 rfl (Nat.le_of_ble_eq_true rfl) (by decide) (by decide) dX11_fitting_14 (fun r3553 hq => ?_)
    rcases hq with ⟨rfl, h3547⟩ | ⟨h3548, h3549, h3550, h3551, h3552⟩
    · refine lv_icmp_ge (tgt := 89) hx hb dX11_fitting_17 (by decide) (fun c3554 => ?_) (fun c3554 => ?_)
      · replace c3554 := le_i c3554
        refine lv_iload_n hx hb dX11_fitting_89 rfl (lv_at hl 1 rfl) ?_
        exact ro_ret hC hr hk dX11_fitting_90 trivial
      · replace c3554 := nle_i c3554
        refine lv_iload hx hb dX11_fitting_20 (lv_at hl 0 rfl) ?_
        refine lv_bipush (v := 60) hx hb dX11_fitting_22 (by decide) ?_
        refine lv_icmp_ge (tgt := 89) hx hb dX11_fitting_24 (by decide) (fun c3555 => ?_) (fun c3555 => ?_)
        · replace c3555 := le_i c3555
          refine lv_iload_n hx hb dX11_fitting_89 rfl (lv_at hl 1 rfl) ?_
          exact ro_ret hC hr hk dX11_fitting_90 trivial
        · replace c3555 := nle_i c3555
          refine lv_aload_n hx hb dX11_fitting_27 rfl (lv_at hl 2 rfl) ?_
          refine va_get (D := D) (ci := 10) (v := .ref ro) (C := RX11) (T := TX11) (N := 12) hx hb hts in_X11 hown hE.1 hP 0 rfl rfl 4 (by decide) (hts _ w_523) (fun _ h9 => h9) rfl dX11_fitting_28 ?_
          refine lv_iload_n hx hb dX11_fitting_31 rfl (lv_at hl 3 rfl) ?_
          refine lv_iload hx hb dX11_fitting_32 (lv_at hl 0 rfl) ?_
          refine ro_V (As := [.int p0, .int i3544]) (rest := []) hC hE kV_X11_204 (c_X5_small l D K ro roa0 roa1 roa2 rof0 rof2 p0 i3544 hsz) (hP.sub (ws' := [(ro, .inr (5, [.ref roa0, .ref roa1, .ref roa2])), (roa0, .inl (K 2, 240, .inr (.inl rof0))), (roa2, .inl (K 1, 4, .inl rof2))]) [4, 5, 6] rfl) 0 5 rfl rfl rfl hl.1 rfl (Nat.le_of_ble_eq_true rfl) (by decide) (by decide) dX11_fitting_34 (fun r3556 _ => ?_)
          refine lv_istore (lv' := [(5, .int r3556), (4, .int i3544), (3, .int i3545), (0, .ref x), (1, .int p0), (2, .int p1)]) hx hb dX11_fitting_37 hl (by decide) rfl (fun ls hl => ?_)
          refine lv_iload hx hb dX11_fitting_39 (lv_at hl 0 rfl) ?_
          refine lv_iconst (v := 4) hx hb dX11_fitting_41 (by decide) ?_
          refine lv_icmp_ne (tgt := 49) hx hb dX11_fitting_42 (by decide) (fun c3557 => ?_) (fun c3557 => ?_)
          · replace c3557 := ne_i c3557
            refine lv_aload_n hx hb dX11_fitting_49 rfl (lv_at hl 3 rfl) ?_
            refine va_get (D := D) (ci := 10) (v := .ref he) (C := RX11) (T := TX11) (N := 12) hx hb hts in_X11 hown hE.1 hP 0 rfl rfl 1 (by decide) (hts _ w_511) (fun _ h9 => h9) rfl dX11_fitting_50 ?_
            refine lv_iload_n hx hb dX11_fitting_53 rfl (lv_at hl 2 rfl) ?_
            refine lv_iload hx hb dX11_fitting_54 (lv_at hl 0 rfl) ?_
            refine ro_V (As := [.int i3545, .int r3556]) (rest := []) hC hE kV_X11_143 (c_X10_spread l D K he hea0 hea1 hea2 hea3 hea4 hea5 hea6 hea7 hen8 hen9 hen10 hen11 hef0 i3545 r3556) (hP.sub (ws' := [(he, .inr (9, [.ref hea0, .ref hea1, .ref hea2, .ref hea3, .ref hea4, .ref hea5, .ref hea6, .ref hea7, .int hen8, .int hen9, .int hen10, .int hen11])), (hea0, .inl (K 1, 40, .inl hef0))]) [1, 2] rfl) 0 9 rfl rfl rfl hl.1 rfl (Nat.le_of_ble_eq_true rfl) (by decide) (by decide) dX11_fitting_56 (fun r3558 _ => ?_)
            refine lv_istore (lv' := [(6, .int r3558), (5, .int r3556), (4, .int i3544), (3, .int i3545), (0, .ref x), (1, .int p0), (2, .int p1)]) hx hb dX11_fitting_59 hl (by decide) rfl (fun ls hl => ?_)
            refine lv_aload_n hx hb dX11_fitting_61 rfl (lv_at hl 4 rfl) ?_
            refine va_get (D := D) (ci := 10) (v := .ref he) (C := RX11) (T := TX11) (N := 12) hx hb hts in_X11 hown hE.1 hP 0 rfl rfl 1 (by decide) (hts _ w_511) (fun _ h9 => h9) rfl dX11_fitting_62 ?_
            refine lv_iload hx hb dX11_fitting_65 (lv_at hl 0 rfl) ?_
            refine lv_aload_n hx hb dX11_fitting_67 rfl (lv_at hl 4 rfl) ?_
            refine va_get (D := D) (ci := 10) (v := .ref ro) (C := RX11) (T := TX11) (N := 12) hx hb hts in_X11 hown hE.1 hP 0 rfl rfl 4 (by decide) (hts _ w_523) (fun _ h9 => h9) rfl dX11_fitting_68 ?_
            refine lv_iload_n hx hb dX11_fitting_71 rfl (lv_at hl 5 rfl) ?_
            refine lv_iload hx hb dX11_fitting_72 (lv_at hl 2 rfl) ?_
            refine lv_iconst (v := 1) hx hb dX11_fitting_74 (by decide) ?_
            refine lv_iadd hx hb dX11_fitting_75 ?_
            refine lv_topi (fun v3559 ev3559 => ?_)
            have tv3559 : v3559.toInt = (i3544 : Int32).toInt + (1 : Int32).toInt := add_i ev3559 (by omega) (by omega)
            refine ro_V (As := [.int p0, .int v3559]) (rest := [.int r3558, .ref he]) hC hE kV_X11_204 (c_X5_small l D K ro roa0 roa1 roa2 rof0 rof2 p0 v3559 hsz) (hP.sub (ws' := [(ro, .inr (5, [.ref roa0, .ref roa1, .ref roa2])), (roa0, .inl (K 2, 240, .inr (.inl rof0))), (roa2, .inl (K 1, 4, .inl rof2))]) [4, 5, 6] rfl) 0 5 rfl rfl rfl hl.1 rfl (Nat.le_of_ble_eq_true rfl) (by decide) (by decide) dX11_fitting_76 (fun r3560 _ => ?_)
            refine ro_V (As := [.int r3558, .int r3560]) (rest := []) hC hE kV_X11_149 (c_X10_showing l D K he hea0 hea1 hea2 hea3 hea4 hea5 hea6 hea7 hen8 hen9 hen10 hen11 hef1 r3558 r3560) (hP.sub (ws' := [(he, .inr (9, [.ref hea0, .ref hea1, .ref hea2, .ref hea3, .ref hea4, .ref hea5, .ref hea6, .ref hea7, .int hen8, .int hen9, .int hen10, .int hen11])), (hea1, .inl (K 1, 10, .inl hef1))]) [1, 3] rfl) 0 9 rfl rfl rfl hl.1 rfl (Nat.le_of_ble_eq_true rfl) (by decide) (by decide) dX11_fitting_79 (fun r3561 _ => ?_)
            refine lv_istore_n (lv' := [(3, .int r3561), (6, .int r3558), (5, .int r3556), (4, .int i3544), (0, .ref x), (1, .int p0), (2, .int p1)]) hx hb dX11_fitting_82 rfl hl (by decide) rfl (fun ls hl => ?_)
            obtain ⟨v3562, ev3562⟩ : ∃ z : Int32, z = i3544 + 2 := ⟨_, rfl⟩
            refine lv_iinc (v := v3562) (lv' := [(4, .int v3562), (3, .int r3561), (6, .int r3558), (5, .int r3556), (0, .ref x), (1, .int p0), (2, .int p1)]) hx hb dX11_fitting_83 hl (k := 3) rfl (by rw [ev3562]; rfl) (by decide) rfl (fun ls hl => ?_)
            refine lv_goto (tgt := 5) hx hb dX11_fitting_86 (by decide) ?_
            have tv3562 : v3562.toInt = (i3544 : Int32).toInt + (2 : Int32).toInt := add_i ev3562 (by omega) (by omega)
            exact ih_5 (i3544 := v3562) (i3545 := r3561) (hi_5 := by omega) (ls := ls) (hn_5 := by omega) (hl := lv_sub hl [0, 1, 4, 5, 6] rfl)
          · replace c3557 := eq_i c3557
            refine lv_iload_n hx hb dX11_fitting_45 rfl (lv_at hl 2 rfl) ?_
            refine lv_goto (tgt := 59) hx hb dX11_fitting_46 (by decide) ?_
            refine lv_istore (lv' := [(6, .int i3545), (5, .int r3556), (4, .int i3544), (3, .int i3545), (0, .ref x), (1, .int p0), (2, .int p1)]) hx hb dX11_fitting_59 hl (by decide) rfl (fun ls hl => ?_)
            refine lv_aload_n hx hb dX11_fitting_61 rfl (lv_at hl 4 rfl) ?_
            refine va_get (D := D) (ci := 10) (v := .ref he) (C := RX11) (T := TX11) (N := 12) hx hb hts in_X11 hown hE.1 hP 0 rfl rfl 1 (by decide) (hts _ w_511) (fun _ h9 => h9) rfl dX11_fitting_62 ?_
            refine lv_iload hx hb dX11_fitting_65 (lv_at hl 0 rfl) ?_
            refine lv_aload_n hx hb dX11_fitting_67 rfl (lv_at hl 4 rfl) ?_
            refine va_get (D := D) (ci := 10) (v := .ref ro) (C := RX11) (T := TX11) (N := 12) hx hb hts in_X11 hown hE.1 hP 0 rfl rfl 4 (by decide) (hts _ w_523) (fun _ h9 => h9) rfl dX11_fitting_68 ?_
            refine lv_iload_n hx hb dX11_fitting_71 rfl (lv_at hl 5 rfl) ?_
            refine lv_iload hx hb dX11_fitting_72 (lv_at hl 2 rfl) ?_
            refine lv_iconst (v := 1) hx hb dX11_fitting_74 (by decide) ?_
            refine lv_iadd hx hb dX11_fitting_75 ?_
            refine lv_topi (fun v3563 ev3563 => ?_)
            have tv3563 : v3563.toInt = (i3544 : Int32).toInt + (1 : Int32).toInt := add_i ev3563 (by omega) (by omega)
            refine ro_V (As := [.int p0, .int v3563]) (rest := [.int i3545, .ref he]) hC hE kV_X11_204 (c_X5_small l D K ro roa0 roa1 roa2 rof0 rof2 p0 v3563 hsz) (hP.sub (ws' := [(ro, .inr (5, [.ref roa0, .ref roa1, .ref roa2])), (roa0, .inl (K 2, 240, .inr (.inl rof0))), (roa2, .inl (K 1, 4, .inl rof2))]) [4, 5, 6] rfl) 0 5 rfl rfl rfl hl.1 rfl (Nat.le_of_ble_eq_true rfl) (by decide) (by decide) dX11_fitting_76 (fun r3564 _ => ?_)
            refine ro_V (As := [.int i3545, .int r3564]) (rest := []) hC hE kV_X11_149 (c_X10_showing l D K he hea0 hea1 hea2 hea3 hea4 hea5 hea6 hea7 hen8 hen9 hen10 hen11 hef1 i3545 r3564) (hP.sub (ws' := [(he, .inr (9, [.ref hea0, .ref hea1, .ref hea2, .ref hea3, .ref hea4, .ref hea5, .ref hea6, .ref hea7, .int hen8, .int hen9, .int hen10, .int hen11])), (hea1, .inl (K 1, 10, .inl hef1))]) [1, 3] rfl) 0 9 rfl rfl rfl hl.1 rfl (Nat.le_of_ble_eq_true rfl) (by decide) (by decide) dX11_fitting_79 (fun r3565 _ => ?_)
            refine lv_istore_n (lv' := [(3, .int r3565), (6, .int i3545), (5, .int r3556), (4, .int i3544), (0, .ref x), (1, .int p0), (2, .int p1)]) hx hb dX11_fitting_82 rfl hl (by decide) rfl (fun ls hl => ?_)
            obtain ⟨v3566, ev3566⟩ : ∃ z : Int32, z = i3544 + 2 := ⟨_, rfl⟩
            refine lv_iinc (v := v3566) (lv' := [(4, .int v3566), (3, .int r3565), (6, .int i3545), (5, .int r3556), (0, .ref x), (1, .int p0), (2, .int p1)]) hx hb dX11_fitting_83 hl (k := 3) rfl (by rw [ev3566]; rfl) (by decide) rfl (fun ls hl => ?_)
            refine lv_goto (tgt := 5) hx hb dX11_fitting_86 (by decide) ?_
            have tv3566 : v3566.toInt = (i3544 : Int32).toInt + (2 : Int32).toInt := add_i ev3566 (by omega) (by omega)
            exact ih_5 (i3544 := v3566) (i3545 := r3565) (hi_5 := by omega) (ls := ls) (hn_5 := by omega) (hl := lv_sub hl [0, 1, 4, 5, 6] rfl)
    · refine lv_icmp_ge (tgt := 89) hx hb dX11_fitting_17 (by decide) (fun c3567 => ?_) (fun c3567 => ?_)
      · replace c3567 := le_i c3567
        refine lv_iload_n hx hb dX11_fitting_89 rfl (lv_at hl 1 rfl) ?_
        exact ro_ret hC hr hk dX11_fitting_90 trivial
      · replace c3567 := nle_i c3567
        refine lv_iload hx hb dX11_fitting_20 (lv_at hl 0 rfl) ?_
        refine lv_bipush (v := 60) hx hb dX11_fitting_22 (by decide) ?_
        refine lv_icmp_ge (tgt := 89) hx hb dX11_fitting_24 (by decide) (fun c3568 => ?_) (fun c3568 => ?_)
        · replace c3568 := le_i c3568
          refine lv_iload_n hx hb dX11_fitting_89 rfl (lv_at hl 1 rfl) ?_
          exact ro_ret hC hr hk dX11_fitting_90 trivial
        · replace c3568 := nle_i c3568
          refine lv_aload_n hx hb dX11_fitting_27 rfl (lv_at hl 2 rfl) ?_
          refine va_get (D := D) (ci := 10) (v := .ref ro) (C := RX11) (T := TX11) (N := 12) hx hb hts in_X11 hown hE.1 hP 0 rfl rfl 4 (by decide) (hts _ w_523) (fun _ h9 => h9) rfl dX11_fitting_28 ?_
          refine lv_iload_n hx hb dX11_fitting_31 rfl (lv_at hl 3 rfl) ?_
          refine lv_iload hx hb dX11_fitting_32 (lv_at hl 0 rfl) ?_
          refine ro_V (As := [.int p0, .int i3544]) (rest := []) hC hE kV_X11_204 (c_X5_small l D K ro roa0 roa1 roa2 rof0 rof2 p0 i3544 hsz) (hP.sub (ws' := [(ro, .inr (5, [.ref roa0, .ref roa1, .ref roa2])), (roa0, .inl (K 2, 240, .inr (.inl rof0))), (roa2, .inl (K 1, 4, .inl rof2))]) [4, 5, 6] rfl) 0 5 rfl rfl rfl hl.1 rfl (Nat.le_of_ble_eq_true rfl) (by decide) (by decide) dX11_fitting_34 (fun r3569 _ => ?_)
          refine lv_istore (lv' := [(5, .int r3569), (4, .int i3544), (3, .int i3545), (0, .ref x), (1, .int p0), (2, .int p1)]) hx hb dX11_fitting_37 hl (by decide) rfl (fun ls hl => ?_)
          refine lv_iload hx hb dX11_fitting_39 (lv_at hl 0 rfl) ?_
          refine lv_iconst (v := 4) hx hb dX11_fitting_41 (by decide) ?_
          refine lv_icmp_ne (tgt := 49) hx hb dX11_fitting_42 (by decide) (fun c3570 => ?_) (fun c3570 => ?_)
          · replace c3570 := ne_i c3570
            refine lv_aload_n hx hb dX11_fitting_49 rfl (lv_at hl 3 rfl) ?_
            refine va_get (D := D) (ci := 10) (v := .ref he) (C := RX11) (T := TX11) (N := 12) hx hb hts in_X11 hown hE.1 hP 0 rfl rfl 1 (by decide) (hts _ w_511) (fun _ h9 => h9) rfl dX11_fitting_50 ?_
            refine lv_iload_n hx hb dX11_fitting_53 rfl (lv_at hl 2 rfl) ?_
            refine lv_iload hx hb dX11_fitting_54 (lv_at hl 0 rfl) ?_
            refine ro_V (As := [.int i3545, .int r3569]) (rest := []) hC hE kV_X11_143 (c_X10_spread l D K he hea0 hea1 hea2 hea3 hea4 hea5 hea6 hea7 hen8 hen9 hen10 hen11 hef0 i3545 r3569) (hP.sub (ws' := [(he, .inr (9, [.ref hea0, .ref hea1, .ref hea2, .ref hea3, .ref hea4, .ref hea5, .ref hea6, .ref hea7, .int hen8, .int hen9, .int hen10, .int hen11])), (hea0, .inl (K 1, 40, .inl hef0))]) [1, 2] rfl) 0 9 rfl rfl rfl hl.1 rfl (Nat.le_of_ble_eq_true rfl) (by decide) (by decide) dX11_fitting_56 (fun r3571 _ => ?_)
            refine lv_istore (lv' := [(6, .int r3571), (5, .int r3569), (4, .int i3544), (3, .int i3545), (0, .ref x), (1, .int p0), (2, .int p1)]) hx hb dX11_fitting_59 hl (by decide) rfl (fun ls hl => ?_)
            refine lv_aload_n hx hb dX11_fitting_61 rfl (lv_at hl 4 rfl) ?_
            refine va_get (D := D) (ci := 10) (v := .ref he) (C := RX11) (T := TX11) (N := 12) hx hb hts in_X11 hown hE.1 hP 0 rfl rfl 1 (by decide) (hts _ w_511) (fun _ h9 => h9) rfl dX11_fitting_62 ?_
            refine lv_iload hx hb dX11_fitting_65 (lv_at hl 0 rfl) ?_
            refine lv_aload_n hx hb dX11_fitting_67 rfl (lv_at hl 4 rfl) ?_
            refine va_get (D := D) (ci := 10) (v := .ref ro) (C := RX11) (T := TX11) (N := 12) hx hb hts in_X11 hown hE.1 hP 0 rfl rfl 4 (by decide) (hts _ w_523) (fun _ h9 => h9) rfl dX11_fitting_68 ?_
            refine lv_iload_n hx hb dX11_fitting_71 rfl (lv_at hl 5 rfl) ?_
            refine lv_iload hx hb dX11_fitting_72 (lv_at hl 2 rfl) ?_
            refine lv_iconst (v := 1) hx hb dX11_fitting_74 (by decide) ?_
            refine lv_iadd hx hb dX11_fitting_75 ?_
            refine lv_topi (fun v3572 ev3572 => ?_)
            have tv3572 : v3572.toInt = (i3544 : Int32).toInt + (1 : Int32).toInt := add_i ev3572 (by omega) (by omega)
            refine ro_V (As := [.int p0, .int v3572]) (rest := [.int r3571, .ref he]) hC hE kV_X11_204 (c_X5_small l D K ro roa0 roa1 roa2 rof0 rof2 p0 v3572 hsz) (hP.sub (ws' := [(ro, .inr (5, [.ref roa0, .ref roa1, .ref roa2])), (roa0, .inl (K 2, 240, .inr (.inl rof0))), (roa2, .inl (K 1, 4, .inl rof2))]) [4, 5, 6] rfl) 0 5 rfl rfl rfl hl.1 rfl (Nat.le_of_ble_eq_true rfl) (by decide) (by decide) dX11_fitting_76 (fun r3573 _ => ?_)
            refine ro_V (As := [.int r3571, .int r3573]) (rest := []) hC hE kV_X11_149 (c_X10_showing l D K he hea0 hea1 hea2 hea3 hea4 hea5 hea6 hea7 hen8 hen9 hen10 hen11 hef1 r3571 r3573) (hP.sub (ws' := [(he, .inr (9, [.ref hea0, .ref hea1, .ref hea2, .ref hea3, .ref hea4, .ref hea5, .ref hea6, .ref hea7, .int hen8, .int hen9, .int hen10, .int hen11])), (hea1, .inl (K 1, 10, .inl hef1))]) [1, 3] rfl) 0 9 rfl rfl rfl hl.1 rfl (Nat.le_of_ble_eq_true rfl) (by decide) (by decide) dX11_fitting_79 (fun r3574 _ => ?_)
            refine lv_istore_n (lv' := [(3, .int r3574), (6, .int r3571), (5, .int r3569), (4, .int i3544), (0, .ref x), (1, .int p0), (2, .int p1)]) hx hb dX11_fitting_82 rfl hl (by decide) rfl (fun ls hl => ?_)
            obtain ⟨v3575, ev3575⟩ : ∃ z : Int32, z = i3544 + 2 := ⟨_, rfl⟩
            refine lv_iinc (v := v3575) (lv' := [(4, .int v3575), (3, .int r3574), (6, .int r3571), (5, .int r3569), (0, .ref x), (1, .int p0), (2, .int p1)]) hx hb dX11_fitting_83 hl (k := 3) rfl (by rw [ev3575]; rfl) (by decide) rfl (fun ls hl => ?_)
            refine lv_goto (tgt := 5) hx hb dX11_fitting_86 (by decide) ?_
            have tv3575 : v3575.toInt = (i3544 : Int32).toInt + (2 : Int32).toInt := add_i ev3575 (by omega) (by omega)
            exact ih_5 (i3544 := v3575) (i3545 := r3574) (hi_5 := by omega) (ls := ls) (hn_5 := by omega) (hl := lv_sub hl [0, 1, 4, 5, 6] rfl)
          · replace c3570 := eq_i c3570
            refine lv_iload_n hx hb dX11_fitting_45 rfl (lv_at hl 2 rfl) ?_
            refine lv_goto (tgt := 59) hx hb dX11_fitting_46 (by decide) ?_
            refine lv_istore (lv' := [(6, .int i3545), (5, .int r3569), (4, .int i3544), (3, .int i3545), (0, .ref x), (1, .int p0), (2, .int p1)]) hx hb dX11_fitting_59 hl (by decide) rfl (fun ls hl => ?_)
            refine lv_aload_n hx hb dX11_fitting_61 rfl (lv_at hl 4 rfl) ?_
            refine va_get (D := D) (ci := 10) (v := .ref he) (C := RX11) (T := TX11) (N := 12) hx hb hts in_X11 hown hE.1 hP 0 rfl rfl 1 (by decide) (hts _ w_511) (fun _ h9 => h9) rfl dX11_fitting_62 ?_
            refine lv_iload hx hb dX11_fitting_65 (lv_at hl 0 rfl) ?_
            refine lv_aload_n hx hb dX11_fitting_67 rfl (lv_at hl 4 rfl) ?_
            refine va_get (D := D) (ci := 10) (v := .ref ro) (C := RX11) (T := TX11) (N := 12) hx hb hts in_X11 hown hE.1 hP 0 rfl rfl 4 (by decide) (hts _ w_523) (fun _ h9 => h9) rfl dX11_fitting_68 ?_
            refine lv_iload_n hx hb dX11_fitting_71 rfl (lv_at hl 5 rfl) ?_
            refine lv_iload hx hb dX11_fitting_72 (lv_at hl 2 rfl) ?_
            refine lv_iconst (v := 1) hx hb dX11_fitting_74 (by decide) ?_
            refine lv_iadd hx hb dX11_fitting_75 ?_
            refine lv_topi (fun v3576 ev3576 => ?_)
            have tv3576 : v3576.toInt = (i3544 : Int32).toInt + (1 : Int32).toInt := add_i ev3576 (by omega) (by omega)
            refine ro_V (As := [.int p0, .int v3576]) (rest := [.int i3545, .ref he]) hC hE kV_X11_204 (c_X5_small l D K ro roa0 roa1 roa2 rof0 rof2 p0 v3576 hsz) (hP.sub (ws' := [(ro, .inr (5, [.ref roa0, .ref roa1, .ref roa2])), (roa0, .inl (K 2, 240, .inr (.inl rof0))), (roa2, .inl (K 1, 4, .inl rof2))]) [4, 5, 6] rfl) 0 5 rfl rfl rfl hl.1 rfl (Nat.le_of_ble_eq_true rfl) (by decide) (by decide) dX11_fitting_76 (fun r3577 _ => ?_)
            refine ro_V (As := [.int i3545, .int r3577]) (rest := []) hC hE kV_X11_149 (c_X10_showing l D K he hea0 hea1 hea2 hea3 hea4 hea5 hea6 hea7 hen8 hen9 hen10 hen11 hef1 i3545 r3577) (hP.sub (ws' := [(he, .inr (9, [.ref hea0, .ref hea1, .ref hea2, .ref hea3, .ref hea4, .ref hea5, .ref hea6, .ref hea7, .int hen8, .int hen9, .int hen10, .int hen11])), (hea1, .inl (K 1, 10, .inl hef1))]) [1, 3] rfl) 0 9 rfl rfl rfl hl.1 rfl (Nat.le_of_ble_eq_true rfl) (by decide) (by decide) dX11_fitting_79 (fun r3578 _ => ?_)
            refine lv_istore_n (lv' := [(3, .int r3578), (6, .int i3545), (5, .int r3569), (4, .int i3544), (0, .ref x), (1, .int p0), (2, .int p1)]) hx hb dX11_fitting_82 rfl hl (by decide) rfl (fun ls hl => ?_)
            obtain ⟨v3579, ev3579⟩ : ∃ z : Int32, z = i3544 + 2 := ⟨_, rfl⟩
            refine lv_iinc (v := v3579) (lv' := [(4, .int v3579), (3, .int r3578), (6, .int i3545), (5, .int r3569), (0, .ref x), (1, .int p0), (2, .int p1)]) hx hb dX11_fitting_83 hl (k := 3) rfl (by rw [ev3579]; rfl) (by decide) rfl (fun ls hl => ?_)
            refine lv_goto (tgt := 5) hx hb dX11_fitting_86 (by decide) ?_
            have tv3579 : v3579.toInt = (i3544 : Int32).toInt + (2 : Int32).toInt := add_i ev3579 (by omega) (by omega)
            exact ih_5 (i3544 := v3579) (i3545 := r3578) (hi_5 := by omega) (ls := ls) (hn_5 := by omega) (hl := lv_sub hl [0, 1, 4, 5, 6] rfl)
