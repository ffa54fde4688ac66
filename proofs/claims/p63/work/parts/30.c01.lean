set_option maxRecDepth 40000 in
set_option maxHeartbeats 4000000 in
theorem c_X11_worstLeft (l : Launch) (D : va_G) (K : Nat → ClassId) (x : Nat) (rd : Nat) (he : Nat) (pa : Nat) (wk : Nat) (ro : Nat) (mi : Nat) (se : Nat) (pl : Nat) (co : Nat) (tr : Nat) (iw : Nat) (ip : Nat) (hea0 : Nat) (hea1 : Nat) (hea2 : Nat) (hea3 : Nat) (hea4 : Nat) (hea5 : Nat) (hea6 : Nat) (hea7 : Nat) (hen8 : Int32) (hen9 : Int32) (hen10 : Int32) (hen11 : Int32) (hef1 : Nat → Int32) (p0 : Int32) : Ro l D K yX11_worstLeft cX11_worstLeft 4 (some .int) 1 24 [.ref x, .int p0] [(x, .inr (10, [.ref rd, .ref he, .ref pa, .ref wk, .ref ro, .ref mi, .ref se, .ref pl, .ref co, .ref tr, .ref iw, .ref ip])), (he, .inr (9, [.ref hea0, .ref hea1, .ref hea2, .ref hea3, .ref hea4, .ref hea5, .ref hea6, .ref hea7, .int hen8, .int hen9, .int hen10, .int hen11])), (hea1, .inl (K 1, 10, .inl hef1))] (fun _ => True) := by
  refine ro_of (by decide) (Nat.le_of_ble_eq_true rfl) ?_
  intro p e s m below meth c hC hr hk hE hP ls hl
  replace hC : CallFix p m c cX11_worstLeft 4 s [.ref x, .int p0].toArray wl RX11 := hC
  have hx := hC.1
  have hb := hC.2.1
  have hml := hC.2.2.1
  have hown := hC.2.2.2.1
  have hts := hC.2.2.2.2
  replace hl : lv_has ls 4 [(0, .ref x), (1, .int p0)] := hl
  have kc_0 : (0 : Int32).toInt = 0 := by decide
  have kc_1 : (1 : Int32).toInt = 1 := by decide
  have kc_10 : (10 : Int32).toInt = 10 := by decide
  refine lv_iconst (v := 0) hx hb dX11_worstLeft_0 (by decide) ?_
  refine lv_istore_n (lv' := [(2, .int 0), (0, .ref x), (1, .int p0)]) hx hb dX11_worstLeft_1 rfl hl (by decide) rfl (fun ls hl => ?_)
  refine lv_iconst (v := 0) hx hb dX11_worstLeft_2 (by decide) ?_
  refine lv_istore_n (lv' := [(3, .int 0), (2, .int 0), (0, .ref x), (1, .int p0)]) hx hb dX11_worstLeft_3 rfl hl (by decide) rfl (fun ls hl => ?_)
  have hl' := hl; clear hl
  obtain ⟨i3587, i3588, hi_4, hl⟩ : ∃ (i3587 : Int32) (i3588 : Int32), ((0 : Int) ≤ i3587.toInt) ∧ lv_has ls 4 [(3, .int i3587), (2, .int i3588), (0, .ref x), (1, .int p0)] := ⟨_, _, by omega, hl'⟩
  clear hl'
  obtain ⟨n_4, hn_4⟩ : ∃ n : Nat, (10 - i3587.toInt).toNat < n := ⟨_, Nat.lt_succ_self _⟩
  induction n_4 generalizing i3587 i3588 ls with
  | zero => exact absurd hn_4 (Nat.not_lt_zero _)
  | succ n_4 ih_4 =>
    refine lv_iload_n hx hb dX11_worstLeft_4 rfl (lv_at hl 0 rfl) ?_
    refine lv_bipush (v := 10) hx hb dX11_worstLeft_5 (by decide) ?_
    refine lv_icmp_ge (tgt := 33) hx hb dX11_worstLeft_7 (by decide) (fun c3589 => ?_) (fun c3589 => ?_)
    · replace c3589 := le_i c3589
      refine lv_iload_n hx hb dX11_worstLeft_33 rfl (lv_at hl 1 rfl) ?_
      exact ro_ret hC hr hk dX11_worstLeft_34 trivial
    · replace c3589 := nle_i c3589
      refine lv_iload_n hx hb dX11_worstLeft_10 rfl (lv_at hl 1 rfl) ?_
      refine lv_aload_n hx hb dX11_worstLeft_11 rfl (lv_at hl 2 rfl) ?_
      refine va_get (D := D) (ci := 10) (v := .ref he) (C := RX11) (T := TX11) (N := 12) hx hb hts in_X11 hown hE.1 hP 0 rfl rfl 1 (by decide) (hts _ w_511) (fun _ h9 => h9) rfl dX11_worstLeft_12 ?_
      refine lv_iload_n hx hb dX11_worstLeft_15 rfl (lv_at hl 3 rfl) ?_
      refine lv_iload_n hx hb dX11_worstLeft_16 rfl (lv_at hl 0 rfl) ?_
      refine ro_V (As := [.int p0, .int i3587]) (rest := [.int i3588]) hC hE kV_X11_149 (c_X10_showing l D K he hea0 hea1 hea2 hea3 hea4 hea5 hea6 hea7 hen8 hen9 hen10 hen11 hef1 p0 i3587) (hP.sub (ws' := [(he, .inr (9, [.ref hea0, .ref hea1, .ref hea2, .ref hea3, .ref hea4, .ref hea5, .ref hea6, .ref hea7, .int hen8, .int hen9, .int hen10, .int hen11])), (hea1, .inl (K 1, 10, .inl hef1))]) [1, 2] rfl) 0 9 rfl rfl rfl hl.1 rfl (Nat.le_of_ble_eq_true rfl) (by decide) (by decide) dX11_worstLeft_17 (fun r3590 _ => ?_)
      refine ro_S (As := [.int r3590]) (rest := [.int i3588]) hC hE kS_X11_251 (c_J6_bitCount_0f7a4 l D K r3590) (hP.sub (ws' := []) [] rfl) rfl hl.1 rfl (Nat.le_of_ble_eq_true rfl) (by decide) (by decide) dX11_worstLeft_20 (fun r3591 _ => ?_)
      refine va_mmax hx hb (hml.trans hl.1.symm) hown (hts _ w_574) (hts _ w_169) (hts _ w_143) (hts _ w_170) (by decide) (Nat.le_of_ble_eq_true rfl) (by decide) (by decide) dX11_worstLeft_23 ?_
      refine lv_topi (fun v3592 ev3592 => ?_)
      have tv3592 := max_i ev3592
      refine lv_istore_n (lv' := [(2, .int v3592), (3, .int i3587), (0, .ref x), (1, .int p0)]) hx hb dX11_worstLeft_26 rfl hl (by decide) rfl (fun ls hl => ?_)
      obtain ⟨v3593, ev3593⟩ : ∃ z : Int32, z = i3587 + 1 := ⟨_, rfl⟩
      refine lv_iinc (v := v3593) (lv' := [(3, .int v3593), (2, .int v3592), (0, .ref x), (1, .int p0)]) hx hb dX11_worstLeft_27 hl (k := 1) rfl (by rw [ev3593]; rfl) (by decide) rfl (fun ls hl => ?_)
      refine lv_goto (tgt := 4) hx hb dX11_worstLeft_30 (by decide) ?_
      have tv3593 : v3593.toInt = (i3587 : Int32).toInt + (1 : Int32).toInt := add_i ev3593 (by omega) (by omega)
      exact ih_4 (i3587 := v3593) (i3588 := v3592) (hi_4 := by omega) (ls := ls) (hn_4 := by omega) (hl := lv_sub hl [0, 1, 2, 3] rfl)
set_option maxRecDepth 40000 in
set_option maxHeartbeats 4000000 in
theorem c_X11_bestWind (l : Launch) (D : va_G) (K : Nat → ClassId) (x : Nat) (rd : Nat) (he : Nat) (pa : Nat) (wk : Nat) (ro : Nat) (mi : Nat) (se : Nat) (pl : Nat) (co : Nat) (tr : Nat) (iw : Nat) (ip : Nat) (hea0 : Nat) (hea1 : Nat) (hea2 : Nat) (hea3 : Nat) (hea4 : Nat) (hea5 : Nat) (hea6 : Nat) (hea7 : Nat) (hen8 : Int32) (hen9 : Int32) (hen10 : Int32) (hen11 : Int32) (hef0 : Nat → Int32) (hef1 : Nat → Int32) (p0 : Int32) : Ro l D K yX11_bestWind cX11_bestWind 4 (some .int) 2 47 [.ref x, .int p0] [(x, .inr (10, [.ref rd, .ref he, .ref pa, .ref wk, .ref ro, .ref mi, .ref se, .ref pl, .ref co, .ref tr, .ref iw, .ref ip])), (he, .inr (9, [.ref hea0, .ref hea1, .ref hea2, .ref hea3, .ref hea4, .ref hea5, .ref hea6, .ref hea7, .int hen8, .int hen9, .int hen10, .int hen11])), (hea0, .inl (K 1, 40, .inl hef0)), (hea1, .inl (K 1, 10, .inl hef1))] (fun _ => True) := by
  refine ro_of (by decide) (Nat.le_of_ble_eq_true rfl) ?_
  intro p e s m below meth c hC hr hk hE hP ls hl
  replace hC : CallFix p m c cX11_bestWind 4 s [.ref x, .int p0].toArray wl RX11 := hC
  have hx := hC.1
  have hb := hC.2.1
  have hml := hC.2.2.1
  have hown := hC.2.2.2.1
  have hts := hC.2.2.2.2
  replace hl : lv_has ls 4 [(0, .ref x), (1, .int p0)] := hl
  have kc_0 : (0 : Int32).toInt = 0 := by decide
  have kc_1 : (1 : Int32).toInt = 1 := by decide
  have kc_4 : (4 : Int32).toInt = 4 := by decide
  refine lv_iconst (v := 0) hx hb dX11_bestWind_0 (by decide) ?_
  refine lv_istore_n (lv' := [(2, .int 0), (0, .ref x), (1, .int p0)]) hx hb dX11_bestWind_1 rfl hl (by decide) rfl (fun ls hl => ?_)
  refine lv_iconst (v := 1) hx hb dX11_bestWind_2 (by decide) ?_
  refine lv_istore_n (lv' := [(3, .int 1), (2, .int 0), (0, .ref x), (1, .int p0)]) hx hb dX11_bestWind_3 rfl hl (by decide) rfl (fun ls hl => ?_)
  have hl' := hl; clear hl
  obtain ⟨i3604, i3605, hi_4, hl⟩ : ∃ (i3604 : Int32) (i3605 : Int32), ((0 : Int) ≤ i3604.toInt) ∧ lv_has ls 4 [(3, .int i3604), (2, .int i3605), (0, .ref x), (1, .int p0)] := ⟨_, _, by omega, hl'⟩
  clear hl'
  obtain ⟨n_4, hn_4⟩ : ∃ n : Nat, (4 - i3604.toInt).toNat < n := ⟨_, Nat.lt_succ_self _⟩
  induction n_4 generalizing i3604 i3605 ls with
  | zero => exact absurd hn_4 (Nat.not_lt_zero _)
  | succ n_4 ih_4 =>
    refine lv_iload_n hx hb dX11_bestWind_4 rfl (lv_at hl 0 rfl) ?_
    refine lv_iconst (v := 4) hx hb dX11_bestWind_5 (by decide) ?_
    refine lv_icmp_ge (tgt := 46) hx hb dX11_bestWind_6 (by decide) (fun c3606 => ?_) (fun c3606 => ?_)
    · replace c3606 := le_i c3606
      refine lv_iload_n hx hb dX11_bestWind_46 rfl (lv_at hl 1 rfl) ?_
      exact ro_ret hC hr hk dX11_bestWind_47 trivial
    · replace c3606 := nle_i c3606
      refine lv_aload_n hx hb dX11_bestWind_9 rfl (lv_at hl 2 rfl) ?_
      refine lv_aload_n hx hb dX11_bestWind_10 rfl (lv_at hl 2 rfl) ?_
      refine va_get (D := D) (ci := 10) (v := .ref he) (C := RX11) (T := TX11) (N := 12) hx hb hts in_X11 hown hE.1 hP 0 rfl rfl 1 (by decide) (hts _ w_511) (fun _ h9 => h9) rfl dX11_bestWind_11 ?_
      refine lv_iload_n hx hb dX11_bestWind_14 rfl (lv_at hl 3 rfl) ?_
      refine lv_iload_n hx hb dX11_bestWind_15 rfl (lv_at hl 0 rfl) ?_
      refine ro_V (As := [.int p0, .int i3604]) (rest := [.ref x]) hC hE kV_X11_143 (c_X10_spread l D K he hea0 hea1 hea2 hea3 hea4 hea5 hea6 hea7 hen8 hen9 hen10 hen11 hef0 p0 i3604) (hP.sub (ws' := [(he, .inr (9, [.ref hea0, .ref hea1, .ref hea2, .ref hea3, .ref hea4, .ref hea5, .ref hea6, .ref hea7, .int hen8, .int hen9, .int hen10, .int hen11])), (hea0, .inl (K 1, 40, .inl hef0))]) [1, 2] rfl) 0 9 rfl rfl rfl hl.1 rfl (Nat.le_of_ble_eq_true rfl) (by decide) (by decide) dX11_bestWind_16 (fun r3607 _ => ?_)
      refine ro_V (As := [.int r3607]) (rest := []) hC hE kV_X11_281 (c_X11_worstLeft l D K x rd he pa wk ro mi se pl co tr iw ip hea0 hea1 hea2 hea3 hea4 hea5 hea6 hea7 hen8 hen9 hen10 hen11 hef1 r3607) (hP.sub (ws' := [(x, .inr (10, [.ref rd, .ref he, .ref pa, .ref wk, .ref ro, .ref mi, .ref se, .ref pl, .ref co, .ref tr, .ref iw, .ref ip])), (he, .inr (9, [.ref hea0, .ref hea1, .ref hea2, .ref hea3, .ref hea4, .ref hea5, .ref hea6, .ref hea7, .int hen8, .int hen9, .int hen10, .int hen11])), (hea1, .inl (K 1, 10, .inl hef1))]) [0, 1, 3] rfl) 0 10 rfl rfl rfl hl.1 rfl (Nat.le_of_ble_eq_true rfl) (by decide) (by decide) dX11_bestWind_19 (fun r3608 _ => ?_)
      refine lv_aload_n hx hb dX11_bestWind_22 rfl (lv_at hl 2 rfl) ?_
      refine lv_aload_n hx hb dX11_bestWind_23 rfl (lv_at hl 2 rfl) ?_
      refine va_get (D := D) (ci := 10) (v := .ref he) (C := RX11) (T := TX11) (N := 12) hx hb hts in_X11 hown hE.1 hP 0 rfl rfl 1 (by decide) (hts _ w_511) (fun _ h9 => h9) rfl dX11_bestWind_24 ?_
      refine lv_iload_n hx hb dX11_bestWind_27 rfl (lv_at hl 3 rfl) ?_
      refine lv_iload_n hx hb dX11_bestWind_28 rfl (lv_at hl 1 rfl) ?_
      refine ro_V (As := [.int p0, .int i3605]) (rest := [.ref x, .int r3608]) hC hE kV_X11_143 (c_X10_spread l D K he hea0 hea1 hea2 hea3 hea4 hea5 hea6 hea7 hen8 hen9 hen10 hen11 hef0 p0 i3605) (hP.sub (ws' := [(he, .inr (9, [.ref hea0, .ref hea1, .ref hea2, .ref hea3, .ref hea4, .ref hea5, .ref hea6, .ref hea7, .int hen8, .int hen9, .int hen10, .int hen11])), (hea0, .inl (K 1, 40, .inl hef0))]) [1, 2] rfl) 0 9 rfl rfl rfl hl.1 rfl (Nat.le_of_ble_eq_true rfl) (by decide) (by decide) dX11_bestWind_29 (fun r3609 _ => ?_)
      refine ro_V (As := [.int r3609]) (rest := [.int r3608]) hC hE kV_X11_281 (c_X11_worstLeft l D K x rd he pa wk ro mi se pl co tr iw ip hea0 hea1 hea2 hea3 hea4 hea5 hea6 hea7 hen8 hen9 hen10 hen11 hef1 r3609) (hP.sub (ws' := [(x, .inr (10, [.ref rd, .ref he, .ref pa, .ref wk, .ref ro, .ref mi, .ref se, .ref pl, .ref co, .ref tr, .ref iw, .ref ip])), (he, .inr (9, [.ref hea0, .ref hea1, .ref hea2, .ref hea3, .ref hea4, .ref hea5, .ref hea6, .ref hea7, .int hen8, .int hen9, .int hen10, .int hen11])), (hea1, .inl (K 1, 10, .inl hef1))]) [0, 1, 3] rfl) 0 10 rfl rfl rfl hl.1 rfl (Nat.le_of_ble_eq_true rfl) (by decide) (by decide) dX11_bestWind_32 (fun r3610 _ => ?_)
      refine lv_icmp_ge (tgt := 40) hx hb dX11_bestWind_35 (by decide) (fun c3611 => ?_) (fun c3611 => ?_)
      · replace c3611 := le_i c3611
        obtain ⟨v3612, ev3612⟩ : ∃ z : Int32, z = i3604 + 1 := ⟨_, rfl⟩
        refine lv_iinc (v := v3612) (lv' := [(3, .int v3612), (2, .int i3605), (0, .ref x), (1, .int p0)]) hx hb dX11_bestWind_40 hl (k := 0) rfl (by rw [ev3612]; rfl) (by decide) rfl (fun ls hl => ?_)
        refine lv_goto (tgt := 4) hx hb dX11_bestWind_43 (by decide) ?_
        have tv3612 : v3612.toInt = (i3604 : Int32).toInt + (1 : Int32).toInt := add_i ev3612 (by omega) (by omega)
        exact ih_4 (i3604 := v3612) (i3605 := i3605) (hi_4 := by omega) (ls := ls) (hn_4 := by omega) (hl := lv_sub hl [0, 1, 2, 3] rfl)
      · replace c3611 := nle_i c3611
        refine lv_iload_n hx hb dX11_bestWind_38 rfl (lv_at hl 0 rfl) ?_
        refine lv_istore_n (lv' := [(2, .int i3604), (3, .int i3604), (0, .ref x), (1, .int p0)]) hx hb dX11_bestWind_39 rfl hl (by decide) rfl (fun ls hl => ?_)
        obtain ⟨v3613, ev3613⟩ : ∃ z : Int32, z = i3604 + 1 := ⟨_, rfl⟩
        refine lv_iinc (v := v3613) (lv' := [(3, .int v3613), (2, .int i3604), (0, .ref x), (1, .int p0)]) hx hb dX11_bestWind_40 hl (k := 1) rfl (by rw [ev3613]; rfl) (by decide) rfl (fun ls hl => ?_)
        refine lv_goto (tgt := 4) hx hb dX11_bestWind_43 (by decide) ?_
        have tv3613 : v3613.toInt = (i3604 : Int32).toInt + (1 : Int32).toInt := add_i ev3613 (by omega) (by omega)
        exact ih_4 (i3604 := v3613) (i3605 := i3604) (hi_4 := by omega) (ls := ls) (hn_4 := by omega) (hl := lv_sub hl [0, 1, 2, 3] rfl)
set_option maxRecDepth 40000 in
set_option maxHeartbeats 4000000 in
theorem c_X11_drawWalk (l : Launch) (D : va_G) (K : Nat → ClassId) (x : Nat) (rd : Nat) (he : Nat) (pa : Nat) (wk : Nat) (ro : Nat) (mi : Nat) (se : Nat) (pl : Nat) (co : Nat) (tr : Nat) (iw : Nat) (ip : Nat) (hea0 : Nat) (hea1 : Nat) (hea2 : Nat) (hea3 : Nat) (hea4 : Nat) (hea5 : Nat) (hea6 : Nat) (hea7 : Nat) (hen8 : Int32) (hen9 : Int32) (hen10 : Int32) (hen11 : Int32) (wkn0 : Int32) (wkn1 : Int32) (wkn2 : Int32) (hef0 : Nat → Int32) (hef1 : Nat → Int32) (p0 : Int32) (p1 : Int32) : Ci (S := ((Nat → Int32) × (Nat → Nat → Int32) × (Nat → Nat → Int64))) l D K yX11_drawWalk cX11_drawWalk 7 (some .int) 3 68 0 0 [.ref x, .int p0, .int p1] [(x, .inr (10, [.ref rd, .ref he, .ref pa, .ref wk, .ref ro, .ref mi, .ref se, .ref pl, .ref co, .ref tr, .ref iw, .ref ip])), (he, .inr (9, [.ref hea0, .ref hea1, .ref hea2, .ref hea3, .ref hea4, .ref hea5, .ref hea6, .ref hea7, .int hen8, .int hen9, .int hen10, .int hen11])), (hea0, .inl (K 1, 40, .inl hef0)), (hea1, .inl (K 1, 10, .inl hef1)), (wk, .inr (8, [.int wkn0, .int wkn1, .int wkn2]))] (fun _ _ => True) (fun u => [(x, .inr (10, [.ref rd, .ref he, .ref pa, .ref wk, .ref ro, .ref mi, .ref se, .ref pl, .ref co, .ref tr, .ref iw, .ref ip])), (he, .inr (9, [.ref hea0, .ref hea1, .ref hea2, .ref hea3, .ref hea4, .ref hea5, .ref hea6, .ref hea7, .int hen8, .int hen9, .int hen10, .int hen11])), (hea0, .inl (K 1, 40, .inl hef0)), (hea1, .inl (K 1, 10, .inl hef1)), (wk, .inr (8, [.int (u.1 0), .int (u.1 1), .int wkn2]))]) := by
  intro sz
  refine ch_of (y := yX11_drawWalk) (cc := cX11_drawWalk) (maxL := 7) (ret := (some .int)) (av := [.ref x, .int p0, .int p1]) (ws := [(x, .inr (10, [.ref rd, .ref he, .ref pa, .ref wk, .ref ro, .ref mi, .ref se, .ref pl, .ref co, .ref tr, .ref iw, .ref ip])), (he, .inr (9, [.ref hea0, .ref hea1, .ref hea2, .ref hea3, .ref hea4, .ref hea5, .ref hea6, .ref hea7, .int hen8, .int hen9, .int hen10, .int hen11])), (hea0, .inl (K 1, 40, .inl hef0)), (hea1, .inl (K 1, 10, .inl hef1)), (wk, .inr (8, [.int wkn0, .int wkn1, .int wkn2]))]) (D := D) (K := K) (Qc := fun A => va_Qi (S := ((Nat → Int32) × (Nat → Nat → Int32) × (Nat → Nat → Int64))) (fun _ _ => True) (chB D A (fun u => [(x, .inr (10, [.ref rd, .ref he, .ref pa, .ref wk, .ref ro, .ref mi, .ref se, .ref pl, .ref co, .ref tr, .ref iw, .ref ip])), (he, .inr (9, [.ref hea0, .ref hea1, .ref hea2, .ref hea3, .ref hea4, .ref hea5, .ref hea6, .ref hea7, .int hen8, .int hen9, .int hen10, .int hen11])), (hea0, .inl (K 1, 40, .inl hef0)), (hea1, .inl (K 1, 10, .inl hef1)), (wk, .inr (8, [.int (u.1 0), .int (u.1 1), .int wkn2]))])) A) (by decide) (Nat.le_of_ble_eq_true rfl) ?_
  intro p e s m below meth c A hC hr hk hin hE hD hA H locs hP hS ls hl
  replace hC : CallFix p m c cX11_drawWalk 7 s [.ref x, .int p0, .int p1].toArray wl RX11 := hC
  have hx := hC.1
  have hb := hC.2.1
  have hml := hC.2.2.1
  have hown := hC.2.2.2.1
  have hts := hC.2.2.2.2
  replace hl : lv_has ls 7 [(0, .ref x), (1, .int p0), (2, .int p1)] := hl
  have kc_0 : (0 : Int32).toInt = 0 := by decide
  have kc_1 : (1 : Int32).toInt = 1 := by decide
  refine lv_iload_n hx hb dX11_drawWalk_0 rfl (lv_at hl 1 rfl) ?_
  refine lv_i2l hx hb dX11_drawWalk_1 rfl ?_
  refine lv_topl (fun v3650 ev3650 => ?_)
  refine lv_lstore_n (lv' := [(3, .long v3650), (0, .ref x), (1, .int p0), (2, .int p1)]) hx hb dX11_drawWalk_2 rfl hl (by decide) rfl (fun ls hl => ?_)
  refine lv_aload_n hx hb dX11_drawWalk_3 rfl (lv_at hl 1 rfl) ?_
  refine va_get (D := D) (ci := 10) (v := .ref wk) (C := RX11) (T := TX11) (N := 12) hx hb hts in_X11 hown hE.1 hP 0 rfl rfl 3 (by decide) (hts _ w_513) (fun _ h9 => h9) rfl dX11_drawWalk_4 ?_
  refine ro_V (As := []) (rest := []) hC hE kV_X11_168 (c_X9_isSure l D K wk wkn0 wkn1 wkn2) (hP.sub (ws' := [(wk, .inr (8, [.int wkn0, .int wkn1, .int wkn2]))]) [4] rfl) 0 8 rfl rfl rfl hl.1 rfl (Nat.le_of_ble_eq_true rfl) (by decide) (by decide) dX11_drawWalk_7 (fun r3651 hq => ?_)
  rcases hq with rfl | rfl
  · refine lv_if_eq (tgt := 17) hx hb dX11_drawWalk_10 (by decide) (fun _ => ?_) (fun h => absurd h (by decide))
    refine lv_iconst (v := 0) hx hb dX11_drawWalk_17 (by decide) ?_
    refine lv_istore (lv' := [(5, .int 0), (3, .long v3650), (0, .ref x), (1, .int p0), (2, .int p1)]) hx hb dX11_drawWalk_18 hl (by decide) rfl (fun ls hl => ?_)
    refine lv_iconst (v := 0) hx hb dX11_drawWalk_20 (by decide) ?_
    refine lv_istore (lv' := [(6, .int 0), (5, .int 0), (3, .long v3650), (0, .ref x), (1, .int p0), (2, .int p1)]) hx hb dX11_drawWalk_21 hl (by decide) rfl (fun ls hl => ?_)
    have hl' := hl; have hP' := hP; have hD' := hD; clear hl hP hD
    obtain ⟨i3669, i3670, i3671, w3672, w3673, hi_23, hl, hP, hD⟩ : ∃ (i3669 : Int32) (i3670 : Int32) (i3671 : Int64) (w3672 : Int32) (w3673 : Int32), ((0 : Int) ≤ i3669.toInt) ∧ lv_has ls 7 [(6, .int i3669), (5, .int i3670), (3, .long i3671), (0, .ref x), (1, .int p0), (2, .int p1)] ∧ va_P D vwCl [(x, .inr (10, [.ref rd, .ref he, .ref pa, .ref wk, .ref ro, .ref mi, .ref se, .ref pl, .ref co, .ref tr, .ref iw, .ref ip])), (he, .inr (9, [.ref hea0, .ref hea1, .ref hea2, .ref hea3, .ref hea4, .ref hea5, .ref hea6, .ref hea7, .int hen8, .int hen9, .int hen10, .int hen11])), (hea0, .inl (K 1, 40, .inl hef0)), (hea1, .inl (K 1, 10, .inl hef1)), (wk, .inr (8, [.int w3672, .int w3673, .int wkn2]))] H ∧ va_D A [(x, .inr (10, [.ref rd, .ref he, .ref pa, .ref wk, .ref ro, .ref mi, .ref se, .ref pl, .ref co, .ref tr, .ref iw, .ref ip])), (he, .inr (9, [.ref hea0, .ref hea1, .ref hea2, .ref hea3, .ref hea4, .ref hea5, .ref hea6, .ref hea7, .int hen8, .int hen9, .int hen10, .int hen11])), (hea0, .inl (K 1, 40, .inl hef0)), (hea1, .inl (K 1, 10, .inl hef1)), (wk, .inr (8, [.int w3672, .int w3673, .int wkn2]))] := ⟨_, _, _, _, _, by omega, hl', hP', hD'⟩
    clear hl' hP' hD'
    have hb_23 := i32_hi p1
    obtain ⟨n_23, hn_23⟩ : ∃ n : Nat, (p1.toInt - i3669.toInt).toNat < n := ⟨_, Nat.lt_succ_self _⟩
    induction n_23 generalizing i3669 i3670 i3671 w3672 w3673 H locs ls with
    | zero => exact absurd hn_23 (Nat.not_lt_zero _)
    | succ n_23 ih_23 =>
      refine lv_iload hx hb dX11_drawWalk_23 (lv_at hl 0 rfl) ?_
      refine lv_iload_n hx hb dX11_drawWalk_25 rfl (lv_at hl 5 rfl) ?_
      refine lv_icmp_ge (tgt := 87) hx hb dX11_drawWalk_26 (by decide) (fun c3674 => ?_) (fun c3674 => ?_)
      · replace c3674 := le_i c3674
        refine lv_iload hx hb dX11_drawWalk_87 (lv_at hl 1 rfl) ?_
        refine W.widen (k := 0) (n := 0) (by decide) (by decide) ?_
        exact ch_iret hC hr hk hS dX11_drawWalk_89 ((fun k => [w3672, w3673].getD k 0, fun k => [].getD k (fun _ => 0), fun k => [].getD k (fun _ => 0)) : ((Nat → Int32) × (Nat → Nat → Int32) × (Nat → Nat → Int64))) trivial (hP.sub [0, 1, 2, 3, 4] rfl) (hD.sub [0, 1, 2, 3, 4] (by decide) rfl)
      · replace c3674 := nle_i c3674
        refine lv_ldc2 (v := 1103515245) hx hb hown (hts _ w_579) dX11_drawWalk_29 ?_
        refine lv_lload_n hx hb dX11_drawWalk_32 rfl (lv_at hl 2 rfl) ?_
        refine lv_lmul hx hb dX11_drawWalk_33 ?_
        refine lv_topl (fun v3675 ev3675 => ?_)
        refine lv_ldc2 (v := 12345) hx hb hown (hts _ w_580) dX11_drawWalk_34 ?_
        refine lv_ladd hx hb dX11_drawWalk_37 ?_
        refine lv_topl (fun v3676 ev3676 => ?_)
        refine lv_ldc2 (v := 2147483647) hx hb hown (hts _ w_581) dX11_drawWalk_38 ?_
        refine lv_land hx hb dX11_drawWalk_41 ?_
        refine lv_topl (fun v3677 ev3677 => ?_)
        refine lv_lstore_n (lv' := [(3, .long v3677), (6, .int i3669), (5, .int i3670), (0, .ref x), (1, .int p0), (2, .int p1)]) hx hb dX11_drawWalk_42 rfl hl (by decide) rfl (fun ls hl => ?_)
        refine lv_aload_n hx hb dX11_drawWalk_43 rfl (lv_at hl 3 rfl) ?_
        refine va_get (D := D) (ci := 10) (v := .ref wk) (C := RX11) (T := TX11) (N := 12) hx hb hts in_X11 hown hE.1 hP 0 rfl rfl 3 (by decide) (hts _ w_513) (fun _ h9 => h9) rfl dX11_drawWalk_44 ?_
        refine lv_aload_n hx hb dX11_drawWalk_47 rfl (lv_at hl 3 rfl) ?_
        refine va_get (D := D) (ci := 10) (v := .ref he) (C := RX11) (T := TX11) (N := 12) hx hb hts in_X11 hown hE.1 hP 0 rfl rfl 1 (by decide) (hts _ w_511) (fun _ h9 => h9) rfl dX11_drawWalk_48 ?_
        refine lv_lload_n hx hb dX11_drawWalk_51 rfl (lv_at hl 0 rfl) ?_
        refine lv_bipush (v := 16) hx hb dX11_drawWalk_52 (by decide) ?_
        refine lv_lshr hx hb dX11_drawWalk_54 rfl ?_
        refine lv_topl (fun v3678 ev3678 => ?_)
        refine lv_l2i hx hb dX11_drawWalk_55 rfl ?_
        refine lv_topi (fun v3679 ev3679 => ?_)
        refine lv_iconst (v := 3) hx hb dX11_drawWalk_56 (by decide) ?_
        refine lv_iand hx hb dX11_drawWalk_57 ?_
        refine lv_topi (fun v3680 ev3680 => ?_)
        refine cv_V (As := [.ref he, .int v3680]) (rest := []) (wc := [(wk, .inr (8, [.int w3672, .int w3673, .int wkn2])), (he, .inr (9, [.ref hea0, .ref hea1, .ref hea2, .ref hea3, .ref hea4, .ref hea5, .ref hea6, .ref hea7, .int hen8, .int hen9, .int hen10, .int hen11])), (hea0, .inl (K 1, 40, .inl hef0)), (hea1, .inl (K 1, 10, .inl hef1))]) (wr := [(x, .inr (10, [.ref rd, .ref he, .ref pa, .ref wk, .ref ro, .ref mi, .ref se, .ref pl, .ref co, .ref tr, .ref iw, .ref ip]))]) hC hE kV_X11_177 (c_X9_step l D K wk he hea0 hea1 hea2 hea3 hea4 hea5 hea6 hea7 w3672 w3673 wkn2 hen8 hen9 hen10 hen11 hef0 hef1 v3680) hP hD hS hA [4, 1, 2, 3] [0] rfl rfl rfl (by decide) (by decide) (by decide) 0 8 rfl rfl rfl hl.1 rfl (Nat.le_of_ble_eq_true rfl) (by decide) (by decide) dX11_drawWalk_58 (fun u3681 H locs hw hP hD hS => ?_)
        replace hP : va_P D vwCl [(x, .inr (10, [.ref rd, .ref he, .ref pa, .ref wk, .ref ro, .ref mi, .ref se, .ref pl, .ref co, .ref tr, .ref iw, .ref ip])), (wk, .inr (8, [.int (u3681.1 0), .int (u3681.1 1), .int wkn2])), (he, .inr (9, [.ref hea0, .ref hea1, .ref hea2, .ref hea3, .ref hea4, .ref hea5, .ref hea6, .ref hea7, .int hen8, .int hen9, .int hen10, .int hen11])), (hea0, .inl (K 1, 40, .inl hef0)), (hea1, .inl (K 1, 10, .inl hef1))] H := hP
        replace hD : va_D A [(x, .inr (10, [.ref rd, .ref he, .ref pa, .ref wk, .ref ro, .ref mi, .ref se, .ref pl, .ref co, .ref tr, .ref iw, .ref ip])), (wk, .inr (8, [.int (u3681.1 0), .int (u3681.1 1), .int wkn2])), (he, .inr (9, [.ref hea0, .ref hea1, .ref hea2, .ref hea3, .ref hea4, .ref hea5, .ref hea6, .ref hea7, .int hen8, .int hen9, .int hen10, .int hen11])), (hea0, .inl (K 1, 40, .inl hef0)), (hea1, .inl (K 1, 10, .inl hef1))] := hD
        replace hP : va_P D vwCl [(x, .inr (10, [.ref rd, .ref he, .ref pa, .ref wk, .ref ro, .ref mi, .ref se, .ref pl, .ref co, .ref tr, .ref iw, .ref ip])), (he, .inr (9, [.ref hea0, .ref hea1, .ref hea2, .ref hea3, .ref hea4, .ref hea5, .ref hea6, .ref hea7, .int hen8, .int hen9, .int hen10, .int hen11])), (hea0, .inl (K 1, 40, .inl hef0)), (hea1, .inl (K 1, 10, .inl hef1)), (wk, .inr (8, [.int (u3681.1 0), .int (u3681.1 1), .int wkn2]))] H := hP.sub [0, 2, 3, 4, 1] rfl
        replace hD : va_D A [(x, .inr (10, [.ref rd, .ref he, .ref pa, .ref wk, .ref ro, .ref mi, .ref se, .ref pl, .ref co, .ref tr, .ref iw, .ref ip])), (he, .inr (9, [.ref hea0, .ref hea1, .ref hea2, .ref hea3, .ref hea4, .ref hea5, .ref hea6, .ref hea7, .int hen8, .int hen9, .int hen10, .int hen11])), (hea0, .inl (K 1, 40, .inl hef0)), (hea1, .inl (K 1, 10, .inl hef1)), (wk, .inr (8, [.int (u3681.1 0), .int (u3681.1 1), .int wkn2]))] := hD.sub [0, 2, 3, 4, 1] (by decide) rfl
        refine W.widen (k := 0) (n := 0) (by decide) (by decide) ?_
        refine lv_iload hx hb dX11_drawWalk_61 (lv_at hl 2 rfl) ?_
        refine lv_aload_n hx hb dX11_drawWalk_63 rfl (lv_at hl 3 rfl) ?_
        refine va_get (D := D) (ci := 10) (v := .ref wk) (C := RX11) (T := TX11) (N := 12) hx hb hts in_X11 hown hE.1 hP 0 rfl rfl 3 (by decide) (hts _ w_513) (fun _ h9 => h9) rfl dX11_drawWalk_64 ?_
        refine ro_V (As := []) (rest := [.int i3670]) hC hE kV_X11_168 (c_X9_isSure l D K wk (u3681.1 0) (u3681.1 1) wkn2) (hP.sub (ws' := [(wk, .inr (8, [.int (u3681.1 0), .int (u3681.1 1), .int wkn2]))]) [4] rfl) 0 8 rfl rfl rfl hl.1 rfl (Nat.le_of_ble_eq_true rfl) (by decide) (by decide) dX11_drawWalk_67 (fun r3683 hq => ?_)
        rcases hq with rfl | rfl
        · refine lv_if_eq (tgt := 77) hx hb dX11_drawWalk_70 (by decide) (fun _ => ?_) (fun h => absurd h (by decide))
          refine lv_iconst (v := 0) hx hb dX11_drawWalk_77 (by decide) ?_
          refine lv_iadd hx hb dX11_drawWalk_78 ?_
          refine lv_topi (fun v3684 ev3684 => ?_)
          refine lv_istore (lv' := [(5, .int v3684), (3, .long v3677), (6, .int i3669), (0, .ref x), (1, .int p0), (2, .int p1)]) hx hb dX11_drawWalk_79 hl (by decide) rfl (fun ls hl => ?_)
          obtain ⟨v3685, ev3685⟩ : ∃ z : Int32, z = i3669 + 1 := ⟨_, rfl⟩
          refine lv_iinc (v := v3685) (lv' := [(6, .int v3685), (5, .int v3684), (3, .long v3677), (0, .ref x), (1, .int p0), (2, .int p1)]) hx hb dX11_drawWalk_81 hl (k := 2) rfl (by rw [ev3685]; rfl) (by decide) rfl (fun ls hl => ?_)
          refine lv_goto (tgt := 23) hx hb dX11_drawWalk_84 (by decide) ?_
          have tv3685 : v3685.toInt = (i3669 : Int32).toInt + (1 : Int32).toInt := add_i ev3685 (by omega) (by omega)
          exact ih_23 (i3669 := v3685) (i3670 := v3684) (i3671 := v3677) (w3672 := (u3681.1 0)) (w3673 := (u3681.1 1)) (hi_23 := by omega) (H := H) (locs := locs) (ls := ls) (hn_23 := by omega) (hP := hP) (hD := hD) (hS := hS) (hl := lv_sub hl [0, 1, 2, 3, 4, 5] rfl)
        · refine lv_if_eq (tgt := 77) hx hb dX11_drawWalk_70 (by decide) (fun h => absurd h (by decide)) (fun _ => ?_)
          refine lv_iconst (v := 1) hx hb dX11_drawWalk_73 (by decide) ?_
          refine lv_goto (tgt := 78) hx hb dX11_drawWalk_74 (by decide) ?_
          refine lv_iadd hx hb dX11_drawWalk_78 ?_
          refine lv_topi (fun v3686 ev3686 => ?_)
          refine lv_istore (lv' := [(5, .int v3686), (3, .long v3677), (6, .int i3669), (0, .ref x), (1, .int p0), (2, .int p1)]) hx hb dX11_drawWalk_79 hl (by decide) rfl (fun ls hl => ?_)
          obtain ⟨v3687, ev3687⟩ : ∃ z : Int32, z = i3669 + 1 := ⟨_, rfl⟩
          refine lv_iinc (v := v3687) (lv' := [(6, .int v3687), (5, .int v3686), (3, .long v3677), (0, .ref x), (1, .int p0), (2, .int p1)]) hx hb dX11_drawWalk_81 hl (k := 2) rfl (by rw [ev3687]; rfl) (by decide) rfl (fun ls hl => ?_)
          refine lv_goto (tgt := 23) hx hb dX11_drawWalk_84 (by decide) ?_
          have tv3687 : v3687.toInt = (i3669 : Int32).toInt + (1 : Int32).toInt := add_i ev3687 (by omega) (by omega)
          exact ih_23 (i3669 := v3687) (i3670 := v3686) (i3671 := v3677) (w3672 := (u3681.1 0)) (w3673 := (u3681.1 1)) (hi_23 := by omega) (H := H) (locs := locs) (ls := ls) (hn_23 := by omega) (hP := hP) (hD := hD) (hS := hS) (hl := lv_sub hl [0, 1, 2, 3, 4, 5] rfl)
  · refine lv_if_eq (tgt := 17) hx hb dX11_drawWalk_10 (by decide) (fun h => absurd h (by decide)) (fun _ => ?_)
    refine lv_iconst (v := 1) hx hb dX11_drawWalk_13 (by decide) ?_
    refine lv_goto (tgt := 18) hx hb dX11_drawWalk_14 (by decide) ?_
    refine lv_istore (lv' := [(5, .int 1), (3, .long v3650), (0, .ref x), (1, .int p0), (2, .int p1)]) hx hb dX11_drawWalk_18 hl (by decide) rfl (fun ls hl => ?_)
    refine lv_iconst (v := 0) hx hb dX11_drawWalk_20 (by decide) ?_
    refine lv_istore (lv' := [(6, .int 0), (5, .int 1), (3, .long v3650), (0, .ref x), (1, .int p0), (2, .int p1)]) hx hb dX11_drawWalk_21 hl (by decide) rfl (fun ls hl => ?_)
    have hl' := hl; have hP' := hP; have hD' := hD; clear hl hP hD
    obtain ⟨i3705, i3706, i3707, w3708, w3709, hi_23, hl, hP, hD⟩ : ∃ (i3705 : Int32) (i3706 : Int32) (i3707 : Int64) (w3708 : Int32) (w3709 : Int32), ((0 : Int) ≤ i3705.toInt) ∧ lv_has ls 7 [(6, .int i3705), (5, .int i3706), (3, .long i3707), (0, .ref x), (1, .int p0), (2, .int p1)] ∧ va_P D vwCl [(x, .inr (10, [.ref rd, .ref he, .ref pa, .ref wk, .ref ro, .ref mi, .ref se, .ref pl, .ref co, .ref tr, .ref iw, .ref ip])), (he, .inr (9, [.ref hea0, .ref hea1, .ref hea2, .ref hea3, .ref hea4, .ref hea5, .ref hea6, .ref hea7, .int hen8, .int hen9, .int hen10, .int hen11])), (hea0, .inl (K 1, 40, .inl hef0)), (hea1, .inl (K 1, 10, .inl hef1)), (wk, .inr (8, [.int w3708, .int w3709, .int wkn2]))] H ∧ va_D A [(x, .inr (10, [.ref rd, .ref he, .ref pa, .ref wk, .ref ro, .ref mi, .ref se, .ref pl, .ref co, .ref tr, .ref iw, .ref ip])), (he, .inr (9, [.ref hea0, .ref hea1, .ref hea2, .ref hea3, .ref hea4, .ref hea5, .ref hea6, .ref hea7, .int hen8, .int hen9, .int hen10, .int hen11])), (hea0, .inl (K 1, 40, .inl hef0)), (hea1, .inl (K 1, 10, .inl hef1)), (wk, .inr (8, [.int w3708, .int w3709, .int wkn2]))] := ⟨_, _, _, _, _, by omega, hl', hP', hD'⟩
    clear hl' hP' hD'
    have hb_23 := i32_hi p1
    obtain ⟨n_23, hn_23⟩ : ∃ n : Nat, (p1.toInt - i3705.toInt).toNat < n := ⟨_, Nat.lt_succ_self _⟩
    induction n_23 generalizing i3705 i3706 i3707 w3708 w3709 H locs ls with
    | zero => exact absurd hn_23 (Nat.not_lt_zero _)
    | succ n_23 ih_23 =>
      refine lv_iload hx hb dX11_drawWalk_23 (lv_at hl 0 rfl) ?_
      refine lv_iload_n hx hb dX11_drawWalk_25 rfl (lv_at hl 5 rfl) ?_
      refine lv_icmp_ge (tgt := 87) hx hb dX11_drawWalk_26 (by decide) (fun c3710 => ?_) (fun c3710 => ?_)
      · replace c3710 := le_i c3710
        refine lv_iload hx hb dX11_drawWalk_87 (lv_at hl 1 rfl) ?_
        refine W.widen (k := 0) (n := 0) (by decide) (by decide) ?_
        exact ch_iret hC hr hk hS dX11_drawWalk_89 ((fun k => [w3708, w3709].getD k 0, fun k => [].getD k (fun _ => 0), fun k => [].getD k (fun _ => 0)) : ((Nat → Int32) × (Nat → Nat → Int32) × (Nat → Nat → Int64))) trivial (hP.sub [0, 1, 2, 3, 4] rfl) (hD.sub [0, 1, 2, 3, 4] (by decide) rfl)
      · replace c3710 := nle_i c3710
        refine lv_ldc2 (v := 1103515245) hx hb hown (hts _ w_579) dX11_drawWalk_29 ?_
        refine lv_lload_n hx hb dX11_drawWalk_32 rfl (lv_at hl 2 rfl) ?_
        refine lv_lmul hx hb dX11_drawWalk_33 ?_
        refine lv_topl (fun v3711 ev3711 => ?_)
        refine lv_ldc2 (v := 12345) hx hb hown (hts _ w_580) dX11_drawWalk_34 ?_
        refine lv_ladd hx hb dX11_drawWalk_37 ?_
        refine lv_topl (fun v3712 ev3712 => ?_)
        refine lv_ldc2 (v := 2147483647) hx hb hown (hts _ w_581) dX11_drawWalk_38 ?_
        refine lv_land hx hb dX11_drawWalk_41 ?_
        refine lv_topl (fun v3713 ev3713 => ?_)
        refine lv_lstore_n (lv' := [(3, .long v3713), (6, .int i3705), (5, .int i3706), (0, .ref x), (1, .int p0), (2, .int p1)]) hx hb dX11_drawWalk_42 rfl hl (by decide) rfl (fun ls hl => ?_)
        refine lv_aload_n hx hb dX11_drawWalk_43 rfl (lv_at hl 3 rfl) ?_
        refine va_get (D := D) (ci := 10) (v := .ref wk) (C := RX11) (T := TX11) (N := 12) hx hb hts in_X11 hown hE.1 hP 0 rfl rfl 3 (by decide) (hts _ w_513) (fun _ h9 => h9) rfl dX11_drawWalk_44 ?_
        refine lv_aload_n hx hb dX11_drawWalk_47 rfl (lv_at hl 3 rfl) ?_
        refine va_get (D := D) (ci := 10) (v := .ref he) (C := RX11) (T := TX11) (N := 12) hx hb hts in_X11 hown hE.1 hP 0 rfl rfl 1 (by decide) (hts _ w_511) (fun _ h9 => h9) rfl dX11_drawWalk_48 ?_
        refine lv_lload_n hx hb dX11_drawWalk_51 rfl (lv_at hl 0 rfl) ?_
        refine lv_bipush (v := 16) hx hb dX11_drawWalk_52 (by decide) ?_
        refine lv_lshr hx hb dX11_drawWalk_54 rfl ?_
        refine lv_topl (fun v3714 ev3714 => ?_)
        refine lv_l2i hx hb dX11_drawWalk_55 rfl ?_
        refine lv_topi (fun v3715 ev3715 => ?_)
        refine lv_iconst (v := 3) hx hb dX11_drawWalk_56 (by decide) ?_
        refine lv_iand hx hb dX11_drawWalk_57 ?_
        refine lv_topi (fun v3716 ev3716 => ?_)
        refine cv_V (As := [.ref he, .int v3716]) (rest := []) (wc := [(wk, .inr (8, [.int w3708, .int w3709, .int wkn2])), (he, .inr (9, [.ref hea0, .ref hea1, .ref hea2, .ref hea3, .ref hea4, .ref hea5, .ref hea6, .ref hea7, .int hen8, .int hen9, .int hen10, .int hen11])), (hea0, .inl (K 1, 40, .inl hef0)), (hea1, .inl (K 1, 10, .inl hef1))]) (wr := [(x, .inr (10, [.ref rd, .ref he, .ref pa, .ref wk, .ref ro, .ref mi, .ref se, .ref pl, .ref co, .ref tr, .ref iw, .ref ip]))]) hC hE kV_X11_177 (c_X9_step l D K wk he hea0 hea1 hea2 hea3 hea4 hea5 hea6 hea7 w3708 w3709 wkn2 hen8 hen9 hen10 hen11 hef0 hef1 v3716) hP hD hS hA [4, 1, 2, 3] [0] rfl rfl rfl (by decide) (by decide) (by decide) 0 8 rfl rfl rfl hl.1 rfl (Nat.le_of_ble_eq_true rfl) (by decide) (by decide) dX11_drawWalk_58 (fun u3717 H locs hw hP hD hS => ?_)
        replace hP : va_P D vwCl [(x, .inr (10, [.ref rd, .ref he, .ref pa, .ref wk, .ref ro, .ref mi, .ref se, .ref pl, .ref co, .ref tr, .ref iw, .ref ip])), (wk, .inr (8, [.int (u3717.1 0), .int (u3717.1 1), .int wkn2])), (he, .inr (9, [.ref hea0, .ref hea1, .ref hea2, .ref hea3, .ref hea4, .ref hea5, .ref hea6, .ref hea7, .int hen8, .int hen9, .int hen10, .int hen11])), (hea0, .inl (K 1, 40, .inl hef0)), (hea1, .inl (K 1, 10, .inl hef1))] H := hP
        replace hD : va_D A [(x, .inr (10, [.ref rd, .ref he, .ref pa, .ref wk, .ref ro, .ref mi, .ref se, .ref pl, .ref co, .ref tr, .ref iw, .ref ip])), (wk, .inr (8, [.int (u3717.1 0), .int (u3717.1 1), .int wkn2])), (he, .inr (9, [.ref hea0, .ref hea1, .ref hea2, .ref hea3, .ref hea4, .ref hea5, .ref hea6, .ref hea7, .int hen8, .int hen9, .int hen10, .int hen11])), (hea0, .inl (K 1, 40, .inl hef0)), (hea1, .inl (K 1, 10, .inl hef1))] := hD
        replace hP : va_P D vwCl [(x, .inr (10, [.ref rd, .ref he, .ref pa, .ref wk, .ref ro, .ref mi, .ref se, .ref pl, .ref co, .ref tr, .ref iw, .ref ip])), (he, .inr (9, [.ref hea0, .ref hea1, .ref hea2, .ref hea3, .ref hea4, .ref hea5, .ref hea6, .ref hea7, .int hen8, .int hen9, .int hen10, .int hen11])), (hea0, .inl (K 1, 40, .inl hef0)), (hea1, .inl (K 1, 10, .inl hef1)), (wk, .inr (8, [.int (u3717.1 0), .int (u3717.1 1), .int wkn2]))] H := hP.sub [0, 2, 3, 4, 1] rfl
        replace hD : va_D A [(x, .inr (10, [.ref rd, .ref he, .ref pa, .ref wk, .ref ro, .ref mi, .ref se, .ref pl, .ref co, .ref tr, .ref iw, .ref ip])), (he, .inr (9, [.ref hea0, .ref hea1, .ref hea2, .ref hea3, .ref hea4, .ref hea5, .ref hea6, .ref hea7, .int hen8, .int hen9, .int hen10, .int hen11])), (hea0, .inl (K 1, 40, .inl hef0)), (hea1, .inl (K 1, 10, .inl hef1)), (wk, .inr (8, [.int (u3717.1 0), .int (u3717.1 1), .int wkn2]))] := hD.sub [0, 2, 3, 4, 1] (by decide) rfl
        refine W.widen (k := 0) (n := 0) (by decide) (by decide) ?_
        refine lv_iload hx hb dX11_drawWalk_61 (lv_at hl 2 rfl) ?_
        refine lv_aload_n hx hb dX11_drawWalk_63 rfl (lv_at hl 3 rfl) ?_
        refine va_get (D := D) (ci := 10) (v := .ref wk) (C := RX11) (T := TX11) (N := 12) hx hb hts in_X11 hown hE.1 hP 0 rfl rfl 3 (by decide) (hts _ w_513) (fun _ h9 => h9) rfl dX11_drawWalk_64 ?_
        refine ro_V (As := []) (rest := [.int i3706]) hC hE kV_X11_168 (c_X9_isSure l D K wk (u3717.1 0) (u3717.1 1) wkn2) (hP.sub (ws' := [(wk, .inr (8, [.int (u3717.1 0), .int (u3717.1 1), .int wkn2]))]) [4] rfl) 0 8 rfl rfl rfl hl.1 rfl (Nat.le_of_ble_eq_true rfl) (by decide) (by decide) dX11_drawWalk_67 (fun r3719 hq => ?_)
        rcases hq with rfl | rfl
        · refine lv_if_eq (tgt := 77) hx hb dX11_drawWalk_70 (by decide) (fun _ => ?_) (fun h => absurd h (by decide))
          refine lv_iconst (v := 0) hx hb dX11_drawWalk_77 (by decide) ?_
          refine lv_iadd hx hb dX11_drawWalk_78 ?_
          refine lv_topi (fun v3720 ev3720 => ?_)
          refine lv_istore (lv' := [(5, .int v3720), (3, .long v3713), (6, .int i3705), (0, .ref x), (1, .int p0), (2, .int p1)]) hx hb dX11_drawWalk_79 hl (by decide) rfl (fun ls hl => ?_)
          obtain ⟨v3721, ev3721⟩ : ∃ z : Int32, z = i3705 + 1 := ⟨_, rfl⟩
          refine lv_iinc (v := v3721) (lv' := [(6, .int v3721), (5, .int v3720), (3, .long v3713), (0, .ref x), (1, .int p0), (2, .int p1)]) hx hb dX11_drawWalk_81 hl (k := 2) rfl (by rw [ev3721]; rfl) (by decide) rfl (fun ls hl => ?_)
          refine lv_goto (tgt := 23) hx hb dX11_drawWalk_84 (by decide) ?_
          have tv3721 : v3721.toInt = (i3705 : Int32).toInt + (1 : Int32).toInt := add_i ev3721 (by omega) (by omega)
          exact ih_23 (i3705 := v3721) (i3706 := v3720) (i3707 := v3713) (w3708 := (u3717.1 0)) (w3709 := (u3717.1 1)) (hi_23 := by omega) (H := H) (locs := locs) (ls := ls) (hn_23 := by omega) (hP := hP) (hD := hD) (hS := hS) (hl := lv_sub hl [0, 1, 2, 3, 4, 5] rfl)
        · refine lv_if_eq (tgt := 77) hx hb dX11_drawWalk_70 (by decide) (fun h => absurd h (by decide)) (fun _ => ?_)
          refine lv_iconst (v := 1) hx hb dX11_drawWalk_73 (by decide) ?_
          refine lv_goto (tgt := 78) hx hb dX11_drawWalk_74 (by decide) ?_
          refine lv_iadd hx hb dX11_drawWalk_78 ?_
          refine lv_topi (fun v3722 ev3722 => ?_)
          refine lv_istore (lv' := [(5, .int v3722), (3, .long v3713), (6, .int i3705), (0, .ref x), (1, .int p0), (2, .int p1)]) hx hb dX11_drawWalk_79 hl (by decide) rfl (fun ls hl => ?_)
          obtain ⟨v3723, ev3723⟩ : ∃ z : Int32, z = i3705 + 1 := ⟨_, rfl⟩
          refine lv_iinc (v := v3723) (lv' := [(6, .int v3723), (5, .int v3722), (3, .long v3713), (0, .ref x), (1, .int p0), (2, .int p1)]) hx hb dX11_drawWalk_81 hl (k := 2) rfl (by rw [ev3723]; rfl) (by decide) rfl (fun ls hl => ?_)
          refine lv_goto (tgt := 23) hx hb dX11_drawWalk_84 (by decide) ?_
          have tv3723 : v3723.toInt = (i3705 : Int32).toInt + (1 : Int32).toInt := add_i ev3723 (by omega) (by omega)
          exact ih_23 (i3705 := v3723) (i3706 := v3722) (i3707 := v3713) (w3708 := (u3717.1 0)) (w3709 := (u3717.1 1)) (hi_23 := by omega) (H := H) (locs := locs) (ls := ls) (hn_23 := by omega) (hP := hP) (hD := hD) (hS := hS) (hl := lv_sub hl [0, 1, 2, 3, 4, 5] rfl)
