set_option maxRecDepth 40000 in
set_option maxHeartbeats 4000000 in
theorem c_X9_step (l : Launch) (D : va_G) (K : Nat → ClassId) (w : Nat) (v : Nat) (va0 : Nat) (va1 : Nat) (va2 : Nat) (va3 : Nat) (va4 : Nat) (va5 : Nat) (va6 : Nat) (va7 : Nat) (wn0 : Int32) (wn1 : Int32) (wn2 : Int32) (vn8 : Int32) (vn9 : Int32) (vn10 : Int32) (vn11 : Int32) (vf0 : Nat → Int32) (vf1 : Nat → Int32) (p1 : Int32) : Cv (S := ((Nat → Int32) × (Nat → Nat → Int32) × (Nat → Nat → Int64))) l D K yX9_step cX9_step 5 2 44 0 0 [.ref w, .ref v, .int p1] [(w, .inr (8, [.int wn0, .int wn1, .int wn2])), (v, .inr (9, [.ref va0, .ref va1, .ref va2, .ref va3, .ref va4, .ref va5, .ref va6, .ref va7, .int vn8, .int vn9, .int vn10, .int vn11])), (va0, .inl (K 1, 40, .inl vf0)), (va1, .inl (K 1, 10, .inl vf1))] (fun _ => True) (fun u => [(w, .inr (8, [.int (u.1 0), .int (u.1 1), .int wn2])), (v, .inr (9, [.ref va0, .ref va1, .ref va2, .ref va3, .ref va4, .ref va5, .ref va6, .ref va7, .int vn8, .int vn9, .int vn10, .int vn11])), (va0, .inl (K 1, 40, .inl vf0)), (va1, .inl (K 1, 10, .inl vf1))]) := by
  intro sz
  refine ch_of (y := yX9_step) (cc := cX9_step) (maxL := 5) (ret := none) (av := [.ref w, .ref v, .int p1]) (ws := [(w, .inr (8, [.int wn0, .int wn1, .int wn2])), (v, .inr (9, [.ref va0, .ref va1, .ref va2, .ref va3, .ref va4, .ref va5, .ref va6, .ref va7, .int vn8, .int vn9, .int vn10, .int vn11])), (va0, .inl (K 1, 40, .inl vf0)), (va1, .inl (K 1, 10, .inl vf1))]) (D := D) (K := K) (Qc := fun A => va_Qv (S := ((Nat → Int32) × (Nat → Nat → Int32) × (Nat → Nat → Int64))) (fun _ => True) (chB D A (fun u => [(w, .inr (8, [.int (u.1 0), .int (u.1 1), .int wn2])), (v, .inr (9, [.ref va0, .ref va1, .ref va2, .ref va3, .ref va4, .ref va5, .ref va6, .ref va7, .int vn8, .int vn9, .int vn10, .int vn11])), (va0, .inl (K 1, 40, .inl vf0)), (va1, .inl (K 1, 10, .inl vf1))])) A) (by decide) (Nat.le_of_ble_eq_true rfl) ?_
  intro p e s m below meth c A hC hr hk hin hE hD hA H locs hP hS ls hl
  replace hC : CallFix p m c cX9_step 5 s [.ref w, .ref v, .int p1].toArray wl RX9 := hC
  have hx := hC.1
  have hb := hC.2.1
  have hml := hC.2.2.1
  have hown := hC.2.2.2.1
  have hts := hC.2.2.2.2
  replace hl : lv_has ls 5 [(0, .ref w), (1, .ref v), (2, .int p1)] := hl
  have kc_0 : (0 : Int32).toInt = 0 := by decide
  refine lv_aload_n hx hb dX9_step_0 rfl (lv_at hl 0 rfl) ?_
  refine lv_aload_n hx hb dX9_step_1 rfl (lv_at hl 1 rfl) ?_
  refine lv_aload_n hx hb dX9_step_2 rfl (lv_at hl 0 rfl) ?_
  refine va_get (D := D) (ci := 8) (v := .int wn0) (C := RX9) (T := TX9) (N := 3) hx hb hts in_X9 hown hE.1 hP 0 rfl rfl 0 (by decide) (hts _ w_57) (fun _ h9 => h9) rfl dX9_step_3 ?_
  refine lv_iload_n hx hb dX9_step_6 rfl (lv_at hl 2 rfl) ?_
  refine lv_aload_n hx hb dX9_step_7 rfl (lv_at hl 0 rfl) ?_
  refine va_get (D := D) (ci := 8) (v := .int wn2) (C := RX9) (T := TX9) (N := 3) hx hb hts in_X9 hown hE.1 hP 0 rfl rfl 2 (by decide) (hts _ w_58) (fun _ h9 => h9) rfl dX9_step_8 ?_
  refine lv_iadd hx hb dX9_step_11 ?_
  refine lv_topi (fun v248 ev248 => ?_)
  refine lv_iconst (v := 4) hx hb dX9_step_12 (by decide) ?_
  refine lv_irem hx hb dX9_step_13 (by decide) ?_
  refine lv_topi (fun v249 ev249 => ?_)
  refine ro_V (As := [.int wn0, .int v249]) (rest := [.ref w]) hC hE kV_X9_21 (c_X10_after l D K v va0 va1 va2 va3 va4 va5 va6 va7 vn8 vn9 vn10 vn11 vf0 wn0 v249) (hP.sub (ws' := [(v, .inr (9, [.ref va0, .ref va1, .ref va2, .ref va3, .ref va4, .ref va5, .ref va6, .ref va7, .int vn8, .int vn9, .int vn10, .int vn11])), (va0, .inl (K 1, 40, .inl vf0))]) [1, 2] rfl) 0 9 rfl rfl rfl hl.1 rfl (Nat.le_of_ble_eq_true rfl) (by decide) (by decide) dX9_step_14 (fun r250 _ => ?_)
  refine va_put (D := D) (ci := 8) (v := .int r250) (ty := .int) (C := RX9) (T := TX9) (N := 3) hx hb hts in_X9 tyX9 tyX9_ok nmX9 hown hE.1 hP hD hS 0 rfl rfl 0 (by decide) (hts _ w_57) (fun _ h9 => h9) rfl (by decide +kernel) rfl rfl (Nat.le_of_ble_eq_true rfl) dX9_step_17 (fun H locs hP hD hS => ?_)
  replace hP : va_P D vwCl [(w, .inr (8, [.int r250, .int wn1, .int wn2])), (v, .inr (9, [.ref va0, .ref va1, .ref va2, .ref va3, .ref va4, .ref va5, .ref va6, .ref va7, .int vn8, .int vn9, .int vn10, .int vn11])), (va0, .inl (K 1, 40, .inl vf0)), (va1, .inl (K 1, 10, .inl vf1))] H := hP
  replace hD : va_D A [(w, .inr (8, [.int r250, .int wn1, .int wn2])), (v, .inr (9, [.ref va0, .ref va1, .ref va2, .ref va3, .ref va4, .ref va5, .ref va6, .ref va7, .int vn8, .int vn9, .int vn10, .int vn11])), (va0, .inl (K 1, 40, .inl vf0)), (va1, .inl (K 1, 10, .inl vf1))] := hD
  refine lv_aload_n hx hb dX9_step_20 rfl (lv_at hl 1 rfl) ?_
  refine lv_aload_n hx hb dX9_step_21 rfl (lv_at hl 0 rfl) ?_
  refine va_get (D := D) (ci := 8) (v := .int r250) (C := RX9) (T := TX9) (N := 3) hx hb hts in_X9 hown hE.1 hP 0 rfl rfl 0 (by decide) (hts _ w_57) (fun _ h9 => h9) rfl dX9_step_22 ?_
  refine ro_V (As := [.int r250]) (rest := []) hC hE kV_X9_27 (c_X10_sign l D K v va0 va1 va2 va3 va4 va5 va6 va7 vn8 vn9 vn10 vn11 vf1 r250) (hP.sub (ws' := [(v, .inr (9, [.ref va0, .ref va1, .ref va2, .ref va3, .ref va4, .ref va5, .ref va6, .ref va7, .int vn8, .int vn9, .int vn10, .int vn11])), (va1, .inl (K 1, 10, .inl vf1))]) [1, 3] rfl) 0 9 rfl rfl rfl hl.1 rfl (Nat.le_of_ble_eq_true rfl) (by decide) (by decide) dX9_step_25 (fun r251 _ => ?_)
  refine lv_istore_n (lv' := [(3, .int r251), (0, .ref w), (1, .ref v), (2, .int p1)]) hx hb dX9_step_28 rfl hl (by decide) rfl (fun ls hl => ?_)
  refine lv_aload_n hx hb dX9_step_29 rfl (lv_at hl 2 rfl) ?_
  refine lv_aload_n hx hb dX9_step_30 rfl (lv_at hl 2 rfl) ?_
  refine lv_aload_n hx hb dX9_step_31 rfl (lv_at hl 1 rfl) ?_
  refine va_get (D := D) (ci := 8) (v := .int wn1) (C := RX9) (T := TX9) (N := 3) hx hb hts in_X9 hown hE.1 hP 0 rfl rfl 1 (by decide) (hts _ w_53) (fun _ h9 => h9) rfl dX9_step_32 ?_
  refine lv_iload_n hx hb dX9_step_35 rfl (lv_at hl 3 rfl) ?_
  refine ro_V (As := [.int wn1, .int p1]) (rest := [.ref v]) hC hE kV_X9_31 (c_X10_spread l D K v va0 va1 va2 va3 va4 va5 va6 va7 vn8 vn9 vn10 vn11 vf0 wn1 p1) (hP.sub (ws' := [(v, .inr (9, [.ref va0, .ref va1, .ref va2, .ref va3, .ref va4, .ref va5, .ref va6, .ref va7, .int vn8, .int vn9, .int vn10, .int vn11])), (va0, .inl (K 1, 40, .inl vf0))]) [1, 2] rfl) 0 9 rfl rfl rfl hl.1 rfl (Nat.le_of_ble_eq_true rfl) (by decide) (by decide) dX9_step_36 (fun r252 _ => ?_)
  refine lv_iload_n hx hb dX9_step_39 rfl (lv_at hl 0 rfl) ?_
  refine ro_V (As := [.int r252, .int r251]) (rest := []) hC hE kV_X9_34 (c_X10_showing l D K v va0 va1 va2 va3 va4 va5 va6 va7 vn8 vn9 vn10 vn11 vf1 r252 r251) (hP.sub (ws' := [(v, .inr (9, [.ref va0, .ref va1, .ref va2, .ref va3, .ref va4, .ref va5, .ref va6, .ref va7, .int vn8, .int vn9, .int vn10, .int vn11])), (va1, .inl (K 1, 10, .inl vf1))]) [1, 3] rfl) 0 9 rfl rfl rfl hl.1 rfl (Nat.le_of_ble_eq_true rfl) (by decide) (by decide) dX9_step_40 (fun r253 _ => ?_)
  refine lv_istore (lv' := [(4, .int r253), (3, .int r251), (0, .ref w), (1, .ref v), (2, .int p1)]) hx hb dX9_step_43 hl (by decide) rfl (fun ls hl => ?_)
  refine lv_aload_n hx hb dX9_step_45 rfl (lv_at hl 2 rfl) ?_
  refine lv_iload hx hb dX9_step_46 (lv_at hl 0 rfl) ?_
  refine lv_if_eq (tgt := 56) hx hb dX9_step_48 (by decide) (fun c254 => ?_) (fun c254 => ?_)
  · replace c254 := eq_i c254
    refine lv_aload_n hx hb dX9_step_56 rfl (lv_at hl 3 rfl) ?_
    refine lv_aload_n hx hb dX9_step_57 rfl (lv_at hl 3 rfl) ?_
    refine ro_V (As := []) (rest := [.ref v, .ref w]) hC hE kV_X9_37 (c_X10_all l D K v va0 va1 va2 va3 va4 va5 va6 va7 vn8 vn9 vn10 vn11) (hP.sub (ws' := [(v, .inr (9, [.ref va0, .ref va1, .ref va2, .ref va3, .ref va4, .ref va5, .ref va6, .ref va7, .int vn8, .int vn9, .int vn10, .int vn11]))]) [1] rfl) 0 9 rfl rfl rfl hl.1 rfl (Nat.le_of_ble_eq_true rfl) (by decide) (by decide) dX9_step_58 (fun r255 _ => ?_)
    refine lv_iload_n hx hb dX9_step_61 rfl (lv_at hl 1 rfl) ?_
    refine ro_V (As := [.int r255, .int r251]) (rest := [.ref w]) hC hE kV_X9_34 (c_X10_showing l D K v va0 va1 va2 va3 va4 va5 va6 va7 vn8 vn9 vn10 vn11 vf1 r255 r251) (hP.sub (ws' := [(v, .inr (9, [.ref va0, .ref va1, .ref va2, .ref va3, .ref va4, .ref va5, .ref va6, .ref va7, .int vn8, .int vn9, .int vn10, .int vn11])), (va1, .inl (K 1, 10, .inl vf1))]) [1, 3] rfl) 0 9 rfl rfl rfl hl.1 rfl (Nat.le_of_ble_eq_true rfl) (by decide) (by decide) dX9_step_62 (fun r256 _ => ?_)
    refine va_put (D := D) (ci := 8) (v := .int r256) (ty := .int) (C := RX9) (T := TX9) (N := 3) hx hb hts in_X9 tyX9 tyX9_ok nmX9 hown hE.1 hP hD hS 0 rfl rfl 1 (by decide) (hts _ w_53) (fun _ h9 => h9) rfl (by decide +kernel) rfl rfl (Nat.le_of_ble_eq_true rfl) dX9_step_65 (fun H locs hP hD hS => ?_)
    replace hP : va_P D vwCl [(w, .inr (8, [.int r250, .int r256, .int wn2])), (v, .inr (9, [.ref va0, .ref va1, .ref va2, .ref va3, .ref va4, .ref va5, .ref va6, .ref va7, .int vn8, .int vn9, .int vn10, .int vn11])), (va0, .inl (K 1, 40, .inl vf0)), (va1, .inl (K 1, 10, .inl vf1))] H := hP
    replace hD : va_D A [(w, .inr (8, [.int r250, .int r256, .int wn2])), (v, .inr (9, [.ref va0, .ref va1, .ref va2, .ref va3, .ref va4, .ref va5, .ref va6, .ref va7, .int vn8, .int vn9, .int vn10, .int vn11])), (va0, .inl (K 1, 40, .inl vf0)), (va1, .inl (K 1, 10, .inl vf1))] := hD
    refine W.widen (k := 0) (n := 0) (by decide) (by decide) ?_
    exact ch_vret hC hr hk hS dX9_step_68 ((fun k => [r250, r256].getD k 0, fun k => [].getD k (fun _ => 0), fun k => [].getD k (fun _ => 0)) : ((Nat → Int32) × (Nat → Nat → Int32) × (Nat → Nat → Int64))) trivial (hP.sub [0, 1, 2, 3] rfl) (hD.sub [0, 1, 2, 3] (by decide) rfl)
  · replace c254 := ne_i c254
    refine lv_iload hx hb dX9_step_51 (lv_at hl 0 rfl) ?_
    refine lv_goto (tgt := 65) hx hb dX9_step_53 (by decide) ?_
    refine va_put (D := D) (ci := 8) (v := .int r253) (ty := .int) (C := RX9) (T := TX9) (N := 3) hx hb hts in_X9 tyX9 tyX9_ok nmX9 hown hE.1 hP hD hS 0 rfl rfl 1 (by decide) (hts _ w_53) (fun _ h9 => h9) rfl (by decide +kernel) rfl rfl (Nat.le_of_ble_eq_true rfl) dX9_step_65 (fun H locs hP hD hS => ?_)
    replace hP : va_P D vwCl [(w, .inr (8, [.int r250, .int r253, .int wn2])), (v, .inr (9, [.ref va0, .ref va1, .ref va2, .ref va3, .ref va4, .ref va5, .ref va6, .ref va7, .int vn8, .int vn9, .int vn10, .int vn11])), (va0, .inl (K 1, 40, .inl vf0)), (va1, .inl (K 1, 10, .inl vf1))] H := hP
    replace hD : va_D A [(w, .inr (8, [.int r250, .int r253, .int wn2])), (v, .inr (9, [.ref va0, .ref va1, .ref va2, .ref va3, .ref va4, .ref va5, .ref va6, .ref va7, .int vn8, .int vn9, .int vn10, .int vn11])), (va0, .inl (K 1, 40, .inl vf0)), (va1, .inl (K 1, 10, .inl vf1))] := hD
    refine W.widen (k := 0) (n := 0) (by decide) (by decide) ?_
    exact ch_vret hC hr hk hS dX9_step_68 ((fun k => [r250, r253].getD k 0, fun k => [].getD k (fun _ => 0), fun k => [].getD k (fun _ => 0)) : ((Nat → Int32) × (Nat → Nat → Int32) × (Nat → Nat → Int64))) trivial (hP.sub [0, 1, 2, 3] rfl) (hD.sub [0, 1, 2, 3] (by decide) rfl)
set_option maxRecDepth 40000 in
set_option maxHeartbeats 4000000 in
theorem c_X7_showsOne (l : Launch) (D : va_G) (K : Nat → ClassId) (v : Nat) (va0 : Nat) (va1 : Nat) (va2 : Nat) (va3 : Nat) (va4 : Nat) (va5 : Nat) (va6 : Nat) (va7 : Nat) (vn8 : Int32) (vn9 : Int32) (vn10 : Int32) (vn11 : Int32) (vf1 : Nat → Int32) (p1 : Int32) (p2 : Int32) : Ro l D K yX7_showsOne cX7_showsOne 6 (some .boolean) 2 42 [.ref v, .int p1, .int p2] [(v, .inr (9, [.ref va0, .ref va1, .ref va2, .ref va3, .ref va4, .ref va5, .ref va6, .ref va7, .int vn8, .int vn9, .int vn10, .int vn11])), (va1, .inl (K 1, 10, .inl vf1))] (fun r => (r = 0) ∨ (r = 1)) := by
  refine ro_of (by decide) (Nat.le_of_ble_eq_true rfl) ?_
  intro p e s m below meth c hC hr hk hE hP ls hl
  replace hC : CallFix p m c cX7_showsOne 6 s [.ref v, .int p1, .int p2].toArray wl RX7 := hC
  have hx := hC.1
  have hb := hC.2.1
  have hml := hC.2.2.1
  have hown := hC.2.2.2.1
  have hts := hC.2.2.2.2
  replace hl : lv_has ls 6 [(0, .ref v), (1, .int p1), (2, .int p2)] := hl
  have kc_m1 : (-1 : Int32).toInt = -1 := by decide
  have kc_0 : (0 : Int32).toInt = 0 := by decide
  have kc_1 : (1 : Int32).toInt = 1 := by decide
  refine lv_iconst (v := (-1)) hx hb dX7_showsOne_0 (by decide) ?_
  refine lv_istore_n (lv' := [(3, .int (-1)), (0, .ref v), (1, .int p1), (2, .int p2)]) hx hb dX7_showsOne_1 rfl hl (by decide) rfl (fun ls hl => ?_)
  refine lv_iconst (v := 0) hx hb dX7_showsOne_2 (by decide) ?_
  refine lv_istore (lv' := [(4, .int 0), (3, .int (-1)), (0, .ref v), (1, .int p1), (2, .int p2)]) hx hb dX7_showsOne_3 hl (by decide) rfl (fun ls hl => ?_)
  have hl' := hl; clear hl
  obtain ⟨i276, i277, hi_5, hl⟩ : ∃ (i276 : Int32) (i277 : Int32), ((0 : Int) ≤ i276.toInt) ∧ lv_has ls 6 [(4, .int i276), (3, .int i277), (0, .ref v), (1, .int p1), (2, .int p2)] := ⟨_, _, by omega, hl'⟩
  clear hl'
  have hb_5 := i32_hi vn8
  obtain ⟨n_5, hn_5⟩ : ∃ n : Nat, (vn8.toInt - i276.toInt).toNat < n := ⟨_, Nat.lt_succ_self _⟩
  induction n_5 generalizing i276 i277 ls with
  | zero => exact absurd hn_5 (Nat.not_lt_zero _)
  | succ n_5 ih_5 =>
    refine lv_iload hx hb dX7_showsOne_5 (lv_at hl 0 rfl) ?_
    refine lv_aload_n hx hb dX7_showsOne_7 rfl (lv_at hl 2 rfl) ?_
    refine va_get (D := D) (ci := 9) (v := .int vn8) (C := RX10) (T := TX10) (N := 12) hx hb hts in_X10 hown hE.1 hP 0 rfl rfl 8 (by decide) (hts _ w_67) (fun _ h9 => h9) rfl dX7_showsOne_8 ?_
    refine lv_icmp_ge (tgt := 69) hx hb dX7_showsOne_11 (by decide) (fun c278 => ?_) (fun c278 => ?_)
    · replace c278 := le_i c278
      refine lv_iconst (v := 1) hx hb dX7_showsOne_69 (by decide) ?_
      exact ro_zret hC hr hk dX7_showsOne_70 rfl (Or.inr rfl)
    · replace c278 := nle_i c278
      refine lv_iload_n hx hb dX7_showsOne_14 rfl (lv_at hl 3 rfl) ?_
      refine lv_iload hx hb dX7_showsOne_15 (lv_at hl 0 rfl) ?_
      refine lv_ishr hx hb dX7_showsOne_17 ?_
      refine lv_topi (fun v279 ev279 => ?_)
      refine lv_iconst (v := 1) hx hb dX7_showsOne_18 (by decide) ?_
      refine lv_iand hx hb dX7_showsOne_19 ?_
      refine lv_topi (fun v280 ev280 => ?_)
      have tv280 : 0 ≤ v280.toInt ∧ v280.toInt ≤ 1 := and_i2 ev280 (by decide) (by decide)
      refine lv_if_ne (tgt := 26) hx hb dX7_showsOne_20 (by decide) (fun c281 => ?_) (fun c281 => ?_)
      · replace c281 := ne_i c281
        refine lv_iload_n hx hb dX7_showsOne_26 rfl (lv_at hl 4 rfl) ?_
        refine lv_iload hx hb dX7_showsOne_27 (lv_at hl 0 rfl) ?_
        refine lv_ishr hx hb dX7_showsOne_29 ?_
        refine lv_topi (fun v282 ev282 => ?_)
        refine lv_iconst (v := 1) hx hb dX7_showsOne_30 (by decide) ?_
        refine lv_iand hx hb dX7_showsOne_31 ?_
        refine lv_topi (fun v283 ev283 => ?_)
        have tv283 : 0 ≤ v283.toInt ∧ v283.toInt ≤ 1 := and_i2 ev283 (by decide) (by decide)
        refine lv_if_eq (tgt := 39) hx hb dX7_showsOne_32 (by decide) (fun c284 => ?_) (fun c284 => ?_)
        · replace c284 := eq_i c284
          refine lv_aload_n hx hb dX7_showsOne_39 rfl (lv_at hl 2 rfl) ?_
          refine lv_iload hx hb dX7_showsOne_40 (lv_at hl 0 rfl) ?_
          refine ro_V (As := [.int i276]) (rest := []) hC hE kV_X7_38 (c_X10_sign l D K v va0 va1 va2 va3 va4 va5 va6 va7 vn8 vn9 vn10 vn11 vf1 i276) (hP.sub (ws' := [(v, .inr (9, [.ref va0, .ref va1, .ref va2, .ref va3, .ref va4, .ref va5, .ref va6, .ref va7, .int vn8, .int vn9, .int vn10, .int vn11])), (va1, .inl (K 1, 10, .inl vf1))]) [0, 1] rfl) 0 9 rfl rfl rfl hl.1 rfl (Nat.le_of_ble_eq_true rfl) (by decide) (by decide) dX7_showsOne_42 (fun r285 _ => ?_)
          refine lv_istore (lv' := [(5, .int r285), (4, .int i276), (3, .int i277), (0, .ref v), (1, .int p1), (2, .int p2)]) hx hb dX7_showsOne_45 hl (by decide) rfl (fun ls hl => ?_)
          refine lv_iload_n hx hb dX7_showsOne_47 rfl (lv_at hl 2 rfl) ?_
          refine lv_iconst (v := (-1)) hx hb dX7_showsOne_48 (by decide) ?_
          refine lv_icmp_eq (tgt := 60) hx hb dX7_showsOne_49 (by decide) (fun c286 => ?_) (fun c286 => ?_)
          · replace c286 := eq_i c286
            refine lv_iload hx hb dX7_showsOne_60 (lv_at hl 0 rfl) ?_
            refine lv_istore_n (lv' := [(3, .int r285), (5, .int r285), (4, .int i276), (0, .ref v), (1, .int p1), (2, .int p2)]) hx hb dX7_showsOne_62 rfl hl (by decide) rfl (fun ls hl => ?_)
            obtain ⟨v287, ev287⟩ : ∃ z : Int32, z = i276 + 1 := ⟨_, rfl⟩
            refine lv_iinc (v := v287) (lv' := [(4, .int v287), (3, .int r285), (5, .int r285), (0, .ref v), (1, .int p1), (2, .int p2)]) hx hb dX7_showsOne_63 hl (k := 2) rfl (by rw [ev287]; rfl) (by decide) rfl (fun ls hl => ?_)
            refine lv_goto (tgt := 5) hx hb dX7_showsOne_66 (by decide) ?_
            have tv287 : v287.toInt = (i276 : Int32).toInt + (1 : Int32).toInt := add_i ev287 (by omega) (by omega)
            exact ih_5 (i276 := v287) (i277 := r285) (hi_5 := by omega) (ls := ls) (hn_5 := by omega) (hl := lv_sub hl [0, 1, 3, 4, 5] rfl)
          · replace c286 := ne_i c286
            refine lv_iload_n hx hb dX7_showsOne_52 rfl (lv_at hl 2 rfl) ?_
            refine lv_iload hx hb dX7_showsOne_53 (lv_at hl 0 rfl) ?_
            refine lv_icmp_eq (tgt := 60) hx hb dX7_showsOne_55 (by decide) (fun c288 => ?_) (fun c288 => ?_)
            · replace c288 := eq_i c288
              refine lv_iload hx hb dX7_showsOne_60 (lv_at hl 0 rfl) ?_
              refine lv_istore_n (lv' := [(3, .int r285), (5, .int r285), (4, .int i276), (0, .ref v), (1, .int p1), (2, .int p2)]) hx hb dX7_showsOne_62 rfl hl (by decide) rfl (fun ls hl => ?_)
              obtain ⟨v289, ev289⟩ : ∃ z : Int32, z = i276 + 1 := ⟨_, rfl⟩
              refine lv_iinc (v := v289) (lv' := [(4, .int v289), (3, .int r285), (5, .int r285), (0, .ref v), (1, .int p1), (2, .int p2)]) hx hb dX7_showsOne_63 hl (k := 2) rfl (by rw [ev289]; rfl) (by decide) rfl (fun ls hl => ?_)
              refine lv_goto (tgt := 5) hx hb dX7_showsOne_66 (by decide) ?_
              have tv289 : v289.toInt = (i276 : Int32).toInt + (1 : Int32).toInt := add_i ev289 (by omega) (by omega)
              exact ih_5 (i276 := v289) (i277 := r285) (hi_5 := by omega) (ls := ls) (hn_5 := by omega) (hl := lv_sub hl [0, 1, 3, 4, 5] rfl)
            · replace c288 := ne_i c288
              refine lv_iconst (v := 0) hx hb dX7_showsOne_58 (by decide) ?_
              exact ro_zret hC hr hk dX7_showsOne_59 rfl (Or.inl rfl)
        · replace c284 := ne_i c284
          refine lv_iconst (v := 0) hx hb dX7_showsOne_35 (by decide) ?_
          refine lv_goto (tgt := 45) hx hb dX7_showsOne_36 (by decide) ?_
          refine lv_istore (lv' := [(5, .int 0), (4, .int i276), (3, .int i277), (0, .ref v), (1, .int p1), (2, .int p2)]) hx hb dX7_showsOne_45 hl (by decide) rfl (fun ls hl => ?_)
          refine lv_iload_n hx hb dX7_showsOne_47 rfl (lv_at hl 2 rfl) ?_
          refine lv_iconst (v := (-1)) hx hb dX7_showsOne_48 (by decide) ?_
          refine lv_icmp_eq (tgt := 60) hx hb dX7_showsOne_49 (by decide) (fun c290 => ?_) (fun c290 => ?_)
          · replace c290 := eq_i c290
            refine lv_iload hx hb dX7_showsOne_60 (lv_at hl 0 rfl) ?_
            refine lv_istore_n (lv' := [(3, .int 0), (5, .int 0), (4, .int i276), (0, .ref v), (1, .int p1), (2, .int p2)]) hx hb dX7_showsOne_62 rfl hl (by decide) rfl (fun ls hl => ?_)
            obtain ⟨v291, ev291⟩ : ∃ z : Int32, z = i276 + 1 := ⟨_, rfl⟩
            refine lv_iinc (v := v291) (lv' := [(4, .int v291), (3, .int 0), (5, .int 0), (0, .ref v), (1, .int p1), (2, .int p2)]) hx hb dX7_showsOne_63 hl (k := 2) rfl (by rw [ev291]; rfl) (by decide) rfl (fun ls hl => ?_)
            refine lv_goto (tgt := 5) hx hb dX7_showsOne_66 (by decide) ?_
            have tv291 : v291.toInt = (i276 : Int32).toInt + (1 : Int32).toInt := add_i ev291 (by omega) (by omega)
            exact ih_5 (i276 := v291) (i277 := 0) (hi_5 := by omega) (ls := ls) (hn_5 := by omega) (hl := lv_sub hl [0, 1, 3, 4, 5] rfl)
          · replace c290 := ne_i c290
            refine lv_iload_n hx hb dX7_showsOne_52 rfl (lv_at hl 2 rfl) ?_
            refine lv_iload hx hb dX7_showsOne_53 (lv_at hl 0 rfl) ?_
            refine lv_icmp_eq (tgt := 60) hx hb dX7_showsOne_55 (by decide) (fun c292 => ?_) (fun c292 => ?_)
            · replace c292 := eq_i c292
              refine lv_iload hx hb dX7_showsOne_60 (lv_at hl 0 rfl) ?_
              refine lv_istore_n (lv' := [(3, .int 0), (5, .int 0), (4, .int i276), (0, .ref v), (1, .int p1), (2, .int p2)]) hx hb dX7_showsOne_62 rfl hl (by decide) rfl (fun ls hl => ?_)
              obtain ⟨v293, ev293⟩ : ∃ z : Int32, z = i276 + 1 := ⟨_, rfl⟩
              refine lv_iinc (v := v293) (lv' := [(4, .int v293), (3, .int 0), (5, .int 0), (0, .ref v), (1, .int p1), (2, .int p2)]) hx hb dX7_showsOne_63 hl (k := 2) rfl (by rw [ev293]; rfl) (by decide) rfl (fun ls hl => ?_)
              refine lv_goto (tgt := 5) hx hb dX7_showsOne_66 (by decide) ?_
              have tv293 : v293.toInt = (i276 : Int32).toInt + (1 : Int32).toInt := add_i ev293 (by omega) (by omega)
              exact ih_5 (i276 := v293) (i277 := 0) (hi_5 := by omega) (ls := ls) (hn_5 := by omega) (hl := lv_sub hl [0, 1, 3, 4, 5] rfl)
            · replace c292 := ne_i c292
              refine lv_iconst (v := 0) hx hb dX7_showsOne_58 (by decide) ?_
              exact ro_zret hC hr hk dX7_showsOne_59 rfl (Or.inl rfl)
      · replace c281 := eq_i c281
        refine lv_goto (tgt := 63) hx hb dX7_showsOne_23 (by decide) ?_
        obtain ⟨v294, ev294⟩ : ∃ z : Int32, z = i276 + 1 := ⟨_, rfl⟩
        refine lv_iinc (v := v294) (lv' := [(4, .int v294), (3, .int i277), (0, .ref v), (1, .int p1), (2, .int p2)]) hx hb dX7_showsOne_63 hl (k := 0) rfl (by rw [ev294]; rfl) (by decide) rfl (fun ls hl => ?_)
        refine lv_goto (tgt := 5) hx hb dX7_showsOne_66 (by decide) ?_
        have tv294 : v294.toInt = (i276 : Int32).toInt + (1 : Int32).toInt := add_i ev294 (by omega) (by omega)
        exact ih_5 (i276 := v294) (i277 := i277) (hi_5 := by omega) (ls := ls) (hn_5 := by omega) (hl := lv_sub hl [0, 1, 2, 3, 4] rfl)
set_option maxRecDepth 40000 in
set_option maxHeartbeats 4000000 in
theorem c_X2_assemble (l : Launch) (D : va_G) (K : Nat → ClassId) (w : Nat) (wa0 : Nat) (wa1 : Nat) (wa2 : Nat) (wa3 : Nat) (wa4 : Nat) (v : Nat) (va0 : Nat) (va1 : Nat) (va2 : Nat) (va3 : Nat) (va4 : Nat) (va5 : Nat) (va6 : Nat) (va7 : Nat) (wn5 : Int32) (vn8 : Int32) (vn9 : Int32) (vn10 : Int32) (vn11 : Int32) (wf0 : Nat → Int32) (wf1 : Nat → Int32) (vf2 : Nat → Int32) (vf4 : Nat → Int32) : Cv (S := ((Nat → Int32) × (Nat → Nat → Int32) × (Nat → Nat → Int64))) l D K yX2_assemble cX2_assemble 3 0 0 0 0 [.ref w, .ref v] [(w, .inr (2, [.ref wa0, .ref wa1, .ref wa2, .ref wa3, .ref wa4, .int wn5])), (wa0, .inl (K 1, 4, .inl wf0)), (wa1, .inl (K 1, 4, .inl wf1)), (v, .inr (9, [.ref va0, .ref va1, .ref va2, .ref va3, .ref va4, .ref va5, .ref va6, .ref va7, .int vn8, .int vn9, .int vn10, .int vn11])), (va2, .inl (K 1, 4, .inl vf2)), (va4, .inl (K 1, 4, .inl vf4))] (fun u => ((u.1 0).toInt = 0)) (fun u => [(w, .inr (2, [.ref wa0, .ref wa1, .ref wa2, .ref wa3, .ref wa4, .int (u.1 0)])), (wa0, .inl (K 1, 4, .inl (u.2.1 0))), (wa1, .inl (K 1, 4, .inl (u.2.1 1))), (v, .inr (9, [.ref va0, .ref va1, .ref va2, .ref va3, .ref va4, .ref va5, .ref va6, .ref va7, .int vn8, .int vn9, .int vn10, .int vn11])), (va2, .inl (K 1, 4, .inl vf2)), (va4, .inl (K 1, 4, .inl vf4))]) := by
  intro sz
  refine ch_of (y := yX2_assemble) (cc := cX2_assemble) (maxL := 3) (ret := none) (av := [.ref w, .ref v]) (ws := [(w, .inr (2, [.ref wa0, .ref wa1, .ref wa2, .ref wa3, .ref wa4, .int wn5])), (wa0, .inl (K 1, 4, .inl wf0)), (wa1, .inl (K 1, 4, .inl wf1)), (v, .inr (9, [.ref va0, .ref va1, .ref va2, .ref va3, .ref va4, .ref va5, .ref va6, .ref va7, .int vn8, .int vn9, .int vn10, .int vn11])), (va2, .inl (K 1, 4, .inl vf2)), (va4, .inl (K 1, 4, .inl vf4))]) (D := D) (K := K) (Qc := fun A => va_Qv (S := ((Nat → Int32) × (Nat → Nat → Int32) × (Nat → Nat → Int64))) (fun u => ((u.1 0).toInt = 0)) (chB D A (fun u => [(w, .inr (2, [.ref wa0, .ref wa1, .ref wa2, .ref wa3, .ref wa4, .int (u.1 0)])), (wa0, .inl (K 1, 4, .inl (u.2.1 0))), (wa1, .inl (K 1, 4, .inl (u.2.1 1))), (v, .inr (9, [.ref va0, .ref va1, .ref va2, .ref va3, .ref va4, .ref va5, .ref va6, .ref va7, .int vn8, .int vn9, .int vn10, .int vn11])), (va2, .inl (K 1, 4, .inl vf2)), (va4, .inl (K 1, 4, .inl vf4))])) A) (by decide) (Nat.le_of_ble_eq_true rfl) ?_
  intro p e s m below meth c A hC hr hk hin hE hD hA H locs hP hS ls hl
  replace hC : CallFix p m c cX2_assemble 3 s [.ref w, .ref v].toArray wl RX2 := hC
  have hx := hC.1
  have hb := hC.2.1
  have hml := hC.2.2.1
  have hown := hC.2.2.2.1
  have hts := hC.2.2.2.2
  replace hl : lv_has ls 3 [(0, .ref w), (1, .ref v)] := hl
  have kc_0 : (0 : Int32).toInt = 0 := by decide
  have kc_1 : (1 : Int32).toInt = 1 := by decide
  have kc_4 : (4 : Int32).toInt = 4 := by decide
  refine lv_iconst (v := 0) hx hb dX2_assemble_0 (by decide) ?_
  refine lv_istore_n (lv' := [(2, .int 0), (0, .ref w), (1, .ref v)]) hx hb dX2_assemble_1 rfl hl (by decide) rfl (fun ls hl => ?_)
  have hl' := hl; have hP' := hP; have hD' := hD; clear hl hP hD
  obtain ⟨i309, g310, g311, hi_2, hl, hP, hD⟩ : ∃ (i309 : Int32) (g310 : Nat → Int32) (g311 : Nat → Int32), ((0 : Int) ≤ i309.toInt) ∧ lv_has ls 3 [(2, .int i309), (0, .ref w), (1, .ref v)] ∧ va_P D vwCl [(w, .inr (2, [.ref wa0, .ref wa1, .ref wa2, .ref wa3, .ref wa4, .int wn5])), (wa0, .inl (K 1, 4, .inl g310)), (wa1, .inl (K 1, 4, .inl g311)), (v, .inr (9, [.ref va0, .ref va1, .ref va2, .ref va3, .ref va4, .ref va5, .ref va6, .ref va7, .int vn8, .int vn9, .int vn10, .int vn11])), (va2, .inl (K 1, 4, .inl vf2)), (va4, .inl (K 1, 4, .inl vf4))] H ∧ va_D A [(w, .inr (2, [.ref wa0, .ref wa1, .ref wa2, .ref wa3, .ref wa4, .int wn5])), (wa0, .inl (K 1, 4, .inl g310)), (wa1, .inl (K 1, 4, .inl g311)), (v, .inr (9, [.ref va0, .ref va1, .ref va2, .ref va3, .ref va4, .ref va5, .ref va6, .ref va7, .int vn8, .int vn9, .int vn10, .int vn11])), (va2, .inl (K 1, 4, .inl vf2)), (va4, .inl (K 1, 4, .inl vf4))] := ⟨_, _, _, by omega, hl', hP', hD'⟩
  clear hl' hP' hD'
  obtain ⟨n_2, hn_2⟩ : ∃ n : Nat, (4 - i309.toInt).toNat < n := ⟨_, Nat.lt_succ_self _⟩
  induction n_2 generalizing i309 g310 g311 H locs ls with
  | zero => exact absurd hn_2 (Nat.not_lt_zero _)
  | succ n_2 ih_2 =>
    refine lv_iload_n hx hb dX2_assemble_2 rfl (lv_at hl 0 rfl) ?_
    refine lv_iconst (v := 4) hx hb dX2_assemble_3 (by decide) ?_
    refine lv_icmp_ge (tgt := 37) hx hb dX2_assemble_4 (by decide) (fun c312 => ?_) (fun c312 => ?_)
    · replace c312 := le_i c312
      refine lv_aload_n hx hb dX2_assemble_37 rfl (lv_at hl 1 rfl) ?_
      refine lv_iconst (v := 0) hx hb dX2_assemble_38 (by decide) ?_
      refine va_put (D := D) (ci := 2) (v := .int 0) (ty := .int) (C := RX2) (T := TX2) (N := 6) hx hb hts in_X2 tyX2 tyX2_ok nmX2 hown hE.1 hP hD hS 0 rfl rfl 5 (by decide) (hts _ w_75) (fun _ h9 => h9) rfl (by decide +kernel) rfl rfl (Nat.le_of_ble_eq_true rfl) dX2_assemble_39 (fun H locs hP hD hS => ?_)
      replace hP : va_P D vwCl [(w, .inr (2, [.ref wa0, .ref wa1, .ref wa2, .ref wa3, .ref wa4, .int 0])), (wa0, .inl (K 1, 4, .inl g310)), (wa1, .inl (K 1, 4, .inl g311)), (v, .inr (9, [.ref va0, .ref va1, .ref va2, .ref va3, .ref va4, .ref va5, .ref va6, .ref va7, .int vn8, .int vn9, .int vn10, .int vn11])), (va2, .inl (K 1, 4, .inl vf2)), (va4, .inl (K 1, 4, .inl vf4))] H := hP
      replace hD : va_D A [(w, .inr (2, [.ref wa0, .ref wa1, .ref wa2, .ref wa3, .ref wa4, .int 0])), (wa0, .inl (K 1, 4, .inl g310)), (wa1, .inl (K 1, 4, .inl g311)), (v, .inr (9, [.ref va0, .ref va1, .ref va2, .ref va3, .ref va4, .ref va5, .ref va6, .ref va7, .int vn8, .int vn9, .int vn10, .int vn11])), (va2, .inl (K 1, 4, .inl vf2)), (va4, .inl (K 1, 4, .inl vf4))] := hD
      refine W.widen (k := 0) (n := 0) (by decide) (by decide) ?_
      exact ch_vret hC hr hk hS dX2_assemble_42 ((fun k => [0].getD k 0, fun k => [g310, g311].getD k (fun _ => 0), fun k => [].getD k (fun _ => 0)) : ((Nat → Int32) × (Nat → Nat → Int32) × (Nat → Nat → Int64))) (show (0 : Int32).toInt = 0 from by omega) (hP.sub [0, 1, 2, 3, 4, 5] rfl) (hD.sub [0, 1, 2, 3, 4, 5] (by decide) rfl)
    · replace c312 := nle_i c312
      refine lv_aload_n hx hb dX2_assemble_7 rfl (lv_at hl 1 rfl) ?_
      refine va_get (D := D) (ci := 2) (v := .ref wa0) (C := RX2) (T := TX2) (N := 6) hx hb hts in_X2 hown hE.1 hP 0 rfl rfl 0 (by decide) (hts _ w_76) (fun _ h9 => h9) rfl dX2_assemble_8 ?_
      refine lv_iload_n hx hb dX2_assemble_11 rfl (lv_at hl 0 rfl) ?_
      refine lv_aload_n hx hb dX2_assemble_12 rfl (lv_at hl 2 rfl) ?_
      refine va_get (D := D) (ci := 9) (v := .ref va2) (C := RX10) (T := TX10) (N := 12) hx hb hts in_X10 hown hE.1 hP 3 rfl rfl 2 (by decide) (hts _ w_77) (fun _ h9 => h9) rfl dX2_assemble_13 ?_
      refine lv_iload_n hx hb dX2_assemble_16 rfl (lv_at hl 0 rfl) ?_
      refine va_iald hx hb hE.1 hP 4 1 rfl rfl (vp_in_iff.mpr (by omega)) dX2_assemble_17 ?_
      refine lv_topi (fun v313 ev313 => ?_)
      refine sti hx hb hE.1 hP hD hS 1 1 rfl rfl (vp_in_iff.mpr (by omega)) dX2_assemble_18 (fun g314 eg314 H locs hP hD hS => ?_)
      replace hP : va_P D vwCl [(w, .inr (2, [.ref wa0, .ref wa1, .ref wa2, .ref wa3, .ref wa4, .int wn5])), (wa0, .inl (K 1, 4, .inl g314)), (wa1, .inl (K 1, 4, .inl g311)), (v, .inr (9, [.ref va0, .ref va1, .ref va2, .ref va3, .ref va4, .ref va5, .ref va6, .ref va7, .int vn8, .int vn9, .int vn10, .int vn11])), (va2, .inl (K 1, 4, .inl vf2)), (va4, .inl (K 1, 4, .inl vf4))] H := hP
      replace hD : va_D A [(w, .inr (2, [.ref wa0, .ref wa1, .ref wa2, .ref wa3, .ref wa4, .int wn5])), (wa0, .inl (K 1, 4, .inl g314)), (wa1, .inl (K 1, 4, .inl g311)), (v, .inr (9, [.ref va0, .ref va1, .ref va2, .ref va3, .ref va4, .ref va5, .ref va6, .ref va7, .int vn8, .int vn9, .int vn10, .int vn11])), (va2, .inl (K 1, 4, .inl vf2)), (va4, .inl (K 1, 4, .inl vf4))] := hD
      refine lv_aload_n hx hb dX2_assemble_19 rfl (lv_at hl 1 rfl) ?_
      refine va_get (D := D) (ci := 2) (v := .ref wa1) (C := RX2) (T := TX2) (N := 6) hx hb hts in_X2 hown hE.1 hP 0 rfl rfl 1 (by decide) (hts _ w_78) (fun _ h9 => h9) rfl dX2_assemble_20 ?_
      refine lv_iload_n hx hb dX2_assemble_23 rfl (lv_at hl 0 rfl) ?_
      refine lv_aload_n hx hb dX2_assemble_24 rfl (lv_at hl 2 rfl) ?_
      refine va_get (D := D) (ci := 9) (v := .ref va4) (C := RX10) (T := TX10) (N := 12) hx hb hts in_X10 hown hE.1 hP 3 rfl rfl 4 (by decide) (hts _ w_79) (fun _ h9 => h9) rfl dX2_assemble_25 ?_
      refine lv_iload_n hx hb dX2_assemble_28 rfl (lv_at hl 0 rfl) ?_
      refine va_iald hx hb hE.1 hP 5 1 rfl rfl (vp_in_iff.mpr (by omega)) dX2_assemble_29 ?_
      refine lv_topi (fun v315 ev315 => ?_)
      refine sti hx hb hE.1 hP hD hS 2 1 rfl rfl (vp_in_iff.mpr (by omega)) dX2_assemble_30 (fun g316 eg316 H locs hP hD hS => ?_)
      replace hP : va_P D vwCl [(w, .inr (2, [.ref wa0, .ref wa1, .ref wa2, .ref wa3, .ref wa4, .int wn5])), (wa0, .inl (K 1, 4, .inl g314)), (wa1, .inl (K 1, 4, .inl g316)), (v, .inr (9, [.ref va0, .ref va1, .ref va2, .ref va3, .ref va4, .ref va5, .ref va6, .ref va7, .int vn8, .int vn9, .int vn10, .int vn11])), (va2, .inl (K 1, 4, .inl vf2)), (va4, .inl (K 1, 4, .inl vf4))] H := hP
      replace hD : va_D A [(w, .inr (2, [.ref wa0, .ref wa1, .ref wa2, .ref wa3, .ref wa4, .int wn5])), (wa0, .inl (K 1, 4, .inl g314)), (wa1, .inl (K 1, 4, .inl g316)), (v, .inr (9, [.ref va0, .ref va1, .ref va2, .ref va3, .ref va4, .ref va5, .ref va6, .ref va7, .int vn8, .int vn9, .int vn10, .int vn11])), (va2, .inl (K 1, 4, .inl vf2)), (va4, .inl (K 1, 4, .inl vf4))] := hD
      obtain ⟨v317, ev317⟩ : ∃ z : Int32, z = i309 + 1 := ⟨_, rfl⟩
      refine lv_iinc (v := v317) (lv' := [(2, .int v317), (0, .ref w), (1, .ref v)]) hx hb dX2_assemble_31 hl (k := 0) rfl (by rw [ev317]; rfl) (by decide) rfl (fun ls hl => ?_)
      refine lv_goto (tgt := 2) hx hb dX2_assemble_34 (by decide) ?_
      have tv317 : v317.toInt = (i309 : Int32).toInt + (1 : Int32).toInt := add_i ev317 (by omega) (by omega)
      exact ih_2 (i309 := v317) (g310 := g314) (g311 := g316) (hi_2 := by omega) (H := H) (locs := locs) (ls := ls) (hn_2 := by omega) (hP := hP) (hD := hD) (hS := hS) (hl := lv_sub hl [0, 1, 2] rfl)
set_option maxRecDepth 40000 in
set_option maxHeartbeats 4000000 in
theorem c_X2_copyFrom (l : Launch) (D : va_G) (K : Nat → ClassId) (w : Nat) (wa0 : Nat) (wa1 : Nat) (wa2 : Nat) (wa3 : Nat) (wa4 : Nat) (v : Nat) (va0 : Nat) (va1 : Nat) (va2 : Nat) (va3 : Nat) (va4 : Nat) (wn5 : Int32) (vn5 : Int32) (wf0 : Nat → Int32) (wf1 : Nat → Int32) (wf2 : Nat → Int32) (wf3 : Nat → Int32) (wf4 : Nat → Int32) (vf0 : Nat → Int32) (vf1 : Nat → Int32) (vf2 : Nat → Int32) (vf3 : Nat → Int32) (vf4 : Nat → Int32) : Cv (S := ((Nat → Int32) × (Nat → Nat → Int32) × (Nat → Nat → Int64))) l D K yX2_copyFrom cX2_copyFrom 2 1 18 0 0 [.ref w, .ref v] [(w, .inr (2, [.ref wa0, .ref wa1, .ref wa2, .ref wa3, .ref wa4, .int wn5])), (wa0, .inl (K 1, 4, .inl wf0)), (wa1, .inl (K 1, 4, .inl wf1)), (wa2, .inl (K 1, 60, .inl wf2)), (wa3, .inl (K 1, 60, .inl wf3)), (wa4, .inl (K 1, 60, .inl wf4)), (v, .inr (2, [.ref va0, .ref va1, .ref va2, .ref va3, .ref va4, .int vn5])), (va0, .inl (K 1, 4, .inl vf0)), (va1, .inl (K 1, 4, .inl vf1)), (va2, .inl (K 1, 60, .inl vf2)), (va3, .inl (K 1, 60, .inl vf3)), (va4, .inl (K 1, 60, .inl vf4))] (fun u => ((u.1 0).toInt = vn5.toInt)) (fun u => [(w, .inr (2, [.ref wa0, .ref wa1, .ref wa2, .ref wa3, .ref wa4, .int (u.1 0)])), (wa0, .inl (K 1, 4, .inl (u.2.1 0))), (wa1, .inl (K 1, 4, .inl (u.2.1 1))), (wa2, .inl (K 1, 60, .inl (u.2.1 2))), (wa3, .inl (K 1, 60, .inl (u.2.1 3))), (wa4, .inl (K 1, 60, .inl (u.2.1 4))), (v, .inr (2, [.ref va0, .ref va1, .ref va2, .ref va3, .ref va4, .int vn5])), (va0, .inl (K 1, 4, .inl vf0)), (va1, .inl (K 1, 4, .inl vf1)), (va2, .inl (K 1, 60, .inl vf2)), (va3, .inl (K 1, 60, .inl vf3)), (va4, .inl (K 1, 60, .inl vf4))]) := by
  intro sz
  refine ch_of (y := yX2_copyFrom) (cc := cX2_copyFrom) (maxL := 2) (ret := none) (av := [.ref w, .ref v]) (ws := [(w, .inr (2, [.ref wa0, .ref wa1, .ref wa2, .ref wa3, .ref wa4, .int wn5])), (wa0, .inl (K 1, 4, .inl wf0)), (wa1, .inl (K 1, 4, .inl wf1)), (wa2, .inl (K 1, 60, .inl wf2)), (wa3, .inl (K 1, 60, .inl wf3)), (wa4, .inl (K 1, 60, .inl wf4)), (v, .inr (2, [.ref va0, .ref va1, .ref va2, .ref va3, .ref va4, .int vn5])), (va0, .inl (K 1, 4, .inl vf0)), (va1, .inl (K 1, 4, .inl vf1)), (va2, .inl (K 1, 60, .inl vf2)), (va3, .inl (K 1, 60, .inl vf3)), (va4, .inl (K 1, 60, .inl vf4))]) (D := D) (K := K) (Qc := fun A => va_Qv (S := ((Nat → Int32) × (Nat → Nat → Int32) × (Nat → Nat → Int64))) (fun u => ((u.1 0).toInt = vn5.toInt)) (chB D A (fun u => [(w, .inr (2, [.ref wa0, .ref wa1, .ref wa2, .ref wa3, .ref wa4, .int (u.1 0)])), (wa0, .inl (K 1, 4, .inl (u.2.1 0))), (wa1, .inl (K 1, 4, .inl (u.2.1 1))), (wa2, .inl (K 1, 60, .inl (u.2.1 2))), (wa3, .inl (K 1, 60, .inl (u.2.1 3))), (wa4, .inl (K 1, 60, .inl (u.2.1 4))), (v, .inr (2, [.ref va0, .ref va1, .ref va2, .ref va3, .ref va4, .int vn5])), (va0, .inl (K 1, 4, .inl vf0)), (va1, .inl (K 1, 4, .inl vf1)), (va2, .inl (K 1, 60, .inl vf2)), (va3, .inl (K 1, 60, .inl vf3)), (va4, .inl (K 1, 60, .inl vf4))])) A) (by decide) (Nat.le_of_ble_eq_true rfl) ?_
  intro p e s m below meth c A hC hr hk hin hE hD hA H locs hP hS ls hl
  replace hC : CallFix p m c cX2_copyFrom 2 s [.ref w, .ref v].toArray wl RX2 := hC
  have hx := hC.1
  have hb := hC.2.1
  have hml := hC.2.2.1
  have hown := hC.2.2.2.1
  have hts := hC.2.2.2.2
  replace hl : lv_has ls 2 [(0, .ref w), (1, .ref v)] := hl
  have kc_0 : (0 : Int32).toInt = 0 := by decide
  have kc_4 : (4 : Int32).toInt = 4 := by decide
  have kc_60 : (60 : Int32).toInt = 60 := by decide
  refine lv_aload_n hx hb dX2_copyFrom_0 rfl (lv_at hl 1 rfl) ?_
  refine va_get (D := D) (ci := 2) (v := .ref va0) (C := RX2) (T := TX2) (N := 6) hx hb hts in_X2 hown hE.1 hP 6 rfl rfl 0 (by decide) (hts _ w_76) (fun _ h9 => h9) rfl dX2_copyFrom_1 ?_
  refine lv_iconst (v := 0) hx hb dX2_copyFrom_4 (by decide) ?_
  refine lv_aload_n hx hb dX2_copyFrom_5 rfl (lv_at hl 0 rfl) ?_
  refine va_get (D := D) (ci := 2) (v := .ref wa0) (C := RX2) (T := TX2) (N := 6) hx hb hts in_X2 hown hE.1 hP 0 rfl rfl 0 (by decide) (hts _ w_76) (fun _ h9 => h9) rfl dX2_copyFrom_6 ?_
  refine lv_iconst (v := 0) hx hb dX2_copyFrom_9 (by decide) ?_
  refine lv_aload_n hx hb dX2_copyFrom_10 rfl (lv_at hl 0 rfl) ?_
  refine va_get (D := D) (ci := 2) (v := .ref wa0) (C := RX2) (T := TX2) (N := 6) hx hb hts in_X2 hown hE.1 hP 0 rfl rfl 0 (by decide) (hts _ w_76) (fun _ h9 => h9) rfl dX2_copyFrom_11 ?_
  refine va_alen (v := 4) hx hb hE.1 hP 1 1 rfl rfl (show Int32.ofNat 4 = 4 by decide) dX2_copyFrom_14 ?_
  refine cpi hC hE hl.1 w_80 w_81 w_82 w_83 hP hD hS 7 1 rfl rfl (by decide) (by decide) (by decide) (by decide) (by decide) (by decide) (Nat.le_of_ble_eq_true rfl) dX2_copyFrom_15 (fun g323 H locs hP hD hS => ?_)
  replace hP : va_P D vwCl [(w, .inr (2, [.ref wa0, .ref wa1, .ref wa2, .ref wa3, .ref wa4, .int wn5])), (wa0, .inl (K 1, 4, .inl g323)), (wa1, .inl (K 1, 4, .inl wf1)), (wa2, .inl (K 1, 60, .inl wf2)), (wa3, .inl (K 1, 60, .inl wf3)), (wa4, .inl (K 1, 60, .inl wf4)), (v, .inr (2, [.ref va0, .ref va1, .ref va2, .ref va3, .ref va4, .int vn5])), (va0, .inl (K 1, 4, .inl vf0)), (va1, .inl (K 1, 4, .inl vf1)), (va2, .inl (K 1, 60, .inl vf2)), (va3, .inl (K 1, 60, .inl vf3)), (va4, .inl (K 1, 60, .inl vf4))] H := hP
  replace hD : va_D A [(w, .inr (2, [.ref wa0, .ref wa1, .ref wa2, .ref wa3, .ref wa4, .int wn5])), (wa0, .inl (K 1, 4, .inl g323)), (wa1, .inl (K 1, 4, .inl wf1)), (wa2, .inl (K 1, 60, .inl wf2)), (wa3, .inl (K 1, 60, .inl wf3)), (wa4, .inl (K 1, 60, .inl wf4)), (v, .inr (2, [.ref va0, .ref va1, .ref va2, .ref va3, .ref va4, .int vn5])), (va0, .inl (K 1, 4, .inl vf0)), (va1, .inl (K 1, 4, .inl vf1)), (va2, .inl (K 1, 60, .inl vf2)), (va3, .inl (K 1, 60, .inl vf3)), (va4, .inl (K 1, 60, .inl vf4))] := hD
  refine lv_aload_n hx hb dX2_copyFrom_18 rfl (lv_at hl 1 rfl) ?_
  refine va_get (D := D) (ci := 2) (v := .ref va1) (C := RX2) (T := TX2) (N := 6) hx hb hts in_X2 hown hE.1 hP 6 rfl rfl 1 (by decide) (hts _ w_78) (fun _ h9 => h9) rfl dX2_copyFrom_19 ?_
  refine lv_iconst (v := 0) hx hb dX2_copyFrom_22 (by decide) ?_
  refine lv_aload_n hx hb dX2_copyFrom_23 rfl (lv_at hl 0 rfl) ?_
  refine va_get (D := D) (ci := 2) (v := .ref wa1) (C := RX2) (T := TX2) (N := 6) hx hb hts in_X2 hown hE.1 hP 0 rfl rfl 1 (by decide) (hts _ w_78) (fun _ h9 => h9) rfl dX2_copyFrom_24 ?_
  refine lv_iconst (v := 0) hx hb dX2_copyFrom_27 (by decide) ?_
  refine lv_aload_n hx hb dX2_copyFrom_28 rfl (lv_at hl 0 rfl) ?_
  refine va_get (D := D) (ci := 2) (v := .ref wa1) (C := RX2) (T := TX2) (N := 6) hx hb hts in_X2 hown hE.1 hP 0 rfl rfl 1 (by decide) (hts _ w_78) (fun _ h9 => h9) rfl dX2_copyFrom_29 ?_
  refine va_alen (v := 4) hx hb hE.1 hP 2 1 rfl rfl (show Int32.ofNat 4 = 4 by decide) dX2_copyFrom_32 ?_
  refine cpi hC hE hl.1 w_80 w_81 w_82 w_83 hP hD hS 8 2 rfl rfl (by decide) (by decide) (by decide) (by decide) (by decide) (by decide) (Nat.le_of_ble_eq_true rfl) dX2_copyFrom_33 (fun g324 H locs hP hD hS => ?_)
  replace hP : va_P D vwCl [(w, .inr (2, [.ref wa0, .ref wa1, .ref wa2, .ref wa3, .ref wa4, .int wn5])), (wa0, .inl (K 1, 4, .inl g323)), (wa1, .inl (K 1, 4, .inl g324)), (wa2, .inl (K 1, 60, .inl wf2)), (wa3, .inl (K 1, 60, .inl wf3)), (wa4, .inl (K 1, 60, .inl wf4)), (v, .inr (2, [.ref va0, .ref va1, .ref va2, .ref va3, .ref va4, .int vn5])), (va0, .inl (K 1, 4, .inl vf0)), (va1, .inl (K 1, 4, .inl vf1)), (va2, .inl (K 1, 60, .inl vf2)), (va3, .inl (K 1, 60, .inl vf3)), (va4, .inl (K 1, 60, .inl vf4))] H := hP
  replace hD : va_D A [(w, .inr (2, [.ref wa0, .ref wa1, .ref wa2, .ref wa3, .ref wa4, .int wn5])), (wa0, .inl (K 1, 4, .inl g323)), (wa1, .inl (K 1, 4, .inl g324)), (wa2, .inl (K 1, 60, .inl wf2)), (wa3, .inl (K 1, 60, .inl wf3)), (wa4, .inl (K 1, 60, .inl wf4)), (v, .inr (2, [.ref va0, .ref va1, .ref va2, .ref va3, .ref va4, .int vn5])), (va0, .inl (K 1, 4, .inl vf0)), (va1, .inl (K 1, 4, .inl vf1)), (va2, .inl (K 1, 60, .inl vf2)), (va3, .inl (K 1, 60, .inl vf3)), (va4, .inl (K 1, 60, .inl vf4))] := hD
  refine lv_aload_n hx hb dX2_copyFrom_36 rfl (lv_at hl 1 rfl) ?_
  refine va_get (D := D) (ci := 2) (v := .ref va2) (C := RX2) (T := TX2) (N := 6) hx hb hts in_X2 hown hE.1 hP 6 rfl rfl 2 (by decide) (hts _ w_84) (fun _ h9 => h9) rfl dX2_copyFrom_37 ?_
  refine lv_iconst (v := 0) hx hb dX2_copyFrom_40 (by decide) ?_
  refine lv_aload_n hx hb dX2_copyFrom_41 rfl (lv_at hl 0 rfl) ?_
  refine va_get (D := D) (ci := 2) (v := .ref wa2) (C := RX2) (T := TX2) (N := 6) hx hb hts in_X2 hown hE.1 hP 0 rfl rfl 2 (by decide) (hts _ w_84) (fun _ h9 => h9) rfl dX2_copyFrom_42 ?_
  refine lv_iconst (v := 0) hx hb dX2_copyFrom_45 (by decide) ?_
  refine lv_aload_n hx hb dX2_copyFrom_46 rfl (lv_at hl 0 rfl) ?_
  refine va_get (D := D) (ci := 2) (v := .ref wa2) (C := RX2) (T := TX2) (N := 6) hx hb hts in_X2 hown hE.1 hP 0 rfl rfl 2 (by decide) (hts _ w_84) (fun _ h9 => h9) rfl dX2_copyFrom_47 ?_
  refine va_alen (v := 60) hx hb hE.1 hP 3 1 rfl rfl (show Int32.ofNat 60 = 60 by decide) dX2_copyFrom_50 ?_
  refine cpi hC hE hl.1 w_80 w_81 w_82 w_83 hP hD hS 9 3 rfl rfl (by decide) (by decide) (by decide) (by decide) (by decide) (by decide) (Nat.le_of_ble_eq_true rfl) dX2_copyFrom_51 (fun g325 H locs hP hD hS => ?_)
  replace hP : va_P D vwCl [(w, .inr (2, [.ref wa0, .ref wa1, .ref wa2, .ref wa3, .ref wa4, .int wn5])), (wa0, .inl (K 1, 4, .inl g323)), (wa1, .inl (K 1, 4, .inl g324)), (wa2, .inl (K 1, 60, .inl g325)), (wa3, .inl (K 1, 60, .inl wf3)), (wa4, .inl (K 1, 60, .inl wf4)), (v, .inr (2, [.ref va0, .ref va1, .ref va2, .ref va3, .ref va4, .int vn5])), (va0, .inl (K 1, 4, .inl vf0)), (va1, .inl (K 1, 4, .inl vf1)), (va2, .inl (K 1, 60, .inl vf2)), (va3, .inl (K 1, 60, .inl vf3)), (va4, .inl (K 1, 60, .inl vf4))] H := hP
  replace hD : va_D A [(w, .inr (2, [.ref wa0, .ref wa1, .ref wa2, .ref wa3, .ref wa4, .int wn5])), (wa0, .inl (K 1, 4, .inl g323)), (wa1, .inl (K 1, 4, .inl g324)), (wa2, .inl (K 1, 60, .inl g325)), (wa3, .inl (K 1, 60, .inl wf3)), (wa4, .inl (K 1, 60, .inl wf4)), (v, .inr (2, [.ref va0, .ref va1, .ref va2, .ref va3, .ref va4, .int vn5])), (va0, .inl (K 1, 4, .inl vf0)), (va1, .inl (K 1, 4, .inl vf1)), (va2, .inl (K 1, 60, .inl vf2)), (va3, .inl (K 1, 60, .inl vf3)), (va4, .inl (K 1, 60, .inl vf4))] := hD
  refine lv_aload_n hx hb dX2_copyFrom_54 rfl (lv_at hl 1 rfl) ?_
  refine va_get (D := D) (ci := 2) (v := .ref va3) (C := RX2) (T := TX2) (N := 6) hx hb hts in_X2 hown hE.1 hP 6 rfl rfl 3 (by decide) (hts _ w_85) (fun _ h9 => h9) rfl dX2_copyFrom_55 ?_
  refine lv_iconst (v := 0) hx hb dX2_copyFrom_58 (by decide) ?_
  refine lv_aload_n hx hb dX2_copyFrom_59 rfl (lv_at hl 0 rfl) ?_
  refine va_get (D := D) (ci := 2) (v := .ref wa3) (C := RX2) (T := TX2) (N := 6) hx hb hts in_X2 hown hE.1 hP 0 rfl rfl 3 (by decide) (hts _ w_85) (fun _ h9 => h9) rfl dX2_copyFrom_60 ?_
  refine lv_iconst (v := 0) hx hb dX2_copyFrom_63 (by decide) ?_
  refine lv_aload_n hx hb dX2_copyFrom_64 rfl (lv_at hl 0 rfl) ?_
  refine va_get (D := D) (ci := 2) (v := .ref wa3) (C := RX2) (T := TX2) (N := 6) hx hb hts in_X2 hown hE.1 hP 0 rfl rfl 3 (by decide) (hts _ w_85) (fun _ h9 => h9) rfl dX2_copyFrom_65 ?_
  refine va_alen (v := 60) hx hb hE.1 hP 4 1 rfl rfl (show Int32.ofNat 60 = 60 by decide) dX2_copyFrom_68 ?_
  refine cpi hC hE hl.1 w_80 w_81 w_82 w_83 hP hD hS 10 4 rfl rfl (by decide) (by decide) (by decide) (by decide) (by decide) (by decide) (Nat.le_of_ble_eq_true rfl) dX2_copyFrom_69 (fun g326 H locs hP hD hS => ?_)
  replace hP : va_P D vwCl [(w, .inr (2, [.ref wa0, .ref wa1, .ref wa2, .ref wa3, .ref wa4, .int wn5])), (wa0, .inl (K 1, 4, .inl g323)), (wa1, .inl (K 1, 4, .inl g324)), (wa2, .inl (K 1, 60, .inl g325)), (wa3, .inl (K 1, 60, .inl g326)), (wa4, .inl (K 1, 60, .inl wf4)), (v, .inr (2, [.ref va0, .ref va1, .ref va2, .ref va3, .ref va4, .int vn5])), (va0, .inl (K 1, 4, .inl vf0)), (va1, .inl (K 1, 4, .inl vf1)), (va2, .inl (K 1, 60, .inl vf2)), (va3, .inl (K 1, 60, .inl vf3)), (va4, .inl (K 1, 60, .inl vf4))] H := hP
  replace hD : va_D A [(w, .inr (2, [.ref wa0, .ref wa1, .ref wa2, .ref wa3, .ref wa4, .int wn5])), (wa0, .inl (K 1, 4, .inl g323)), (wa1, .inl (K 1, 4, .inl g324)), (wa2, .inl (K 1, 60, .inl g325)), (wa3, .inl (K 1, 60, .inl g326)), (wa4, .inl (K 1, 60, .inl wf4)), (v, .inr (2, [.ref va0, .ref va1, .ref va2, .ref va3, .ref va4, .int vn5])), (va0, .inl (K 1, 4, .inl vf0)), (va1, .inl (K 1, 4, .inl vf1)), (va2, .inl (K 1, 60, .inl vf2)), (va3, .inl (K 1, 60, .inl vf3)), (va4, .inl (K 1, 60, .inl vf4))] := hD
  refine lv_aload_n hx hb dX2_copyFrom_72 rfl (lv_at hl 1 rfl) ?_
  refine va_get (D := D) (ci := 2) (v := .ref va4) (C := RX2) (T := TX2) (N := 6) hx hb hts in_X2 hown hE.1 hP 6 rfl rfl 4 (by decide) (hts _ w_86) (fun _ h9 => h9) rfl dX2_copyFrom_73 ?_
  refine lv_iconst (v := 0) hx hb dX2_copyFrom_76 (by decide) ?_
  refine lv_aload_n hx hb dX2_copyFrom_77 rfl (lv_at hl 0 rfl) ?_
  refine va_get (D := D) (ci := 2) (v := .ref wa4) (C := RX2) (T := TX2) (N := 6) hx hb hts in_X2 hown hE.1 hP 0 rfl rfl 4 (by decide) (hts _ w_86) (fun _ h9 => h9) rfl dX2_copyFrom_78 ?_
  refine lv_iconst (v := 0) hx hb dX2_copyFrom_81 (by decide) ?_
  refine lv_aload_n hx hb dX2_copyFrom_82 rfl (lv_at hl 0 rfl) ?_
  refine va_get (D := D) (ci := 2) (v := .ref wa4) (C := RX2) (T := TX2) (N := 6) hx hb hts in_X2 hown hE.1 hP 0 rfl rfl 4 (by decide) (hts _ w_86) (fun _ h9 => h9) rfl dX2_copyFrom_83 ?_
  refine va_alen (v := 60) hx hb hE.1 hP 5 1 rfl rfl (show Int32.ofNat 60 = 60 by decide) dX2_copyFrom_86 ?_
  refine cpi hC hE hl.1 w_80 w_81 w_82 w_83 hP hD hS 11 5 rfl rfl (by decide) (by decide) (by decide) (by decide) (by decide) (by decide) (Nat.le_of_ble_eq_true rfl) dX2_copyFrom_87 (fun g327 H locs hP hD hS => ?_)
  replace hP : va_P D vwCl [(w, .inr (2, [.ref wa0, .ref wa1, .ref wa2, .ref wa3, .ref wa4, .int wn5])), (wa0, .inl (K 1, 4, .inl g323)), (wa1, .inl (K 1, 4, .inl g324)), (wa2, .inl (K 1, 60, .inl g325)), (wa3, .inl (K 1, 60, .inl g326)), (wa4, .inl (K 1, 60, .inl g327)), (v, .inr (2, [.ref va0, .ref va1, .ref va2, .ref va3, .ref va4, .int vn5])), (va0, .inl (K 1, 4, .inl vf0)), (va1, .inl (K 1, 4, .inl vf1)), (va2, .inl (K 1, 60, .inl vf2)), (va3, .inl (K 1, 60, .inl vf3)), (va4, .inl (K 1, 60, .inl vf4))] H := hP
  replace hD : va_D A [(w, .inr (2, [.ref wa0, .ref wa1, .ref wa2, .ref wa3, .ref wa4, .int wn5])), (wa0, .inl (K 1, 4, .inl g323)), (wa1, .inl (K 1, 4, .inl g324)), (wa2, .inl (K 1, 60, .inl g325)), (wa3, .inl (K 1, 60, .inl g326)), (wa4, .inl (K 1, 60, .inl g327)), (v, .inr (2, [.ref va0, .ref va1, .ref va2, .ref va3, .ref va4, .int vn5])), (va0, .inl (K 1, 4, .inl vf0)), (va1, .inl (K 1, 4, .inl vf1)), (va2, .inl (K 1, 60, .inl vf2)), (va3, .inl (K 1, 60, .inl vf3)), (va4, .inl (K 1, 60, .inl vf4))] := hD
  refine lv_aload_n hx hb dX2_copyFrom_90 rfl (lv_at hl 0 rfl) ?_
  refine lv_aload_n hx hb dX2_copyFrom_91 rfl (lv_at hl 1 rfl) ?_
  refine va_get (D := D) (ci := 2) (v := .int vn5) (C := RX2) (T := TX2) (N := 6) hx hb hts in_X2 hown hE.1 hP 6 rfl rfl 5 (by decide) (hts _ w_75) (fun _ h9 => h9) rfl dX2_copyFrom_92 ?_
  refine va_put (D := D) (ci := 2) (v := .int vn5) (ty := .int) (C := RX2) (T := TX2) (N := 6) hx hb hts in_X2 tyX2 tyX2_ok nmX2 hown hE.1 hP hD hS 0 rfl rfl 5 (by decide) (hts _ w_75) (fun _ h9 => h9) rfl (by decide +kernel) rfl rfl (Nat.le_of_ble_eq_true rfl) dX2_copyFrom_95 (fun H locs hP hD hS => ?_)
  replace hP : va_P D vwCl [(w, .inr (2, [.ref wa0, .ref wa1, .ref wa2, .ref wa3, .ref wa4, .int vn5])), (wa0, .inl (K 1, 4, .inl g323)), (wa1, .inl (K 1, 4, .inl g324)), (wa2, .inl (K 1, 60, .inl g325)), (wa3, .inl (K 1, 60, .inl g326)), (wa4, .inl (K 1, 60, .inl g327)), (v, .inr (2, [.ref va0, .ref va1, .ref va2, .ref va3, .ref va4, .int vn5])), (va0, .inl (K 1, 4, .inl vf0)), (va1, .inl (K 1, 4, .inl vf1)), (va2, .inl (K 1, 60, .inl vf2)), (va3, .inl (K 1, 60, .inl vf3)), (va4, .inl (K 1, 60, .inl vf4))] H := hP
  replace hD : va_D A [(w, .inr (2, [.ref wa0, .ref wa1, .ref wa2, .ref wa3, .ref wa4, .int vn5])), (wa0, .inl (K 1, 4, .inl g323)), (wa1, .inl (K 1, 4, .inl g324)), (wa2, .inl (K 1, 60, .inl g325)), (wa3, .inl (K 1, 60, .inl g326)), (wa4, .inl (K 1, 60, .inl g327)), (v, .inr (2, [.ref va0, .ref va1, .ref va2, .ref va3, .ref va4, .int vn5])), (va0, .inl (K 1, 4, .inl vf0)), (va1, .inl (K 1, 4, .inl vf1)), (va2, .inl (K 1, 60, .inl vf2)), (va3, .inl (K 1, 60, .inl vf3)), (va4, .inl (K 1, 60, .inl vf4))] := hD
  refine W.widen (k := 0) (n := 0) (by decide) (by decide) ?_
  exact ch_vret hC hr hk hS dX2_copyFrom_98 ((fun k => [vn5].getD k 0, fun k => [g323, g324, g325, g326, g327].getD k (fun _ => 0), fun k => [].getD k (fun _ => 0)) : ((Nat → Int32) × (Nat → Nat → Int32) × (Nat → Nat → Int64))) (show (vn5 : Int32).toInt = (vn5 : Int32).toInt from by omega) (hP.sub [0, 1, 2, 3, 4, 5, 6, 7, 8, 9, 10, 11] rfl) (hD.sub [0, 1, 2, 3, 4, 5, 6, 7, 8, 9, 10, 11] (by decide) rfl)
set_option maxRecDepth 40000 in
set_option maxHeartbeats 4000000 in
theorem c_X2_keepStep (l : Launch) (D : va_G) (K : Nat → ClassId) (w : Nat) (wa0 : Nat) (wa1 : Nat) (wa2 : Nat) (wa3 : Nat) (wa4 : Nat) (v : Nat) (wn5 : Int32) (vn0 : Int32) (vn1 : Int32) (vn2 : Int32) (wf0 : Nat → Int32) (wf1 : Nat → Int32) (wf2 : Nat → Int32) (wf3 : Nat → Int32) (wf4 : Nat → Int32) (p0 : Int32) (hst : 0 ≤ wn5.toInt) : Cv (S := ((Nat → Int32) × (Nat → Nat → Int32) × (Nat → Nat → Int64))) l D K yX2_keepStep cX2_keepStep 3 0 0 0 0 [.ref w, .int p0, .ref v] [(w, .inr (2, [.ref wa0, .ref wa1, .ref wa2, .ref wa3, .ref wa4, .int wn5])), (wa0, .inl (K 1, 4, .inl wf0)), (wa1, .inl (K 1, 4, .inl wf1)), (wa2, .inl (K 1, 60, .inl wf2)), (wa3, .inl (K 1, 60, .inl wf3)), (wa4, .inl (K 1, 60, .inl wf4)), (v, .inr (8, [.int vn0, .int vn1, .int vn2]))] (fun u => (0 ≤ (u.1 0).toInt)) (fun u => [(w, .inr (2, [.ref wa0, .ref wa1, .ref wa2, .ref wa3, .ref wa4, .int (u.1 0)])), (wa0, .inl (K 1, 4, .inl (u.2.1 0))), (wa1, .inl (K 1, 4, .inl (u.2.1 1))), (wa2, .inl (K 1, 60, .inl (u.2.1 2))), (wa3, .inl (K 1, 60, .inl (u.2.1 3))), (wa4, .inl (K 1, 60, .inl (u.2.1 4))), (v, .inr (8, [.int vn0, .int vn1, .int vn2]))]) := by
  intro sz
  refine ch_of (y := yX2_keepStep) (cc := cX2_keepStep) (maxL := 3) (ret := none) (av := [.ref w, .int p0, .ref v]) (ws := [(w, .inr (2, [.ref wa0, .ref wa1, .ref wa2, .ref wa3, .ref wa4, .int wn5])), (wa0, .inl (K 1, 4, .inl wf0)), (wa1, .inl (K 1, 4, .inl wf1)), (wa2, .inl (K 1, 60, .inl wf2)), (wa3, .inl (K 1, 60, .inl wf3)), (wa4, .inl (K 1, 60, .inl wf4)), (v, .inr (8, [.int vn0, .int vn1, .int vn2]))]) (D := D) (K := K) (Qc := fun A => va_Qv (S := ((Nat → Int32) × (Nat → Nat → Int32) × (Nat → Nat → Int64))) (fun u => (0 ≤ (u.1 0).toInt)) (chB D A (fun u => [(w, .inr (2, [.ref wa0, .ref wa1, .ref wa2, .ref wa3, .ref wa4, .int (u.1 0)])), (wa0, .inl (K 1, 4, .inl (u.2.1 0))), (wa1, .inl (K 1, 4, .inl (u.2.1 1))), (wa2, .inl (K 1, 60, .inl (u.2.1 2))), (wa3, .inl (K 1, 60, .inl (u.2.1 3))), (wa4, .inl (K 1, 60, .inl (u.2.1 4))), (v, .inr (8, [.int vn0, .int vn1, .int vn2]))])) A) (by decide) (Nat.le_of_ble_eq_true rfl) ?_
  intro p e s m below meth c A hC hr hk hin hE hD hA H locs hP hS ls hl
  replace hC : CallFix p m c cX2_keepStep 3 s [.ref w, .int p0, .ref v].toArray wl RX2 := hC
  have hx := hC.1
  have hb := hC.2.1
  have hml := hC.2.2.1
  have hown := hC.2.2.2.1
  have hts := hC.2.2.2.2
  replace hl : lv_has ls 3 [(0, .ref w), (1, .int p0), (2, .ref v)] := hl
  have kc_0 : (0 : Int32).toInt = 0 := by decide
  have kc_1 : (1 : Int32).toInt = 1 := by decide
  have kc_4 : (4 : Int32).toInt = 4 := by decide
  have kc_60 : (60 : Int32).toInt = 60 := by decide
  refine lv_aload_n hx hb dX2_keepStep_0 rfl (lv_at hl 0 rfl) ?_
  refine va_get (D := D) (ci := 2) (v := .int wn5) (C := RX2) (T := TX2) (N := 6) hx hb hts in_X2 hown hE.1 hP 0 rfl rfl 5 (by decide) (hts _ w_75) (fun _ h9 => h9) rfl dX2_keepStep_1 ?_
  refine lv_bipush (v := 60) hx hb dX2_keepStep_4 (by decide) ?_
  refine lv_icmp_ge (tgt := 18) hx hb dX2_keepStep_6 (by decide) (fun c339 => ?_) (fun c339 => ?_)
  · replace c339 := le_i c339
    refine W.widen (k := 0) (n := 0) (by decide) (by decide) ?_
    exact ch_vret hC hr hk hS dX2_keepStep_18 ((fun k => [wn5].getD k 0, fun k => [wf0, wf1, wf2, wf3, wf4].getD k (fun _ => 0), fun k => [].getD k (fun _ => 0)) : ((Nat → Int32) × (Nat → Nat → Int32) × (Nat → Nat → Int64))) (show 0 ≤ (wn5 : Int32).toInt from by omega) (hP.sub [0, 1, 2, 3, 4, 5, 6] rfl) (hD.sub [0, 1, 2, 3, 4, 5, 6] (by decide) rfl)
  · replace c339 := nle_i c339
    refine lv_iload_n hx hb dX2_keepStep_9 rfl (lv_at hl 1 rfl) ?_
    refine lv_if_lt (tgt := 18) hx hb dX2_keepStep_10 (by decide) (fun c340 => ?_) (fun c340 => ?_)
    · replace c340 := lt_i c340
      refine W.widen (k := 0) (n := 0) (by decide) (by decide) ?_
      exact ch_vret hC hr hk hS dX2_keepStep_18 ((fun k => [wn5].getD k 0, fun k => [wf0, wf1, wf2, wf3, wf4].getD k (fun _ => 0), fun k => [].getD k (fun _ => 0)) : ((Nat → Int32) × (Nat → Nat → Int32) × (Nat → Nat → Int64))) (show 0 ≤ (wn5 : Int32).toInt from by omega) (hP.sub [0, 1, 2, 3, 4, 5, 6] rfl) (hD.sub [0, 1, 2, 3, 4, 5, 6] (by decide) rfl)
    · replace c340 := nlt_i c340
      refine lv_iload_n hx hb dX2_keepStep_13 rfl (lv_at hl 1 rfl) ?_
      refine lv_iconst (v := 4) hx hb dX2_keepStep_14 (by decide) ?_
      refine lv_icmp_lt (tgt := 19) hx hb dX2_keepStep_15 (by decide) (fun c341 => ?_) (fun c341 => ?_)
      · replace c341 := lt_i c341
        refine lv_aload_n hx hb dX2_keepStep_19 rfl (lv_at hl 0 rfl) ?_
        refine va_get (D := D) (ci := 2) (v := .ref wa2) (C := RX2) (T := TX2) (N := 6) hx hb hts in_X2 hown hE.1 hP 0 rfl rfl 2 (by decide) (hts _ w_84) (fun _ h9 => h9) rfl dX2_keepStep_20 ?_
        refine lv_aload_n hx hb dX2_keepStep_23 rfl (lv_at hl 0 rfl) ?_
        refine va_get (D := D) (ci := 2) (v := .int wn5) (C := RX2) (T := TX2) (N := 6) hx hb hts in_X2 hown hE.1 hP 0 rfl rfl 5 (by decide) (hts _ w_75) (fun _ h9 => h9) rfl dX2_keepStep_24 ?_
        refine lv_iload_n hx hb dX2_keepStep_27 rfl (lv_at hl 1 rfl) ?_
        refine sti hx hb hE.1 hP hD hS 3 1 rfl rfl (vp_in_iff.mpr (by omega)) dX2_keepStep_28 (fun g342 eg342 H locs hP hD hS => ?_)
        replace hP : va_P D vwCl [(w, .inr (2, [.ref wa0, .ref wa1, .ref wa2, .ref wa3, .ref wa4, .int wn5])), (wa0, .inl (K 1, 4, .inl wf0)), (wa1, .inl (K 1, 4, .inl wf1)), (wa2, .inl (K 1, 60, .inl g342)), (wa3, .inl (K 1, 60, .inl wf3)), (wa4, .inl (K 1, 60, .inl wf4)), (v, .inr (8, [.int vn0, .int vn1, .int vn2]))] H := hP
        replace hD : va_D A [(w, .inr (2, [.ref wa0, .ref wa1, .ref wa2, .ref wa3, .ref wa4, .int wn5])), (wa0, .inl (K 1, 4, .inl wf0)), (wa1, .inl (K 1, 4, .inl wf1)), (wa2, .inl (K 1, 60, .inl g342)), (wa3, .inl (K 1, 60, .inl wf3)), (wa4, .inl (K 1, 60, .inl wf4)), (v, .inr (8, [.int vn0, .int vn1, .int vn2]))] := hD
        refine lv_aload_n hx hb dX2_keepStep_29 rfl (lv_at hl 0 rfl) ?_
        refine va_get (D := D) (ci := 2) (v := .ref wa3) (C := RX2) (T := TX2) (N := 6) hx hb hts in_X2 hown hE.1 hP 0 rfl rfl 3 (by decide) (hts _ w_85) (fun _ h9 => h9) rfl dX2_keepStep_30 ?_
        refine lv_aload_n hx hb dX2_keepStep_33 rfl (lv_at hl 0 rfl) ?_
        refine va_get (D := D) (ci := 2) (v := .int wn5) (C := RX2) (T := TX2) (N := 6) hx hb hts in_X2 hown hE.1 hP 0 rfl rfl 5 (by decide) (hts _ w_75) (fun _ h9 => h9) rfl dX2_keepStep_34 ?_
        refine lv_aload_n hx hb dX2_keepStep_37 rfl (lv_at hl 0 rfl) ?_
        refine va_get (D := D) (ci := 2) (v := .ref wa0) (C := RX2) (T := TX2) (N := 6) hx hb hts in_X2 hown hE.1 hP 0 rfl rfl 0 (by decide) (hts _ w_76) (fun _ h9 => h9) rfl dX2_keepStep_38 ?_
        refine lv_iload_n hx hb dX2_keepStep_41 rfl (lv_at hl 1 rfl) ?_
        refine va_iald hx hb hE.1 hP 1 1 rfl rfl (vp_in_iff.mpr (by omega)) dX2_keepStep_42 ?_
        refine lv_topi (fun v343 ev343 => ?_)
        refine sti hx hb hE.1 hP hD hS 4 1 rfl rfl (vp_in_iff.mpr (by omega)) dX2_keepStep_43 (fun g344 eg344 H locs hP hD hS => ?_)
        replace hP : va_P D vwCl [(w, .inr (2, [.ref wa0, .ref wa1, .ref wa2, .ref wa3, .ref wa4, .int wn5])), (wa0, .inl (K 1, 4, .inl wf0)), (wa1, .inl (K 1, 4, .inl wf1)), (wa2, .inl (K 1, 60, .inl g342)), (wa3, .inl (K 1, 60, .inl g344)), (wa4, .inl (K 1, 60, .inl wf4)), (v, .inr (8, [.int vn0, .int vn1, .int vn2]))] H := hP
        replace hD : va_D A [(w, .inr (2, [.ref wa0, .ref wa1, .ref wa2, .ref wa3, .ref wa4, .int wn5])), (wa0, .inl (K 1, 4, .inl wf0)), (wa1, .inl (K 1, 4, .inl wf1)), (wa2, .inl (K 1, 60, .inl g342)), (wa3, .inl (K 1, 60, .inl g344)), (wa4, .inl (K 1, 60, .inl wf4)), (v, .inr (8, [.int vn0, .int vn1, .int vn2]))] := hD
        refine lv_aload_n hx hb dX2_keepStep_44 rfl (lv_at hl 0 rfl) ?_
        refine va_get (D := D) (ci := 2) (v := .ref wa4) (C := RX2) (T := TX2) (N := 6) hx hb hts in_X2 hown hE.1 hP 0 rfl rfl 4 (by decide) (hts _ w_86) (fun _ h9 => h9) rfl dX2_keepStep_45 ?_
        refine lv_aload_n hx hb dX2_keepStep_48 rfl (lv_at hl 0 rfl) ?_
        refine va_get (D := D) (ci := 2) (v := .int wn5) (C := RX2) (T := TX2) (N := 6) hx hb hts in_X2 hown hE.1 hP 0 rfl rfl 5 (by decide) (hts _ w_75) (fun _ h9 => h9) rfl dX2_keepStep_49 ?_
        refine lv_aload_n hx hb dX2_keepStep_52 rfl (lv_at hl 0 rfl) ?_
        refine va_get (D := D) (ci := 2) (v := .ref wa1) (C := RX2) (T := TX2) (N := 6) hx hb hts in_X2 hown hE.1 hP 0 rfl rfl 1 (by decide) (hts _ w_78) (fun _ h9 => h9) rfl dX2_keepStep_53 ?_
        refine lv_iload_n hx hb dX2_keepStep_56 rfl (lv_at hl 1 rfl) ?_
        refine va_iald hx hb hE.1 hP 2 1 rfl rfl (vp_in_iff.mpr (by omega)) dX2_keepStep_57 ?_
        refine lv_topi (fun v345 ev345 => ?_)
        refine sti hx hb hE.1 hP hD hS 5 1 rfl rfl (vp_in_iff.mpr (by omega)) dX2_keepStep_58 (fun g346 eg346 H locs hP hD hS => ?_)
        replace hP : va_P D vwCl [(w, .inr (2, [.ref wa0, .ref wa1, .ref wa2, .ref wa3, .ref wa4, .int wn5])), (wa0, .inl (K 1, 4, .inl wf0)), (wa1, .inl (K 1, 4, .inl wf1)), (wa2, .inl (K 1, 60, .inl g342)), (wa3, .inl (K 1, 60, .inl g344)), (wa4, .inl (K 1, 60, .inl g346)), (v, .inr (8, [.int vn0, .int vn1, .int vn2]))] H := hP
        replace hD : va_D A [(w, .inr (2, [.ref wa0, .ref wa1, .ref wa2, .ref wa3, .ref wa4, .int wn5])), (wa0, .inl (K 1, 4, .inl wf0)), (wa1, .inl (K 1, 4, .inl wf1)), (wa2, .inl (K 1, 60, .inl g342)), (wa3, .inl (K 1, 60, .inl g344)), (wa4, .inl (K 1, 60, .inl g346)), (v, .inr (8, [.int vn0, .int vn1, .int vn2]))] := hD
        refine lv_aload_n hx hb dX2_keepStep_59 rfl (lv_at hl 0 rfl) ?_
        refine lv_dup hx hb dX2_keepStep_60 rfl ?_
        refine va_get (D := D) (ci := 2) (v := .int wn5) (C := RX2) (T := TX2) (N := 6) hx hb hts in_X2 hown hE.1 hP 0 rfl rfl 5 (by decide) (hts _ w_75) (fun _ h9 => h9) rfl dX2_keepStep_61 ?_
        refine lv_iconst (v := 1) hx hb dX2_keepStep_64 (by decide) ?_
        refine lv_iadd hx hb dX2_keepStep_65 ?_
        refine lv_topi (fun v347 ev347 => ?_)
        refine va_put (D := D) (ci := 2) (v := .int v347) (ty := .int) (C := RX2) (T := TX2) (N := 6) hx hb hts in_X2 tyX2 tyX2_ok nmX2 hown hE.1 hP hD hS 0 rfl rfl 5 (by decide) (hts _ w_75) (fun _ h9 => h9) rfl (by decide +kernel) rfl rfl (Nat.le_of_ble_eq_true rfl) dX2_keepStep_66 (fun H locs hP hD hS => ?_)
        replace hP : va_P D vwCl [(w, .inr (2, [.ref wa0, .ref wa1, .ref wa2, .ref wa3, .ref wa4, .int v347])), (wa0, .inl (K 1, 4, .inl wf0)), (wa1, .inl (K 1, 4, .inl wf1)), (wa2, .inl (K 1, 60, .inl g342)), (wa3, .inl (K 1, 60, .inl g344)), (wa4, .inl (K 1, 60, .inl g346)), (v, .inr (8, [.int vn0, .int vn1, .int vn2]))] H := hP
        replace hD : va_D A [(w, .inr (2, [.ref wa0, .ref wa1, .ref wa2, .ref wa3, .ref wa4, .int v347])), (wa0, .inl (K 1, 4, .inl wf0)), (wa1, .inl (K 1, 4, .inl wf1)), (wa2, .inl (K 1, 60, .inl g342)), (wa3, .inl (K 1, 60, .inl g344)), (wa4, .inl (K 1, 60, .inl g346)), (v, .inr (8, [.int vn0, .int vn1, .int vn2]))] := hD
        refine lv_aload_n hx hb dX2_keepStep_69 rfl (lv_at hl 0 rfl) ?_
        refine va_get (D := D) (ci := 2) (v := .ref wa0) (C := RX2) (T := TX2) (N := 6) hx hb hts in_X2 hown hE.1 hP 0 rfl rfl 0 (by decide) (hts _ w_76) (fun _ h9 => h9) rfl dX2_keepStep_70 ?_
        refine lv_iload_n hx hb dX2_keepStep_73 rfl (lv_at hl 1 rfl) ?_
        refine lv_aload_n hx hb dX2_keepStep_74 rfl (lv_at hl 2 rfl) ?_
        refine va_get (D := D) (ci := 8) (v := .int vn0) (C := RX9) (T := TX9) (N := 3) hx hb hts in_X9 hown hE.1 hP 6 rfl rfl 0 (by decide) (hts _ w_87) (fun _ h9 => h9) rfl dX2_keepStep_75 ?_
        refine sti hx hb hE.1 hP hD hS 1 1 rfl rfl (vp_in_iff.mpr (by omega)) dX2_keepStep_78 (fun g348 eg348 H locs hP hD hS => ?_)
        replace hP : va_P D vwCl [(w, .inr (2, [.ref wa0, .ref wa1, .ref wa2, .ref wa3, .ref wa4, .int v347])), (wa0, .inl (K 1, 4, .inl g348)), (wa1, .inl (K 1, 4, .inl wf1)), (wa2, .inl (K 1, 60, .inl g342)), (wa3, .inl (K 1, 60, .inl g344)), (wa4, .inl (K 1, 60, .inl g346)), (v, .inr (8, [.int vn0, .int vn1, .int vn2]))] H := hP
        replace hD : va_D A [(w, .inr (2, [.ref wa0, .ref wa1, .ref wa2, .ref wa3, .ref wa4, .int v347])), (wa0, .inl (K 1, 4, .inl g348)), (wa1, .inl (K 1, 4, .inl wf1)), (wa2, .inl (K 1, 60, .inl g342)), (wa3, .inl (K 1, 60, .inl g344)), (wa4, .inl (K 1, 60, .inl g346)), (v, .inr (8, [.int vn0, .int vn1, .int vn2]))] := hD
        refine lv_aload_n hx hb dX2_keepStep_79 rfl (lv_at hl 0 rfl) ?_
        refine va_get (D := D) (ci := 2) (v := .ref wa1) (C := RX2) (T := TX2) (N := 6) hx hb hts in_X2 hown hE.1 hP 0 rfl rfl 1 (by decide) (hts _ w_78) (fun _ h9 => h9) rfl dX2_keepStep_80 ?_
        refine lv_iload_n hx hb dX2_keepStep_83 rfl (lv_at hl 1 rfl) ?_
        refine lv_aload_n hx hb dX2_keepStep_84 rfl (lv_at hl 2 rfl) ?_
        refine va_get (D := D) (ci := 8) (v := .int vn1) (C := RX9) (T := TX9) (N := 3) hx hb hts in_X9 hown hE.1 hP 6 rfl rfl 1 (by decide) (hts _ w_88) (fun _ h9 => h9) rfl dX2_keepStep_85 ?_
        refine sti hx hb hE.1 hP hD hS 2 1 rfl rfl (vp_in_iff.mpr (by omega)) dX2_keepStep_88 (fun g349 eg349 H locs hP hD hS => ?_)
        replace hP : va_P D vwCl [(w, .inr (2, [.ref wa0, .ref wa1, .ref wa2, .ref wa3, .ref wa4, .int v347])), (wa0, .inl (K 1, 4, .inl g348)), (wa1, .inl (K 1, 4, .inl g349)), (wa2, .inl (K 1, 60, .inl g342)), (wa3, .inl (K 1, 60, .inl g344)), (wa4, .inl (K 1, 60, .inl g346)), (v, .inr (8, [.int vn0, .int vn1, .int vn2]))] H := hP
        replace hD : va_D A [(w, .inr (2, [.ref wa0, .ref wa1, .ref wa2, .ref wa3, .ref wa4, .int v347])), (wa0, .inl (K 1, 4, .inl g348)), (wa1, .inl (K 1, 4, .inl g349)), (wa2, .inl (K 1, 60, .inl g342)), (wa3, .inl (K 1, 60, .inl g344)), (wa4, .inl (K 1, 60, .inl g346)), (v, .inr (8, [.int vn0, .int vn1, .int vn2]))] := hD
        refine W.widen (k := 0) (n := 0) (by decide) (by decide) ?_
        have tv347 : v347.toInt = (wn5 : Int32).toInt + (1 : Int32).toInt := add_i ev347 (by omega) (by omega)
        exact ch_vret hC hr hk hS dX2_keepStep_89 ((fun k => [v347].getD k 0, fun k => [g348, g349, g342, g344, g346].getD k (fun _ => 0), fun k => [].getD k (fun _ => 0)) : ((Nat → Int32) × (Nat → Nat → Int32) × (Nat → Nat → Int64))) (show 0 ≤ (v347 : Int32).toInt from by omega) (hP.sub [0, 1, 2, 3, 4, 5, 6] rfl) (hD.sub [0, 1, 2, 3, 4, 5, 6] (by decide) rfl)
      · replace c341 := nlt_i c341
        refine W.widen (k := 0) (n := 0) (by decide) (by decide) ?_
        exact ch_vret hC hr hk hS dX2_keepStep_18 ((fun k => [wn5].getD k 0, fun k => [wf0, wf1, wf2, wf3, wf4].getD k (fun _ => 0), fun k => [].getD k (fun _ => 0)) : ((Nat → Int32) × (Nat → Nat → Int32) × (Nat → Nat → Int64))) (show 0 ≤ (wn5 : Int32).toInt from by omega) (hP.sub [0, 1, 2, 3, 4, 5, 6] rfl) (hD.sub [0, 1, 2, 3, 4, 5, 6] (by decide) rfl)
set_option maxRecDepth 40000 in
set_option maxHeartbeats 4000000 in
theorem c_X2_takeBack (l : Launch) (D : va_G) (K : Nat → ClassId) (w : Nat) (wa0 : Nat) (wa1 : Nat) (wa2 : Nat) (wa3 : Nat) (wa4 : Nat) (wn5 : Int32) (wf0 : Nat → Int32) (wf1 : Nat → Int32) (wf2 : Nat → Int32) (wf3 : Nat → Int32) (wf4 : Nat → Int32) (hst : 0 ≤ wn5.toInt) : Ci (S := ((Nat → Int32) × (Nat → Nat → Int32) × (Nat → Nat → Int64))) l D K yX2_takeBack cX2_takeBack 2 (some .boolean) 0 0 0 0 [.ref w] [(w, .inr (2, [.ref wa0, .ref wa1, .ref wa2, .ref wa3, .ref wa4, .int wn5])), (wa0, .inl (K 1, 4, .inl wf0)), (wa1, .inl (K 1, 4, .inl wf1)), (wa2, .inl (K 1, 60, .inl wf2)), (wa3, .inl (K 1, 60, .inl wf3)), (wa4, .inl (K 1, 60, .inl wf4))] (fun r u => ((r = 0) ∨ (r = 1)) ∧ (0 ≤ (u.1 0).toInt)) (fun u => [(w, .inr (2, [.ref wa0, .ref wa1, .ref wa2, .ref wa3, .ref wa4, .int (u.1 0)])), (wa0, .inl (K 1, 4, .inl (u.2.1 0))), (wa1, .inl (K 1, 4, .inl (u.2.1 1))), (wa2, .inl (K 1, 60, .inl wf2)), (wa3, .inl (K 1, 60, .inl wf3)), (wa4, .inl (K 1, 60, .inl wf4))]) := by
  intro sz
  refine ch_of (y := yX2_takeBack) (cc := cX2_takeBack) (maxL := 2) (ret := (some .boolean)) (av := [.ref w]) (ws := [(w, .inr (2, [.ref wa0, .ref wa1, .ref wa2, .ref wa3, .ref wa4, .int wn5])), (wa0, .inl (K 1, 4, .inl wf0)), (wa1, .inl (K 1, 4, .inl wf1)), (wa2, .inl (K 1, 60, .inl wf2)), (wa3, .inl (K 1, 60, .inl wf3)), (wa4, .inl (K 1, 60, .inl wf4))]) (D := D) (K := K) (Qc := fun A => va_Qi (S := ((Nat → Int32) × (Nat → Nat → Int32) × (Nat → Nat → Int64))) (fun r u => ((r = 0) ∨ (r = 1)) ∧ (0 ≤ (u.1 0).toInt)) (chB D A (fun u => [(w, .inr (2, [.ref wa0, .ref wa1, .ref wa2, .ref wa3, .ref wa4, .int (u.1 0)])), (wa0, .inl (K 1, 4, .inl (u.2.1 0))), (wa1, .inl (K 1, 4, .inl (u.2.1 1))), (wa2, .inl (K 1, 60, .inl wf2)), (wa3, .inl (K 1, 60, .inl wf3)), (wa4, .inl (K 1, 60, .inl wf4))])) A) (by decide) (Nat.le_of_ble_eq_true rfl) ?_
  intro p e s m below meth c A hC hr hk hin hE hD hA H locs hP hS ls hl
  replace hC : CallFix p m c cX2_takeBack 2 s [.ref w].toArray wl RX2 := hC
  have hx := hC.1
  have hb := hC.2.1
  have hml := hC.2.2.1
  have hown := hC.2.2.2.1
  have hts := hC.2.2.2.2
  replace hl : lv_has ls 2 [(0, .ref w)] := hl
  have kc_0 : (0 : Int32).toInt = 0 := by decide
  have kc_1 : (1 : Int32).toInt = 1 := by decide
  have kc_4 : (4 : Int32).toInt = 4 := by decide
  have kc_60 : (60 : Int32).toInt = 60 := by decide
  refine lv_aload_n hx hb dX2_takeBack_0 rfl (lv_at hl 0 rfl) ?_
  refine va_get (D := D) (ci := 2) (v := .int wn5) (C := RX2) (T := TX2) (N := 6) hx hb hts in_X2 hown hE.1 hP 0 rfl rfl 5 (by decide) (hts _ w_75) (fun _ h9 => h9) rfl dX2_takeBack_1 ?_
  refine lv_iconst (v := 1) hx hb dX2_takeBack_4 (by decide) ?_
  refine lv_icmp_lt (tgt := 17) hx hb dX2_takeBack_5 (by decide) (fun c360 => ?_) (fun c360 => ?_)
  · replace c360 := lt_i c360
    refine lv_iconst (v := 0) hx hb dX2_takeBack_17 (by decide) ?_
    refine W.widen (k := 0) (n := 0) (by decide) (by decide) ?_
    exact ch_zret hC hr hk hS dX2_takeBack_18 rfl ((fun k => [wn5].getD k 0, fun k => [wf0, wf1].getD k (fun _ => 0), fun k => [].getD k (fun _ => 0)) : ((Nat → Int32) × (Nat → Nat → Int32) × (Nat → Nat → Int64))) ⟨(Or.inl rfl), (show 0 ≤ (wn5 : Int32).toInt from by omega)⟩ (hP.sub [0, 1, 2, 3, 4, 5] rfl) (hD.sub [0, 1, 2, 3, 4, 5] (by decide) rfl)
  · replace c360 := nlt_i c360
    refine lv_aload_n hx hb dX2_takeBack_8 rfl (lv_at hl 0 rfl) ?_
    refine va_get (D := D) (ci := 2) (v := .int wn5) (C := RX2) (T := TX2) (N := 6) hx hb hts in_X2 hown hE.1 hP 0 rfl rfl 5 (by decide) (hts _ w_75) (fun _ h9 => h9) rfl dX2_takeBack_9 ?_
    refine lv_bipush (v := 60) hx hb dX2_takeBack_12 (by decide) ?_
    refine lv_icmp_le (tgt := 19) hx hb dX2_takeBack_14 (by decide) (fun c361 => ?_) (fun c361 => ?_)
    · replace c361 := le_i c361
      refine lv_aload_n hx hb dX2_takeBack_19 rfl (lv_at hl 0 rfl) ?_
      refine lv_dup hx hb dX2_takeBack_20 rfl ?_
      refine va_get (D := D) (ci := 2) (v := .int wn5) (C := RX2) (T := TX2) (N := 6) hx hb hts in_X2 hown hE.1 hP 0 rfl rfl 5 (by decide) (hts _ w_75) (fun _ h9 => h9) rfl dX2_takeBack_21 ?_
      refine lv_iconst (v := 1) hx hb dX2_takeBack_24 (by decide) ?_
      refine lv_isub hx hb dX2_takeBack_25 ?_
      refine lv_topi (fun v362 ev362 => ?_)
      refine va_put (D := D) (ci := 2) (v := .int v362) (ty := .int) (C := RX2) (T := TX2) (N := 6) hx hb hts in_X2 tyX2 tyX2_ok nmX2 hown hE.1 hP hD hS 0 rfl rfl 5 (by decide) (hts _ w_75) (fun _ h9 => h9) rfl (by decide +kernel) rfl rfl (Nat.le_of_ble_eq_true rfl) dX2_takeBack_26 (fun H locs hP hD hS => ?_)
      replace hP : va_P D vwCl [(w, .inr (2, [.ref wa0, .ref wa1, .ref wa2, .ref wa3, .ref wa4, .int v362])), (wa0, .inl (K 1, 4, .inl wf0)), (wa1, .inl (K 1, 4, .inl wf1)), (wa2, .inl (K 1, 60, .inl wf2)), (wa3, .inl (K 1, 60, .inl wf3)), (wa4, .inl (K 1, 60, .inl wf4))] H := hP
      replace hD : va_D A [(w, .inr (2, [.ref wa0, .ref wa1, .ref wa2, .ref wa3, .ref wa4, .int v362])), (wa0, .inl (K 1, 4, .inl wf0)), (wa1, .inl (K 1, 4, .inl wf1)), (wa2, .inl (K 1, 60, .inl wf2)), (wa3, .inl (K 1, 60, .inl wf3)), (wa4, .inl (K 1, 60, .inl wf4))] := hD
      refine lv_aload_n hx hb dX2_takeBack_29 rfl (lv_at hl 0 rfl) ?_
      refine va_get (D := D) (ci := 2) (v := .ref wa2) (C := RX2) (T := TX2) (N := 6) hx hb hts in_X2 hown hE.1 hP 0 rfl rfl 2 (by decide) (hts _ w_84) (fun _ h9 => h9) rfl dX2_takeBack_30 ?_
      refine lv_aload_n hx hb dX2_takeBack_33 rfl (lv_at hl 0 rfl) ?_
      refine va_get (D := D) (ci := 2) (v := .int v362) (C := RX2) (T := TX2) (N := 6) hx hb hts in_X2 hown hE.1 hP 0 rfl rfl 5 (by decide) (hts _ w_75) (fun _ h9 => h9) rfl dX2_takeBack_34 ?_
      have tv362 : v362.toInt = (wn5 : Int32).toInt - (1 : Int32).toInt := sub_i ev362 (by omega) (by omega)
      refine va_iald hx hb hE.1 hP 3 1 rfl rfl (vp_in_iff.mpr (by omega)) dX2_takeBack_37 ?_
      refine lv_topi (fun v363 ev363 => ?_)
      refine lv_istore_n (lv' := [(1, .int v363), (0, .ref w)]) hx hb dX2_takeBack_38 rfl hl (by decide) rfl (fun ls hl => ?_)
      refine lv_iload_n hx hb dX2_takeBack_39 rfl (lv_at hl 0 rfl) ?_
      refine lv_if_lt (tgt := 78) hx hb dX2_takeBack_40 (by decide) (fun c364 => ?_) (fun c364 => ?_)
      · replace c364 := lt_i c364
        refine lv_iconst (v := 1) hx hb dX2_takeBack_78 (by decide) ?_
        refine W.widen (k := 0) (n := 0) (by decide) (by decide) ?_
        exact ch_zret hC hr hk hS dX2_takeBack_79 rfl ((fun k => [v362].getD k 0, fun k => [wf0, wf1].getD k (fun _ => 0), fun k => [].getD k (fun _ => 0)) : ((Nat → Int32) × (Nat → Nat → Int32) × (Nat → Nat → Int64))) ⟨(Or.inr rfl), (show 0 ≤ (v362 : Int32).toInt from by omega)⟩ (hP.sub [0, 1, 2, 3, 4, 5] rfl) (hD.sub [0, 1, 2, 3, 4, 5] (by decide) rfl)
      · replace c364 := nlt_i c364
        refine lv_iload_n hx hb dX2_takeBack_43 rfl (lv_at hl 0 rfl) ?_
        refine lv_iconst (v := 4) hx hb dX2_takeBack_44 (by decide) ?_
        refine lv_icmp_ge (tgt := 78) hx hb dX2_takeBack_45 (by decide) (fun c365 => ?_) (fun c365 => ?_)
        · replace c365 := le_i c365
          refine lv_iconst (v := 1) hx hb dX2_takeBack_78 (by decide) ?_
          refine W.widen (k := 0) (n := 0) (by decide) (by decide) ?_
          exact ch_zret hC hr hk hS dX2_takeBack_79 rfl ((fun k => [v362].getD k 0, fun k => [wf0, wf1].getD k (fun _ => 0), fun k => [].getD k (fun _ => 0)) : ((Nat → Int32) × (Nat → Nat → Int32) × (Nat → Nat → Int64))) ⟨(Or.inr rfl), (show 0 ≤ (v362 : Int32).toInt from by omega)⟩ (hP.sub [0, 1, 2, 3, 4, 5] rfl) (hD.sub [0, 1, 2, 3, 4, 5] (by decide) rfl)
        · replace c365 := nle_i c365
          refine lv_aload_n hx hb dX2_takeBack_48 rfl (lv_at hl 1 rfl) ?_
          refine va_get (D := D) (ci := 2) (v := .ref wa0) (C := RX2) (T := TX2) (N := 6) hx hb hts in_X2 hown hE.1 hP 0 rfl rfl 0 (by decide) (hts _ w_76) (fun _ h9 => h9) rfl dX2_takeBack_49 ?_
          refine lv_iload_n hx hb dX2_takeBack_52 rfl (lv_at hl 0 rfl) ?_
          refine lv_aload_n hx hb dX2_takeBack_53 rfl (lv_at hl 1 rfl) ?_
          refine va_get (D := D) (ci := 2) (v := .ref wa3) (C := RX2) (T := TX2) (N := 6) hx hb hts in_X2 hown hE.1 hP 0 rfl rfl 3 (by decide) (hts _ w_85) (fun _ h9 => h9) rfl dX2_takeBack_54 ?_
          refine lv_aload_n hx hb dX2_takeBack_57 rfl (lv_at hl 1 rfl) ?_
          refine va_get (D := D) (ci := 2) (v := .int v362) (C := RX2) (T := TX2) (N := 6) hx hb hts in_X2 hown hE.1 hP 0 rfl rfl 5 (by decide) (hts _ w_75) (fun _ h9 => h9) rfl dX2_takeBack_58 ?_
          refine va_iald hx hb hE.1 hP 4 1 rfl rfl (vp_in_iff.mpr (by omega)) dX2_takeBack_61 ?_
          refine lv_topi (fun v366 ev366 => ?_)
          refine sti hx hb hE.1 hP hD hS 1 1 rfl rfl (vp_in_iff.mpr (by omega)) dX2_takeBack_62 (fun g367 eg367 H locs hP hD hS => ?_)
          replace hP : va_P D vwCl [(w, .inr (2, [.ref wa0, .ref wa1, .ref wa2, .ref wa3, .ref wa4, .int v362])), (wa0, .inl (K 1, 4, .inl g367)), (wa1, .inl (K 1, 4, .inl wf1)), (wa2, .inl (K 1, 60, .inl wf2)), (wa3, .inl (K 1, 60, .inl wf3)), (wa4, .inl (K 1, 60, .inl wf4))] H := hP
          replace hD : va_D A [(w, .inr (2, [.ref wa0, .ref wa1, .ref wa2, .ref wa3, .ref wa4, .int v362])), (wa0, .inl (K 1, 4, .inl g367)), (wa1, .inl (K 1, 4, .inl wf1)), (wa2, .inl (K 1, 60, .inl wf2)), (wa3, .inl (K 1, 60, .inl wf3)), (wa4, .inl (K 1, 60, .inl wf4))] := hD
          refine lv_aload_n hx hb dX2_takeBack_63 rfl (lv_at hl 1 rfl) ?_
          refine va_get (D := D) (ci := 2) (v := .ref wa1) (C := RX2) (T := TX2) (N := 6) hx hb hts in_X2 hown hE.1 hP 0 rfl rfl 1 (by decide) (hts _ w_78) (fun _ h9 => h9) rfl dX2_takeBack_64 ?_
          refine lv_iload_n hx hb dX2_takeBack_67 rfl (lv_at hl 0 rfl) ?_
          refine lv_aload_n hx hb dX2_takeBack_68 rfl (lv_at hl 1 rfl) ?_
          refine va_get (D := D) (ci := 2) (v := .ref wa4) (C := RX2) (T := TX2) (N := 6) hx hb hts in_X2 hown hE.1 hP 0 rfl rfl 4 (by decide) (hts _ w_86) (fun _ h9 => h9) rfl dX2_takeBack_69 ?_
          refine lv_aload_n hx hb dX2_takeBack_72 rfl (lv_at hl 1 rfl) ?_
          refine va_get (D := D) (ci := 2) (v := .int v362) (C := RX2) (T := TX2) (N := 6) hx hb hts in_X2 hown hE.1 hP 0 rfl rfl 5 (by decide) (hts _ w_75) (fun _ h9 => h9) rfl dX2_takeBack_73 ?_
          refine va_iald hx hb hE.1 hP 5 1 rfl rfl (vp_in_iff.mpr (by omega)) dX2_takeBack_76 ?_
          refine lv_topi (fun v368 ev368 => ?_)
          refine sti hx hb hE.1 hP hD hS 2 1 rfl rfl (vp_in_iff.mpr (by omega)) dX2_takeBack_77 (fun g369 eg369 H locs hP hD hS => ?_)
          replace hP : va_P D vwCl [(w, .inr (2, [.ref wa0, .ref wa1, .ref wa2, .ref wa3, .ref wa4, .int v362])), (wa0, .inl (K 1, 4, .inl g367)), (wa1, .inl (K 1, 4, .inl g369)), (wa2, .inl (K 1, 60, .inl wf2)), (wa3, .inl (K 1, 60, .inl wf3)), (wa4, .inl (K 1, 60, .inl wf4))] H := hP
          replace hD : va_D A [(w, .inr (2, [.ref wa0, .ref wa1, .ref wa2, .ref wa3, .ref wa4, .int v362])), (wa0, .inl (K 1, 4, .inl g367)), (wa1, .inl (K 1, 4, .inl g369)), (wa2, .inl (K 1, 60, .inl wf2)), (wa3, .inl (K 1, 60, .inl wf3)), (wa4, .inl (K 1, 60, .inl wf4))] := hD
          refine lv_iconst (v := 1) hx hb dX2_takeBack_78 (by decide) ?_
          refine W.widen (k := 0) (n := 0) (by decide) (by decide) ?_
          exact ch_zret hC hr hk hS dX2_takeBack_79 rfl ((fun k => [v362].getD k 0, fun k => [g367, g369].getD k (fun _ => 0), fun k => [].getD k (fun _ => 0)) : ((Nat → Int32) × (Nat → Nat → Int32) × (Nat → Nat → Int64))) ⟨(Or.inr rfl), (show 0 ≤ (v362 : Int32).toInt from by omega)⟩ (hP.sub [0, 1, 2, 3, 4, 5] rfl) (hD.sub [0, 1, 2, 3, 4, 5] (by decide) rfl)
    · replace c361 := nle_i c361
      refine lv_iconst (v := 0) hx hb dX2_takeBack_17 (by decide) ?_
      refine W.widen (k := 0) (n := 0) (by decide) (by decide) ?_
      exact ch_zret hC hr hk hS dX2_takeBack_18 rfl ((fun k => [wn5].getD k 0, fun k => [wf0, wf1].getD k (fun _ => 0), fun k => [].getD k (fun _ => 0)) : ((Nat → Int32) × (Nat → Nat → Int32) × (Nat → Nat → Int64))) ⟨(Or.inl rfl), (show 0 ≤ (wn5 : Int32).toInt from by omega)⟩ (hP.sub [0, 1, 2, 3, 4, 5] rfl) (hD.sub [0, 1, 2, 3, 4, 5] (by decide) rfl)
set_option maxRecDepth 40000 in
set_option maxHeartbeats 4000000 in
theorem c_X10_copyFrom (l : Launch) (D : va_G) (K : Nat → ClassId) (w : Nat) (wa0 : Nat) (wa1 : Nat) (wa2 : Nat) (wa3 : Nat) (wa4 : Nat) (wa5 : Nat) (wa6 : Nat) (wa7 : Nat) (v : Nat) (va0 : Nat) (va1 : Nat) (va2 : Nat) (va3 : Nat) (va4 : Nat) (va5 : Nat) (va6 : Nat) (va7 : Nat) (wn8 : Int32) (wn9 : Int32) (wn10 : Int32) (wn11 : Int32) (vn8 : Int32) (vn9 : Int32) (vn10 : Int32) (vn11 : Int32) (wf0 : Nat → Int32) (wf1 : Nat → Int32) (wf2 : Nat → Int32) (wf3 : Nat → Int32) (wf4 : Nat → Int32) (wf5 : Nat → Int32) (wf6 : Nat → Int32) (wf7 : Nat → Int32) (vf0 : Nat → Int32) (vf1 : Nat → Int32) (vf2 : Nat → Int32) (vf3 : Nat → Int32) (vf4 : Nat → Int32) (vf5 : Nat → Int32) (vf6 : Nat → Int32) (vf7 : Nat → Int32) : Cv (S := ((Nat → Int32) × (Nat → Nat → Int32) × (Nat → Nat → Int64))) l D K yX10_copyFrom cX10_copyFrom 2 1 18 0 0 [.ref w, .ref v] [(w, .inr (9, [.ref wa0, .ref wa1, .ref wa2, .ref wa3, .ref wa4, .ref wa5, .ref wa6, .ref wa7, .int wn8, .int wn9, .int wn10, .int wn11])), (wa0, .inl (K 1, 40, .inl wf0)), (wa1, .inl (K 1, 10, .inl wf1)), (wa2, .inl (K 1, 4, .inl wf2)), (wa3, .inl (K 1, 4, .inl wf3)), (wa4, .inl (K 1, 4, .inl wf4)), (wa5, .inl (K 1, 5, .inl wf5)), (wa6, .inl (K 1, 5, .inl wf6)), (wa7, .inl (K 1, 5, .inl wf7)), (v, .inr (9, [.ref va0, .ref va1, .ref va2, .ref va3, .ref va4, .ref va5, .ref va6, .ref va7, .int vn8, .int vn9, .int vn10, .int vn11])), (va0, .inl (K 1, 40, .inl vf0)), (va1, .inl (K 1, 10, .inl vf1)), (va2, .inl (K 1, 4, .inl vf2)), (va3, .inl (K 1, 4, .inl vf3)), (va4, .inl (K 1, 4, .inl vf4)), (va5, .inl (K 1, 5, .inl vf5)), (va6, .inl (K 1, 5, .inl vf6)), (va7, .inl (K 1, 5, .inl vf7))] (fun u => ((u.1 1).toInt = vn9.toInt) ∧ ((u.1 2).toInt = vn10.toInt)) (fun u => [(w, .inr (9, [.ref wa0, .ref wa1, .ref wa2, .ref wa3, .ref wa4, .ref wa5, .ref wa6, .ref wa7, .int (u.1 0), .int (u.1 1), .int (u.1 2), .int (u.1 3)])), (wa0, .inl (K 1, 40, .inl (u.2.1 0))), (wa1, .inl (K 1, 10, .inl (u.2.1 1))), (wa2, .inl (K 1, 4, .inl (u.2.1 2))), (wa3, .inl (K 1, 4, .inl (u.2.1 3))), (wa4, .inl (K 1, 4, .inl (u.2.1 4))), (wa5, .inl (K 1, 5, .inl (u.2.1 5))), (wa6, .inl (K 1, 5, .inl (u.2.1 6))), (wa7, .inl (K 1, 5, .inl (u.2.1 7))), (v, .inr (9, [.ref va0, .ref va1, .ref va2, .ref va3, .ref va4, .ref va5, .ref va6, .ref va7, .int vn8, .int vn9, .int vn10, .int vn11])), (va0, .inl (K 1, 40, .inl vf0)), (va1, .inl (K 1, 10, .inl vf1)), (va2, .inl (K 1, 4, .inl vf2)), (va3, .inl (K 1, 4, .inl vf3)), (va4, .inl (K 1, 4, .inl vf4)), (va5, .inl (K 1, 5, .inl vf5)), (va6, .inl (K 1, 5, .inl vf6)), (va7, .inl (K 1, 5, .inl vf7))]) := by
  intro sz
  refine ch_of (y := yX10_copyFrom) (cc := cX10_copyFrom) (maxL := 2) (ret := none) (av := [.ref w, .ref v]) (ws := [(w, .inr (9, [.ref wa0, .ref wa1, .ref wa2, .ref wa3, .ref wa4, .ref wa5, .ref wa6, .ref wa7, .int wn8, .int wn9, .int wn10, .int wn11])), (wa0, .inl (K 1, 40, .inl wf0)), (wa1, .inl (K 1, 10, .inl wf1)), (wa2, .inl (K 1, 4, .inl wf2)), (wa3, .inl (K 1, 4, .inl wf3)), (wa4, .inl (K 1, 4, .inl wf4)), (wa5, .inl (K 1, 5, .inl wf5)), (wa6, .inl (K 1, 5, .inl wf6)), (wa7, .inl (K 1, 5, .inl wf7)), (v, .inr (9, [.ref va0, .ref va1, .ref va2, .ref va3, .ref va4, .ref va5, .ref va6, .ref va7, .int vn8, .int vn9, .int vn10, .int vn11])), (va0, .inl (K 1, 40, .inl vf0)), (va1, .inl (K 1, 10, .inl vf1)), (va2, .inl (K 1, 4, .inl vf2)), (va3, .inl (K 1, 4, .inl vf3)), (va4, .inl (K 1, 4, .inl vf4)), (va5, .inl (K 1, 5, .inl vf5)), (va6, .inl (K 1, 5, .inl vf6)), (va7, .inl (K 1, 5, .inl vf7))]) (D := D) (K := K) (Qc := fun A => va_Qv (S := ((Nat → Int32) × (Nat → Nat → Int32) × (Nat → Nat → Int64))) (fun u => ((u.1 1).toInt = vn9.toInt) ∧ ((u.1 2).toInt = vn10.toInt)) (chB D A (fun u => [(w, .inr (9, [.ref wa0, .ref wa1, .ref wa2, .ref wa3, .ref wa4, .ref wa5, .ref wa6, .ref wa7, .int (u.1 0), .int (u.1 1), .int (u.1 2), .int (u.1 3)])), (wa0, .inl (K 1, 40, .inl (u.2.1 0))), (wa1, .inl (K 1, 10, .inl (u.2.1 1))), (wa2, .inl (K 1, 4, .inl (u.2.1 2))), (wa3, .inl (K 1, 4, .inl (u.2.1 3))), (wa4, .inl (K 1, 4, .inl (u.2.1 4))), (wa5, .inl (K 1, 5, .inl (u.2.1 5))), (wa6, .inl (K 1, 5, .inl (u.2.1 6))), (wa7, .inl (K 1, 5, .inl (u.2.1 7))), (v, .inr (9, [.ref va0, .ref va1, .ref va2, .ref va3, .ref va4, .ref va5, .ref va6, .ref va7, .int vn8, .int vn9, .int vn10, .int vn11])), (va0, .inl (K 1, 40, .inl vf0)), (va1, .inl (K 1, 10, .inl vf1)), (va2, .inl (K 1, 4, .inl vf2)), (va3, .inl (K 1, 4, .inl vf3)), (va4, .inl (K 1, 4, .inl vf4)), (va5, .inl (K 1, 5, .inl vf5)), (va6, .inl (K 1, 5, .inl vf6)), (va7, .inl (K 1, 5, .inl vf7))])) A) (by decide) (Nat.le_of_ble_eq_true rfl) ?_
  intro p e s m below meth c A hC hr hk hin hE hD hA H locs hP hS ls hl
  replace hC : CallFix p m c cX10_copyFrom 2 s [.ref w, .ref v].toArray wl RX10 := hC
  have hx := hC.1
  have hb := hC.2.1
  have hml := hC.2.2.1
  have hown := hC.2.2.2.1
  have hts := hC.2.2.2.2
  replace hl : lv_has ls 2 [(0, .ref w), (1, .ref v)] := hl
  have kc_0 : (0 : Int32).toInt = 0 := by decide
  have kc_4 : (4 : Int32).toInt = 4 := by decide
  have kc_5 : (5 : Int32).toInt = 5 := by decide
  have kc_10 : (10 : Int32).toInt = 10 := by decide
  have kc_40 : (40 : Int32).toInt = 40 := by decide
  refine lv_aload_n hx hb dX10_copyFrom_0 rfl (lv_at hl 1 rfl) ?_
  refine va_get (D := D) (ci := 9) (v := .ref va0) (C := RX10) (T := TX10) (N := 12) hx hb hts in_X10 hown hE.1 hP 9 rfl rfl 0 (by decide) (hts _ w_36) (fun _ h9 => h9) rfl dX10_copyFrom_1 ?_
  refine lv_iconst (v := 0) hx hb dX10_copyFrom_4 (by decide) ?_
  refine lv_aload_n hx hb dX10_copyFrom_5 rfl (lv_at hl 0 rfl) ?_
  refine va_get (D := D) (ci := 9) (v := .ref wa0) (C := RX10) (T := TX10) (N := 12) hx hb hts in_X10 hown hE.1 hP 0 rfl rfl 0 (by decide) (hts _ w_36) (fun _ h9 => h9) rfl dX10_copyFrom_6 ?_
  refine lv_iconst (v := 0) hx hb dX10_copyFrom_9 (by decide) ?_
  refine lv_aload_n hx hb dX10_copyFrom_10 rfl (lv_at hl 0 rfl) ?_
  refine va_get (D := D) (ci := 9) (v := .ref wa0) (C := RX10) (T := TX10) (N := 12) hx hb hts in_X10 hown hE.1 hP 0 rfl rfl 0 (by decide) (hts _ w_36) (fun _ h9 => h9) rfl dX10_copyFrom_11 ?_
  refine va_alen (v := 40) hx hb hE.1 hP 1 1 rfl rfl (show Int32.ofNat 40 = 40 by decide) dX10_copyFrom_14 ?_
  refine cpi hC hE hl.1 w_89 w_81 w_82 w_83 hP hD hS 10 1 rfl rfl (by decide) (by decide) (by decide) (by decide) (by decide) (by decide) (Nat.le_of_ble_eq_true rfl) dX10_copyFrom_15 (fun g378 H locs hP hD hS => ?_)
  replace hP : va_P D vwCl [(w, .inr (9, [.ref wa0, .ref wa1, .ref wa2, .ref wa3, .ref wa4, .ref wa5, .ref wa6, .ref wa7, .int wn8, .int wn9, .int wn10, .int wn11])), (wa0, .inl (K 1, 40, .inl g378)), (wa1, .inl (K 1, 10, .inl wf1)), (wa2, .inl (K 1, 4, .inl wf2)), (wa3, .inl (K 1, 4, .inl wf3)), (wa4, .inl (K 1, 4, .inl wf4)), (wa5, .inl (K 1, 5, .inl wf5)), (wa6, .inl (K 1, 5, .inl wf6)), (wa7, .inl (K 1, 5, .inl wf7)), (v, .inr (9, [.ref va0, .ref va1, .ref va2, .ref va3, .ref va4, .ref va5, .ref va6, .ref va7, .int vn8, .int vn9, .int vn10, .int vn11])), (va0, .inl (K 1, 40, .inl vf0)), (va1, .inl (K 1, 10, .inl vf1)), (va2, .inl (K 1, 4, .inl vf2)), (va3, .inl (K 1, 4, .inl vf3)), (va4, .inl (K 1, 4, .inl vf4)), (va5, .inl (K 1, 5, .inl vf5)), (va6, .inl (K 1, 5, .inl vf6)), (va7, .inl (K 1, 5, .inl vf7))] H := hP
  replace hD : va_D A [(w, .inr (9, [.ref wa0, .ref wa1, .ref wa2, .ref wa3, .ref wa4, .ref wa5, .ref wa6, .ref wa7, .int wn8, .int wn9, .int wn10, .int wn11])), (wa0, .inl (K 1, 40, .inl g378)), (wa1, .inl (K 1, 10, .inl wf1)), (wa2, .inl (K 1, 4, .inl wf2)), (wa3, .inl (K 1, 4, .inl wf3)), (wa4, .inl (K 1, 4, .inl wf4)), (wa5, .inl (K 1, 5, .inl wf5)), (wa6, .inl (K 1, 5, .inl wf6)), (wa7, .inl (K 1, 5, .inl wf7)), (v, .inr (9, [.ref va0, .ref va1, .ref va2, .ref va3, .ref va4, .ref va5, .ref va6, .ref va7, .int vn8, .int vn9, .int vn10, .int vn11])), (va0, .inl (K 1, 40, .inl vf0)), (va1, .inl (K 1, 10, .inl vf1)), (va2, .inl (K 1, 4, .inl vf2)), (va3, .inl (K 1, 4, .inl vf3)), (va4, .inl (K 1, 4, .inl vf4)), (va5, .inl (K 1, 5, .inl vf5)), (va6, .inl (K 1, 5, .inl vf6)), (va7, .inl (K 1, 5, .inl vf7))] := hD
  refine lv_aload_n hx hb dX10_copyFrom_18 rfl (lv_at hl 1 rfl) ?_
  refine va_get (D := D) (ci := 9) (v := .ref va1) (C := RX10) (T := TX10) (N := 12) hx hb hts in_X10 hown hE.1 hP 9 rfl rfl 1 (by decide) (hts _ w_37) (fun _ h9 => h9) rfl dX10_copyFrom_19 ?_
  refine lv_iconst (v := 0) hx hb dX10_copyFrom_22 (by decide) ?_
  refine lv_aload_n hx hb dX10_copyFrom_23 rfl (lv_at hl 0 rfl) ?_
  refine va_get (D := D) (ci := 9) (v := .ref wa1) (C := RX10) (T := TX10) (N := 12) hx hb hts in_X10 hown hE.1 hP 0 rfl rfl 1 (by decide) (hts _ w_37) (fun _ h9 => h9) rfl dX10_copyFrom_24 ?_
  refine lv_iconst (v := 0) hx hb dX10_copyFrom_27 (by decide) ?_
  refine lv_aload_n hx hb dX10_copyFrom_28 rfl (lv_at hl 0 rfl) ?_
  refine va_get (D := D) (ci := 9) (v := .ref wa1) (C := RX10) (T := TX10) (N := 12) hx hb hts in_X10 hown hE.1 hP 0 rfl rfl 1 (by decide) (hts _ w_37) (fun _ h9 => h9) rfl dX10_copyFrom_29 ?_
  refine va_alen (v := 10) hx hb hE.1 hP 2 1 rfl rfl (show Int32.ofNat 10 = 10 by decide) dX10_copyFrom_32 ?_
  refine cpi hC hE hl.1 w_89 w_81 w_82 w_83 hP hD hS 11 2 rfl rfl (by decide) (by decide) (by decide) (by decide) (by decide) (by decide) (Nat.le_of_ble_eq_true rfl) dX10_copyFrom_33 (fun g379 H locs hP hD hS => ?_)
  replace hP : va_P D vwCl [(w, .inr (9, [.ref wa0, .ref wa1, .ref wa2, .ref wa3, .ref wa4, .ref wa5, .ref wa6, .ref wa7, .int wn8, .int wn9, .int wn10, .int wn11])), (wa0, .inl (K 1, 40, .inl g378)), (wa1, .inl (K 1, 10, .inl g379)), (wa2, .inl (K 1, 4, .inl wf2)), (wa3, .inl (K 1, 4, .inl wf3)), (wa4, .inl (K 1, 4, .inl wf4)), (wa5, .inl (K 1, 5, .inl wf5)), (wa6, .inl (K 1, 5, .inl wf6)), (wa7, .inl (K 1, 5, .inl wf7)), (v, .inr (9, [.ref va0, .ref va1, .ref va2, .ref va3, .ref va4, .ref va5, .ref va6, .ref va7, .int vn8, .int vn9, .int vn10, .int vn11])), (va0, .inl (K 1, 40, .inl vf0)), (va1, .inl (K 1, 10, .inl vf1)), (va2, .inl (K 1, 4, .inl vf2)), (va3, .inl (K 1, 4, .inl vf3)), (va4, .inl (K 1, 4, .inl vf4)), (va5, .inl (K 1, 5, .inl vf5)), (va6, .inl (K 1, 5, .inl vf6)), (va7, .inl (K 1, 5, .inl vf7))] H := hP
  replace hD : va_D A [(w, .inr (9, [.ref wa0, .ref wa1, .ref wa2, .ref wa3, .ref wa4, .ref wa5, .ref wa6, .ref wa7, .int wn8, .int wn9, .int wn10, .int wn11])), (wa0, .inl (K 1, 40, .inl g378)), (wa1, .inl (K 1, 10, .inl g379)), (wa2, .inl (K 1, 4, .inl wf2)), (wa3, .inl (K 1, 4, .inl wf3)), (wa4, .inl (K 1, 4, .inl wf4)), (wa5, .inl (K 1, 5, .inl wf5)), (wa6, .inl (K 1, 5, .inl wf6)), (wa7, .inl (K 1, 5, .inl wf7)), (v, .inr (9, [.ref va0, .ref va1, .ref va2, .ref va3, .ref va4, .ref va5, .ref va6, .ref va7, .int vn8, .int vn9, .int vn10, .int vn11])), (va0, .inl (K 1, 40, .inl vf0)), (va1, .inl (K 1, 10, .inl vf1)), (va2, .inl (K 1, 4, .inl vf2)), (va3, .inl (K 1, 4, .inl vf3)), (va4, .inl (K 1, 4, .inl vf4)), (va5, .inl (K 1, 5, .inl vf5)), (va6, .inl (K 1, 5, .inl vf6)), (va7, .inl (K 1, 5, .inl vf7))] := hD
  refine lv_aload_n hx hb dX10_copyFrom_36 rfl (lv_at hl 1 rfl) ?_
  refine va_get (D := D) (ci := 9) (v := .ref va2) (C := RX10) (T := TX10) (N := 12) hx hb hts in_X10 hown hE.1 hP 9 rfl rfl 2 (by decide) (hts _ w_90) (fun _ h9 => h9) rfl dX10_copyFrom_37 ?_
  refine lv_iconst (v := 0) hx hb dX10_copyFrom_40 (by decide) ?_
  refine lv_aload_n hx hb dX10_copyFrom_41 rfl (lv_at hl 0 rfl) ?_
  refine va_get (D := D) (ci := 9) (v := .ref wa2) (C := RX10) (T := TX10) (N := 12) hx hb hts in_X10 hown hE.1 hP 0 rfl rfl 2 (by decide) (hts _ w_90) (fun _ h9 => h9) rfl dX10_copyFrom_42 ?_
  refine lv_iconst (v := 0) hx hb dX10_copyFrom_45 (by decide) ?_
  refine lv_aload_n hx hb dX10_copyFrom_46 rfl (lv_at hl 0 rfl) ?_
  refine va_get (D := D) (ci := 9) (v := .ref wa2) (C := RX10) (T := TX10) (N := 12) hx hb hts in_X10 hown hE.1 hP 0 rfl rfl 2 (by decide) (hts _ w_90) (fun _ h9 => h9) rfl dX10_copyFrom_47 ?_
  refine va_alen (v := 4) hx hb hE.1 hP 3 1 rfl rfl (show Int32.ofNat 4 = 4 by decide) dX10_copyFrom_50 ?_
  refine cpi hC hE hl.1 w_89 w_81 w_82 w_83 hP hD hS 12 3 rfl rfl (by decide) (by decide) (by decide) (by decide) (by decide) (by decide) (Nat.le_of_ble_eq_true rfl) dX10_copyFrom_51 (fun g380 H locs hP hD hS => ?_)
  replace hP : va_P D vwCl [(w, .inr (9, [.ref wa0, .ref wa1, .ref wa2, .ref wa3, .ref wa4, .ref wa5, .ref wa6, .ref wa7, .int wn8, .int wn9, .int wn10, .int wn11])), (wa0, .inl (K 1, 40, .inl g378)), (wa1, .inl (K 1, 10, .inl g379)), (wa2, .inl (K 1, 4, .inl g380)), (wa3, .inl (K 1, 4, .inl wf3)), (wa4, .inl (K 1, 4, .inl wf4)), (wa5, .inl (K 1, 5, .inl wf5)), (wa6, .inl (K 1, 5, .inl wf6)), (wa7, .inl (K 1, 5, .inl wf7)), (v, .inr (9, [.ref va0, .ref va1, .ref va2, .ref va3, .ref va4, .ref va5, .ref va6, .ref va7, .int vn8, .int vn9, .int vn10, .int vn11])), (va0, .inl (K 1, 40, .inl vf0)), (va1, .inl (K 1, 10, .inl vf1)), (va2, .inl (K 1, 4, .inl vf2)), (va3, .inl (K 1, 4, .inl vf3)), (va4, .inl (K 1, 4, .inl vf4)), (va5, .inl (K 1, 5, .inl vf5)), (va6, .inl (K 1, 5, .inl vf6)), (va7, .inl (K 1, 5, .inl vf7))] H := hP
  replace hD : va_D A [(w, .inr (9, [.ref wa0, .ref wa1, .ref wa2, .ref wa3, .ref wa4, .ref wa5, .ref wa6, .ref wa7, .int wn8, .int wn9, .int wn10, .int wn11])), (wa0, .inl (K 1, 40, .inl g378)), (wa1, .inl (K 1, 10, .inl g379)), (wa2, .inl (K 1, 4, .inl g380)), (wa3, .inl (K 1, 4, .inl wf3)), (wa4, .inl (K 1, 4, .inl wf4)), (wa5, .inl (K 1, 5, .inl wf5)), (wa6, .inl (K 1, 5, .inl wf6)), (wa7, .inl (K 1, 5, .inl wf7)), (v, .inr (9, [.ref va0, .ref va1, .ref va2, .ref va3, .ref va4, .ref va5, .ref va6, .ref va7, .int vn8, .int vn9, .int vn10, .int vn11])), (va0, .inl (K 1, 40, .inl vf0)), (va1, .inl (K 1, 10, .inl vf1)), (va2, .inl (K 1, 4, .inl vf2)), (va3, .inl (K 1, 4, .inl vf3)), (va4, .inl (K 1, 4, .inl vf4)), (va5, .inl (K 1, 5, .inl vf5)), (va6, .inl (K 1, 5, .inl vf6)), (va7, .inl (K 1, 5, .inl vf7))] := hD
  refine lv_aload_n hx hb dX10_copyFrom_54 rfl (lv_at hl 1 rfl) ?_
  refine va_get (D := D) (ci := 9) (v := .ref va3) (C := RX10) (T := TX10) (N := 12) hx hb hts in_X10 hown hE.1 hP 9 rfl rfl 3 (by decide) (hts _ w_91) (fun _ h9 => h9) rfl dX10_copyFrom_55 ?_
  refine lv_iconst (v := 0) hx hb dX10_copyFrom_58 (by decide) ?_
  refine lv_aload_n hx hb dX10_copyFrom_59 rfl (lv_at hl 0 rfl) ?_
  refine va_get (D := D) (ci := 9) (v := .ref wa3) (C := RX10) (T := TX10) (N := 12) hx hb hts in_X10 hown hE.1 hP 0 rfl rfl 3 (by decide) (hts _ w_91) (fun _ h9 => h9) rfl dX10_copyFrom_60 ?_
  refine lv_iconst (v := 0) hx hb dX10_copyFrom_63 (by decide) ?_
  refine lv_aload_n hx hb dX10_copyFrom_64 rfl (lv_at hl 0 rfl) ?_
  refine va_get (D := D) (ci := 9) (v := .ref wa3) (C := RX10) (T := TX10) (N := 12) hx hb hts in_X10 hown hE.1 hP 0 rfl rfl 3 (by decide) (hts _ w_91) (fun _ h9 => h9) rfl dX10_copyFrom_65 ?_
  refine va_alen (v := 4) hx hb hE.1 hP 4 1 rfl rfl (show Int32.ofNat 4 = 4 by decide) dX10_copyFrom_68 ?_
  refine cpi hC hE hl.1 w_89 w_81 w_82 w_83 hP hD hS 13 4 rfl rfl (by decide) (by decide) (by decide) (by decide) (by decide) (by decide) (Nat.le_of_ble_eq_true rfl) dX10_copyFrom_69 (fun g381 H locs hP hD hS => ?_)
  replace hP : va_P D vwCl [(w, .inr (9, [.ref wa0, .ref wa1, .ref wa2, .ref wa3, .ref wa4, .ref wa5, .ref wa6, .ref wa7, .int wn8, .int wn9, .int wn10, .int wn11])), (wa0, .inl (K 1, 40, .inl g378)), (wa1, .inl (K 1, 10, .inl g379)), (wa2, .inl (K 1, 4, .inl g380)), (wa3, .inl (K 1, 4, .inl g381)), (wa4, .inl (K 1, 4, .inl wf4)), (wa5, .inl (K 1, 5, .inl wf5)), (wa6, .inl (K 1, 5, .inl wf6)), (wa7, .inl (K 1, 5, .inl wf7)), (v, .inr (9, [.ref va0, .ref va1, .ref va2, .ref va3, .ref va4, .ref va5, .ref va6, .ref va7, .int vn8, .int vn9, .int vn10, .int vn11])), (va0, .inl (K 1, 40, .inl vf0)), (va1, .inl (K 1, 10, .inl vf1)), (va2, .inl (K 1, 4, .inl vf2)), (va3, .inl (K 1, 4, .inl vf3)), (va4, .inl (K 1, 4, .inl vf4)), (va5, .inl (K 1, 5, .inl vf5)), (va6, .inl (K 1, 5, .inl vf6)), (va7, .inl (K 1, 5, .inl vf7))] H := hP
  replace hD : va_D A [(w, .inr (9, [.ref wa0, .ref wa1, .ref wa2, .ref wa3, .ref wa4, .ref wa5, .ref wa6, .ref wa7, .int wn8, .int wn9, .int wn10, .int wn11])), (wa0, .inl (K 1, 40, .inl g378)), (wa1, .inl (K 1, 10, .inl g379)), (wa2, .inl (K 1, 4, .inl g380)), (wa3, .inl (K 1, 4, .inl g381)), (wa4, .inl (K 1, 4, .inl wf4)), (wa5, .inl (K 1, 5, .inl wf5)), (wa6, .inl (K 1, 5, .inl wf6)), (wa7, .inl (K 1, 5, .inl wf7)), (v, .inr (9, [.ref va0, .ref va1, .ref va2, .ref va3, .ref va4, .ref va5, .ref va6, .ref va7, .int vn8, .int vn9, .int vn10, .int vn11])), (va0, .inl (K 1, 40, .inl vf0)), (va1, .inl (K 1, 10, .inl vf1)), (va2, .inl (K 1, 4, .inl vf2)), (va3, .inl (K 1, 4, .inl vf3)), (va4, .inl (K 1, 4, .inl vf4)), (va5, .inl (K 1, 5, .inl vf5)), (va6, .inl (K 1, 5, .inl vf6)), (va7, .inl (K 1, 5, .inl vf7))] := hD
  refine lv_aload_n hx hb dX10_copyFrom_72 rfl (lv_at hl 1 rfl) ?_
  refine va_get (D := D) (ci := 9) (v := .ref va4) (C := RX10) (T := TX10) (N := 12) hx hb hts in_X10 hown hE.1 hP 9 rfl rfl 4 (by decide) (hts _ w_92) (fun _ h9 => h9) rfl dX10_copyFrom_73 ?_
  refine lv_iconst (v := 0) hx hb dX10_copyFrom_76 (by decide) ?_
  refine lv_aload_n hx hb dX10_copyFrom_77 rfl (lv_at hl 0 rfl) ?_
  refine va_get (D := D) (ci := 9) (v := .ref wa4) (C := RX10) (T := TX10) (N := 12) hx hb hts in_X10 hown hE.1 hP 0 rfl rfl 4 (by decide) (hts _ w_92) (fun _ h9 => h9) rfl dX10_copyFrom_78 ?_
  refine lv_iconst (v := 0) hx hb dX10_copyFrom_81 (by decide) ?_
  refine lv_aload_n hx hb dX10_copyFrom_82 rfl (lv_at hl 0 rfl) ?_
  refine va_get (D := D) (ci := 9) (v := .ref wa4) (C := RX10) (T := TX10) (N := 12) hx hb hts in_X10 hown hE.1 hP 0 rfl rfl 4 (by decide) (hts _ w_92) (fun _ h9 => h9) rfl dX10_copyFrom_83 ?_
  refine va_alen (v := 4) hx hb hE.1 hP 5 1 rfl rfl (show Int32.ofNat 4 = 4 by decide) dX10_copyFrom_86 ?_
  refine cpi hC hE hl.1 w_89 w_81 w_82 w_83 hP hD hS 14 5 rfl rfl (by decide) (by decide) (by decide) (by decide) (by decide) (by decide) (Nat.le_of_ble_eq_true rfl) dX10_copyFrom_87 (fun g382 H locs hP hD hS => ?_)
  replace hP : va_P D vwCl [(w, .inr (9, [.ref wa0, .ref wa1, .ref wa2, .ref wa3, .ref wa4, .ref wa5, .ref wa6, .ref wa7, .int wn8, .int wn9, .int wn10, .int wn11])), (wa0, .inl (K 1, 40, .inl g378)), (wa1, .inl (K 1, 10, .inl g379)), (wa2, .inl (K 1, 4, .inl g380)), (wa3, .inl (K 1, 4, .inl g381)), (wa4, .inl (K 1, 4, .inl g382)), (wa5, .inl (K 1, 5, .inl wf5)), (wa6, .inl (K 1, 5, .inl wf6)), (wa7, .inl (K 1, 5, .inl wf7)), (v, .inr (9, [.ref va0, .ref va1, .ref va2, .ref va3, .ref va4, .ref va5, .ref va6, .ref va7, .int vn8, .int vn9, .int vn10, .int vn11])), (va0, .inl (K 1, 40, .inl vf0)), (va1, .inl (K 1, 10, .inl vf1)), (va2, .inl (K 1, 4, .inl vf2)), (va3, .inl (K 1, 4, .inl vf3)), (va4, .inl (K 1, 4, .inl vf4)), (va5, .inl (K 1, 5, .inl vf5)), (va6, .inl (K 1, 5, .inl vf6)), (va7, .inl (K 1, 5, .inl vf7))] H := hP
  replace hD : va_D A [(w, .inr (9, [.ref wa0, .ref wa1, .ref wa2, .ref wa3, .ref wa4, .ref wa5, .ref wa6, .ref wa7, .int wn8, .int wn9, .int wn10, .int wn11])), (wa0, .inl (K 1, 40, .inl g378)), (wa1, .inl (K 1, 10, .inl g379)), (wa2, .inl (K 1, 4, .inl g380)), (wa3, .inl (K 1, 4, .inl g381)), (wa4, .inl (K 1, 4, .inl g382)), (wa5, .inl (K 1, 5, .inl wf5)), (wa6, .inl (K 1, 5, .inl wf6)), (wa7, .inl (K 1, 5, .inl wf7)), (v, .inr (9, [.ref va0, .ref va1, .ref va2, .ref va3, .ref va4, .ref va5, .ref va6, .ref va7, .int vn8, .int vn9, .int vn10, .int vn11])), (va0, .inl (K 1, 40, .inl vf0)), (va1, .inl (K 1, 10, .inl vf1)), (va2, .inl (K 1, 4, .inl vf2)), (va3, .inl (K 1, 4, .inl vf3)), (va4, .inl (K 1, 4, .inl vf4)), (va5, .inl (K 1, 5, .inl vf5)), (va6, .inl (K 1, 5, .inl vf6)), (va7, .inl (K 1, 5, .inl vf7))] := hD
  refine lv_aload_n hx hb dX10_copyFrom_90 rfl (lv_at hl 1 rfl) ?_
  refine va_get (D := D) (ci := 9) (v := .ref va5) (C := RX10) (T := TX10) (N := 12) hx hb hts in_X10 hown hE.1 hP 9 rfl rfl 5 (by decide) (hts _ w_93) (fun _ h9 => h9) rfl dX10_copyFrom_91 ?_
  refine lv_iconst (v := 0) hx hb dX10_copyFrom_94 (by decide) ?_
  refine lv_aload_n hx hb dX10_copyFrom_95 rfl (lv_at hl 0 rfl) ?_
  refine va_get (D := D) (ci := 9) (v := .ref wa5) (C := RX10) (T := TX10) (N := 12) hx hb hts in_X10 hown hE.1 hP 0 rfl rfl 5 (by decide) (hts _ w_93) (fun _ h9 => h9) rfl dX10_copyFrom_96 ?_
  refine lv_iconst (v := 0) hx hb dX10_copyFrom_99 (by decide) ?_
  refine lv_aload_n hx hb dX10_copyFrom_100 rfl (lv_at hl 0 rfl) ?_
  refine va_get (D := D) (ci := 9) (v := .ref wa5) (C := RX10) (T := TX10) (N := 12) hx hb hts in_X10 hown hE.1 hP 0 rfl rfl 5 (by decide) (hts _ w_93) (fun _ h9 => h9) rfl dX10_copyFrom_101 ?_
  refine va_alen (v := 5) hx hb hE.1 hP 6 1 rfl rfl (show Int32.ofNat 5 = 5 by decide) dX10_copyFrom_104 ?_
  refine cpi hC hE hl.1 w_89 w_81 w_82 w_83 hP hD hS 15 6 rfl rfl (by decide) (by decide) (by decide) (by decide) (by decide) (by decide) (Nat.le_of_ble_eq_true rfl) dX10_copyFrom_105 (fun g383 H locs hP hD hS => ?_)
  replace hP : va_P D vwCl [(w, .inr (9, [.ref wa0, .ref wa1, .ref wa2, .ref wa3, .ref wa4, .ref wa5, .ref wa6, .ref wa7, .int wn8, .int wn9, .int wn10, .int wn11])), (wa0, .inl (K 1, 40, .inl g378)), (wa1, .inl (K 1, 10, .inl g379)), (wa2, .inl (K 1, 4, .inl g380)), (wa3, .inl (K 1, 4, .inl g381)), (wa4, .inl (K 1, 4, .inl g382)), (wa5, .inl (K 1, 5, .inl g383)), (wa6, .inl (K 1, 5, .inl wf6)), (wa7, .inl (K 1, 5, .inl wf7)), (v, .inr (9, [.ref va0, .ref va1, .ref va2, .ref va3, .ref va4, .ref va5, .ref va6, .ref va7, .int vn8, .int vn9, .int vn10, .int vn11])), (va0, .inl (K 1, 40, .inl vf0)), (va1, .inl (K 1, 10, .inl vf1)), (va2, .inl (K 1, 4, .inl vf2)), (va3, .inl (K 1, 4, .inl vf3)), (va4, .inl (K 1, 4, .inl vf4)), (va5, .inl (K 1, 5, .inl vf5)), (va6, .inl (K 1, 5, .inl vf6)), (va7, .inl (K 1, 5, .inl vf7))] H := hP
  replace hD : va_D A [(w, .inr (9, [.ref wa0, .ref wa1, .ref wa2, .ref wa3, .ref wa4, .ref wa5, .ref wa6, .ref wa7, .int wn8, .int wn9, .int wn10, .int wn11])), (wa0, .inl (K 1, 40, .inl g378)), (wa1, .inl (K 1, 10, .inl g379)), (wa2, .inl (K 1, 4, .inl g380)), (wa3, .inl (K 1, 4, .inl g381)), (wa4, .inl (K 1, 4, .inl g382)), (wa5, .inl (K 1, 5, .inl g383)), (wa6, .inl (K 1, 5, .inl wf6)), (wa7, .inl (K 1, 5, .inl wf7)), (v, .inr (9, [.ref va0, .ref va1, .ref va2, .ref va3, .ref va4, .ref va5, .ref va6, .ref va7, .int vn8, .int vn9, .int vn10, .int vn11])), (va0, .inl (K 1, 40, .inl vf0)), (va1, .inl (K 1, 10, .inl vf1)), (va2, .inl (K 1, 4, .inl vf2)), (va3, .inl (K 1, 4, .inl vf3)), (va4, .inl (K 1, 4, .inl vf4)), (va5, .inl (K 1, 5, .inl vf5)), (va6, .inl (K 1, 5, .inl vf6)), (va7, .inl (K 1, 5, .inl vf7))] := hD
  refine lv_aload_n hx hb dX10_copyFrom_108 rfl (lv_at hl 1 rfl) ?_
  refine va_get (D := D) (ci := 9) (v := .ref va6) (C := RX10) (T := TX10) (N := 12) hx hb hts in_X10 hown hE.1 hP 9 rfl rfl 6 (by decide) (hts _ w_94) (fun _ h9 => h9) rfl dX10_copyFrom_109 ?_
  refine lv_iconst (v := 0) hx hb dX10_copyFrom_112 (by decide) ?_
  refine lv_aload_n hx hb dX10_copyFrom_113 rfl (lv_at hl 0 rfl) ?_
  refine va_get (D := D) (ci := 9) (v := .ref wa6) (C := RX10) (T := TX10) (N := 12) hx hb hts in_X10 hown hE.1 hP 0 rfl rfl 6 (by decide) (hts _ w_94) (fun _ h9 => h9) rfl dX10_copyFrom_114 ?_
  refine lv_iconst (v := 0) hx hb dX10_copyFrom_117 (by decide) ?_
  refine lv_aload_n hx hb dX10_copyFrom_118 rfl (lv_at hl 0 rfl) ?_
  refine va_get (D := D) (ci := 9) (v := .ref wa6) (C := RX10) (T := TX10) (N := 12) hx hb hts in_X10 hown hE.1 hP 0 rfl rfl 6 (by decide) (hts _ w_94) (fun _ h9 => h9) rfl dX10_copyFrom_119 ?_
  refine va_alen (v := 5) hx hb hE.1 hP 7 1 rfl rfl (show Int32.ofNat 5 = 5 by decide) dX10_copyFrom_122 ?_
  refine cpi hC hE hl.1 w_89 w_81 w_82 w_83 hP hD hS 16 7 rfl rfl (by decide) (by decide) (by decide) (by decide) (by decide) (by decide) (Nat.le_of_ble_eq_true rfl) dX10_copyFrom_123 (fun g384 H locs hP hD hS => ?_)
  replace hP : va_P D vwCl [(w, .inr (9, [.ref wa0, .ref wa1, .ref wa2, .ref wa3, .ref wa4, .ref wa5, .ref wa6, .ref wa7, .int wn8, .int wn9, .int wn10, .int wn11])), (wa0, .inl (K 1, 40, .inl g378)), (wa1, .inl (K 1, 10, .inl g379)), (wa2, .inl (K 1, 4, .inl g380)), (wa3, .inl (K 1, 4, .inl g381)), (wa4, .inl (K 1, 4, .inl g382)), (wa5, .inl (K 1, 5, .inl g383)), (wa6, .inl (K 1, 5, .inl g384)), (wa7, .inl (K 1, 5, .inl wf7)), (v, .inr (9, [.ref va0, .ref va1, .ref va2, .ref va3, .ref va4, .ref va5, .ref va6, .ref va7, .int vn8, .int vn9, .int vn10, .int vn11])), (va0, .inl (K 1, 40, .inl vf0)), (va1, .inl (K 1, 10, .inl vf1)), (va2, .inl (K 1, 4, .inl vf2)), (va3, .inl (K 1, 4, .inl vf3)), (va4, .inl (K 1, 4, .inl vf4)), (va5, .inl (K 1, 5, .inl vf5)), (va6, .inl (K 1, 5, .inl vf6)), (va7, .inl (K 1, 5, .inl vf7))] H := hP
  replace hD : va_D A [(w, .inr (9, [.ref wa0, .ref wa1, .ref wa2, .ref wa3, .ref wa4, .ref wa5, .ref wa6, .ref wa7, .int wn8, .int wn9, .int wn10, .int wn11])), (wa0, .inl (K 1, 40, .inl g378)), (wa1, .inl (K 1, 10, .inl g379)), (wa2, .inl (K 1, 4, .inl g380)), (wa3, .inl (K 1, 4, .inl g381)), (wa4, .inl (K 1, 4, .inl g382)), (wa5, .inl (K 1, 5, .inl g383)), (wa6, .inl (K 1, 5, .inl g384)), (wa7, .inl (K 1, 5, .inl wf7)), (v, .inr (9, [.ref va0, .ref va1, .ref va2, .ref va3, .ref va4, .ref va5, .ref va6, .ref va7, .int vn8, .int vn9, .int vn10, .int vn11])), (va0, .inl (K 1, 40, .inl vf0)), (va1, .inl (K 1, 10, .inl vf1)), (va2, .inl (K 1, 4, .inl vf2)), (va3, .inl (K 1, 4, .inl vf3)), (va4, .inl (K 1, 4, .inl vf4)), (va5, .inl (K 1, 5, .inl vf5)), (va6, .inl (K 1, 5, .inl vf6)), (va7, .inl (K 1, 5, .inl vf7))] := hD
  refine lv_aload_n hx hb dX10_copyFrom_126 rfl (lv_at hl 1 rfl) ?_
  refine va_get (D := D) (ci := 9) (v := .ref va7) (C := RX10) (T := TX10) (N := 12) hx hb hts in_X10 hown hE.1 hP 9 rfl rfl 7 (by decide) (hts _ w_95) (fun _ h9 => h9) rfl dX10_copyFrom_127 ?_
  refine lv_iconst (v := 0) hx hb dX10_copyFrom_130 (by decide) ?_
  refine lv_aload_n hx hb dX10_copyFrom_131 rfl (lv_at hl 0 rfl) ?_
  refine va_get (D := D) (ci := 9) (v := .ref wa7) (C := RX10) (T := TX10) (N := 12) hx hb hts in_X10 hown hE.1 hP 0 rfl rfl 7 (by decide) (hts _ w_95) (fun _ h9 => h9) rfl dX10_copyFrom_132 ?_
  refine lv_iconst (v := 0) hx hb dX10_copyFrom_135 (by decide) ?_
  refine lv_aload_n hx hb dX10_copyFrom_136 rfl (lv_at hl 0 rfl) ?_
  refine va_get (D := D) (ci := 9) (v := .ref wa7) (C := RX10) (T := TX10) (N := 12) hx hb hts in_X10 hown hE.1 hP 0 rfl rfl 7 (by decide) (hts _ w_95) (fun _ h9 => h9) rfl dX10_copyFrom_137 ?_
  refine va_alen (v := 5) hx hb hE.1 hP 8 1 rfl rfl (show Int32.ofNat 5 = 5 by decide) dX10_copyFrom_140 ?_
  refine cpi hC hE hl.1 w_89 w_81 w_82 w_83 hP hD hS 17 8 rfl rfl (by decide) (by decide) (by decide) (by decide) (by decide) (by decide) (Nat.le_of_ble_eq_true rfl) dX10_copyFrom_141 (fun g385 H locs hP hD hS => ?_)
  replace hP : va_P D vwCl [(w, .inr (9, [.ref wa0, .ref wa1, .ref wa2, .ref wa3, .ref wa4, .ref wa5, .ref wa6, .ref wa7, .int wn8, .int wn9, .int wn10, .int wn11])), (wa0, .inl (K 1, 40, .inl g378)), (wa1, .inl (K 1, 10, .inl g379)), (wa2, .inl (K 1, 4, .inl g380)), (wa3, .inl (K 1, 4, .inl g381)), (wa4, .inl (K 1, 4, .inl g382)), (wa5, .inl (K 1, 5, .inl g383)), (wa6, .inl (K 1, 5, .inl g384)), (wa7, .inl (K 1, 5, .inl g385)), (v, .inr (9, [.ref va0, .ref va1, .ref va2, .ref va3, .ref va4, .ref va5, .ref va6, .ref va7, .int vn8, .int vn9, .int vn10, .int vn11])), (va0, .inl (K 1, 40, .inl vf0)), (va1, .inl (K 1, 10, .inl vf1)), (va2, .inl (K 1, 4, .inl vf2)), (va3, .inl (K 1, 4, .inl vf3)), (va4, .inl (K 1, 4, .inl vf4)), (va5, .inl (K 1, 5, .inl vf5)), (va6, .inl (K 1, 5, .inl vf6)), (va7, .inl (K 1, 5, .inl vf7))] H := hP
  replace hD : va_D A [(w, .inr (9, [.ref wa0, .ref wa1, .ref wa2, .ref wa3, .ref wa4, .ref wa5, .ref wa6, .ref wa7, .int wn8, .int wn9, .int wn10, .int wn11])), (wa0, .inl (K 1, 40, .inl g378)), (wa1, .inl (K 1, 10, .inl g379)), (wa2, .inl (K 1, 4, .inl g380)), (wa3, .inl (K 1, 4, .inl g381)), (wa4, .inl (K 1, 4, .inl g382)), (wa5, .inl (K 1, 5, .inl g383)), (wa6, .inl (K 1, 5, .inl g384)), (wa7, .inl (K 1, 5, .inl g385)), (v, .inr (9, [.ref va0, .ref va1, .ref va2, .ref va3, .ref va4, .ref va5, .ref va6, .ref va7, .int vn8, .int vn9, .int vn10, .int vn11])), (va0, .inl (K 1, 40, .inl vf0)), (va1, .inl (K 1, 10, .inl vf1)), (va2, .inl (K 1, 4, .inl vf2)), (va3, .inl (K 1, 4, .inl vf3)), (va4, .inl (K 1, 4, .inl vf4)), (va5, .inl (K 1, 5, .inl vf5)), (va6, .inl (K 1, 5, .inl vf6)), (va7, .inl (K 1, 5, .inl vf7))] := hD
  refine lv_aload_n hx hb dX10_copyFrom_144 rfl (lv_at hl 0 rfl) ?_
  refine lv_aload_n hx hb dX10_copyFrom_145 rfl (lv_at hl 1 rfl) ?_
  refine va_get (D := D) (ci := 9) (v := .int vn8) (C := RX10) (T := TX10) (N := 12) hx hb hts in_X10 hown hE.1 hP 9 rfl rfl 8 (by decide) (hts _ w_21) (fun _ h9 => h9) rfl dX10_copyFrom_146 ?_
  refine va_put (D := D) (ci := 9) (v := .int vn8) (ty := .int) (C := RX10) (T := TX10) (N := 12) hx hb hts in_X10 tyX10 tyX10_ok nmX10 hown hE.1 hP hD hS 0 rfl rfl 8 (by decide) (hts _ w_21) (fun _ h9 => h9) rfl (by decide +kernel) rfl rfl (Nat.le_of_ble_eq_true rfl) dX10_copyFrom_149 (fun H locs hP hD hS => ?_)
  replace hP : va_P D vwCl [(w, .inr (9, [.ref wa0, .ref wa1, .ref wa2, .ref wa3, .ref wa4, .ref wa5, .ref wa6, .ref wa7, .int vn8, .int wn9, .int wn10, .int wn11])), (wa0, .inl (K 1, 40, .inl g378)), (wa1, .inl (K 1, 10, .inl g379)), (wa2, .inl (K 1, 4, .inl g380)), (wa3, .inl (K 1, 4, .inl g381)), (wa4, .inl (K 1, 4, .inl g382)), (wa5, .inl (K 1, 5, .inl g383)), (wa6, .inl (K 1, 5, .inl g384)), (wa7, .inl (K 1, 5, .inl g385)), (v, .inr (9, [.ref va0, .ref va1, .ref va2, .ref va3, .ref va4, .ref va5, .ref va6, .ref va7, .int vn8, .int vn9, .int vn10, .int vn11])), (va0, .inl (K 1, 40, .inl vf0)), (va1, .inl (K 1, 10, .inl vf1)), (va2, .inl (K 1, 4, .inl vf2)), (va3, .inl (K 1, 4, .inl vf3)), (va4, .inl (K 1, 4, .inl vf4)), (va5, .inl (K 1, 5, .inl vf5)), (va6, .inl (K 1, 5, .inl vf6)), (va7, .inl (K 1, 5, .inl vf7))] H := hP
  replace hD : va_D A [(w, .inr (9, [.ref wa0, .ref wa1, .ref wa2, .ref wa3, .ref wa4, .ref wa5, .ref wa6, .ref wa7, .int vn8, .int wn9, .int wn10, .int wn11])), (wa0, .inl (K 1, 40, .inl g378)), (wa1, .inl (K 1, 10, .inl g379)), (wa2, .inl (K 1, 4, .inl g380)), (wa3, .inl (K 1, 4, .inl g381)), (wa4, .inl (K 1, 4, .inl g382)), (wa5, .inl (K 1, 5, .inl g383)), (wa6, .inl (K 1, 5, .inl g384)), (wa7, .inl (K 1, 5, .inl g385)), (v, .inr (9, [.ref va0, .ref va1, .ref va2, .ref va3, .ref va4, .ref va5, .ref va6, .ref va7, .int vn8, .int vn9, .int vn10, .int vn11])), (va0, .inl (K 1, 40, .inl vf0)), (va1, .inl (K 1, 10, .inl vf1)), (va2, .inl (K 1, 4, .inl vf2)), (va3, .inl (K 1, 4, .inl vf3)), (va4, .inl (K 1, 4, .inl vf4)), (va5, .inl (K 1, 5, .inl vf5)), (va6, .inl (K 1, 5, .inl vf6)), (va7, .inl (K 1, 5, .inl vf7))] := hD
  refine lv_aload_n hx hb dX10_copyFrom_152 rfl (lv_at hl 0 rfl) ?_
  refine lv_aload_n hx hb dX10_copyFrom_153 rfl (lv_at hl 1 rfl) ?_
  refine va_get (D := D) (ci := 9) (v := .int vn9) (C := RX10) (T := TX10) (N := 12) hx hb hts in_X10 hown hE.1 hP 9 rfl rfl 9 (by decide) (hts _ w_22) (fun _ h9 => h9) rfl dX10_copyFrom_154 ?_
  refine va_put (D := D) (ci := 9) (v := .int vn9) (ty := .int) (C := RX10) (T := TX10) (N := 12) hx hb hts in_X10 tyX10 tyX10_ok nmX10 hown hE.1 hP hD hS 0 rfl rfl 9 (by decide) (hts _ w_22) (fun _ h9 => h9) rfl (by decide +kernel) rfl rfl (Nat.le_of_ble_eq_true rfl) dX10_copyFrom_157 (fun H locs hP hD hS => ?_)
  replace hP : va_P D vwCl [(w, .inr (9, [.ref wa0, .ref wa1, .ref wa2, .ref wa3, .ref wa4, .ref wa5, .ref wa6, .ref wa7, .int vn8, .int vn9, .int wn10, .int wn11])), (wa0, .inl (K 1, 40, .inl g378)), (wa1, .inl (K 1, 10, .inl g379)), (wa2, .inl (K 1, 4, .inl g380)), (wa3, .inl (K 1, 4, .inl g381)), (wa4, .inl (K 1, 4, .inl g382)), (wa5, .inl (K 1, 5, .inl g383)), (wa6, .inl (K 1, 5, .inl g384)), (wa7, .inl (K 1, 5, .inl g385)), (v, .inr (9, [.ref va0, .ref va1, .ref va2, .ref va3, .ref va4, .ref va5, .ref va6, .ref va7, .int vn8, .int vn9, .int vn10, .int vn11])), (va0, .inl (K 1, 40, .inl vf0)), (va1, .inl (K 1, 10, .inl vf1)), (va2, .inl (K 1, 4, .inl vf2)), (va3, .inl (K 1, 4, .inl vf3)), (va4, .inl (K 1, 4, .inl vf4)), (va5, .inl (K 1, 5, .inl vf5)), (va6, .inl (K 1, 5, .inl vf6)), (va7, .inl (K 1, 5, .inl vf7))] H := hP
  replace hD : va_D A [(w, .inr (9, [.ref wa0, .ref wa1, .ref wa2, .ref wa3, .ref wa4, .ref wa5, .ref wa6, .ref wa7, .int vn8, .int vn9, .int wn10, .int wn11])), (wa0, .inl (K 1, 40, .inl g378)), (wa1, .inl (K 1, 10, .inl g379)), (wa2, .inl (K 1, 4, .inl g380)), (wa3, .inl (K 1, 4, .inl g381)), (wa4, .inl (K 1, 4, .inl g382)), (wa5, .inl (K 1, 5, .inl g383)), (wa6, .inl (K 1, 5, .inl g384)), (wa7, .inl (K 1, 5, .inl g385)), (v, .inr (9, [.ref va0, .ref va1, .ref va2, .ref va3, .ref va4, .ref va5, .ref va6, .ref va7, .int vn8, .int vn9, .int vn10, .int vn11])), (va0, .inl (K 1, 40, .inl vf0)), (va1, .inl (K 1, 10, .inl vf1)), (va2, .inl (K 1, 4, .inl vf2)), (va3, .inl (K 1, 4, .inl vf3)), (va4, .inl (K 1, 4, .inl vf4)), (va5, .inl (K 1, 5, .inl vf5)), (va6, .inl (K 1, 5, .inl vf6)), (va7, .inl (K 1, 5, .inl vf7))] := hD
  refine lv_aload_n hx hb dX10_copyFrom_160 rfl (lv_at hl 0 rfl) ?_
  refine lv_aload_n hx hb dX10_copyFrom_161 rfl (lv_at hl 1 rfl) ?_
  refine va_get (D := D) (ci := 9) (v := .int vn10) (C := RX10) (T := TX10) (N := 12) hx hb hts in_X10 hown hE.1 hP 9 rfl rfl 10 (by decide) (hts _ w_96) (fun _ h9 => h9) rfl dX10_copyFrom_162 ?_
  refine va_put (D := D) (ci := 9) (v := .int vn10) (ty := .int) (C := RX10) (T := TX10) (N := 12) hx hb hts in_X10 tyX10 tyX10_ok nmX10 hown hE.1 hP hD hS 0 rfl rfl 10 (by decide) (hts _ w_96) (fun _ h9 => h9) rfl (by decide +kernel) rfl rfl (Nat.le_of_ble_eq_true rfl) dX10_copyFrom_165 (fun H locs hP hD hS => ?_)
  replace hP : va_P D vwCl [(w, .inr (9, [.ref wa0, .ref wa1, .ref wa2, .ref wa3, .ref wa4, .ref wa5, .ref wa6, .ref wa7, .int vn8, .int vn9, .int vn10, .int wn11])), (wa0, .inl (K 1, 40, .inl g378)), (wa1, .inl (K 1, 10, .inl g379)), (wa2, .inl (K 1, 4, .inl g380)), (wa3, .inl (K 1, 4, .inl g381)), (wa4, .inl (K 1, 4, .inl g382)), (wa5, .inl (K 1, 5, .inl g383)), (wa6, .inl (K 1, 5, .inl g384)), (wa7, .inl (K 1, 5, .inl g385)), (v, .inr (9, [.ref va0, .ref va1, .ref va2, .ref va3, .ref va4, .ref va5, .ref va6, .ref va7, .int vn8, .int vn9, .int vn10, .int vn11])), (va0, .inl (K 1, 40, .inl vf0)), (va1, .inl (K 1, 10, .inl vf1)), (va2, .inl (K 1, 4, .inl vf2)), (va3, .inl (K 1, 4, .inl vf3)), (va4, .inl (K 1, 4, .inl vf4)), (va5, .inl (K 1, 5, .inl vf5)), (va6, .inl (K 1, 5, .inl vf6)), (va7, .inl (K 1, 5, .inl vf7))] H := hP
  replace hD : va_D A [(w, .inr (9, [.ref wa0, .ref wa1, .ref wa2, .ref wa3, .ref wa4, .ref wa5, .ref wa6, .ref wa7, .int vn8, .int vn9, .int vn10, .int wn11])), (wa0, .inl (K 1, 40, .inl g378)), (wa1, .inl (K 1, 10, .inl g379)), (wa2, .inl (K 1, 4, .inl g380)), (wa3, .inl (K 1, 4, .inl g381)), (wa4, .inl (K 1, 4, .inl g382)), (wa5, .inl (K 1, 5, .inl g383)), (wa6, .inl (K 1, 5, .inl g384)), (wa7, .inl (K 1, 5, .inl g385)), (v, .inr (9, [.ref va0, .ref va1, .ref va2, .ref va3, .ref va4, .ref va5, .ref va6, .ref va7, .int vn8, .int vn9, .int vn10, .int vn11])), (va0, .inl (K 1, 40, .inl vf0)), (va1, .inl (K 1, 10, .inl vf1)), (va2, .inl (K 1, 4, .inl vf2)), (va3, .inl (K 1, 4, .inl vf3)), (va4, .inl (K 1, 4, .inl vf4)), (va5, .inl (K 1, 5, .inl vf5)), (va6, .inl (K 1, 5, .inl vf6)), (va7, .inl (K 1, 5, .inl vf7))] := hD
  refine lv_aload_n hx hb dX10_copyFrom_168 rfl (lv_at hl 0 rfl) ?_
  refine lv_aload_n hx hb dX10_copyFrom_169 rfl (lv_at hl 1 rfl) ?_
  refine va_get (D := D) (ci := 9) (v := .int vn11) (C := RX10) (T := TX10) (N := 12) hx hb hts in_X10 hown hE.1 hP 9 rfl rfl 11 (by decide) (hts _ w_23) (fun _ h9 => h9) rfl dX10_copyFrom_170 ?_
  refine va_put (D := D) (ci := 9) (v := .int vn11) (ty := .int) (C := RX10) (T := TX10) (N := 12) hx hb hts in_X10 tyX10 tyX10_ok nmX10 hown hE.1 hP hD hS 0 rfl rfl 11 (by decide) (hts _ w_23) (fun _ h9 => h9) rfl (by decide +kernel) rfl rfl (Nat.le_of_ble_eq_true rfl) dX10_copyFrom_173 (fun H locs hP hD hS => ?_)
  replace hP : va_P D vwCl [(w, .inr (9, [.ref wa0, .ref wa1, .ref wa2, .ref wa3, .ref wa4, .ref wa5, .ref wa6, .ref wa7, .int vn8, .int vn9, .int vn10, .int vn11])), (wa0, .inl (K 1, 40, .inl g378)), (wa1, .inl (K 1, 10, .inl g379)), (wa2, .inl (K 1, 4, .inl g380)), (wa3, .inl (K 1, 4, .inl g381)), (wa4, .inl (K 1, 4, .inl g382)), (wa5, .inl (K 1, 5, .inl g383)), (wa6, .inl (K 1, 5, .inl g384)), (wa7, .inl (K 1, 5, .inl g385)), (v, .inr (9, [.ref va0, .ref va1, .ref va2, .ref va3, .ref va4, .ref va5, .ref va6, .ref va7, .int vn8, .int vn9, .int vn10, .int vn11])), (va0, .inl (K 1, 40, .inl vf0)), (va1, .inl (K 1, 10, .inl vf1)), (va2, .inl (K 1, 4, .inl vf2)), (va3, .inl (K 1, 4, .inl vf3)), (va4, .inl (K 1, 4, .inl vf4)), (va5, .inl (K 1, 5, .inl vf5)), (va6, .inl (K 1, 5, .inl vf6)), (va7, .inl (K 1, 5, .inl vf7))] H := hP
  replace hD : va_D A [(w, .inr (9, [.ref wa0, .ref wa1, .ref wa2, .ref wa3, .ref wa4, .ref wa5, .ref wa6, .ref wa7, .int vn8, .int vn9, .int vn10, .int vn11])), (wa0, .inl (K 1, 40, .inl g378)), (wa1, .inl (K 1, 10, .inl g379)), (wa2, .inl (K 1, 4, .inl g380)), (wa3, .inl (K 1, 4, .inl g381)), (wa4, .inl (K 1, 4, .inl g382)), (wa5, .inl (K 1, 5, .inl g383)), (wa6, .inl (K 1, 5, .inl g384)), (wa7, .inl (K 1, 5, .inl g385)), (v, .inr (9, [.ref va0, .ref va1, .ref va2, .ref va3, .ref va4, .ref va5, .ref va6, .ref va7, .int vn8, .int vn9, .int vn10, .int vn11])), (va0, .inl (K 1, 40, .inl vf0)), (va1, .inl (K 1, 10, .inl vf1)), (va2, .inl (K 1, 4, .inl vf2)), (va3, .inl (K 1, 4, .inl vf3)), (va4, .inl (K 1, 4, .inl vf4)), (va5, .inl (K 1, 5, .inl vf5)), (va6, .inl (K 1, 5, .inl vf6)), (va7, .inl (K 1, 5, .inl vf7))] := hD
  refine W.widen (k := 0) (n := 0) (by decide) (by decide) ?_
  exact ch_vret hC hr hk hS dX10_copyFrom_176 ((fun k => [vn8, vn9, vn10, vn11].getD k 0, fun k => [g378, g379, g380, g381, g382, g383, g384, g385].getD k (fun _ => 0), fun k => [].getD k (fun _ => 0)) : ((Nat → Int32) × (Nat → Nat → Int32) × (Nat → Nat → Int64))) ⟨(show (vn9 : Int32).toInt = (vn9 : Int32).toInt from by omega), (show (vn10 : Int32).toInt = (vn10 : Int32).toInt from by omega)⟩ (hP.sub [0, 1, 2, 3, 4, 5, 6, 7, 8, 9, 10, 11, 12, 13, 14, 15, 16, 17] rfl) (hD.sub [0, 1, 2, 3, 4, 5, 6, 7, 8, 9, 10, 11, 12, 13, 14, 15, 16, 17] (by decide) rfl)
set_option maxRecDepth 40000 in
set_option maxHeartbeats 4000000 in
theorem c_X10_addPupil (l : Launch) (D : va_G) (K : Nat → ClassId) (w : Nat) (wa0 : Nat) (wa1 : Nat) (wa2 : Nat) (wa3 : Nat) (wa4 : Nat) (wa5 : Nat) (wa6 : Nat) (wa7 : Nat) (wn8 : Int32) (wn9 : Int32) (wn10 : Int32) (wn11 : Int32) (wf2 : Nat → Int32) (wf3 : Nat → Int32) (wf4 : Nat → Int32) (p0 : Int32) (p1 : Int32) (p2 : Int32) (hp9 : 0 ≤ wn9.toInt) : Cv (S := ((Nat → Int32) × (Nat → Nat → Int32) × (Nat → Nat → Int64))) l D K yX10_addPupil cX10_addPupil 4 0 0 0 0 [.ref w, .int p0, .int p1, .int p2] [(w, .inr (9, [.ref wa0, .ref wa1, .ref wa2, .ref wa3, .ref wa4, .ref wa5, .ref wa6, .ref wa7, .int wn8, .int wn9, .int wn10, .int wn11])), (wa2, .inl (K 1, 4, .inl wf2)), (wa3, .inl (K 1, 4, .inl wf3)), (wa4, .inl (K 1, 4, .inl wf4))] (fun u => (0 ≤ (u.1 0).toInt)) (fun u => [(w, .inr (9, [.ref wa0, .ref wa1, .ref wa2, .ref wa3, .ref wa4, .ref wa5, .ref wa6, .ref wa7, .int wn8, .int (u.1 0), .int wn10, .int wn11])), (wa2, .inl (K 1, 4, .inl (u.2.1 0))), (wa3, .inl (K 1, 4, .inl (u.2.1 1))), (wa4, .inl (K 1, 4, .inl (u.2.1 2)))]) := by
  intro sz
  refine ch_of (y := yX10_addPupil) (cc := cX10_addPupil) (maxL := 4) (ret := none) (av := [.ref w, .int p0, .int p1, .int p2]) (ws := [(w, .inr (9, [.ref wa0, .ref wa1, .ref wa2, .ref wa3, .ref wa4, .ref wa5, .ref wa6, .ref wa7, .int wn8, .int wn9, .int wn10, .int wn11])), (wa2, .inl (K 1, 4, .inl wf2)), (wa3, .inl (K 1, 4, .inl wf3)), (wa4, .inl (K 1, 4, .inl wf4))]) (D := D) (K := K) (Qc := fun A => va_Qv (S := ((Nat → Int32) × (Nat → Nat → Int32) × (Nat → Nat → Int64))) (fun u => (0 ≤ (u.1 0).toInt)) (chB D A (fun u => [(w, .inr (9, [.ref wa0, .ref wa1, .ref wa2, .ref wa3, .ref wa4, .ref wa5, .ref wa6, .ref wa7, .int wn8, .int (u.1 0), .int wn10, .int wn11])), (wa2, .inl (K 1, 4, .inl (u.2.1 0))), (wa3, .inl (K 1, 4, .inl (u.2.1 1))), (wa4, .inl (K 1, 4, .inl (u.2.1 2)))])) A) (by decide) (Nat.le_of_ble_eq_true rfl) ?_
  intro p e s m below meth c A hC hr hk hin hE hD hA H locs hP hS ls hl
  replace hC : CallFix p m c cX10_addPupil 4 s [.ref w, .int p0, .int p1, .int p2].toArray wl RX10 := hC
  have hx := hC.1
  have hb := hC.2.1
  have hml := hC.2.2.1
  have hown := hC.2.2.2.1
  have hts := hC.2.2.2.2
  replace hl : lv_has ls 4 [(0, .ref w), (1, .int p0), (2, .int p1), (3, .int p2)] := hl
  have kc_1 : (1 : Int32).toInt = 1 := by decide
  have kc_4 : (4 : Int32).toInt = 4 := by decide
  refine lv_aload_n hx hb dX10_addPupil_0 rfl (lv_at hl 0 rfl) ?_
  refine va_get (D := D) (ci := 9) (v := .int wn9) (C := RX10) (T := TX10) (N := 12) hx hb hts in_X10 hown hE.1 hP 0 rfl rfl 9 (by decide) (hts _ w_22) (fun _ h9 => h9) rfl dX10_addPupil_1 ?_
  refine lv_iconst (v := 4) hx hb dX10_addPupil_4 (by decide) ?_
  refine lv_icmp_ge (tgt := 48) hx hb dX10_addPupil_5 (by decide) (fun c391 => ?_) (fun c391 => ?_)
  · replace c391 := le_i c391
    refine W.widen (k := 0) (n := 0) (by decide) (by decide) ?_
    exact ch_vret hC hr hk hS dX10_addPupil_48 ((fun k => [wn9].getD k 0, fun k => [wf2, wf3, wf4].getD k (fun _ => 0), fun k => [].getD k (fun _ => 0)) : ((Nat → Int32) × (Nat → Nat → Int32) × (Nat → Nat → Int64))) (show 0 ≤ (wn9 : Int32).toInt from by omega) (hP.sub [0, 1, 2, 3] rfl) (hD.sub [0, 1, 2, 3] (by decide) rfl)
  · replace c391 := nle_i c391
    refine lv_aload_n hx hb dX10_addPupil_8 rfl (lv_at hl 0 rfl) ?_
    refine va_get (D := D) (ci := 9) (v := .ref wa2) (C := RX10) (T := TX10) (N := 12) hx hb hts in_X10 hown hE.1 hP 0 rfl rfl 2 (by decide) (hts _ w_90) (fun _ h9 => h9) rfl dX10_addPupil_9 ?_
    refine lv_aload_n hx hb dX10_addPupil_12 rfl (lv_at hl 0 rfl) ?_
    refine va_get (D := D) (ci := 9) (v := .int wn9) (C := RX10) (T := TX10) (N := 12) hx hb hts in_X10 hown hE.1 hP 0 rfl rfl 9 (by decide) (hts _ w_22) (fun _ h9 => h9) rfl dX10_addPupil_13 ?_
    refine lv_iload_n hx hb dX10_addPupil_16 rfl (lv_at hl 1 rfl) ?_
    refine sti hx hb hE.1 hP hD hS 1 1 rfl rfl (vp_in_iff.mpr (by omega)) dX10_addPupil_17 (fun g392 eg392 H locs hP hD hS => ?_)
    replace hP : va_P D vwCl [(w, .inr (9, [.ref wa0, .ref wa1, .ref wa2, .ref wa3, .ref wa4, .ref wa5, .ref wa6, .ref wa7, .int wn8, .int wn9, .int wn10, .int wn11])), (wa2, .inl (K 1, 4, .inl g392)), (wa3, .inl (K 1, 4, .inl wf3)), (wa4, .inl (K 1, 4, .inl wf4))] H := hP
    replace hD : va_D A [(w, .inr (9, [.ref wa0, .ref wa1, .ref wa2, .ref wa3, .ref wa4, .ref wa5, .ref wa6, .ref wa7, .int wn8, .int wn9, .int wn10, .int wn11])), (wa2, .inl (K 1, 4, .inl g392)), (wa3, .inl (K 1, 4, .inl wf3)), (wa4, .inl (K 1, 4, .inl wf4))] := hD
    refine lv_aload_n hx hb dX10_addPupil_18 rfl (lv_at hl 0 rfl) ?_
    refine va_get (D := D) (ci := 9) (v := .ref wa3) (C := RX10) (T := TX10) (N := 12) hx hb hts in_X10 hown hE.1 hP 0 rfl rfl 3 (by decide) (hts _ w_91) (fun _ h9 => h9) rfl dX10_addPupil_19 ?_
    refine lv_aload_n hx hb dX10_addPupil_22 rfl (lv_at hl 0 rfl) ?_
    refine va_get (D := D) (ci := 9) (v := .int wn9) (C := RX10) (T := TX10) (N := 12) hx hb hts in_X10 hown hE.1 hP 0 rfl rfl 9 (by decide) (hts _ w_22) (fun _ h9 => h9) rfl dX10_addPupil_23 ?_
    refine lv_iload_n hx hb dX10_addPupil_26 rfl (lv_at hl 2 rfl) ?_
    refine sti hx hb hE.1 hP hD hS 2 1 rfl rfl (vp_in_iff.mpr (by omega)) dX10_addPupil_27 (fun g393 eg393 H locs hP hD hS => ?_)
    replace hP : va_P D vwCl [(w, .inr (9, [.ref wa0, .ref wa1, .ref wa2, .ref wa3, .ref wa4, .ref wa5, .ref wa6, .ref wa7, .int wn8, .int wn9, .int wn10, .int wn11])), (wa2, .inl (K 1, 4, .inl g392)), (wa3, .inl (K 1, 4, .inl g393)), (wa4, .inl (K 1, 4, .inl wf4))] H := hP
    replace hD : va_D A [(w, .inr (9, [.ref wa0, .ref wa1, .ref wa2, .ref wa3, .ref wa4, .ref wa5, .ref wa6, .ref wa7, .int wn8, .int wn9, .int wn10, .int wn11])), (wa2, .inl (K 1, 4, .inl g392)), (wa3, .inl (K 1, 4, .inl g393)), (wa4, .inl (K 1, 4, .inl wf4))] := hD
    refine lv_aload_n hx hb dX10_addPupil_28 rfl (lv_at hl 0 rfl) ?_
    refine va_get (D := D) (ci := 9) (v := .ref wa4) (C := RX10) (T := TX10) (N := 12) hx hb hts in_X10 hown hE.1 hP 0 rfl rfl 4 (by decide) (hts _ w_92) (fun _ h9 => h9) rfl dX10_addPupil_29 ?_
    refine lv_aload_n hx hb dX10_addPupil_32 rfl (lv_at hl 0 rfl) ?_
    refine va_get (D := D) (ci := 9) (v := .int wn9) (C := RX10) (T := TX10) (N := 12) hx hb hts in_X10 hown hE.1 hP 0 rfl rfl 9 (by decide) (hts _ w_22) (fun _ h9 => h9) rfl dX10_addPupil_33 ?_
    refine lv_iload_n hx hb dX10_addPupil_36 rfl (lv_at hl 3 rfl) ?_
    refine sti hx hb hE.1 hP hD hS 3 1 rfl rfl (vp_in_iff.mpr (by omega)) dX10_addPupil_37 (fun g394 eg394 H locs hP hD hS => ?_)
    replace hP : va_P D vwCl [(w, .inr (9, [.ref wa0, .ref wa1, .ref wa2, .ref wa3, .ref wa4, .ref wa5, .ref wa6, .ref wa7, .int wn8, .int wn9, .int wn10, .int wn11])), (wa2, .inl (K 1, 4, .inl g392)), (wa3, .inl (K 1, 4, .inl g393)), (wa4, .inl (K 1, 4, .inl g394))] H := hP
    replace hD : va_D A [(w, .inr (9, [.ref wa0, .ref wa1, .ref wa2, .ref wa3, .ref wa4, .ref wa5, .ref wa6, .ref wa7, .int wn8, .int wn9, .int wn10, .int wn11])), (wa2, .inl (K 1, 4, .inl g392)), (wa3, .inl (K 1, 4, .inl g393)), (wa4, .inl (K 1, 4, .inl g394))] := hD
    refine lv_aload_n hx hb dX10_addPupil_38 rfl (lv_at hl 0 rfl) ?_
    refine lv_dup hx hb dX10_addPupil_39 rfl ?_
    refine va_get (D := D) (ci := 9) (v := .int wn9) (C := RX10) (T := TX10) (N := 12) hx hb hts in_X10 hown hE.1 hP 0 rfl rfl 9 (by decide) (hts _ w_22) (fun _ h9 => h9) rfl dX10_addPupil_40 ?_
    refine lv_iconst (v := 1) hx hb dX10_addPupil_43 (by decide) ?_
    refine lv_iadd hx hb dX10_addPupil_44 ?_
    refine lv_topi (fun v395 ev395 => ?_)
    refine va_put (D := D) (ci := 9) (v := .int v395) (ty := .int) (C := RX10) (T := TX10) (N := 12) hx hb hts in_X10 tyX10 tyX10_ok nmX10 hown hE.1 hP hD hS 0 rfl rfl 9 (by decide) (hts _ w_22) (fun _ h9 => h9) rfl (by decide +kernel) rfl rfl (Nat.le_of_ble_eq_true rfl) dX10_addPupil_45 (fun H locs hP hD hS => ?_)
    replace hP : va_P D vwCl [(w, .inr (9, [.ref wa0, .ref wa1, .ref wa2, .ref wa3, .ref wa4, .ref wa5, .ref wa6, .ref wa7, .int wn8, .int v395, .int wn10, .int wn11])), (wa2, .inl (K 1, 4, .inl g392)), (wa3, .inl (K 1, 4, .inl g393)), (wa4, .inl (K 1, 4, .inl g394))] H := hP
    replace hD : va_D A [(w, .inr (9, [.ref wa0, .ref wa1, .ref wa2, .ref wa3, .ref wa4, .ref wa5, .ref wa6, .ref wa7, .int wn8, .int v395, .int wn10, .int wn11])), (wa2, .inl (K 1, 4, .inl g392)), (wa3, .inl (K 1, 4, .inl g393)), (wa4, .inl (K 1, 4, .inl g394))] := hD
    refine W.widen (k := 0) (n := 0) (by decide) (by decide) ?_
    have tv395 : v395.toInt = (wn9 : Int32).toInt + (1 : Int32).toInt := add_i ev395 (by omega) (by omega)
    exact ch_vret hC hr hk hS dX10_addPupil_48 ((fun k => [v395].getD k 0, fun k => [g392, g393, g394].getD k (fun _ => 0), fun k => [].getD k (fun _ => 0)) : ((Nat → Int32) × (Nat → Nat → Int32) × (Nat → Nat → Int64))) (show 0 ≤ (v395 : Int32).toInt from by omega) (hP.sub [0, 1, 2, 3] rfl) (hD.sub [0, 1, 2, 3] (by decide) rfl)
set_option maxRecDepth 40000 in
set_option maxHeartbeats 4000000 in
theorem c_X10_addLesson (l : Launch) (D : va_G) (K : Nat → ClassId) (w : Nat) (wa0 : Nat) (wa1 : Nat) (wa2 : Nat) (wa3 : Nat) (wa4 : Nat) (wa5 : Nat) (wa6 : Nat) (wa7 : Nat) (wn8 : Int32) (wn9 : Int32) (wn10 : Int32) (wn11 : Int32) (wf5 : Nat → Int32) (wf6 : Nat → Int32) (wf7 : Nat → Int32) (p0 : Int32) (p1 : Int32) (p2 : Int32) (hp10 : 0 ≤ wn10.toInt) : Cv (S := ((Nat → Int32) × (Nat → Nat → Int32) × (Nat → Nat → Int64))) l D K yX10_addLesson cX10_addLesson 4 0 0 0 0 [.ref w, .int p0, .int p1, .int p2] [(w, .inr (9, [.ref wa0, .ref wa1, .ref wa2, .ref wa3, .ref wa4, .ref wa5, .ref wa6, .ref wa7, .int wn8, .int wn9, .int wn10, .int wn11])), (wa5, .inl (K 1, 5, .inl wf5)), (wa6, .inl (K 1, 5, .inl wf6)), (wa7, .inl (K 1, 5, .inl wf7))] (fun u => (0 ≤ (u.1 0).toInt)) (fun u => [(w, .inr (9, [.ref wa0, .ref wa1, .ref wa2, .ref wa3, .ref wa4, .ref wa5, .ref wa6, .ref wa7, .int wn8, .int wn9, .int (u.1 0), .int wn11])), (wa5, .inl (K 1, 5, .inl (u.2.1 0))), (wa6, .inl (K 1, 5, .inl (u.2.1 1))), (wa7, .inl (K 1, 5, .inl (u.2.1 2)))]) := by
  intro sz
  refine ch_of (y := yX10_addLesson) (cc := cX10_addLesson) (maxL := 4) (ret := none) (av := [.ref w, .int p0, .int p1, .int p2]) (ws := [(w, .inr (9, [.ref wa0, .ref wa1, .ref wa2, .ref wa3, .ref wa4, .ref wa5, .ref wa6, .ref wa7, .int wn8, .int wn9, .int wn10, .int wn11])), (wa5, .inl (K 1, 5, .inl wf5)), (wa6, .inl (K 1, 5, .inl wf6)), (wa7, .inl (K 1, 5, .inl wf7))]) (D := D) (K := K) (Qc := fun A => va_Qv (S := ((Nat → Int32) × (Nat → Nat → Int32) × (Nat → Nat → Int64))) (fun u => (0 ≤ (u.1 0).toInt)) (chB D A (fun u => [(w, .inr (9, [.ref wa0, .ref wa1, .ref wa2, .ref wa3, .ref wa4, .ref wa5, .ref wa6, .ref wa7, .int wn8, .int wn9, .int (u.1 0), .int wn11])), (wa5, .inl (K 1, 5, .inl (u.2.1 0))), (wa6, .inl (K 1, 5, .inl (u.2.1 1))), (wa7, .inl (K 1, 5, .inl (u.2.1 2)))])) A) (by decide) (Nat.le_of_ble_eq_true rfl) ?_
  intro p e s m below meth c A hC hr hk hin hE hD hA H locs hP hS ls hl
  replace hC : CallFix p m c cX10_addLesson 4 s [.ref w, .int p0, .int p1, .int p2].toArray wl RX10 := hC
  have hx := hC.1
  have hb := hC.2.1
  have hml := hC.2.2.1
  have hown := hC.2.2.2.1
  have hts := hC.2.2.2.2
  replace hl : lv_has ls 4 [(0, .ref w), (1, .int p0), (2, .int p1), (3, .int p2)] := hl
  have kc_1 : (1 : Int32).toInt = 1 := by decide
  have kc_5 : (5 : Int32).toInt = 5 := by decide
  refine lv_aload_n hx hb dX10_addLesson_0 rfl (lv_at hl 0 rfl) ?_
  refine va_get (D := D) (ci := 9) (v := .int wn10) (C := RX10) (T := TX10) (N := 12) hx hb hts in_X10 hown hE.1 hP 0 rfl rfl 10 (by decide) (hts _ w_96) (fun _ h9 => h9) rfl dX10_addLesson_1 ?_
  refine lv_iconst (v := 5) hx hb dX10_addLesson_4 (by decide) ?_
  refine lv_icmp_ge (tgt := 48) hx hb dX10_addLesson_5 (by decide) (fun c401 => ?_) (fun c401 => ?_)
  · replace c401 := le_i c401
    refine W.widen (k := 0) (n := 0) (by decide) (by decide) ?_
    exact ch_vret hC hr hk hS dX10_addLesson_48 ((fun k => [wn10].getD k 0, fun k => [wf5, wf6, wf7].getD k (fun _ => 0), fun k => [].getD k (fun _ => 0)) : ((Nat → Int32) × (Nat → Nat → Int32) × (Nat → Nat → Int64))) (show 0 ≤ (wn10 : Int32).toInt from by omega) (hP.sub [0, 1, 2, 3] rfl) (hD.sub [0, 1, 2, 3] (by decide) rfl)
  · replace c401 := nle_i c401
    refine lv_aload_n hx hb dX10_addLesson_8 rfl (lv_at hl 0 rfl) ?_
    refine va_get (D := D) (ci := 9) (v := .ref wa5) (C := RX10) (T := TX10) (N := 12) hx hb hts in_X10 hown hE.1 hP 0 rfl rfl 5 (by decide) (hts _ w_93) (fun _ h9 => h9) rfl dX10_addLesson_9 ?_
    refine lv_aload_n hx hb dX10_addLesson_12 rfl (lv_at hl 0 rfl) ?_
    refine va_get (D := D) (ci := 9) (v := .int wn10) (C := RX10) (T := TX10) (N := 12) hx hb hts in_X10 hown hE.1 hP 0 rfl rfl 10 (by decide) (hts _ w_96) (fun _ h9 => h9) rfl dX10_addLesson_13 ?_
    refine lv_iload_n hx hb dX10_addLesson_16 rfl (lv_at hl 1 rfl) ?_
    refine sti hx hb hE.1 hP hD hS 1 1 rfl rfl (vp_in_iff.mpr (by omega)) dX10_addLesson_17 (fun g402 eg402 H locs hP hD hS => ?_)
    replace hP : va_P D vwCl [(w, .inr (9, [.ref wa0, .ref wa1, .ref wa2, .ref wa3, .ref wa4, .ref wa5, .ref wa6, .ref wa7, .int wn8, .int wn9, .int wn10, .int wn11])), (wa5, .inl (K 1, 5, .inl g402)), (wa6, .inl (K 1, 5, .inl wf6)), (wa7, .inl (K 1, 5, .inl wf7))] H := hP
    replace hD : va_D A [(w, .inr (9, [.ref wa0, .ref wa1, .ref wa2, .ref wa3, .ref wa4, .ref wa5, .ref wa6, .ref wa7, .int wn8, .int wn9, .int wn10, .int wn11])), (wa5, .inl (K 1, 5, .inl g402)), (wa6, .inl (K 1, 5, .inl wf6)), (wa7, .inl (K 1, 5, .inl wf7))] := hD
    refine lv_aload_n hx hb dX10_addLesson_18 rfl (lv_at hl 0 rfl) ?_
    refine va_get (D := D) (ci := 9) (v := .ref wa6) (C := RX10) (T := TX10) (N := 12) hx hb hts in_X10 hown hE.1 hP 0 rfl rfl 6 (by decide) (hts _ w_94) (fun _ h9 => h9) rfl dX10_addLesson_19 ?_
    refine lv_aload_n hx hb dX10_addLesson_22 rfl (lv_at hl 0 rfl) ?_
    refine va_get (D := D) (ci := 9) (v := .int wn10) (C := RX10) (T := TX10) (N := 12) hx hb hts in_X10 hown hE.1 hP 0 rfl rfl 10 (by decide) (hts _ w_96) (fun _ h9 => h9) rfl dX10_addLesson_23 ?_
    refine lv_iload_n hx hb dX10_addLesson_26 rfl (lv_at hl 2 rfl) ?_
    refine sti hx hb hE.1 hP hD hS 2 1 rfl rfl (vp_in_iff.mpr (by omega)) dX10_addLesson_27 (fun g403 eg403 H locs hP hD hS => ?_)
    replace hP : va_P D vwCl [(w, .inr (9, [.ref wa0, .ref wa1, .ref wa2, .ref wa3, .ref wa4, .ref wa5, .ref wa6, .ref wa7, .int wn8, .int wn9, .int wn10, .int wn11])), (wa5, .inl (K 1, 5, .inl g402)), (wa6, .inl (K 1, 5, .inl g403)), (wa7, .inl (K 1, 5, .inl wf7))] H := hP
    replace hD : va_D A [(w, .inr (9, [.ref wa0, .ref wa1, .ref wa2, .ref wa3, .ref wa4, .ref wa5, .ref wa6, .ref wa7, .int wn8, .int wn9, .int wn10, .int wn11])), (wa5, .inl (K 1, 5, .inl g402)), (wa6, .inl (K 1, 5, .inl g403)), (wa7, .inl (K 1, 5, .inl wf7))] := hD
    refine lv_aload_n hx hb dX10_addLesson_28 rfl (lv_at hl 0 rfl) ?_
    refine va_get (D := D) (ci := 9) (v := .ref wa7) (C := RX10) (T := TX10) (N := 12) hx hb hts in_X10 hown hE.1 hP 0 rfl rfl 7 (by decide) (hts _ w_95) (fun _ h9 => h9) rfl dX10_addLesson_29 ?_
    refine lv_aload_n hx hb dX10_addLesson_32 rfl (lv_at hl 0 rfl) ?_
    refine va_get (D := D) (ci := 9) (v := .int wn10) (C := RX10) (T := TX10) (N := 12) hx hb hts in_X10 hown hE.1 hP 0 rfl rfl 10 (by decide) (hts _ w_96) (fun _ h9 => h9) rfl dX10_addLesson_33 ?_
    refine lv_iload_n hx hb dX10_addLesson_36 rfl (lv_at hl 3 rfl) ?_
    refine sti hx hb hE.1 hP hD hS 3 1 rfl rfl (vp_in_iff.mpr (by omega)) dX10_addLesson_37 (fun g404 eg404 H locs hP hD hS => ?_)
    replace hP : va_P D vwCl [(w, .inr (9, [.ref wa0, .ref wa1, .ref wa2, .ref wa3, .ref wa4, .ref wa5, .ref wa6, .ref wa7, .int wn8, .int wn9, .int wn10, .int wn11])), (wa5, .inl (K 1, 5, .inl g402)), (wa6, .inl (K 1, 5, .inl g403)), (wa7, .inl (K 1, 5, .inl g404))] H := hP
    replace hD : va_D A [(w, .inr (9, [.ref wa0, .ref wa1, .ref wa2, .ref wa3, .ref wa4, .ref wa5, .ref wa6, .ref wa7, .int wn8, .int wn9, .int wn10, .int wn11])), (wa5, .inl (K 1, 5, .inl g402)), (wa6, .inl (K 1, 5, .inl g403)), (wa7, .inl (K 1, 5, .inl g404))] := hD
    refine lv_aload_n hx hb dX10_addLesson_38 rfl (lv_at hl 0 rfl) ?_
    refine lv_dup hx hb dX10_addLesson_39 rfl ?_
    refine va_get (D := D) (ci := 9) (v := .int wn10) (C := RX10) (T := TX10) (N := 12) hx hb hts in_X10 hown hE.1 hP 0 rfl rfl 10 (by decide) (hts _ w_96) (fun _ h9 => h9) rfl dX10_addLesson_40 ?_
    refine lv_iconst (v := 1) hx hb dX10_addLesson_43 (by decide) ?_
    refine lv_iadd hx hb dX10_addLesson_44 ?_
    refine lv_topi (fun v405 ev405 => ?_)
    refine va_put (D := D) (ci := 9) (v := .int v405) (ty := .int) (C := RX10) (T := TX10) (N := 12) hx hb hts in_X10 tyX10 tyX10_ok nmX10 hown hE.1 hP hD hS 0 rfl rfl 10 (by decide) (hts _ w_96) (fun _ h9 => h9) rfl (by decide +kernel) rfl rfl (Nat.le_of_ble_eq_true rfl) dX10_addLesson_45 (fun H locs hP hD hS => ?_)
    replace hP : va_P D vwCl [(w, .inr (9, [.ref wa0, .ref wa1, .ref wa2, .ref wa3, .ref wa4, .ref wa5, .ref wa6, .ref wa7, .int wn8, .int wn9, .int v405, .int wn11])), (wa5, .inl (K 1, 5, .inl g402)), (wa6, .inl (K 1, 5, .inl g403)), (wa7, .inl (K 1, 5, .inl g404))] H := hP
    replace hD : va_D A [(w, .inr (9, [.ref wa0, .ref wa1, .ref wa2, .ref wa3, .ref wa4, .ref wa5, .ref wa6, .ref wa7, .int wn8, .int wn9, .int v405, .int wn11])), (wa5, .inl (K 1, 5, .inl g402)), (wa6, .inl (K 1, 5, .inl g403)), (wa7, .inl (K 1, 5, .inl g404))] := hD
    refine W.widen (k := 0) (n := 0) (by decide) (by decide) ?_
    have tv405 : v405.toInt = (wn10 : Int32).toInt + (1 : Int32).toInt := add_i ev405 (by omega) (by omega)
    exact ch_vret hC hr hk hS dX10_addLesson_48 ((fun k => [v405].getD k 0, fun k => [g402, g403, g404].getD k (fun _ => 0), fun k => [].getD k (fun _ => 0)) : ((Nat → Int32) × (Nat → Nat → Int32) × (Nat → Nat → Int64))) (show 0 ≤ (v405 : Int32).toInt from by omega) (hP.sub [0, 1, 2, 3] rfl) (hD.sub [0, 1, 2, 3] (by decide) rfl)
set_option maxRecDepth 40000 in
set_option maxHeartbeats 4000000 in
theorem c_X10_setWay (l : Launch) (D : va_G) (K : Nat → ClassId) (w : Nat) (wa0 : Nat) (wa1 : Nat) (wa2 : Nat) (wa3 : Nat) (wa4 : Nat) (wa5 : Nat) (wa6 : Nat) (wa7 : Nat) (wn8 : Int32) (wn9 : Int32) (wn10 : Int32) (wn11 : Int32) (wf0 : Nat → Int32) (p0 : Int32) (p1 : Int32) (p2 : Int32) : Cv (S := ((Nat → Int32) × (Nat → Nat → Int32) × (Nat → Nat → Int64))) l D K yX10_setWay cX10_setWay 4 1 21 0 0 [.ref w, .int p0, .int p1, .int p2] [(w, .inr (9, [.ref wa0, .ref wa1, .ref wa2, .ref wa3, .ref wa4, .ref wa5, .ref wa6, .ref wa7, .int wn8, .int wn9, .int wn10, .int wn11])), (wa0, .inl (K 1, 40, .inl wf0))] (fun _ => True) (fun u => [(w, .inr (9, [.ref wa0, .ref wa1, .ref wa2, .ref wa3, .ref wa4, .ref wa5, .ref wa6, .ref wa7, .int wn8, .int wn9, .int wn10, .int wn11])), (wa0, .inl (K 1, 40, .inl (u.2.1 0)))]) := by
  intro sz
  refine ch_of (y := yX10_setWay) (cc := cX10_setWay) (maxL := 4) (ret := none) (av := [.ref w, .int p0, .int p1, .int p2]) (ws := [(w, .inr (9, [.ref wa0, .ref wa1, .ref wa2, .ref wa3, .ref wa4, .ref wa5, .ref wa6, .ref wa7, .int wn8, .int wn9, .int wn10, .int wn11])), (wa0, .inl (K 1, 40, .inl wf0))]) (D := D) (K := K) (Qc := fun A => va_Qv (S := ((Nat → Int32) × (Nat → Nat → Int32) × (Nat → Nat → Int64))) (fun _ => True) (chB D A (fun u => [(w, .inr (9, [.ref wa0, .ref wa1, .ref wa2, .ref wa3, .ref wa4, .ref wa5, .ref wa6, .ref wa7, .int wn8, .int wn9, .int wn10, .int wn11])), (wa0, .inl (K 1, 40, .inl (u.2.1 0)))])) A) (by decide) (Nat.le_of_ble_eq_true rfl) ?_
  intro p e s m below meth c A hC hr hk hin hE hD hA H locs hP hS ls hl
  replace hC : CallFix p m c cX10_setWay 4 s [.ref w, .int p0, .int p1, .int p2].toArray wl RX10 := hC
  have hx := hC.1
  have hb := hC.2.1
  have hml := hC.2.2.1
  have hown := hC.2.2.2.1
  have hts := hC.2.2.2.2
  replace hl : lv_has ls 4 [(0, .ref w), (1, .int p0), (2, .int p1), (3, .int p2)] := hl
  have kc_4 : (4 : Int32).toInt = 4 := by decide
  refine lv_aload_n hx hb dX10_setWay_0 rfl (lv_at hl 0 rfl) ?_
  refine lv_iload_n hx hb dX10_setWay_1 rfl (lv_at hl 1 rfl) ?_
  refine ro_V (As := [.int p0]) (rest := []) hC hE kV_X10_65 (c_X10_hasPlace l D K w wa0 wa1 wa2 wa3 wa4 wa5 wa6 wa7 wn8 wn9 wn10 wn11 p0) (hP.sub (ws' := [(w, .inr (9, [.ref wa0, .ref wa1, .ref wa2, .ref wa3, .ref wa4, .ref wa5, .ref wa6, .ref wa7, .int wn8, .int wn9, .int wn10, .int wn11]))]) [0] rfl) 0 9 rfl rfl rfl hl.1 rfl (Nat.le_of_ble_eq_true rfl) (by decide) (by decide) dX10_setWay_2 (fun r420 hq => ?_)
  rcases hq with rfl | ⟨rfl, h418, h419⟩
  · refine lv_if_eq (tgt := 34) hx hb dX10_setWay_5 (by decide) (fun _ => ?_) (fun h => absurd h (by decide))
    refine W.widen (k := 0) (n := 0) (by decide) (by decide) ?_
    exact ch_vret hC hr hk hS dX10_setWay_34 ((fun k => [].getD k 0, fun k => [wf0].getD k (fun _ => 0), fun k => [].getD k (fun _ => 0)) : ((Nat → Int32) × (Nat → Nat → Int32) × (Nat → Nat → Int64))) trivial (hP.sub [0, 1] rfl) (hD.sub [0, 1] (by decide) rfl)
  · refine lv_if_eq (tgt := 34) hx hb dX10_setWay_5 (by decide) (fun h => absurd h (by decide)) (fun _ => ?_)
    refine lv_iload_n hx hb dX10_setWay_8 rfl (lv_at hl 2 rfl) ?_
    refine ro_SN (As := [.int p1]) (rest := []) hC hE kSN_X10_69 (c_X11_isWind l D K p1) (hP.sub (ws' := []) [] rfl) rfl hl.1 rfl (Nat.le_of_ble_eq_true rfl) (by decide) (by decide) dX10_setWay_9 (fun r423 hq => ?_)
    rcases hq with rfl | ⟨rfl, h421, h422⟩
    · refine lv_if_eq (tgt := 34) hx hb dX10_setWay_12 (by decide) (fun _ => ?_) (fun h => absurd h (by decide))
      refine W.widen (k := 0) (n := 0) (by decide) (by decide) ?_
      exact ch_vret hC hr hk hS dX10_setWay_34 ((fun k => [].getD k 0, fun k => [wf0].getD k (fun _ => 0), fun k => [].getD k (fun _ => 0)) : ((Nat → Int32) × (Nat → Nat → Int32) × (Nat → Nat → Int64))) trivial (hP.sub [0, 1] rfl) (hD.sub [0, 1] (by decide) rfl)
    · refine lv_if_eq (tgt := 34) hx hb dX10_setWay_12 (by decide) (fun h => absurd h (by decide)) (fun _ => ?_)
      refine lv_aload_n hx hb dX10_setWay_15 rfl (lv_at hl 0 rfl) ?_
      refine lv_iload_n hx hb dX10_setWay_16 rfl (lv_at hl 3 rfl) ?_
      refine ro_V (As := [.int p2]) (rest := []) hC hE kV_X10_65 (c_X10_hasPlace l D K w wa0 wa1 wa2 wa3 wa4 wa5 wa6 wa7 wn8 wn9 wn10 wn11 p2) (hP.sub (ws' := [(w, .inr (9, [.ref wa0, .ref wa1, .ref wa2, .ref wa3, .ref wa4, .ref wa5, .ref wa6, .ref wa7, .int wn8, .int wn9, .int wn10, .int wn11]))]) [0] rfl) 0 9 rfl rfl rfl hl.1 rfl (Nat.le_of_ble_eq_true rfl) (by decide) (by decide) dX10_setWay_17 (fun r426 hq => ?_)
      rcases hq with rfl | ⟨rfl, h424, h425⟩
      · refine lv_if_eq (tgt := 34) hx hb dX10_setWay_20 (by decide) (fun _ => ?_) (fun h => absurd h (by decide))
        refine W.widen (k := 0) (n := 0) (by decide) (by decide) ?_
        exact ch_vret hC hr hk hS dX10_setWay_34 ((fun k => [].getD k 0, fun k => [wf0].getD k (fun _ => 0), fun k => [].getD k (fun _ => 0)) : ((Nat → Int32) × (Nat → Nat → Int32) × (Nat → Nat → Int64))) trivial (hP.sub [0, 1] rfl) (hD.sub [0, 1] (by decide) rfl)
      · refine lv_if_eq (tgt := 34) hx hb dX10_setWay_20 (by decide) (fun h => absurd h (by decide)) (fun _ => ?_)
        refine lv_aload_n hx hb dX10_setWay_23 rfl (lv_at hl 0 rfl) ?_
        refine va_get (D := D) (ci := 9) (v := .ref wa0) (C := RX10) (T := TX10) (N := 12) hx hb hts in_X10 hown hE.1 hP 0 rfl rfl 0 (by decide) (hts _ w_36) (fun _ h9 => h9) rfl dX10_setWay_24 ?_
        refine lv_iload_n hx hb dX10_setWay_27 rfl (lv_at hl 1 rfl) ?_
        refine lv_iconst (v := 4) hx hb dX10_setWay_28 (by decide) ?_
        refine lv_imul hx hb dX10_setWay_29 ?_
        refine lv_topi (fun v427 ev427 => ?_)
        refine lv_iload_n hx hb dX10_setWay_30 rfl (lv_at hl 2 rfl) ?_
        refine lv_iadd hx hb dX10_setWay_31 ?_
        refine lv_topi (fun v428 ev428 => ?_)
        refine lv_iload_n hx hb dX10_setWay_32 rfl (lv_at hl 3 rfl) ?_
        have tv427 : v427.toInt = p0.toInt * 4 := mul_i ev427 rfl (by decide) (by omega) (by omega)
        have tv428 : v428.toInt = (v427 : Int32).toInt + (p1 : Int32).toInt := add_i ev428 (by omega) (by omega)
        refine sti hx hb hE.1 hP hD hS 1 1 rfl rfl (vp_in_iff.mpr (by omega)) dX10_setWay_33 (fun g429 eg429 H locs hP hD hS => ?_)
        replace hP : va_P D vwCl [(w, .inr (9, [.ref wa0, .ref wa1, .ref wa2, .ref wa3, .ref wa4, .ref wa5, .ref wa6, .ref wa7, .int wn8, .int wn9, .int wn10, .int wn11])), (wa0, .inl (K 1, 40, .inl g429))] H := hP
        replace hD : va_D A [(w, .inr (9, [.ref wa0, .ref wa1, .ref wa2, .ref wa3, .ref wa4, .ref wa5, .ref wa6, .ref wa7, .int wn8, .int wn9, .int wn10, .int wn11])), (wa0, .inl (K 1, 40, .inl g429))] := hD
        refine W.widen (k := 0) (n := 0) (by decide) (by decide) ?_
        exact ch_vret hC hr hk hS dX10_setWay_34 ((fun k => [].getD k 0, fun k => [g429].getD k (fun _ => 0), fun k => [].getD k (fun _ => 0)) : ((Nat → Int32) × (Nat → Nat → Int32) × (Nat → Nat → Int64))) trivial (hP.sub [0, 1] rfl) (hD.sub [0, 1] (by decide) rfl)
set_option maxRecDepth 40000 in
set_option maxHeartbeats 4000000 in
theorem c_X10_setSign (l : Launch) (D : va_G) (K : Nat → ClassId) (w : Nat) (wa0 : Nat) (wa1 : Nat) (wa2 : Nat) (wa3 : Nat) (wa4 : Nat) (wa5 : Nat) (wa6 : Nat) (wa7 : Nat) (wn8 : Int32) (wn9 : Int32) (wn10 : Int32) (wn11 : Int32) (wf1 : Nat → Int32) (p0 : Int32) (p1 : Int32) : Cv (S := ((Nat → Int32) × (Nat → Nat → Int32) × (Nat → Nat → Int64))) l D K yX10_setSign cX10_setSign 3 1 21 0 0 [.ref w, .int p0, .int p1] [(w, .inr (9, [.ref wa0, .ref wa1, .ref wa2, .ref wa3, .ref wa4, .ref wa5, .ref wa6, .ref wa7, .int wn8, .int wn9, .int wn10, .int wn11])), (wa1, .inl (K 1, 10, .inl wf1))] (fun _ => True) (fun u => [(w, .inr (9, [.ref wa0, .ref wa1, .ref wa2, .ref wa3, .ref wa4, .ref wa5, .ref wa6, .ref wa7, .int wn8, .int wn9, .int wn10, .int wn11])), (wa1, .inl (K 1, 10, .inl (u.2.1 0)))]) := by
  intro sz
  refine ch_of (y := yX10_setSign) (cc := cX10_setSign) (maxL := 3) (ret := none) (av := [.ref w, .int p0, .int p1]) (ws := [(w, .inr (9, [.ref wa0, .ref wa1, .ref wa2, .ref wa3, .ref wa4, .ref wa5, .ref wa6, .ref wa7, .int wn8, .int wn9, .int wn10, .int wn11])), (wa1, .inl (K 1, 10, .inl wf1))]) (D := D) (K := K) (Qc := fun A => va_Qv (S := ((Nat → Int32) × (Nat → Nat → Int32) × (Nat → Nat → Int64))) (fun _ => True) (chB D A (fun u => [(w, .inr (9, [.ref wa0, .ref wa1, .ref wa2, .ref wa3, .ref wa4, .ref wa5, .ref wa6, .ref wa7, .int wn8, .int wn9, .int wn10, .int wn11])), (wa1, .inl (K 1, 10, .inl (u.2.1 0)))])) A) (by decide) (Nat.le_of_ble_eq_true rfl) ?_
  intro p e s m below meth c A hC hr hk hin hE hD hA H locs hP hS ls hl
  replace hC : CallFix p m c cX10_setSign 3 s [.ref w, .int p0, .int p1].toArray wl RX10 := hC
  have hx := hC.1
  have hb := hC.2.1
  have hml := hC.2.2.1
  have hown := hC.2.2.2.1
  have hts := hC.2.2.2.2
  replace hl : lv_has ls 3 [(0, .ref w), (1, .int p0), (2, .int p1)] := hl
  refine lv_aload_n hx hb dX10_setSign_0 rfl (lv_at hl 0 rfl) ?_
  refine lv_iload_n hx hb dX10_setSign_1 rfl (lv_at hl 1 rfl) ?_
  refine ro_V (As := [.int p0]) (rest := []) hC hE kV_X10_65 (c_X10_hasPlace l D K w wa0 wa1 wa2 wa3 wa4 wa5 wa6 wa7 wn8 wn9 wn10 wn11 p0) (hP.sub (ws' := [(w, .inr (9, [.ref wa0, .ref wa1, .ref wa2, .ref wa3, .ref wa4, .ref wa5, .ref wa6, .ref wa7, .int wn8, .int wn9, .int wn10, .int wn11]))]) [0] rfl) 0 9 rfl rfl rfl hl.1 rfl (Nat.le_of_ble_eq_true rfl) (by decide) (by decide) dX10_setSign_2 (fun r436 hq => ?_)
  rcases hq with rfl | ⟨rfl, h434, h435⟩
  · refine lv_if_eq (tgt := 15) hx hb dX10_setSign_5 (by decide) (fun _ => ?_) (fun h => absurd h (by decide))
    refine W.widen (k := 0) (n := 0) (by decide) (by decide) ?_
    exact ch_vret hC hr hk hS dX10_setSign_15 ((fun k => [].getD k 0, fun k => [wf1].getD k (fun _ => 0), fun k => [].getD k (fun _ => 0)) : ((Nat → Int32) × (Nat → Nat → Int32) × (Nat → Nat → Int64))) trivial (hP.sub [0, 1] rfl) (hD.sub [0, 1] (by decide) rfl)
  · refine lv_if_eq (tgt := 15) hx hb dX10_setSign_5 (by decide) (fun h => absurd h (by decide)) (fun _ => ?_)
    refine lv_aload_n hx hb dX10_setSign_8 rfl (lv_at hl 0 rfl) ?_
    refine va_get (D := D) (ci := 9) (v := .ref wa1) (C := RX10) (T := TX10) (N := 12) hx hb hts in_X10 hown hE.1 hP 0 rfl rfl 1 (by decide) (hts _ w_37) (fun _ h9 => h9) rfl dX10_setSign_9 ?_
    refine lv_iload_n hx hb dX10_setSign_12 rfl (lv_at hl 1 rfl) ?_
    refine lv_iload_n hx hb dX10_setSign_13 rfl (lv_at hl 2 rfl) ?_
    refine sti hx hb hE.1 hP hD hS 1 1 rfl rfl (vp_in_iff.mpr (by omega)) dX10_setSign_14 (fun g437 eg437 H locs hP hD hS => ?_)
    replace hP : va_P D vwCl [(w, .inr (9, [.ref wa0, .ref wa1, .ref wa2, .ref wa3, .ref wa4, .ref wa5, .ref wa6, .ref wa7, .int wn8, .int wn9, .int wn10, .int wn11])), (wa1, .inl (K 1, 10, .inl g437))] H := hP
    replace hD : va_D A [(w, .inr (9, [.ref wa0, .ref wa1, .ref wa2, .ref wa3, .ref wa4, .ref wa5, .ref wa6, .ref wa7, .int wn8, .int wn9, .int wn10, .int wn11])), (wa1, .inl (K 1, 10, .inl g437))] := hD
    refine W.widen (k := 0) (n := 0) (by decide) (by decide) ?_
    exact ch_vret hC hr hk hS dX10_setSign_15 ((fun k => [].getD k 0, fun k => [g437].getD k (fun _ => 0), fun k => [].getD k (fun _ => 0)) : ((Nat → Int32) × (Nat → Nat → Int32) × (Nat → Nat → Int64))) trivial (hP.sub [0, 1] rfl) (hD.sub [0, 1] (by decide) rfl)
set_option maxRecDepth 40000 in
set_option maxHeartbeats 4000000 in
theorem c_X5_has (l : Launch) (D : va_G) (K : Nat → ClassId) (w : Nat) (wa0 : Nat) (wa1 : Nat) (wa2 : Nat) (wf2 : Nat → Int32) (p0 : Int32) (hsz : ∀ j, j < 4 → -1 ≤ (wf2 j).toInt ∧ (wf2 j).toInt ≤ 60) : Ro l D K yX5_has cX5_has 2 (some .boolean) 1 20 [.ref w, .int p0] [(w, .inr (5, [.ref wa0, .ref wa1, .ref wa2])), (wa2, .inl (K 1, 4, .inl wf2))] (fun r => (r = 0 ∧ (p0.toInt < 0 ∨ 3 < p0.toInt ∨ (wf2 p0.toNatClampNeg).toInt = -1)) ∨ (r = 1 ∧ (0 ≤ p0.toInt) ∧ (p0.toInt ≤ 3) ∧ ((wf2 p0.toNatClampNeg).toInt ≠ -1))) := by
  refine ro_of (by decide) (Nat.le_of_ble_eq_true rfl) ?_
  intro p e s m below meth c hC hr hk hE hP ls hl
  replace hC : CallFix p m c cX5_has 2 s [.ref w, .int p0].toArray wl RX5 := hC
  have hx := hC.1
  have hb := hC.2.1
  have hml := hC.2.2.1
  have hown := hC.2.2.2.1
  have hts := hC.2.2.2.2
  replace hl : lv_has ls 2 [(0, .ref w), (1, .int p0)] := hl
  have kc_m1 : (-1 : Int32).toInt = -1 := by decide
  refine lv_iload_n hx hb dX5_has_0 rfl (lv_at hl 1 rfl) ?_
  refine ro_SN (As := [.int p0]) (rest := []) hC hE kSN_X5_28 (c_X11_isSlot l D K p0) (hP.sub (ws' := []) [] rfl) rfl hl.1 rfl (Nat.le_of_ble_eq_true rfl) (by decide) (by decide) dX5_has_1 (fun r441 hq => ?_)
  rcases hq with ⟨rfl, h438⟩ | ⟨rfl, h439, h440⟩
  · refine lv_if_eq (tgt := 21) hx hb dX5_has_4 (by decide) (fun _ => ?_) (fun h => absurd h (by decide))
    refine lv_iconst (v := 0) hx hb dX5_has_21 (by decide) ?_
    exact ro_zret hC hr hk dX5_has_22 rfl (Or.inl ⟨rfl, (by omega)⟩)
  · refine lv_if_eq (tgt := 21) hx hb dX5_has_4 (by decide) (fun h => absurd h (by decide)) (fun _ => ?_)
    refine lv_aload_n hx hb dX5_has_7 rfl (lv_at hl 0 rfl) ?_
    refine va_get (D := D) (ci := 5) (v := .ref wa2) (C := RX5) (T := TX5) (N := 3) hx hb hts in_X5 hown hE.1 hP 0 rfl rfl 2 (by decide) (hts _ w_102) (fun _ h9 => h9) rfl dX5_has_8 ?_
    refine lv_iload_n hx hb dX5_has_11 rfl (lv_at hl 1 rfl) ?_
    refine va_iald hx hb hE.1 hP 1 1 rfl rfl (vp_in_iff.mpr (by omega)) dX5_has_12 ?_
    refine lv_topi (fun v442 ev442 => ?_)
    have tv442 := hsz p0.toNatClampNeg (in_lt (i := p0) (vp_in_iff.mpr (by omega)))
    rw [← ev442] at tv442
    have zv442 : v442.toInt = (wf2 p0.toNatClampNeg).toInt := by rw [ev442]
    refine lv_iconst (v := (-1)) hx hb dX5_has_13 (by decide) ?_
    refine lv_icmp_eq (tgt := 21) hx hb dX5_has_14 (by decide) (fun c443 => ?_) (fun c443 => ?_)
    · replace c443 := eq_i c443
      refine lv_iconst (v := 0) hx hb dX5_has_21 (by decide) ?_
      exact ro_zret hC hr hk dX5_has_22 rfl (Or.inl ⟨rfl, (by omega)⟩)
    · replace c443 := ne_i c443
      refine lv_iconst (v := 1) hx hb dX5_has_17 (by decide) ?_
      refine lv_goto (tgt := 22) hx hb dX5_has_18 (by decide) ?_
      exact ro_zret hC hr hk dX5_has_22 rfl (Or.inr ⟨rfl, (by omega), (by omega), (by omega)⟩)
