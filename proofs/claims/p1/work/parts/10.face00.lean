set_option maxRecDepth 20000 in
theorem c_X4_hasRoom (l : Launch) (D : va_G) (K : Nat → ClassId) (w t d : Nat) : Ro l D K yX4_hasRoom cX4_hasRoom 2 (some .boolean) 0 0 [.ref w, .int 20] [(w, .inr (4, [.ref t, .int 0, .int 0, .int (-1), .ref d, .int 0, .int 0, .int 0, .int 0, .int 0]))] (fun r => r = 1) := by
  refine ro_of (by decide) (Nat.le_of_ble_eq_true rfl) ?_
  intro p e s m below meth c hC hr hk hE hP ls hl
  have hC : CallFix p m c cX4_hasRoom 2 s [.ref w, .int 20].toArray wl RX4 := hC
  have hx := hC.1
  have hb := hC.2.1
  have hml := hC.2.2.1
  have hown := hC.2.2.2.1
  have hts := hC.2.2.2.2
  have hl : lv_has ls 2 [(0, .ref w), (1, .int 20)] := hl
  refine lv_aload_n hx hb dX4_hasRoom_0 rfl (lv_at hl 0 rfl) ?_
  refine va_get (D := D) (ci := 4) (v := .int 0) (C := RX4) (T := TX4) (N := 10) hx hb hts in_X4 hown hE.1 hP 0 rfl rfl 1 (by decide) (hts _ w_429) (fun _ h9 => h9) rfl dX4_hasRoom_1 ?_
  refine lv_iload_n hx hb dX4_hasRoom_4 rfl (lv_at hl 1 rfl) ?_
  refine lv_iadd hx hb dX4_hasRoom_5 ?_
  refine tc (y := 20) (by decide) ?_
  refine lv_sipush (v := 1000) hx hb dX4_hasRoom_6 (by decide) ?_
  refine lv_icmp_gt (tgt := 16) hx hb dX4_hasRoom_9 (by decide) (fun h => absurd h (by decide)) (fun _ => ?_)
  refine lv_iconst (v := 1) hx hb dX4_hasRoom_12 (by decide) ?_
  refine lv_goto (tgt := 17) hx hb dX4_hasRoom_13 (by decide) ?_
  exact ro_zret hC hr hk dX4_hasRoom_17 rfl rfl
set_option maxRecDepth 20000 in
theorem c_X4_kindAt (l : Launch) (D : va_G) (K : Nat → ClassId) (w t d : Nat) (p0 : Int32) : Ro l D K yX4_kindAt cX4_kindAt 3 (some .int) 0 0 [.ref w, .int p0] [(w, .inr (4, [.ref t, .int 0, .int 0, .int (-1), .ref d, .int 0, .int 0, .int 0, .int 0, .int 0]))] (fun r => r = 0) := by
  refine ro_of (by decide) (Nat.le_of_ble_eq_true rfl) ?_
  intro p e s m below meth c hC hr hk hE hP ls hl
  have hC : CallFix p m c cX4_kindAt 3 s [.ref w, .int p0].toArray wl RX4 := hC
  have hx := hC.1
  have hb := hC.2.1
  have hml := hC.2.2.1
  have hown := hC.2.2.2.1
  have hts := hC.2.2.2.2
  have hl : lv_has ls 3 [(0, .ref w), (1, .int p0)] := hl
  refine lv_iload_n hx hb dX4_kindAt_0 rfl (lv_at hl 1 rfl) ?_
  refine lv_if_lt (tgt := 21) hx hb dX4_kindAt_1 (by decide) (fun c165 => ?_) (fun c165 => ?_)
  · refine lv_iconst (v := 0) hx hb dX4_kindAt_21 (by decide) ?_
    exact ro_ret hC hr hk dX4_kindAt_22 rfl
  · refine lv_iload_n hx hb dX4_kindAt_4 rfl (lv_at hl 1 rfl) ?_
    refine lv_aload_n hx hb dX4_kindAt_5 rfl (lv_at hl 0 rfl) ?_
    refine va_get (D := D) (ci := 4) (v := .int 0) (C := RX4) (T := TX4) (N := 10) hx hb hts in_X4 hown hE.1 hP 0 rfl rfl 1 (by decide) (hts _ w_429) (fun _ h9 => h9) rfl dX4_kindAt_6 ?_
    refine lv_icmp_ge (tgt := 21) hx hb dX4_kindAt_9 (by decide) (fun _ => ?_) (fun h => absurd (nlt0 c165) h)
    refine lv_iconst (v := 0) hx hb dX4_kindAt_21 (by decide) ?_
    exact ro_ret hC hr hk dX4_kindAt_22 rfl
set_option maxRecDepth 20000 in
theorem c_X4_byteAt (l : Launch) (D : va_G) (K : Nat → ClassId) (w t d : Nat) (p0 : Int32) : Ro l D K yX4_byteAt cX4_byteAt 2 (some .int) 0 0 [.ref w, .int p0] [(w, .inr (4, [.ref t, .int 0, .int 0, .int (-1), .ref d, .int 0, .int 0, .int 1, .int 0, .int 0]))] (fun r => r = 0) := by
  refine ro_of (by decide) (Nat.le_of_ble_eq_true rfl) ?_
  intro p e s m below meth c hC hr hk hE hP ls hl
  have hC : CallFix p m c cX4_byteAt 2 s [.ref w, .int p0].toArray wl RX4 := hC
  have hx := hC.1
  have hb := hC.2.1
  have hml := hC.2.2.1
  have hown := hC.2.2.2.1
  have hts := hC.2.2.2.2
  have hl : lv_has ls 2 [(0, .ref w), (1, .int p0)] := hl
  refine lv_iload_n hx hb dX4_byteAt_0 rfl (lv_at hl 1 rfl) ?_
  refine lv_if_lt (tgt := 30) hx hb dX4_byteAt_1 (by decide) (fun c166 => ?_) (fun c166 => ?_)
  · refine lv_iconst (v := 0) hx hb dX4_byteAt_30 (by decide) ?_
    exact ro_ret hC hr hk dX4_byteAt_31 rfl
  · refine lv_iload_n hx hb dX4_byteAt_4 rfl (lv_at hl 1 rfl) ?_
    refine lv_aload_n hx hb dX4_byteAt_5 rfl (lv_at hl 0 rfl) ?_
    refine va_get (D := D) (ci := 4) (v := .int 0) (C := RX4) (T := TX4) (N := 10) hx hb hts in_X4 hown hE.1 hP 0 rfl rfl 1 (by decide) (hts _ w_429) (fun _ h9 => h9) rfl dX4_byteAt_6 ?_
    refine lv_icmp_ge (tgt := 30) hx hb dX4_byteAt_9 (by decide) (fun _ => ?_) (fun h => absurd (nlt0 c166) h)
    refine lv_iconst (v := 0) hx hb dX4_byteAt_30 (by decide) ?_
    exact ro_ret hC hr hk dX4_byteAt_31 rfl
set_option maxRecDepth 40000 in
set_option maxHeartbeats 4000000 in
theorem c_X4_append_0 (l : Launch) (D : va_G) (K : Nat → ClassId) (w t d : Nat) (g : Nat → Int32) (p0 : Int32) : Cv (S := (Nat → Int32)) l D K yX4_append cX4_append 3 0 0 0 0 [.ref w, .int p0] [(w, .inr (4, [.ref t, .int 0, .int 0, .int (-1), .ref d, .int 0, .int 0, .int 0, .int 0, .int 0])), (t, .inl (K 0, 1000, .inl g))] (fun _ => True) (fun u => [(w, .inr (4, [.ref t, .int 4, .int 0, .int (-1), .ref d, .int 0, .int 0, .int 0, .int 0, .int 0])), (t, .inl (K 0, 1000, .inl u))]) := by
  intro sz
  refine ch_of (Qc := fun A => va_Qv (S := (Nat → Int32)) (fun _ => True) (chB D A (fun u => [(w, .inr (4, [.ref t, .int 4, .int 0, .int (-1), .ref d, .int 0, .int 0, .int 0, .int 0, .int 0])), (t, .inl (K 0, 1000, .inl u))])) A) (by decide) (Nat.le_of_ble_eq_true rfl) ?_
  intro p e s m below meth c A hC hr hk hin hE hD hA H locs hP hS ls hl
  replace hC : CallFix p m c cX4_append 3 s [.ref w, .int p0].toArray wl RX4 := hC
  have hx := hC.1
  have hb := hC.2.1
  have hml := hC.2.2.1
  have hown := hC.2.2.2.1
  have hts := hC.2.2.2.2
  replace hl : lv_has ls 3 [(0, .ref w), (1, .int p0)] := hl
  refine lv_bipush (v := 24) hx hb dX4_append_0 (by decide) ?_
  refine lv_istore_n (lv' := [(2, .int 24), (0, .ref w), (1, .int p0)]) hx hb dX4_append_2 rfl hl (by decide) rfl (fun ls hl => ?_)
  refine lv_iload_n hx hb dX4_append_3 rfl (lv_at hl 0 rfl) ?_
  refine lv_if_lt (tgt := 48) hx hb dX4_append_4 (by decide) (fun h => absurd h (by decide)) (fun _ => ?_)
  refine lv_aload_n hx hb dX4_append_7 rfl (lv_at hl 1 rfl) ?_
  refine va_get (D := D) (ci := 4) (v := .int 0) (C := RX4) (T := TX4) (N := 10) hx hb hts in_X4 hown hE.1 hP 0 rfl rfl 1 (by decide) (hts _ w_429) (fun _ h9 => h9) rfl dX4_append_8 ?_
  refine lv_aload_n hx hb dX4_append_11 rfl (lv_at hl 1 rfl) ?_
  refine va_get (D := D) (ci := 4) (v := .ref t) (C := RX4) (T := TX4) (N := 10) hx hb hts in_X4 hown hE.1 hP 0 rfl rfl 0 (by decide) (hts _ w_256) (fun _ h9 => h9) rfl dX4_append_12 ?_
  refine va_alen (v := 1000) hx hb hE.1 hP 1 0 rfl rfl (show Int32.ofNat 1000 = 1000 by decide) dX4_append_15 ?_
  refine lv_icmp_ge (tgt := 48) hx hb dX4_append_16 (by decide) (fun h => absurd h (by decide)) (fun _ => ?_)
  refine lv_aload_n hx hb dX4_append_19 rfl (lv_at hl 1 rfl) ?_
  refine va_get (D := D) (ci := 4) (v := .ref t) (C := RX4) (T := TX4) (N := 10) hx hb hts in_X4 hown hE.1 hP 0 rfl rfl 0 (by decide) (hts _ w_256) (fun _ h9 => h9) rfl dX4_append_20 ?_
  refine lv_aload_n hx hb dX4_append_23 rfl (lv_at hl 1 rfl) ?_
  refine va_get (D := D) (ci := 4) (v := .int 0) (C := RX4) (T := TX4) (N := 10) hx hb hts in_X4 hown hE.1 hP 0 rfl rfl 1 (by decide) (hts _ w_429) (fun _ h9 => h9) rfl dX4_append_24 ?_
  refine lv_iload_n hx hb dX4_append_27 rfl (lv_at hl 2 rfl) ?_
  refine lv_iload_n hx hb dX4_append_28 rfl (lv_at hl 0 rfl) ?_
  refine lv_ishr hx hb dX4_append_29 ?_
  refine lv_topi (fun v167 ev167 => ?_)
  refine lv_i2b hx hb dX4_append_30 rfl ?_
  refine lv_topi (fun v168 ev168 => ?_)
  refine stb hx hb hE.1 hP hD hS 1 0 rfl rfl (in_c (by decide)) dX4_append_31 (fun g169 H locs hP hD hS => ?_)
  replace hP : va_P D vwCl [(w, .inr (4, [.ref t, .int 0, .int 0, .int (-1), .ref d, .int 0, .int 0, .int 0, .int 0, .int 0])), (t, .inl (K 0, 1000, .inl g169))] H := hP
  replace hD : va_D A [(w, .inr (4, [.ref t, .int 0, .int 0, .int (-1), .ref d, .int 0, .int 0, .int 0, .int 0, .int 0])), (t, .inl (K 0, 1000, .inl g169))] := hD
  refine lv_aload_n hx hb dX4_append_32 rfl (lv_at hl 1 rfl) ?_
  refine lv_dup hx hb dX4_append_33 rfl ?_
  refine va_get (D := D) (ci := 4) (v := .int 0) (C := RX4) (T := TX4) (N := 10) hx hb hts in_X4 hown hE.1 hP 0 rfl rfl 1 (by decide) (hts _ w_429) (fun _ h9 => h9) rfl dX4_append_34 ?_
  refine lv_iconst (v := 1) hx hb dX4_append_37 (by decide) ?_
  refine lv_iadd hx hb dX4_append_38 ?_
  refine tc (y := 1) (by decide) ?_
  refine va_put (D := D) (ci := 4) (v := .int 1) (ty := .int) (C := RX4) (T := TX4) (N := 10) hx hb hts in_X4 tyX4 tyX4_ok nmX4 hown hE.1 hP hD hS 0 rfl rfl 1 (by decide) (hts _ w_429) (fun _ h9 => h9) rfl (by decide +kernel) rfl rfl (Nat.le_of_ble_eq_true rfl) dX4_append_39 (fun H locs hP hD hS => ?_)
  replace hP : va_P D vwCl [(w, .inr (4, [.ref t, .int 1, .int 0, .int (-1), .ref d, .int 0, .int 0, .int 0, .int 0, .int 0])), (t, .inl (K 0, 1000, .inl g169))] H := hP
  replace hD : va_D A [(w, .inr (4, [.ref t, .int 1, .int 0, .int (-1), .ref d, .int 0, .int 0, .int 0, .int 0, .int 0])), (t, .inl (K 0, 1000, .inl g169))] := hD
  refine lv_iinc (v := 16) (lv' := [(2, .int 16), (0, .ref w), (1, .int p0)]) hx hb dX4_append_42 hl (k := 0) rfl (by decide) (by decide) rfl (fun ls hl => ?_)
  refine lv_goto (tgt := 3) hx hb dX4_append_45 (by decide) ?_
  refine lv_iload_n hx hb dX4_append_3 rfl (lv_at hl 0 rfl) ?_
  refine lv_if_lt (tgt := 48) hx hb dX4_append_4 (by decide) (fun h => absurd h (by decide)) (fun _ => ?_)
  refine lv_aload_n hx hb dX4_append_7 rfl (lv_at hl 1 rfl) ?_
  refine va_get (D := D) (ci := 4) (v := .int 1) (C := RX4) (T := TX4) (N := 10) hx hb hts in_X4 hown hE.1 hP 0 rfl rfl 1 (by decide) (hts _ w_429) (fun _ h9 => h9) rfl dX4_append_8 ?_
  refine lv_aload_n hx hb dX4_append_11 rfl (lv_at hl 1 rfl) ?_
  refine va_get (D := D) (ci := 4) (v := .ref t) (C := RX4) (T := TX4) (N := 10) hx hb hts in_X4 hown hE.1 hP 0 rfl rfl 0 (by decide) (hts _ w_256) (fun _ h9 => h9) rfl dX4_append_12 ?_
  refine va_alen (v := 1000) hx hb hE.1 hP 1 0 rfl rfl (show Int32.ofNat 1000 = 1000 by decide) dX4_append_15 ?_
  refine lv_icmp_ge (tgt := 48) hx hb dX4_append_16 (by decide) (fun h => absurd h (by decide)) (fun _ => ?_)
  refine lv_aload_n hx hb dX4_append_19 rfl (lv_at hl 1 rfl) ?_
  refine va_get (D := D) (ci := 4) (v := .ref t) (C := RX4) (T := TX4) (N := 10) hx hb hts in_X4 hown hE.1 hP 0 rfl rfl 0 (by decide) (hts _ w_256) (fun _ h9 => h9) rfl dX4_append_20 ?_
  refine lv_aload_n hx hb dX4_append_23 rfl (lv_at hl 1 rfl) ?_
  refine va_get (D := D) (ci := 4) (v := .int 1) (C := RX4) (T := TX4) (N := 10) hx hb hts in_X4 hown hE.1 hP 0 rfl rfl 1 (by decide) (hts _ w_429) (fun _ h9 => h9) rfl dX4_append_24 ?_
  refine lv_iload_n hx hb dX4_append_27 rfl (lv_at hl 2 rfl) ?_
  refine lv_iload_n hx hb dX4_append_28 rfl (lv_at hl 0 rfl) ?_
  refine lv_ishr hx hb dX4_append_29 ?_
  refine lv_topi (fun v170 ev170 => ?_)
  refine lv_i2b hx hb dX4_append_30 rfl ?_
  refine lv_topi (fun v171 ev171 => ?_)
  refine stb hx hb hE.1 hP hD hS 1 0 rfl rfl (in_c (by decide)) dX4_append_31 (fun g172 H locs hP hD hS => ?_)
  replace hP : va_P D vwCl [(w, .inr (4, [.ref t, .int 1, .int 0, .int (-1), .ref d, .int 0, .int 0, .int 0, .int 0, .int 0])), (t, .inl (K 0, 1000, .inl g172))] H := hP
  replace hD : va_D A [(w, .inr (4, [.ref t, .int 1, .int 0, .int (-1), .ref d, .int 0, .int 0, .int 0, .int 0, .int 0])), (t, .inl (K 0, 1000, .inl g172))] := hD
  refine lv_aload_n hx hb dX4_append_32 rfl (lv_at hl 1 rfl) ?_
  refine lv_dup hx hb dX4_append_33 rfl ?_
  refine va_get (D := D) (ci := 4) (v := .int 1) (C := RX4) (T := TX4) (N := 10) hx hb hts in_X4 hown hE.1 hP 0 rfl rfl 1 (by decide) (hts _ w_429) (fun _ h9 => h9) rfl dX4_append_34 ?_
  refine lv_iconst (v := 1) hx hb dX4_append_37 (by decide) ?_
  refine lv_iadd hx hb dX4_append_38 ?_
  refine tc (y := 2) (by decide) ?_
  refine va_put (D := D) (ci := 4) (v := .int 2) (ty := .int) (C := RX4) (T := TX4) (N := 10) hx hb hts in_X4 tyX4 tyX4_ok nmX4 hown hE.1 hP hD hS 0 rfl rfl 1 (by decide) (hts _ w_429) (fun _ h9 => h9) rfl (by decide +kernel) rfl rfl (Nat.le_of_ble_eq_true rfl) dX4_append_39 (fun H locs hP hD hS => ?_)
  replace hP : va_P D vwCl [(w, .inr (4, [.ref t, .int 2, .int 0, .int (-1), .ref d, .int 0, .int 0, .int 0, .int 0, .int 0])), (t, .inl (K 0, 1000, .inl g172))] H := hP
  replace hD : va_D A [(w, .inr (4, [.ref t, .int 2, .int 0, .int (-1), .ref d, .int 0, .int 0, .int 0, .int 0, .int 0])), (t, .inl (K 0, 1000, .inl g172))] := hD
  refine lv_iinc (v := 8) (lv' := [(2, .int 8), (0, .ref w), (1, .int p0)]) hx hb dX4_append_42 hl (k := 0) rfl (by decide) (by decide) rfl (fun ls hl => ?_)
  refine lv_goto (tgt := 3) hx hb dX4_append_45 (by decide) ?_
  refine lv_iload_n hx hb dX4_append_3 rfl (lv_at hl 0 rfl) ?_
  refine lv_if_lt (tgt := 48) hx hb dX4_append_4 (by decide) (fun h => absurd h (by decide)) (fun _ => ?_)
  refine lv_aload_n hx hb dX4_append_7 rfl (lv_at hl 1 rfl) ?_
  refine va_get (D := D) (ci := 4) (v := .int 2) (C := RX4) (T := TX4) (N := 10) hx hb hts in_X4 hown hE.1 hP 0 rfl rfl 1 (by decide) (hts _ w_429) (fun _ h9 => h9) rfl dX4_append_8 ?_
  refine lv_aload_n hx hb dX4_append_11 rfl (lv_at hl 1 rfl) ?_
  refine va_get (D := D) (ci := 4) (v := .ref t) (C := RX4) (T := TX4) (N := 10) hx hb hts in_X4 hown hE.1 hP 0 rfl rfl 0 (by decide) (hts _ w_256) (fun _ h9 => h9) rfl dX4_append_12 ?_
  refine va_alen (v := 1000) hx hb hE.1 hP 1 0 rfl rfl (show Int32.ofNat 1000 = 1000 by decide) dX4_append_15 ?_
  refine lv_icmp_ge (tgt := 48) hx hb dX4_append_16 (by decide) (fun h => absurd h (by decide)) (fun _ => ?_)
  refine lv_aload_n hx hb dX4_append_19 rfl (lv_at hl 1 rfl) ?_
  refine va_get (D := D) (ci := 4) (v := .ref t) (C := RX4) (T := TX4) (N := 10) hx hb hts in_X4 hown hE.1 hP 0 rfl rfl 0 (by decide) (hts _ w_256) (fun _ h9 => h9) rfl dX4_append_20 ?_
  refine lv_aload_n hx hb dX4_append_23 rfl (lv_at hl 1 rfl) ?_
  refine va_get (D := D) (ci := 4) (v := .int 2) (C := RX4) (T := TX4) (N := 10) hx hb hts in_X4 hown hE.1 hP 0 rfl rfl 1 (by decide) (hts _ w_429) (fun _ h9 => h9) rfl dX4_append_24 ?_
  refine lv_iload_n hx hb dX4_append_27 rfl (lv_at hl 2 rfl) ?_
  refine lv_iload_n hx hb dX4_append_28 rfl (lv_at hl 0 rfl) ?_
  refine lv_ishr hx hb dX4_append_29 ?_
  refine lv_topi (fun v173 ev173 => ?_)
  refine lv_i2b hx hb dX4_append_30 rfl ?_
  refine lv_topi (fun v174 ev174 => ?_)
  refine stb hx hb hE.1 hP hD hS 1 0 rfl rfl (in_c (by decide)) dX4_append_31 (fun g175 H locs hP hD hS => ?_)
  replace hP : va_P D vwCl [(w, .inr (4, [.ref t, .int 2, .int 0, .int (-1), .ref d, .int 0, .int 0, .int 0, .int 0, .int 0])), (t, .inl (K 0, 1000, .inl g175))] H := hP
  replace hD : va_D A [(w, .inr (4, [.ref t, .int 2, .int 0, .int (-1), .ref d, .int 0, .int 0, .int 0, .int 0, .int 0])), (t, .inl (K 0, 1000, .inl g175))] := hD
  refine lv_aload_n hx hb dX4_append_32 rfl (lv_at hl 1 rfl) ?_
  refine lv_dup hx hb dX4_append_33 rfl ?_
  refine va_get (D := D) (ci := 4) (v := .int 2) (C := RX4) (T := TX4) (N := 10) hx hb hts in_X4 hown hE.1 hP 0 rfl rfl 1 (by decide) (hts _ w_429) (fun _ h9 => h9) rfl dX4_append_34 ?_
  refine lv_iconst (v := 1) hx hb dX4_append_37 (by decide) ?_
  refine lv_iadd hx hb dX4_append_38 ?_
  refine tc (y := 3) (by decide) ?_
  refine va_put (D := D) (ci := 4) (v := .int 3) (ty := .int) (C := RX4) (T := TX4) (N := 10) hx hb hts in_X4 tyX4 tyX4_ok nmX4 hown hE.1 hP hD hS 0 rfl rfl 1 (by decide) (hts _ w_429) (fun _ h9 => h9) rfl (by decide +kernel) rfl rfl (Nat.le_of_ble_eq_true rfl) dX4_append_39 (fun H locs hP hD hS => ?_)
  replace hP : va_P D vwCl [(w, .inr (4, [.ref t, .int 3, .int 0, .int (-1), .ref d, .int 0, .int 0, .int 0, .int 0, .int 0])), (t, .inl (K 0, 1000, .inl g175))] H := hP
  replace hD : va_D A [(w, .inr (4, [.ref t, .int 3, .int 0, .int (-1), .ref d, .int 0, .int 0, .int 0, .int 0, .int 0])), (t, .inl (K 0, 1000, .inl g175))] := hD
  refine lv_iinc (v := 0) (lv' := [(2, .int 0), (0, .ref w), (1, .int p0)]) hx hb dX4_append_42 hl (k := 0) rfl (by decide) (by decide) rfl (fun ls hl => ?_)
  refine lv_goto (tgt := 3) hx hb dX4_append_45 (by decide) ?_
  refine lv_iload_n hx hb dX4_append_3 rfl (lv_at hl 0 rfl) ?_
  refine lv_if_lt (tgt := 48) hx hb dX4_append_4 (by decide) (fun h => absurd h (by decide)) (fun _ => ?_)
  refine lv_aload_n hx hb dX4_append_7 rfl (lv_at hl 1 rfl) ?_
  refine va_get (D := D) (ci := 4) (v := .int 3) (C := RX4) (T := TX4) (N := 10) hx hb hts in_X4 hown hE.1 hP 0 rfl rfl 1 (by decide) (hts _ w_429) (fun _ h9 => h9) rfl dX4_append_8 ?_
  refine lv_aload_n hx hb dX4_append_11 rfl (lv_at hl 1 rfl) ?_
  refine va_get (D := D) (ci := 4) (v := .ref t) (C := RX4) (T := TX4) (N := 10) hx hb hts in_X4 hown hE.1 hP 0 rfl rfl 0 (by decide) (hts _ w_256) (fun _ h9 => h9) rfl dX4_append_12 ?_
  refine va_alen (v := 1000) hx hb hE.1 hP 1 0 rfl rfl (show Int32.ofNat 1000 = 1000 by decide) dX4_append_15 ?_
  refine lv_icmp_ge (tgt := 48) hx hb dX4_append_16 (by decide) (fun h => absurd h (by decide)) (fun _ => ?_)
  refine lv_aload_n hx hb dX4_append_19 rfl (lv_at hl 1 rfl) ?_
  refine va_get (D := D) (ci := 4) (v := .ref t) (C := RX4) (T := TX4) (N := 10) hx hb hts in_X4 hown hE.1 hP 0 rfl rfl 0 (by decide) (hts _ w_256) (fun _ h9 => h9) rfl dX4_append_20 ?_
  refine lv_aload_n hx hb dX4_append_23 rfl (lv_at hl 1 rfl) ?_
  refine va_get (D := D) (ci := 4) (v := .int 3) (C := RX4) (T := TX4) (N := 10) hx hb hts in_X4 hown hE.1 hP 0 rfl rfl 1 (by decide) (hts _ w_429) (fun _ h9 => h9) rfl dX4_append_24 ?_
  refine lv_iload_n hx hb dX4_append_27 rfl (lv_at hl 2 rfl) ?_
  refine lv_iload_n hx hb dX4_append_28 rfl (lv_at hl 0 rfl) ?_
  refine lv_ishr hx hb dX4_append_29 ?_
  refine lv_topi (fun v176 ev176 => ?_)
  refine lv_i2b hx hb dX4_append_30 rfl ?_
  refine lv_topi (fun v177 ev177 => ?_)
  refine stb hx hb hE.1 hP hD hS 1 0 rfl rfl (in_c (by decide)) dX4_append_31 (fun g178 H locs hP hD hS => ?_)
  replace hP : va_P D vwCl [(w, .inr (4, [.ref t, .int 3, .int 0, .int (-1), .ref d, .int 0, .int 0, .int 0, .int 0, .int 0])), (t, .inl (K 0, 1000, .inl g178))] H := hP
  replace hD : va_D A [(w, .inr (4, [.ref t, .int 3, .int 0, .int (-1), .ref d, .int 0, .int 0, .int 0, .int 0, .int 0])), (t, .inl (K 0, 1000, .inl g178))] := hD
  refine lv_aload_n hx hb dX4_append_32 rfl (lv_at hl 1 rfl) ?_
  refine lv_dup hx hb dX4_append_33 rfl ?_
  refine va_get (D := D) (ci := 4) (v := .int 3) (C := RX4) (T := TX4) (N := 10) hx hb hts in_X4 hown hE.1 hP 0 rfl rfl 1 (by decide) (hts _ w_429) (fun _ h9 => h9) rfl dX4_append_34 ?_
  refine lv_iconst (v := 1) hx hb dX4_append_37 (by decide) ?_
  refine lv_iadd hx hb dX4_append_38 ?_
  refine tc (y := 4) (by decide) ?_
  refine va_put (D := D) (ci := 4) (v := .int 4) (ty := .int) (C := RX4) (T := TX4) (N := 10) hx hb hts in_X4 tyX4 tyX4_ok nmX4 hown hE.1 hP hD hS 0 rfl rfl 1 (by decide) (hts _ w_429) (fun _ h9 => h9) rfl (by decide +kernel) rfl rfl (Nat.le_of_ble_eq_true rfl) dX4_append_39 (fun H locs hP hD hS => ?_)
  replace hP : va_P D vwCl [(w, .inr (4, [.ref t, .int 4, .int 0, .int (-1), .ref d, .int 0, .int 0, .int 0, .int 0, .int 0])), (t, .inl (K 0, 1000, .inl g178))] H := hP
  replace hD : va_D A [(w, .inr (4, [.ref t, .int 4, .int 0, .int (-1), .ref d, .int 0, .int 0, .int 0, .int 0, .int 0])), (t, .inl (K 0, 1000, .inl g178))] := hD
  refine lv_iinc (v := (-8)) (lv' := [(2, .int (-8)), (0, .ref w), (1, .int p0)]) hx hb dX4_append_42 hl (k := 0) rfl (by decide) (by decide) rfl (fun ls hl => ?_)
  refine lv_goto (tgt := 3) hx hb dX4_append_45 (by decide) ?_
  refine lv_iload_n hx hb dX4_append_3 rfl (lv_at hl 0 rfl) ?_
  refine lv_if_lt (tgt := 48) hx hb dX4_append_4 (by decide) (fun _ => ?_) (fun h => absurd h (by decide))
  refine W.widen (k := 0) (n := 0) (by decide) (by decide) ?_
  exact ch_vret hC hr hk hS dX4_append_48 g178 trivial (hP.sub [0, 1] rfl) (hD.sub [0, 1] (by decide) rfl)
set_option maxRecDepth 40000 in
set_option maxHeartbeats 4000000 in
theorem c_X4_append_4 (l : Launch) (D : va_G) (K : Nat → ClassId) (w t d : Nat) (g : Nat → Int32) (p0 : Int32) : Cv (S := (Nat → Int32)) l D K yX4_append cX4_append 3 0 0 0 0 [.ref w, .int p0] [(w, .inr (4, [.ref t, .int 4, .int 0, .int (-1), .ref d, .int 0, .int 0, .int 0, .int 0, .int 0])), (t, .inl (K 0, 1000, .inl g))] (fun _ => True) (fun u => [(w, .inr (4, [.ref t, .int 8, .int 0, .int (-1), .ref d, .int 0, .int 0, .int 0, .int 0, .int 0])), (t, .inl (K 0, 1000, .inl u))]) := by
  intro sz
  refine ch_of (Qc := fun A => va_Qv (S := (Nat → Int32)) (fun _ => True) (chB D A (fun u => [(w, .inr (4, [.ref t, .int 8, .int 0, .int (-1), .ref d, .int 0, .int 0, .int 0, .int 0, .int 0])), (t, .inl (K 0, 1000, .inl u))])) A) (by decide) (Nat.le_of_ble_eq_true rfl) ?_
  intro p e s m below meth c A hC hr hk hin hE hD hA H locs hP hS ls hl
  replace hC : CallFix p m c cX4_append 3 s [.ref w, .int p0].toArray wl RX4 := hC
  have hx := hC.1
  have hb := hC.2.1
  have hml := hC.2.2.1
  have hown := hC.2.2.2.1
  have hts := hC.2.2.2.2
  replace hl : lv_has ls 3 [(0, .ref w), (1, .int p0)] := hl
  refine lv_bipush (v := 24) hx hb dX4_append_0 (by decide) ?_
  refine lv_istore_n (lv' := [(2, .int 24), (0, .ref w), (1, .int p0)]) hx hb dX4_append_2 rfl hl (by decide) rfl (fun ls hl => ?_)
  refine lv_iload_n hx hb dX4_append_3 rfl (lv_at hl 0 rfl) ?_
  refine lv_if_lt (tgt := 48) hx hb dX4_append_4 (by decide) (fun h => absurd h (by decide)) (fun _ => ?_)
  refine lv_aload_n hx hb dX4_append_7 rfl (lv_at hl 1 rfl) ?_
  refine va_get (D := D) (ci := 4) (v := .int 4) (C := RX4) (T := TX4) (N := 10) hx hb hts in_X4 hown hE.1 hP 0 rfl rfl 1 (by decide) (hts _ w_429) (fun _ h9 => h9) rfl dX4_append_8 ?_
  refine lv_aload_n hx hb dX4_append_11 rfl (lv_at hl 1 rfl) ?_
  refine va_get (D := D) (ci := 4) (v := .ref t) (C := RX4) (T := TX4) (N := 10) hx hb hts in_X4 hown hE.1 hP 0 rfl rfl 0 (by decide) (hts _ w_256) (fun _ h9 => h9) rfl dX4_append_12 ?_
  refine va_alen (v := 1000) hx hb hE.1 hP 1 0 rfl rfl (show Int32.ofNat 1000 = 1000 by decide) dX4_append_15 ?_
  refine lv_icmp_ge (tgt := 48) hx hb dX4_append_16 (by decide) (fun h => absurd h (by decide)) (fun _ => ?_)
  refine lv_aload_n hx hb dX4_append_19 rfl (lv_at hl 1 rfl) ?_
  refine va_get (D := D) (ci := 4) (v := .ref t) (C := RX4) (T := TX4) (N := 10) hx hb hts in_X4 hown hE.1 hP 0 rfl rfl 0 (by decide) (hts _ w_256) (fun _ h9 => h9) rfl dX4_append_20 ?_
  refine lv_aload_n hx hb dX4_append_23 rfl (lv_at hl 1 rfl) ?_
  refine va_get (D := D) (ci := 4) (v := .int 4) (C := RX4) (T := TX4) (N := 10) hx hb hts in_X4 hown hE.1 hP 0 rfl rfl 1 (by decide) (hts _ w_429) (fun _ h9 => h9) rfl dX4_append_24 ?_
  refine lv_iload_n hx hb dX4_append_27 rfl (lv_at hl 2 rfl) ?_
  refine lv_iload_n hx hb dX4_append_28 rfl (lv_at hl 0 rfl) ?_
  refine lv_ishr hx hb dX4_append_29 ?_
  refine lv_topi (fun v179 ev179 => ?_)
  refine lv_i2b hx hb dX4_append_30 rfl ?_
  refine lv_topi (fun v180 ev180 => ?_)
  refine stb hx hb hE.1 hP hD hS 1 0 rfl rfl (in_c (by decide)) dX4_append_31 (fun g181 H locs hP hD hS => ?_)
  replace hP : va_P D vwCl [(w, .inr (4, [.ref t, .int 4, .int 0, .int (-1), .ref d, .int 0, .int 0, .int 0, .int 0, .int 0])), (t, .inl (K 0, 1000, .inl g181))] H := hP
  replace hD : va_D A [(w, .inr (4, [.ref t, .int 4, .int 0, .int (-1), .ref d, .int 0, .int 0, .int 0, .int 0, .int 0])), (t, .inl (K 0, 1000, .inl g181))] := hD
  refine lv_aload_n hx hb dX4_append_32 rfl (lv_at hl 1 rfl) ?_
  refine lv_dup hx hb dX4_append_33 rfl ?_
  refine va_get (D := D) (ci := 4) (v := .int 4) (C := RX4) (T := TX4) (N := 10) hx hb hts in_X4 hown hE.1 hP 0 rfl rfl 1 (by decide) (hts _ w_429) (fun _ h9 => h9) rfl dX4_append_34 ?_
  refine lv_iconst (v := 1) hx hb dX4_append_37 (by decide) ?_
  refine lv_iadd hx hb dX4_append_38 ?_
  refine tc (y := 5) (by decide) ?_
  refine va_put (D := D) (ci := 4) (v := .int 5) (ty := .int) (C := RX4) (T := TX4) (N := 10) hx hb hts in_X4 tyX4 tyX4_ok nmX4 hown hE.1 hP hD hS 0 rfl rfl 1 (by decide) (hts _ w_429) (fun _ h9 => h9) rfl (by decide +kernel) rfl rfl (Nat.le_of_ble_eq_true rfl) dX4_append_39 (fun H locs hP hD hS => ?_)
  replace hP : va_P D vwCl [(w, .inr (4, [.ref t, .int 5, .int 0, .int (-1), .ref d, .int 0, .int 0, .int 0, .int 0, .int 0])), (t, .inl (K 0, 1000, .inl g181))] H := hP
  replace hD : va_D A [(w, .inr (4, [.ref t, .int 5, .int 0, .int (-1), .ref d, .int 0, .int 0, .int 0, .int 0, .int 0])), (t, .inl (K 0, 1000, .inl g181))] := hD
  refine lv_iinc (v := 16) (lv' := [(2, .int 16), (0, .ref w), (1, .int p0)]) hx hb dX4_append_42 hl (k := 0) rfl (by decide) (by decide) rfl (fun ls hl => ?_)
  refine lv_goto (tgt := 3) hx hb dX4_append_45 (by decide) ?_
  refine lv_iload_n hx hb dX4_append_3 rfl (lv_at hl 0 rfl) ?_
  refine lv_if_lt (tgt := 48) hx hb dX4_append_4 (by decide) (fun h => absurd h (by decide)) (fun _ => ?_)
  refine lv_aload_n hx hb dX4_append_7 rfl (lv_at hl 1 rfl) ?_
  refine va_get (D := D) (ci := 4) (v := .int 5) (C := RX4) (T := TX4) (N := 10) hx hb hts in_X4 hown hE.1 hP 0 rfl rfl 1 (by decide) (hts _ w_429) (fun _ h9 => h9) rfl dX4_append_8 ?_
  refine lv_aload_n hx hb dX4_append_11 rfl (lv_at hl 1 rfl) ?_
  refine va_get (D := D) (ci := 4) (v := .ref t) (C := RX4) (T := TX4) (N := 10) hx hb hts in_X4 hown hE.1 hP 0 rfl rfl 0 (by decide) (hts _ w_256) (fun _ h9 => h9) rfl dX4_append_12 ?_
  refine va_alen (v := 1000) hx hb hE.1 hP 1 0 rfl rfl (show Int32.ofNat 1000 = 1000 by decide) dX4_append_15 ?_
  refine lv_icmp_ge (tgt := 48) hx hb dX4_append_16 (by decide) (fun h => absurd h (by decide)) (fun _ => ?_)
  refine lv_aload_n hx hb dX4_append_19 rfl (lv_at hl 1 rfl) ?_
  refine va_get (D := D) (ci := 4) (v := .ref t) (C := RX4) (T := TX4) (N := 10) hx hb hts in_X4 hown hE.1 hP 0 rfl rfl 0 (by decide) (hts _ w_256) (fun _ h9 => h9) rfl dX4_append_20 ?_
  refine lv_aload_n hx hb dX4_append_23 rfl (lv_at hl 1 rfl) ?_
  refine va_get (D := D) (ci := 4) (v := .int 5) (C := RX4) (T := TX4) (N := 10) hx hb hts in_X4 hown hE.1 hP 0 rfl rfl 1 (by decide) (hts _ w_429) (fun _ h9 => h9) rfl dX4_append_24 ?_
  refine lv_iload_n hx hb dX4_append_27 rfl (lv_at hl 2 rfl) ?_
  refine lv_iload_n hx hb dX4_append_28 rfl (lv_at hl 0 rfl) ?_
  refine lv_ishr hx hb dX4_append_29 ?_
  refine lv_topi (fun v182 ev182 => ?_)
  refine lv_i2b hx hb dX4_append_30 rfl ?_
  refine lv_topi (fun v183 ev183 => ?_)
  refine stb hx hb hE.1 hP hD hS 1 0 rfl rfl (in_c (by decide)) dX4_append_31 (fun g184 H locs hP hD hS => ?_)
  replace hP : va_P D vwCl [(w, .inr (4, [.ref t, .int 5, .int 0, .int (-1), .ref d, .int 0, .int 0, .int 0, .int 0, .int 0])), (t, .inl (K 0, 1000, .inl g184))] H := hP
  replace hD : va_D A [(w, .inr (4, [.ref t, .int 5, .int 0, .int (-1), .ref d, .int 0, .int 0, .int 0, .int 0, .int 0])), (t, .inl (K 0, 1000, .inl g184))] := hD
  refine lv_aload_n hx hb dX4_append_32 rfl (lv_at hl 1 rfl) ?_
  refine lv_dup hx hb dX4_append_33 rfl ?_
  refine va_get (D := D) (ci := 4) (v := .int 5) (C := RX4) (T := TX4) (N := 10) hx hb hts in_X4 hown hE.1 hP 0 rfl rfl 1 (by decide) (hts _ w_429) (fun _ h9 => h9) rfl dX4_append_34 ?_
  refine lv_iconst (v := 1) hx hb dX4_append_37 (by decide) ?_
  refine lv_iadd hx hb dX4_append_38 ?_
  refine tc (y := 6) (by decide) ?_
  refine va_put (D := D) (ci := 4) (v := .int 6) (ty := .int) (C := RX4) (T := TX4) (N := 10) hx hb hts in_X4 tyX4 tyX4_ok nmX4 hown hE.1 hP hD hS 0 rfl rfl 1 (by decide) (hts _ w_429) (fun _ h9 => h9) rfl (by decide +kernel) rfl rfl (Nat.le_of_ble_eq_true rfl) dX4_append_39 (fun H locs hP hD hS => ?_)
  replace hP : va_P D vwCl [(w, .inr (4, [.ref t, .int 6, .int 0, .int (-1), .ref d, .int 0, .int 0, .int 0, .int 0, .int 0])), (t, .inl (K 0, 1000, .inl g184))] H := hP
  replace hD : va_D A [(w, .inr (4, [.ref t, .int 6, .int 0, .int (-1), .ref d, .int 0, .int 0, .int 0, .int 0, .int 0])), (t, .inl (K 0, 1000, .inl g184))] := hD
  refine lv_iinc (v := 8) (lv' := [(2, .int 8), (0, .ref w), (1, .int p0)]) hx hb dX4_append_42 hl (k := 0) rfl (by decide) (by decide) rfl (fun ls hl => ?_)
  refine lv_goto (tgt := 3) hx hb dX4_append_45 (by decide) ?_
  refine lv_iload_n hx hb dX4_append_3 rfl (lv_at hl 0 rfl) ?_
  refine lv_if_lt (tgt := 48) hx hb dX4_append_4 (by decide) (fun h => absurd h (by decide)) (fun _ => ?_)
  refine lv_aload_n hx hb dX4_append_7 rfl (lv_at hl 1 rfl) ?_
  refine va_get (D := D) (ci := 4) (v := .int 6) (C := RX4) (T := TX4) (N := 10) hx hb hts in_X4 hown hE.1 hP 0 rfl rfl 1 (by decide) (hts _ w_429) (fun _ h9 => h9) rfl dX4_append_8 ?_
  refine lv_aload_n hx hb dX4_append_11 rfl (lv_at hl 1 rfl) ?_
  refine va_get (D := D) (ci := 4) (v := .ref t) (C := RX4) (T := TX4) (N := 10) hx hb hts in_X4 hown hE.1 hP 0 rfl rfl 0 (by decide) (hts _ w_256) (fun _ h9 => h9) rfl dX4_append_12 ?_
  refine va_alen (v := 1000) hx hb hE.1 hP 1 0 rfl rfl (show Int32.ofNat 1000 = 1000 by decide) dX4_append_15 ?_
  refine lv_icmp_ge (tgt := 48) hx hb dX4_append_16 (by decide) (fun h => absurd h (by decide)) (fun _ => ?_)
  refine lv_aload_n hx hb dX4_append_19 rfl (lv_at hl 1 rfl) ?_
  refine va_get (D := D) (ci := 4) (v := .ref t) (C := RX4) (T := TX4) (N := 10) hx hb hts in_X4 hown hE.1 hP 0 rfl rfl 0 (by decide) (hts _ w_256) (fun _ h9 => h9) rfl dX4_append_20 ?_
  refine lv_aload_n hx hb dX4_append_23 rfl (lv_at hl 1 rfl) ?_
  refine va_get (D := D) (ci := 4) (v := .int 6) (C := RX4) (T := TX4) (N := 10) hx hb hts in_X4 hown hE.1 hP 0 rfl rfl 1 (by decide) (hts _ w_429) (fun _ h9 => h9) rfl dX4_append_24 ?_
  refine lv_iload_n hx hb dX4_append_27 rfl (lv_at hl 2 rfl) ?_
  refine lv_iload_n hx hb dX4_append_28 rfl (lv_at hl 0 rfl) ?_
  refine lv_ishr hx hb dX4_append_29 ?_
  refine lv_topi (fun v185 ev185 => ?_)
  refine lv_i2b hx hb dX4_append_30 rfl ?_
  refine lv_topi (fun v186 ev186 => ?_)
  refine stb hx hb hE.1 hP hD hS 1 0 rfl rfl (in_c (by decide)) dX4_append_31 (fun g187 H locs hP hD hS => ?_)
  replace hP : va_P D vwCl [(w, .inr (4, [.ref t, .int 6, .int 0, .int (-1), .ref d, .int 0, .int 0, .int 0, .int 0, .int 0])), (t, .inl (K 0, 1000, .inl g187))] H := hP
  replace hD : va_D A [(w, .inr (4, [.ref t, .int 6, .int 0, .int (-1), .ref d, .int 0, .int 0, .int 0, .int 0, .int 0])), (t, .inl (K 0, 1000, .inl g187))] := hD
  refine lv_aload_n hx hb dX4_append_32 rfl (lv_at hl 1 rfl) ?_
  refine lv_dup hx hb dX4_append_33 rfl ?_
  refine va_get (D := D) (ci := 4) (v := .int 6) (C := RX4) (T := TX4) (N := 10) hx hb hts in_X4 hown hE.1 hP 0 rfl rfl 1 (by decide) (hts _ w_429) (fun _ h9 => h9) rfl dX4_append_34 ?_
  refine lv_iconst (v := 1) hx hb dX4_append_37 (by decide) ?_
  refine lv_iadd hx hb dX4_append_38 ?_
  refine tc (y := 7) (by decide) ?_
  refine va_put (D := D) (ci := 4) (v := .int 7) (ty := .int) (C := RX4) (T := TX4) (N := 10) hx hb hts in_X4 tyX4 tyX4_ok nmX4 hown hE.1 hP hD hS 0 rfl rfl 1 (by decide) (hts _ w_429) (fun _ h9 => h9) rfl (by decide +kernel) rfl rfl (Nat.le_of_ble_eq_true rfl) dX4_append_39 (fun H locs hP hD hS => ?_)
  replace hP : va_P D vwCl [(w, .inr (4, [.ref t, .int 7, .int 0, .int (-1), .ref d, .int 0, .int 0, .int 0, .int 0, .int 0])), (t, .inl (K 0, 1000, .inl g187))] H := hP
  replace hD : va_D A [(w, .inr (4, [.ref t, .int 7, .int 0, .int (-1), .ref d, .int 0, .int 0, .int 0, .int 0, .int 0])), (t, .inl (K 0, 1000, .inl g187))] := hD
  refine lv_iinc (v := 0) (lv' := [(2, .int 0), (0, .ref w), (1, .int p0)]) hx hb dX4_append_42 hl (k := 0) rfl (by decide) (by decide) rfl (fun ls hl => ?_)
  refine lv_goto (tgt := 3) hx hb dX4_append_45 (by decide) ?_
  refine lv_iload_n hx hb dX4_append_3 rfl (lv_at hl 0 rfl) ?_
  refine lv_if_lt (tgt := 48) hx hb dX4_append_4 (by decide) (fun h => absurd h (by decide)) (fun _ => ?_)
  refine lv_aload_n hx hb dX4_append_7 rfl (lv_at hl 1 rfl) ?_
  refine va_get (D := D) (ci := 4) (v := .int 7) (C := RX4) (T := TX4) (N := 10) hx hb hts in_X4 hown hE.1 hP 0 rfl rfl 1 (by decide) (hts _ w_429) (fun _ h9 => h9) rfl dX4_append_8 ?_
  refine lv_aload_n hx hb dX4_append_11 rfl (lv_at hl 1 rfl) ?_
  refine va_get (D := D) (ci := 4) (v := .ref t) (C := RX4) (T := TX4) (N := 10) hx hb hts in_X4 hown hE.1 hP 0 rfl rfl 0 (by decide) (hts _ w_256) (fun _ h9 => h9) rfl dX4_append_12 ?_
  refine va_alen (v := 1000) hx hb hE.1 hP 1 0 rfl rfl (show Int32.ofNat 1000 = 1000 by decide) dX4_append_15 ?_
  refine lv_icmp_ge (tgt := 48) hx hb dX4_append_16 (by decide) (fun h => absurd h (by decide)) (fun _ => ?_)
  refine lv_aload_n hx hb dX4_append_19 rfl (lv_at hl 1 rfl) ?_
  refine va_get (D := D) (ci := 4) (v := .ref t) (C := RX4) (T := TX4) (N := 10) hx hb hts in_X4 hown hE.1 hP 0 rfl rfl 0 (by decide) (hts _ w_256) (fun _ h9 => h9) rfl dX4_append_20 ?_
  refine lv_aload_n hx hb dX4_append_23 rfl (lv_at hl 1 rfl) ?_
  refine va_get (D := D) (ci := 4) (v := .int 7) (C := RX4) (T := TX4) (N := 10) hx hb hts in_X4 hown hE.1 hP 0 rfl rfl 1 (by decide) (hts _ w_429) (fun _ h9 => h9) rfl dX4_append_24 ?_
  refine lv_iload_n hx hb dX4_append_27 rfl (lv_at hl 2 rfl) ?_
  refine lv_iload_n hx hb dX4_append_28 rfl (lv_at hl 0 rfl) ?_
  refine lv_ishr hx hb dX4_append_29 ?_
  refine lv_topi (fun v188 ev188 => ?_)
  refine lv_i2b hx hb dX4_append_30 rfl ?_
  refine lv_topi (fun v189 ev189 => ?_)
  refine stb hx hb hE.1 hP hD hS 1 0 rfl rfl (in_c (by decide)) dX4_append_31 (fun g190 H locs hP hD hS => ?_)
  replace hP : va_P D vwCl [(w, .inr (4, [.ref t, .int 7, .int 0, .int (-1), .ref d, .int 0, .int 0, .int 0, .int 0, .int 0])), (t, .inl (K 0, 1000, .inl g190))] H := hP
  replace hD : va_D A [(w, .inr (4, [.ref t, .int 7, .int 0, .int (-1), .ref d, .int 0, .int 0, .int 0, .int 0, .int 0])), (t, .inl (K 0, 1000, .inl g190))] := hD
  refine lv_aload_n hx hb dX4_append_32 rfl (lv_at hl 1 rfl) ?_
  refine lv_dup hx hb dX4_append_33 rfl ?_
  refine va_get (D := D) (ci := 4) (v := .int 7) (C := RX4) (T := TX4) (N := 10) hx hb hts in_X4 hown hE.1 hP 0 rfl rfl 1 (by decide) (hts _ w_429) (fun _ h9 => h9) rfl dX4_append_34 ?_
  refine lv_iconst (v := 1) hx hb dX4_append_37 (by decide) ?_
  refine lv_iadd hx hb dX4_append_38 ?_
  refine tc (y := 8) (by decide) ?_
  refine va_put (D := D) (ci := 4) (v := .int 8) (ty := .int) (C := RX4) (T := TX4) (N := 10) hx hb hts in_X4 tyX4 tyX4_ok nmX4 hown hE.1 hP hD hS 0 rfl rfl 1 (by decide) (hts _ w_429) (fun _ h9 => h9) rfl (by decide +kernel) rfl rfl (Nat.le_of_ble_eq_true rfl) dX4_append_39 (fun H locs hP hD hS => ?_)
  replace hP : va_P D vwCl [(w, .inr (4, [.ref t, .int 8, .int 0, .int (-1), .ref d, .int 0, .int 0, .int 0, .int 0, .int 0])), (t, .inl (K 0, 1000, .inl g190))] H := hP
  replace hD : va_D A [(w, .inr (4, [.ref t, .int 8, .int 0, .int (-1), .ref d, .int 0, .int 0, .int 0, .int 0, .int 0])), (t, .inl (K 0, 1000, .inl g190))] := hD
  refine lv_iinc (v := (-8)) (lv' := [(2, .int (-8)), (0, .ref w), (1, .int p0)]) hx hb dX4_append_42 hl (k := 0) rfl (by decide) (by decide) rfl (fun ls hl => ?_)
  refine lv_goto (tgt := 3) hx hb dX4_append_45 (by decide) ?_
  refine lv_iload_n hx hb dX4_append_3 rfl (lv_at hl 0 rfl) ?_
  refine lv_if_lt (tgt := 48) hx hb dX4_append_4 (by decide) (fun _ => ?_) (fun h => absurd h (by decide))
  refine W.widen (k := 0) (n := 0) (by decide) (by decide) ?_
  exact ch_vret hC hr hk hS dX4_append_48 g190 trivial (hP.sub [0, 1] rfl) (hD.sub [0, 1] (by decide) rfl)
set_option maxRecDepth 40000 in
set_option maxHeartbeats 4000000 in
theorem c_X4_append_8 (l : Launch) (D : va_G) (K : Nat → ClassId) (w t d : Nat) (g : Nat → Int32) (p0 : Int32) : Cv (S := (Nat → Int32)) l D K yX4_append cX4_append 3 0 0 0 0 [.ref w, .int p0] [(w, .inr (4, [.ref t, .int 8, .int 0, .int (-1), .ref d, .int 0, .int 0, .int 0, .int 0, .int 0])), (t, .inl (K 0, 1000, .inl g))] (fun _ => True) (fun u => [(w, .inr (4, [.ref t, .int 12, .int 0, .int (-1), .ref d, .int 0, .int 0, .int 0, .int 0, .int 0])), (t, .inl (K 0, 1000, .inl u))]) := by
  intro sz
  refine ch_of (Qc := fun A => va_Qv (S := (Nat → Int32)) (fun _ => True) (chB D A (fun u => [(w, .inr (4, [.ref t, .int 12, .int 0, .int (-1), .ref d, .int 0, .int 0, .int 0, .int 0, .int 0])), (t, .inl (K 0, 1000, .inl u))])) A) (by decide) (Nat.le_of_ble_eq_true rfl) ?_
  intro p e s m below meth c A hC hr hk hin hE hD hA H locs hP hS ls hl
  replace hC : CallFix p m c cX4_append 3 s [.ref w, .int p0].toArray wl RX4 := hC
  have hx := hC.1
  have hb := hC.2.1
  have hml := hC.2.2.1
  have hown := hC.2.2.2.1
  have hts := hC.2.2.2.2
  replace hl : lv_has ls 3 [(0, .ref w), (1, .int p0)] := hl
  refine lv_bipush (v := 24) hx hb dX4_append_0 (by decide) ?_
  refine lv_istore_n (lv' := [(2, .int 24), (0, .ref w), (1, .int p0)]) hx hb dX4_append_2 rfl hl (by decide) rfl (fun ls hl => ?_)
  refine lv_iload_n hx hb dX4_append_3 rfl (lv_at hl 0 rfl) ?_
  refine lv_if_lt (tgt := 48) hx hb dX4_append_4 (by decide) (fun h => absurd h (by decide)) (fun _ => ?_)
  refine lv_aload_n hx hb dX4_append_7 rfl (lv_at hl 1 rfl) ?_
  refine va_get (D := D) (ci := 4) (v := .int 8) (C := RX4) (T := TX4) (N := 10) hx hb hts in_X4 hown hE.1 hP 0 rfl rfl 1 (by decide) (hts _ w_429) (fun _ h9 => h9) rfl dX4_append_8 ?_
  refine lv_aload_n hx hb dX4_append_11 rfl (lv_at hl 1 rfl) ?_
  refine va_get (D := D) (ci := 4) (v := .ref t) (C := RX4) (T := TX4) (N := 10) hx hb hts in_X4 hown hE.1 hP 0 rfl rfl 0 (by decide) (hts _ w_256) (fun _ h9 => h9) rfl dX4_append_12 ?_
  refine va_alen (v := 1000) hx hb hE.1 hP 1 0 rfl rfl (show Int32.ofNat 1000 = 1000 by decide) dX4_append_15 ?_
  refine lv_icmp_ge (tgt := 48) hx hb dX4_append_16 (by decide) (fun h => absurd h (by decide)) (fun _ => ?_)
  refine lv_aload_n hx hb dX4_append_19 rfl (lv_at hl 1 rfl) ?_
  refine va_get (D := D) (ci := 4) (v := .ref t) (C := RX4) (T := TX4) (N := 10) hx hb hts in_X4 hown hE.1 hP 0 rfl rfl 0 (by decide) (hts _ w_256) (fun _ h9 => h9) rfl dX4_append_20 ?_
  refine lv_aload_n hx hb dX4_append_23 rfl (lv_at hl 1 rfl) ?_
  refine va_get (D := D) (ci := 4) (v := .int 8) (C := RX4) (T := TX4) (N := 10) hx hb hts in_X4 hown hE.1 hP 0 rfl rfl 1 (by decide) (hts _ w_429) (fun _ h9 => h9) rfl dX4_append_24 ?_
  refine lv_iload_n hx hb dX4_append_27 rfl (lv_at hl 2 rfl) ?_
  refine lv_iload_n hx hb dX4_append_28 rfl (lv_at hl 0 rfl) ?_
  refine lv_ishr hx hb dX4_append_29 ?_
  refine lv_topi (fun v191 ev191 => ?_)
  refine lv_i2b hx hb dX4_append_30 rfl ?_
  refine lv_topi (fun v192 ev192 => ?_)
  refine stb hx hb hE.1 hP hD hS 1 0 rfl rfl (in_c (by decide)) dX4_append_31 (fun g193 H locs hP hD hS => ?_)
  replace hP : va_P D vwCl [(w, .inr (4, [.ref t, .int 8, .int 0, .int (-1), .ref d, .int 0, .int 0, .int 0, .int 0, .int 0])), (t, .inl (K 0, 1000, .inl g193))] H := hP
  replace hD : va_D A [(w, .inr (4, [.ref t, .int 8, .int 0, .int (-1), .ref d, .int 0, .int 0, .int 0, .int 0, .int 0])), (t, .inl (K 0, 1000, .inl g193))] := hD
  refine lv_aload_n hx hb dX4_append_32 rfl (lv_at hl 1 rfl) ?_
  refine lv_dup hx hb dX4_append_33 rfl ?_
  refine va_get (D := D) (ci := 4) (v := .int 8) (C := RX4) (T := TX4) (N := 10) hx hb hts in_X4 hown hE.1 hP 0 rfl rfl 1 (by decide) (hts _ w_429) (fun _ h9 => h9) rfl dX4_append_34 ?_
  refine lv_iconst (v := 1) hx hb dX4_append_37 (by decide) ?_
  refine lv_iadd hx hb dX4_append_38 ?_
  refine tc (y := 9) (by decide) ?_
  refine va_put (D := D) (ci := 4) (v := .int 9) (ty := .int) (C := RX4) (T := TX4) (N := 10) hx hb hts in_X4 tyX4 tyX4_ok nmX4 hown hE.1 hP hD hS 0 rfl rfl 1 (by decide) (hts _ w_429) (fun _ h9 => h9) rfl (by decide +kernel) rfl rfl (Nat.le_of_ble_eq_true rfl) dX4_append_39 (fun H locs hP hD hS => ?_)
  replace hP : va_P D vwCl [(w, .inr (4, [.ref t, .int 9, .int 0, .int (-1), .ref d, .int 0, .int 0, .int 0, .int 0, .int 0])), (t, .inl (K 0, 1000, .inl g193))] H := hP
  replace hD : va_D A [(w, .inr (4, [.ref t, .int 9, .int 0, .int (-1), .ref d, .int 0, .int 0, .int 0, .int 0, .int 0])), (t, .inl (K 0, 1000, .inl g193))] := hD
  refine lv_iinc (v := 16) (lv' := [(2, .int 16), (0, .ref w), (1, .int p0)]) hx hb dX4_append_42 hl (k := 0) rfl (by decide) (by decide) rfl (fun ls hl => ?_)
  refine lv_goto (tgt := 3) hx hb dX4_append_45 (by decide) ?_
  refine lv_iload_n hx hb dX4_append_3 rfl (lv_at hl 0 rfl) ?_
  refine lv_if_lt (tgt := 48) hx hb dX4_append_4 (by decide) (fun h => absurd h (by decide)) (fun _ => ?_)
  refine lv_aload_n hx hb dX4_append_7 rfl (lv_at hl 1 rfl) ?_
  refine va_get (D := D) (ci := 4) (v := .int 9) (C := RX4) (T := TX4) (N := 10) hx hb hts in_X4 hown hE.1 hP 0 rfl rfl 1 (by decide) (hts _ w_429) (fun _ h9 => h9) rfl dX4_append_8 ?_
  refine lv_aload_n hx hb dX4_append_11 rfl (lv_at hl 1 rfl) ?_
  refine va_get (D := D) (ci := 4) (v := .ref t) (C := RX4) (T := TX4) (N := 10) hx hb hts in_X4 hown hE.1 hP 0 rfl rfl 0 (by decide) (hts _ w_256) (fun _ h9 => h9) rfl dX4_append_12 ?_
  refine va_alen (v := 1000) hx hb hE.1 hP 1 0 rfl rfl (show Int32.ofNat 1000 = 1000 by decide) dX4_append_15 ?_
  refine lv_icmp_ge (tgt := 48) hx hb dX4_append_16 (by decide) (fun h => absurd h (by decide)) (fun _ => ?_)
  refine lv_aload_n hx hb dX4_append_19 rfl (lv_at hl 1 rfl) ?_
  refine va_get (D := D) (ci := 4) (v := .ref t) (C := RX4) (T := TX4) (N := 10) hx hb hts in_X4 hown hE.1 hP 0 rfl rfl 0 (by decide) (hts _ w_256) (fun _ h9 => h9) rfl dX4_append_20 ?_
  refine lv_aload_n hx hb dX4_append_23 rfl (lv_at hl 1 rfl) ?_
  refine va_get (D := D) (ci := 4) (v := .int 9) (C := RX4) (T := TX4) (N := 10) hx hb hts in_X4 hown hE.1 hP 0 rfl rfl 1 (by decide) (hts _ w_429) (fun _ h9 => h9) rfl dX4_append_24 ?_
  refine lv_iload_n hx hb dX4_append_27 rfl (lv_at hl 2 rfl) ?_
  refine lv_iload_n hx hb dX4_append_28 rfl (lv_at hl 0 rfl) ?_
  refine lv_ishr hx hb dX4_append_29 ?_
  refine lv_topi (fun v194 ev194 => ?_)
  refine lv_i2b hx hb dX4_append_30 rfl ?_
  refine lv_topi (fun v195 ev195 => ?_)
  refine stb hx hb hE.1 hP hD hS 1 0 rfl rfl (in_c (by decide)) dX4_append_31 (fun g196 H locs hP hD hS => ?_)
  replace hP : va_P D vwCl [(w, .inr (4, [.ref t, .int 9, .int 0, .int (-1), .ref d, .int 0, .int 0, .int 0, .int 0, .int 0])), (t, .inl (K 0, 1000, .inl g196))] H := hP
  replace hD : va_D A [(w, .inr (4, [.ref t, .int 9, .int 0, .int (-1), .ref d, .int 0, .int 0, .int 0, .int 0, .int 0])), (t, .inl (K 0, 1000, .inl g196))] := hD
  refine lv_aload_n hx hb dX4_append_32 rfl (lv_at hl 1 rfl) ?_
  refine lv_dup hx hb dX4_append_33 rfl ?_
  refine va_get (D := D) (ci := 4) (v := .int 9) (C := RX4) (T := TX4) (N := 10) hx hb hts in_X4 hown hE.1 hP 0 rfl rfl 1 (by decide) (hts _ w_429) (fun _ h9 => h9) rfl dX4_append_34 ?_
  refine lv_iconst (v := 1) hx hb dX4_append_37 (by decide) ?_
  refine lv_iadd hx hb dX4_append_38 ?_
  refine tc (y := 10) (by decide) ?_
  refine va_put (D := D) (ci := 4) (v := .int 10) (ty := .int) (C := RX4) (T := TX4) (N := 10) hx hb hts in_X4 tyX4 tyX4_ok nmX4 hown hE.1 hP hD hS 0 rfl rfl 1 (by decide) (hts _ w_429) (fun _ h9 => h9) rfl (by decide +kernel) rfl rfl (Nat.le_of_ble_eq_true rfl) dX4_append_39 (fun H locs hP hD hS => ?_)
  replace hP : va_P D vwCl [(w, .inr (4, [.ref t, .int 10, .int 0, .int (-1), .ref d, .int 0, .int 0, .int 0, .int 0, .int 0])), (t, .inl (K 0, 1000, .inl g196))] H := hP
  replace hD : va_D A [(w, .inr (4, [.ref t, .int 10, .int 0, .int (-1), .ref d, .int 0, .int 0, .int 0, .int 0, .int 0])), (t, .inl (K 0, 1000, .inl g196))] := hD
  refine lv_iinc (v := 8) (lv' := [(2, .int 8), (0, .ref w), (1, .int p0)]) hx hb dX4_append_42 hl (k := 0) rfl (by decide) (by decide) rfl (fun ls hl => ?_)
  refine lv_goto (tgt := 3) hx hb dX4_append_45 (by decide) ?_
  refine lv_iload_n hx hb dX4_append_3 rfl (lv_at hl 0 rfl) ?_
  refine lv_if_lt (tgt := 48) hx hb dX4_append_4 (by decide) (fun h => absurd h (by decide)) (fun _ => ?_)
  refine lv_aload_n hx hb dX4_append_7 rfl (lv_at hl 1 rfl) ?_
  refine va_get (D := D) (ci := 4) (v := .int 10) (C := RX4) (T := TX4) (N := 10) hx hb hts in_X4 hown hE.1 hP 0 rfl rfl 1 (by decide) (hts _ w_429) (fun _ h9 => h9) rfl dX4_append_8 ?_
  refine lv_aload_n hx hb dX4_append_11 rfl (lv_at hl 1 rfl) ?_
  refine va_get (D := D) (ci := 4) (v := .ref t) (C := RX4) (T := TX4) (N := 10) hx hb hts in_X4 hown hE.1 hP 0 rfl rfl 0 (by decide) (hts _ w_256) (fun _ h9 => h9) rfl dX4_append_12 ?_
  refine va_alen (v := 1000) hx hb hE.1 hP 1 0 rfl rfl (show Int32.ofNat 1000 = 1000 by decide) dX4_append_15 ?_
  refine lv_icmp_ge (tgt := 48) hx hb dX4_append_16 (by decide) (fun h => absurd h (by decide)) (fun _ => ?_)
  refine lv_aload_n hx hb dX4_append_19 rfl (lv_at hl 1 rfl) ?_
  refine va_get (D := D) (ci := 4) (v := .ref t) (C := RX4) (T := TX4) (N := 10) hx hb hts in_X4 hown hE.1 hP 0 rfl rfl 0 (by decide) (hts _ w_256) (fun _ h9 => h9) rfl dX4_append_20 ?_
  refine lv_aload_n hx hb dX4_append_23 rfl (lv_at hl 1 rfl) ?_
  refine va_get (D := D) (ci := 4) (v := .int 10) (C := RX4) (T := TX4) (N := 10) hx hb hts in_X4 hown hE.1 hP 0 rfl rfl 1 (by decide) (hts _ w_429) (fun _ h9 => h9) rfl dX4_append_24 ?_
  refine lv_iload_n hx hb dX4_append_27 rfl (lv_at hl 2 rfl) ?_
  refine lv_iload_n hx hb dX4_append_28 rfl (lv_at hl 0 rfl) ?_
  refine lv_ishr hx hb dX4_append_29 ?_
  refine lv_topi (fun v197 ev197 => ?_)
  refine lv_i2b hx hb dX4_append_30 rfl ?_
  refine lv_topi (fun v198 ev198 => ?_)
  refine stb hx hb hE.1 hP hD hS 1 0 rfl rfl (in_c (by decide)) dX4_append_31 (fun g199 H locs hP hD hS => ?_)
  replace hP : va_P D vwCl [(w, .inr (4, [.ref t, .int 10, .int 0, .int (-1), .ref d, .int 0, .int 0, .int 0, .int 0, .int 0])), (t, .inl (K 0, 1000, .inl g199))] H := hP
  replace hD : va_D A [(w, .inr (4, [.ref t, .int 10, .int 0, .int (-1), .ref d, .int 0, .int 0, .int 0, .int 0, .int 0])), (t, .inl (K 0, 1000, .inl g199))] := hD
  refine lv_aload_n hx hb dX4_append_32 rfl (lv_at hl 1 rfl) ?_
  refine lv_dup hx hb dX4_append_33 rfl ?_
  refine va_get (D := D) (ci := 4) (v := .int 10) (C := RX4) (T := TX4) (N := 10) hx hb hts in_X4 hown hE.1 hP 0 rfl rfl 1 (by decide) (hts _ w_429) (fun _ h9 => h9) rfl dX4_append_34 ?_
  refine lv_iconst (v := 1) hx hb dX4_append_37 (by decide) ?_
  refine lv_iadd hx hb dX4_append_38 ?_
  refine tc (y := 11) (by decide) ?_
  refine va_put (D := D) (ci := 4) (v := .int 11) (ty := .int) (C := RX4) (T := TX4) (N := 10) hx hb hts in_X4 tyX4 tyX4_ok nmX4 hown hE.1 hP hD hS 0 rfl rfl 1 (by decide) (hts _ w_429) (fun _ h9 => h9) rfl (by decide +kernel) rfl rfl (Nat.le_of_ble_eq_true rfl) dX4_append_39 (fun H locs hP hD hS => ?_)
  replace hP : va_P D vwCl [(w, .inr (4, [.ref t, .int 11, .int 0, .int (-1), .ref d, .int 0, .int 0, .int 0, .int 0, .int 0])), (t, .inl (K 0, 1000, .inl g199))] H := hP
  replace hD : va_D A [(w, .inr (4, [.ref t, .int 11, .int 0, .int (-1), .ref d, .int 0, .int 0, .int 0, .int 0, .int 0])), (t, .inl (K 0, 1000, .inl g199))] := hD
  refine lv_iinc (v := 0) (lv' := [(2, .int 0), (0, .ref w), (1, .int p0)]) hx hb dX4_append_42 hl (k := 0) rfl (by decide) (by decide) rfl (fun ls hl => ?_)
  refine lv_goto (tgt := 3) hx hb dX4_append_45 (by decide) ?_
  refine lv_iload_n hx hb dX4_append_3 rfl (lv_at hl 0 rfl) ?_
  refine lv_if_lt (tgt := 48) hx hb dX4_append_4 (by decide) (fun h => absurd h (by decide)) (fun _ => ?_)
  refine lv_aload_n hx hb dX4_append_7 rfl (lv_at hl 1 rfl) ?_
  refine va_get (D := D) (ci := 4) (v := .int 11) (C := RX4) (T := TX4) (N := 10) hx hb hts in_X4 hown hE.1 hP 0 rfl rfl 1 (by decide) (hts _ w_429) (fun _ h9 => h9) rfl dX4_append_8 ?_
  refine lv_aload_n hx hb dX4_append_11 rfl (lv_at hl 1 rfl) ?_
  refine va_get (D := D) (ci := 4) (v := .ref t) (C := RX4) (T := TX4) (N := 10) hx hb hts in_X4 hown hE.1 hP 0 rfl rfl 0 (by decide) (hts _ w_256) (fun _ h9 => h9) rfl dX4_append_12 ?_
  refine va_alen (v := 1000) hx hb hE.1 hP 1 0 rfl rfl (show Int32.ofNat 1000 = 1000 by decide) dX4_append_15 ?_
  refine lv_icmp_ge (tgt := 48) hx hb dX4_append_16 (by decide) (fun h => absurd h (by decide)) (fun _ => ?_)
  refine lv_aload_n hx hb dX4_append_19 rfl (lv_at hl 1 rfl) ?_
  refine va_get (D := D) (ci := 4) (v := .ref t) (C := RX4) (T := TX4) (N := 10) hx hb hts in_X4 hown hE.1 hP 0 rfl rfl 0 (by decide) (hts _ w_256) (fun _ h9 => h9) rfl dX4_append_20 ?_
  refine lv_aload_n hx hb dX4_append_23 rfl (lv_at hl 1 rfl) ?_
  refine va_get (D := D) (ci := 4) (v := .int 11) (C := RX4) (T := TX4) (N := 10) hx hb hts in_X4 hown hE.1 hP 0 rfl rfl 1 (by decide) (hts _ w_429) (fun _ h9 => h9) rfl dX4_append_24 ?_
  refine lv_iload_n hx hb dX4_append_27 rfl (lv_at hl 2 rfl) ?_
  refine lv_iload_n hx hb dX4_append_28 rfl (lv_at hl 0 rfl) ?_
  refine lv_ishr hx hb dX4_append_29 ?_
  refine lv_topi (fun v200 ev200 => ?_)
  refine lv_i2b hx hb dX4_append_30 rfl ?_
  refine lv_topi (fun v201 ev201 => ?_)
  refine stb hx hb hE.1 hP hD hS 1 0 rfl rfl (in_c (by decide)) dX4_append_31 (fun g202 H locs hP hD hS => ?_)
  replace hP : va_P D vwCl [(w, .inr (4, [.ref t, .int 11, .int 0, .int (-1), .ref d, .int 0, .int 0, .int 0, .int 0, .int 0])), (t, .inl (K 0, 1000, .inl g202))] H := hP
  replace hD : va_D A [(w, .inr (4, [.ref t, .int 11, .int 0, .int (-1), .ref d, .int 0, .int 0, .int 0, .int 0, .int 0])), (t, .inl (K 0, 1000, .inl g202))] := hD
  refine lv_aload_n hx hb dX4_append_32 rfl (lv_at hl 1 rfl) ?_
  refine lv_dup hx hb dX4_append_33 rfl ?_
  refine va_get (D := D) (ci := 4) (v := .int 11) (C := RX4) (T := TX4) (N := 10) hx hb hts in_X4 hown hE.1 hP 0 rfl rfl 1 (by decide) (hts _ w_429) (fun _ h9 => h9) rfl dX4_append_34 ?_
  refine lv_iconst (v := 1) hx hb dX4_append_37 (by decide) ?_
  refine lv_iadd hx hb dX4_append_38 ?_
  refine tc (y := 12) (by decide) ?_
  refine va_put (D := D) (ci := 4) (v := .int 12) (ty := .int) (C := RX4) (T := TX4) (N := 10) hx hb hts in_X4 tyX4 tyX4_ok nmX4 hown hE.1 hP hD hS 0 rfl rfl 1 (by decide) (hts _ w_429) (fun _ h9 => h9) rfl (by decide +kernel) rfl rfl (Nat.le_of_ble_eq_true rfl) dX4_append_39 (fun H locs hP hD hS => ?_)
  replace hP : va_P D vwCl [(w, .inr (4, [.ref t, .int 12, .int 0, .int (-1), .ref d, .int 0, .int 0, .int 0, .int 0, .int 0])), (t, .inl (K 0, 1000, .inl g202))] H := hP
  replace hD : va_D A [(w, .inr (4, [.ref t, .int 12, .int 0, .int (-1), .ref d, .int 0, .int 0, .int 0, .int 0, .int 0])), (t, .inl (K 0, 1000, .inl g202))] := hD
  refine lv_iinc (v := (-8)) (lv' := [(2, .int (-8)), (0, .ref w), (1, .int p0)]) hx hb dX4_append_42 hl (k := 0) rfl (by decide) (by decide) rfl (fun ls hl => ?_)
  refine lv_goto (tgt := 3) hx hb dX4_append_45 (by decide) ?_
  refine lv_iload_n hx hb dX4_append_3 rfl (lv_at hl 0 rfl) ?_
  refine lv_if_lt (tgt := 48) hx hb dX4_append_4 (by decide) (fun _ => ?_) (fun h => absurd h (by decide))
  refine W.widen (k := 0) (n := 0) (by decide) (by decide) ?_
  exact ch_vret hC hr hk hS dX4_append_48 g202 trivial (hP.sub [0, 1] rfl) (hD.sub [0, 1] (by decide) rfl)
set_option maxRecDepth 40000 in
set_option maxHeartbeats 4000000 in
theorem c_X4_append_12 (l : Launch) (D : va_G) (K : Nat → ClassId) (w t d : Nat) (g : Nat → Int32) (p0 : Int32) : Cv (S := (Nat → Int32)) l D K yX4_append cX4_append 3 0 0 0 0 [.ref w, .int p0] [(w, .inr (4, [.ref t, .int 12, .int 0, .int (-1), .ref d, .int 0, .int 0, .int 0, .int 0, .int 0])), (t, .inl (K 0, 1000, .inl g))] (fun _ => True) (fun u => [(w, .inr (4, [.ref t, .int 16, .int 0, .int (-1), .ref d, .int 0, .int 0, .int 0, .int 0, .int 0])), (t, .inl (K 0, 1000, .inl u))]) := by
  intro sz
  refine ch_of (Qc := fun A => va_Qv (S := (Nat → Int32)) (fun _ => True) (chB D A (fun u => [(w, .inr (4, [.ref t, .int 16, .int 0, .int (-1), .ref d, .int 0, .int 0, .int 0, .int 0, .int 0])), (t, .inl (K 0, 1000, .inl u))])) A) (by decide) (Nat.le_of_ble_eq_true rfl) ?_
  intro p e s m below meth c A hC hr hk hin hE hD hA H locs hP hS ls hl
  replace hC : CallFix p m c cX4_append 3 s [.ref w, .int p0].toArray wl RX4 := hC
  have hx := hC.1
  have hb := hC.2.1
  have hml := hC.2.2.1
  have hown := hC.2.2.2.1
  have hts := hC.2.2.2.2
  replace hl : lv_has ls 3 [(0, .ref w), (1, .int p0)] := hl
  refine lv_bipush (v := 24) hx hb dX4_append_0 (by decide) ?_
  refine lv_istore_n (lv' := [(2, .int 24), (0, .ref w), (1, .int p0)]) hx hb dX4_append_2 rfl hl (by decide) rfl (fun ls hl => ?_)
  refine lv_iload_n hx hb dX4_append_3 rfl (lv_at hl 0 rfl) ?_
  refine lv_if_lt (tgt := 48) hx hb dX4_append_4 (by decide) (fun h => absurd h (by decide)) (fun _ => ?_)
  refine lv_aload_n hx hb dX4_append_7 rfl (lv_at hl 1 rfl) ?_
  refine va_get (D := D) (ci := 4) (v := .int 12) (C := RX4) (T := TX4) (N := 10) hx hb hts in_X4 hown hE.1 hP 0 rfl rfl 1 (by decide) (hts _ w_429) (fun _ h9 => h9) rfl dX4_append_8 ?_
  refine lv_aload_n hx hb dX4_append_11 rfl (lv_at hl 1 rfl) ?_
  refine va_get (D := D) (ci := 4) (v := .ref t) (C := RX4) (T := TX4) (N := 10) hx hb hts in_X4 hown hE.1 hP 0 rfl rfl 0 (by decide) (hts _ w_256) (fun _ h9 => h9) rfl dX4_append_12 ?_
  refine va_alen (v := 1000) hx hb hE.1 hP 1 0 rfl rfl (show Int32.ofNat 1000 = 1000 by decide) dX4_append_15 ?_
  refine lv_icmp_ge (tgt := 48) hx hb dX4_append_16 (by decide) (fun h => absurd h (by decide)) (fun _ => ?_)
  refine lv_aload_n hx hb dX4_append_19 rfl (lv_at hl 1 rfl) ?_
  refine va_get (D := D) (ci := 4) (v := .ref t) (C := RX4) (T := TX4) (N := 10) hx hb hts in_X4 hown hE.1 hP 0 rfl rfl 0 (by decide) (hts _ w_256) (fun _ h9 => h9) rfl dX4_append_20 ?_
  refine lv_aload_n hx hb dX4_append_23 rfl (lv_at hl 1 rfl) ?_
  refine va_get (D := D) (ci := 4) (v := .int 12) (C := RX4) (T := TX4) (N := 10) hx hb hts in_X4 hown hE.1 hP 0 rfl rfl 1 (by decide) (hts _ w_429) (fun _ h9 => h9) rfl dX4_append_24 ?_
  refine lv_iload_n hx hb dX4_append_27 rfl (lv_at hl 2 rfl) ?_
  refine lv_iload_n hx hb dX4_append_28 rfl (lv_at hl 0 rfl) ?_
  refine lv_ishr hx hb dX4_append_29 ?_
  refine lv_topi (fun v203 ev203 => ?_)
  refine lv_i2b hx hb dX4_append_30 rfl ?_
  refine lv_topi (fun v204 ev204 => ?_)
  refine stb hx hb hE.1 hP hD hS 1 0 rfl rfl (in_c (by decide)) dX4_append_31 (fun g205 H locs hP hD hS => ?_)
  replace hP : va_P D vwCl [(w, .inr (4, [.ref t, .int 12, .int 0, .int (-1), .ref d, .int 0, .int 0, .int 0, .int 0, .int 0])), (t, .inl (K 0, 1000, .inl g205))] H := hP
  replace hD : va_D A [(w, .inr (4, [.ref t, .int 12, .int 0, .int (-1), .ref d, .int 0, .int 0, .int 0, .int 0, .int 0])), (t, .inl (K 0, 1000, .inl g205))] := hD
  refine lv_aload_n hx hb dX4_append_32 rfl (lv_at hl 1 rfl) ?_
  refine lv_dup hx hb dX4_append_33 rfl ?_
  refine va_get (D := D) (ci := 4) (v := .int 12) (C := RX4) (T := TX4) (N := 10) hx hb hts in_X4 hown hE.1 hP 0 rfl rfl 1 (by decide) (hts _ w_429) (fun _ h9 => h9) rfl dX4_append_34 ?_
  refine lv_iconst (v := 1) hx hb dX4_append_37 (by decide) ?_
  refine lv_iadd hx hb dX4_append_38 ?_
  refine tc (y := 13) (by decide) ?_
  refine va_put (D := D) (ci := 4) (v := .int 13) (ty := .int) (C := RX4) (T := TX4) (N := 10) hx hb hts in_X4 tyX4 tyX4_ok nmX4 hown hE.1 hP hD hS 0 rfl rfl 1 (by decide) (hts _ w_429) (fun _ h9 => h9) rfl (by decide +kernel) rfl rfl (Nat.le_of_ble_eq_true rfl) dX4_append_39 (fun H locs hP hD hS => ?_)
  replace hP : va_P D vwCl [(w, .inr (4, [.ref t, .int 13, .int 0, .int (-1), .ref d, .int 0, .int 0, .int 0, .int 0, .int 0])), (t, .inl (K 0, 1000, .inl g205))] H := hP
  replace hD : va_D A [(w, .inr (4, [.ref t, .int 13, .int 0, .int (-1), .ref d, .int 0, .int 0, .int 0, .int 0, .int 0])), (t, .inl (K 0, 1000, .inl g205))] := hD
  refine lv_iinc (v := 16) (lv' := [(2, .int 16), (0, .ref w), (1, .int p0)]) hx hb dX4_append_42 hl (k := 0) rfl (by decide) (by decide) rfl (fun ls hl => ?_)
  refine lv_goto (tgt := 3) hx hb dX4_append_45 (by decide) ?_
  refine lv_iload_n hx hb dX4_append_3 rfl (lv_at hl 0 rfl) ?_
  refine lv_if_lt (tgt := 48) hx hb dX4_append_4 (by decide) (fun h => absurd h (by decide)) (fun _ => ?_)
  refine lv_aload_n hx hb dX4_append_7 rfl (lv_at hl 1 rfl) ?_
  refine va_get (D := D) (ci := 4) (v := .int 13) (C := RX4) (T := TX4) (N := 10) hx hb hts in_X4 hown hE.1 hP 0 rfl rfl 1 (by decide) (hts _ w_429) (fun _ h9 => h9) rfl dX4_append_8 ?_
  refine lv_aload_n hx hb dX4_append_11 rfl (lv_at hl 1 rfl) ?_
  refine va_get (D := D) (ci := 4) (v := .ref t) (C := RX4) (T := TX4) (N := 10) hx hb hts in_X4 hown hE.1 hP 0 rfl rfl 0 (by decide) (hts _ w_256) (fun _ h9 => h9) rfl dX4_append_12 ?_
  refine va_alen (v := 1000) hx hb hE.1 hP 1 0 rfl rfl (show Int32.ofNat 1000 = 1000 by decide) dX4_append_15 ?_
  refine lv_icmp_ge (tgt := 48) hx hb dX4_append_16 (by decide) (fun h => absurd h (by decide)) (fun _ => ?_)
  refine lv_aload_n hx hb dX4_append_19 rfl (lv_at hl 1 rfl) ?_
  refine va_get (D := D) (ci := 4) (v := .ref t) (C := RX4) (T := TX4) (N := 10) hx hb hts in_X4 hown hE.1 hP 0 rfl rfl 0 (by decide) (hts _ w_256) (fun _ h9 => h9) rfl dX4_append_20 ?_
  refine lv_aload_n hx hb dX4_append_23 rfl (lv_at hl 1 rfl) ?_
  refine va_get (D := D) (ci := 4) (v := .int 13) (C := RX4) (T := TX4) (N := 10) hx hb hts in_X4 hown hE.1 hP 0 rfl rfl 1 (by decide) (hts _ w_429) (fun _ h9 => h9) rfl dX4_append_24 ?_
  refine lv_iload_n hx hb dX4_append_27 rfl (lv_at hl 2 rfl) ?_
  refine lv_iload_n hx hb dX4_append_28 rfl (lv_at hl 0 rfl) ?_
  refine lv_ishr hx hb dX4_append_29 ?_
  refine lv_topi (fun v206 ev206 => ?_)
  refine lv_i2b hx hb dX4_append_30 rfl ?_
  refine lv_topi (fun v207 ev207 => ?_)
  refine stb hx hb hE.1 hP hD hS 1 0 rfl rfl (in_c (by decide)) dX4_append_31 (fun g208 H locs hP hD hS => ?_)
  replace hP : va_P D vwCl [(w, .inr (4, [.ref t, .int 13, .int 0, .int (-1), .ref d, .int 0, .int 0, .int 0, .int 0, .int 0])), (t, .inl (K 0, 1000, .inl g208))] H := hP
  replace hD : va_D A [(w, .inr (4, [.ref t, .int 13, .int 0, .int (-1), .ref d, .int 0, .int 0, .int 0, .int 0, .int 0])), (t, .inl (K 0, 1000, .inl g208))] := hD
  refine lv_aload_n hx hb dX4_append_32 rfl (lv_at hl 1 rfl) ?_
  refine lv_dup hx hb dX4_append_33 rfl ?_
  refine va_get (D := D) (ci := 4) (v := .int 13) (C := RX4) (T := TX4) (N := 10) hx hb hts in_X4 hown hE.1 hP 0 rfl rfl 1 (by decide) (hts _ w_429) (fun _ h9 => h9) rfl dX4_append_34 ?_
  refine lv_iconst (v := 1) hx hb dX4_append_37 (by decide) ?_
  refine lv_iadd hx hb dX4_append_38 ?_
  refine tc (y := 14) (by decide) ?_
  refine va_put (D := D) (ci := 4) (v := .int 14) (ty := .int) (C := RX4) (T := TX4) (N := 10) hx hb hts in_X4 tyX4 tyX4_ok nmX4 hown hE.1 hP hD hS 0 rfl rfl 1 (by decide) (hts _ w_429) (fun _ h9 => h9) rfl (by decide +kernel) rfl rfl (Nat.le_of_ble_eq_true rfl) dX4_append_39 (fun H locs hP hD hS => ?_)
  replace hP : va_P D vwCl [(w, .inr (4, [.ref t, .int 14, .int 0, .int (-1), .ref d, .int 0, .int 0, .int 0, .int 0, .int 0])), (t, .inl (K 0, 1000, .inl g208))] H := hP
  replace hD : va_D A [(w, .inr (4, [.ref t, .int 14, .int 0, .int (-1), .ref d, .int 0, .int 0, .int 0, .int 0, .int 0])), (t, .inl (K 0, 1000, .inl g208))] := hD
  refine lv_iinc (v := 8) (lv' := [(2, .int 8), (0, .ref w), (1, .int p0)]) hx hb dX4_append_42 hl (k := 0) rfl (by decide) (by decide) rfl (fun ls hl => ?_)
  refine lv_goto (tgt := 3) hx hb dX4_append_45 (by decide) ?_
  refine lv_iload_n hx hb dX4_append_3 rfl (lv_at hl 0 rfl) ?_
  refine lv_if_lt (tgt := 48) hx hb dX4_append_4 (by decide) (fun h => absurd h (by decide)) (fun _ => ?_)
  refine lv_aload_n hx hb dX4_append_7 rfl (lv_at hl 1 rfl) ?_
  refine va_get (D := D) (ci := 4) (v := .int 14) (C := RX4) (T := TX4) (N := 10) hx hb hts in_X4 hown hE.1 hP 0 rfl rfl 1 (by decide) (hts _ w_429) (fun _ h9 => h9) rfl dX4_append_8 ?_
  refine lv_aload_n hx hb dX4_append_11 rfl (lv_at hl 1 rfl) ?_
  refine va_get (D := D) (ci := 4) (v := .ref t) (C := RX4) (T := TX4) (N := 10) hx hb hts in_X4 hown hE.1 hP 0 rfl rfl 0 (by decide) (hts _ w_256) (fun _ h9 => h9) rfl dX4_append_12 ?_
  refine va_alen (v := 1000) hx hb hE.1 hP 1 0 rfl rfl (show Int32.ofNat 1000 = 1000 by decide) dX4_append_15 ?_
  refine lv_icmp_ge (tgt := 48) hx hb dX4_append_16 (by decide) (fun h => absurd h (by decide)) (fun _ => ?_)
  refine lv_aload_n hx hb dX4_append_19 rfl (lv_at hl 1 rfl) ?_
  refine va_get (D := D) (ci := 4) (v := .ref t) (C := RX4) (T := TX4) (N := 10) hx hb hts in_X4 hown hE.1 hP 0 rfl rfl 0 (by decide) (hts _ w_256) (fun _ h9 => h9) rfl dX4_append_20 ?_
  refine lv_aload_n hx hb dX4_append_23 rfl (lv_at hl 1 rfl) ?_
  refine va_get (D := D) (ci := 4) (v := .int 14) (C := RX4) (T := TX4) (N := 10) hx hb hts in_X4 hown hE.1 hP 0 rfl rfl 1 (by decide) (hts _ w_429) (fun _ h9 => h9) rfl dX4_append_24 ?_
  refine lv_iload_n hx hb dX4_append_27 rfl (lv_at hl 2 rfl) ?_
  refine lv_iload_n hx hb dX4_append_28 rfl (lv_at hl 0 rfl) ?_
  refine lv_ishr hx hb dX4_append_29 ?_
  refine lv_topi (fun v209 ev209 => ?_)
  refine lv_i2b hx hb dX4_append_30 rfl ?_
  refine lv_topi (fun v210 ev210 => ?_)
  refine stb hx hb hE.1 hP hD hS 1 0 rfl rfl (in_c (by decide)) dX4_append_31 (fun g211 H locs hP hD hS => ?_)
  replace hP : va_P D vwCl [(w, .inr (4, [.ref t, .int 14, .int 0, .int (-1), .ref d, .int 0, .int 0, .int 0, .int 0, .int 0])), (t, .inl (K 0, 1000, .inl g211))] H := hP
  replace hD : va_D A [(w, .inr (4, [.ref t, .int 14, .int 0, .int (-1), .ref d, .int 0, .int 0, .int 0, .int 0, .int 0])), (t, .inl (K 0, 1000, .inl g211))] := hD
  refine lv_aload_n hx hb dX4_append_32 rfl (lv_at hl 1 rfl) ?_
  refine lv_dup hx hb dX4_append_33 rfl ?_
  refine va_get (D := D) (ci := 4) (v := .int 14) (C := RX4) (T := TX4) (N := 10) hx hb hts in_X4 hown hE.1 hP 0 rfl rfl 1 (by decide) (hts _ w_429) (fun _ h9 => h9) rfl dX4_append_34 ?_
  refine lv_iconst (v := 1) hx hb dX4_append_37 (by decide) ?_
  refine lv_iadd hx hb dX4_append_38 ?_
  refine tc (y := 15) (by decide) ?_
  refine va_put (D := D) (ci := 4) (v := .int 15) (ty := .int) (C := RX4) (T := TX4) (N := 10) hx hb hts in_X4 tyX4 tyX4_ok nmX4 hown hE.1 hP hD hS 0 rfl rfl 1 (by decide) (hts _ w_429) (fun _ h9 => h9) rfl (by decide +kernel) rfl rfl (Nat.le_of_ble_eq_true rfl) dX4_append_39 (fun H locs hP hD hS => ?_)
  replace hP : va_P D vwCl [(w, .inr (4, [.ref t, .int 15, .int 0, .int (-1), .ref d, .int 0, .int 0, .int 0, .int 0, .int 0])), (t, .inl (K 0, 1000, .inl g211))] H := hP
  replace hD : va_D A [(w, .inr (4, [.ref t, .int 15, .int 0, .int (-1), .ref d, .int 0, .int 0, .int 0, .int 0, .int 0])), (t, .inl (K 0, 1000, .inl g211))] := hD
  refine lv_iinc (v := 0) (lv' := [(2, .int 0), (0, .ref w), (1, .int p0)]) hx hb dX4_append_42 hl (k := 0) rfl (by decide) (by decide) rfl (fun ls hl => ?_)
  refine lv_goto (tgt := 3) hx hb dX4_append_45 (by decide) ?_
  refine lv_iload_n hx hb dX4_append_3 rfl (lv_at hl 0 rfl) ?_
  refine lv_if_lt (tgt := 48) hx hb dX4_append_4 (by decide) (fun h => absurd h (by decide)) (fun _ => ?_)
  refine lv_aload_n hx hb dX4_append_7 rfl (lv_at hl 1 rfl) ?_
  refine va_get (D := D) (ci := 4) (v := .int 15) (C := RX4) (T := TX4) (N := 10) hx hb hts in_X4 hown hE.1 hP 0 rfl rfl 1 (by decide) (hts _ w_429) (fun _ h9 => h9) rfl dX4_append_8 ?_
  refine lv_aload_n hx hb dX4_append_11 rfl (lv_at hl 1 rfl) ?_
  refine va_get (D := D) (ci := 4) (v := .ref t) (C := RX4) (T := TX4) (N := 10) hx hb hts in_X4 hown hE.1 hP 0 rfl rfl 0 (by decide) (hts _ w_256) (fun _ h9 => h9) rfl dX4_append_12 ?_
  refine va_alen (v := 1000) hx hb hE.1 hP 1 0 rfl rfl (show Int32.ofNat 1000 = 1000 by decide) dX4_append_15 ?_
  refine lv_icmp_ge (tgt := 48) hx hb dX4_append_16 (by decide) (fun h => absurd h (by decide)) (fun _ => ?_)
  refine lv_aload_n hx hb dX4_append_19 rfl (lv_at hl 1 rfl) ?_
  refine va_get (D := D) (ci := 4) (v := .ref t) (C := RX4) (T := TX4) (N := 10) hx hb hts in_X4 hown hE.1 hP 0 rfl rfl 0 (by decide) (hts _ w_256) (fun _ h9 => h9) rfl dX4_append_20 ?_
  refine lv_aload_n hx hb dX4_append_23 rfl (lv_at hl 1 rfl) ?_
  refine va_get (D := D) (ci := 4) (v := .int 15) (C := RX4) (T := TX4) (N := 10) hx hb hts in_X4 hown hE.1 hP 0 rfl rfl 1 (by decide) (hts _ w_429) (fun _ h9 => h9) rfl dX4_append_24 ?_
  refine lv_iload_n hx hb dX4_append_27 rfl (lv_at hl 2 rfl) ?_
  refine lv_iload_n hx hb dX4_append_28 rfl (lv_at hl 0 rfl) ?_
  refine lv_ishr hx hb dX4_append_29 ?_
  refine lv_topi (fun v212 ev212 => ?_)
  refine lv_i2b hx hb dX4_append_30 rfl ?_
  refine lv_topi (fun v213 ev213 => ?_)
  refine stb hx hb hE.1 hP hD hS 1 0 rfl rfl (in_c (by decide)) dX4_append_31 (fun g214 H locs hP hD hS => ?_)
  replace hP : va_P D vwCl [(w, .inr (4, [.ref t, .int 15, .int 0, .int (-1), .ref d, .int 0, .int 0, .int 0, .int 0, .int 0])), (t, .inl (K 0, 1000, .inl g214))] H := hP
  replace hD : va_D A [(w, .inr (4, [.ref t, .int 15, .int 0, .int (-1), .ref d, .int 0, .int 0, .int 0, .int 0, .int 0])), (t, .inl (K 0, 1000, .inl g214))] := hD
  refine lv_aload_n hx hb dX4_append_32 rfl (lv_at hl 1 rfl) ?_
  refine lv_dup hx hb dX4_append_33 rfl ?_
  refine va_get (D := D) (ci := 4) (v := .int 15) (C := RX4) (T := TX4) (N := 10) hx hb hts in_X4 hown hE.1 hP 0 rfl rfl 1 (by decide) (hts _ w_429) (fun _ h9 => h9) rfl dX4_append_34 ?_
  refine lv_iconst (v := 1) hx hb dX4_append_37 (by decide) ?_
  refine lv_iadd hx hb dX4_append_38 ?_
  refine tc (y := 16) (by decide) ?_
  refine va_put (D := D) (ci := 4) (v := .int 16) (ty := .int) (C := RX4) (T := TX4) (N := 10) hx hb hts in_X4 tyX4 tyX4_ok nmX4 hown hE.1 hP hD hS 0 rfl rfl 1 (by decide) (hts _ w_429) (fun _ h9 => h9) rfl (by decide +kernel) rfl rfl (Nat.le_of_ble_eq_true rfl) dX4_append_39 (fun H locs hP hD hS => ?_)
  replace hP : va_P D vwCl [(w, .inr (4, [.ref t, .int 16, .int 0, .int (-1), .ref d, .int 0, .int 0, .int 0, .int 0, .int 0])), (t, .inl (K 0, 1000, .inl g214))] H := hP
  replace hD : va_D A [(w, .inr (4, [.ref t, .int 16, .int 0, .int (-1), .ref d, .int 0, .int 0, .int 0, .int 0, .int 0])), (t, .inl (K 0, 1000, .inl g214))] := hD
  refine lv_iinc (v := (-8)) (lv' := [(2, .int (-8)), (0, .ref w), (1, .int p0)]) hx hb dX4_append_42 hl (k := 0) rfl (by decide) (by decide) rfl (fun ls hl => ?_)
  refine lv_goto (tgt := 3) hx hb dX4_append_45 (by decide) ?_
  refine lv_iload_n hx hb dX4_append_3 rfl (lv_at hl 0 rfl) ?_
  refine lv_if_lt (tgt := 48) hx hb dX4_append_4 (by decide) (fun _ => ?_) (fun h => absurd h (by decide))
  refine W.widen (k := 0) (n := 0) (by decide) (by decide) ?_
  exact ch_vret hC hr hk hS dX4_append_48 g214 trivial (hP.sub [0, 1] rfl) (hD.sub [0, 1] (by decide) rfl)
set_option maxRecDepth 40000 in
set_option maxHeartbeats 4000000 in
theorem c_X4_append_16 (l : Launch) (D : va_G) (K : Nat → ClassId) (w t d : Nat) (g : Nat → Int32) (p0 : Int32) : Cv (S := (Nat → Int32)) l D K yX4_append cX4_append 3 0 0 0 0 [.ref w, .int p0] [(w, .inr (4, [.ref t, .int 16, .int 0, .int (-1), .ref d, .int 0, .int 0, .int 0, .int 0, .int 0])), (t, .inl (K 0, 1000, .inl g))] (fun _ => True) (fun u => [(w, .inr (4, [.ref t, .int 20, .int 0, .int (-1), .ref d, .int 0, .int 0, .int 0, .int 0, .int 0])), (t, .inl (K 0, 1000, .inl u))]) := by
  intro sz
  refine ch_of (Qc := fun A => va_Qv (S := (Nat → Int32)) (fun _ => True) (chB D A (fun u => [(w, .inr (4, [.ref t, .int 20, .int 0, .int (-1), .ref d, .int 0, .int 0, .int 0, .int 0, .int 0])), (t, .inl (K 0, 1000, .inl u))])) A) (by decide) (Nat.le_of_ble_eq_true rfl) ?_
  intro p e s m below meth c A hC hr hk hin hE hD hA H locs hP hS ls hl
  replace hC : CallFix p m c cX4_append 3 s [.ref w, .int p0].toArray wl RX4 := hC
  have hx := hC.1
  have hb := hC.2.1
  have hml := hC.2.2.1
  have hown := hC.2.2.2.1
  have hts := hC.2.2.2.2
  replace hl : lv_has ls 3 [(0, .ref w), (1, .int p0)] := hl
  refine lv_bipush (v := 24) hx hb dX4_append_0 (by decide) ?_
  refine lv_istore_n (lv' := [(2, .int 24), (0, .ref w), (1, .int p0)]) hx hb dX4_append_2 rfl hl (by decide) rfl (fun ls hl => ?_)
  refine lv_iload_n hx hb dX4_append_3 rfl (lv_at hl 0 rfl) ?_
  refine lv_if_lt (tgt := 48) hx hb dX4_append_4 (by decide) (fun h => absurd h (by decide)) (fun _ => ?_)
  refine lv_aload_n hx hb dX4_append_7 rfl (lv_at hl 1 rfl) ?_
  refine va_get (D := D) (ci := 4) (v := .int 16) (C := RX4) (T := TX4) (N := 10) hx hb hts in_X4 hown hE.1 hP 0 rfl rfl 1 (by decide) (hts _ w_429) (fun _ h9 => h9) rfl dX4_append_8 ?_
  refine lv_aload_n hx hb dX4_append_11 rfl (lv_at hl 1 rfl) ?_
  refine va_get (D := D) (ci := 4) (v := .ref t) (C := RX4) (T := TX4) (N := 10) hx hb hts in_X4 hown hE.1 hP 0 rfl rfl 0 (by decide) (hts _ w_256) (fun _ h9 => h9) rfl dX4_append_12 ?_
  refine va_alen (v := 1000) hx hb hE.1 hP 1 0 rfl rfl (show Int32.ofNat 1000 = 1000 by decide) dX4_append_15 ?_
  refine lv_icmp_ge (tgt := 48) hx hb dX4_append_16 (by decide) (fun h => absurd h (by decide)) (fun _ => ?_)
  refine lv_aload_n hx hb dX4_append_19 rfl (lv_at hl 1 rfl) ?_
  refine va_get (D := D) (ci := 4) (v := .ref t) (C := RX4) (T := TX4) (N := 10) hx hb hts in_X4 hown hE.1 hP 0 rfl rfl 0 (by decide) (hts _ w_256) (fun _ h9 => h9) rfl dX4_append_20 ?_
  refine lv_aload_n hx hb dX4_append_23 rfl (lv_at hl 1 rfl) ?_
  refine va_get (D := D) (ci := 4) (v := .int 16) (C := RX4) (T := TX4) (N := 10) hx hb hts in_X4 hown hE.1 hP 0 rfl rfl 1 (by decide) (hts _ w_429) (fun _ h9 => h9) rfl dX4_append_24 ?_
  refine lv_iload_n hx hb dX4_append_27 rfl (lv_at hl 2 rfl) ?_
  refine lv_iload_n hx hb dX4_append_28 rfl (lv_at hl 0 rfl) ?_
  refine lv_ishr hx hb dX4_append_29 ?_
  refine lv_topi (fun v215 ev215 => ?_)
  refine lv_i2b hx hb dX4_append_30 rfl ?_
  refine lv_topi (fun v216 ev216 => ?_)
  refine stb hx hb hE.1 hP hD hS 1 0 rfl rfl (in_c (by decide)) dX4_append_31 (fun g217 H locs hP hD hS => ?_)
  replace hP : va_P D vwCl [(w, .inr (4, [.ref t, .int 16, .int 0, .int (-1), .ref d, .int 0, .int 0, .int 0, .int 0, .int 0])), (t, .inl (K 0, 1000, .inl g217))] H := hP
  replace hD : va_D A [(w, .inr (4, [.ref t, .int 16, .int 0, .int (-1), .ref d, .int 0, .int 0, .int 0, .int 0, .int 0])), (t, .inl (K 0, 1000, .inl g217))] := hD
  refine lv_aload_n hx hb dX4_append_32 rfl (lv_at hl 1 rfl) ?_
  refine lv_dup hx hb dX4_append_33 rfl ?_
  refine va_get (D := D) (ci := 4) (v := .int 16) (C := RX4) (T := TX4) (N := 10) hx hb hts in_X4 hown hE.1 hP 0 rfl rfl 1 (by decide) (hts _ w_429) (fun _ h9 => h9) rfl dX4_append_34 ?_
  refine lv_iconst (v := 1) hx hb dX4_append_37 (by decide) ?_
  refine lv_iadd hx hb dX4_append_38 ?_
  refine tc (y := 17) (by decide) ?_
  refine va_put (D := D) (ci := 4) (v := .int 17) (ty := .int) (C := RX4) (T := TX4) (N := 10) hx hb hts in_X4 tyX4 tyX4_ok nmX4 hown hE.1 hP hD hS 0 rfl rfl 1 (by decide) (hts _ w_429) (fun _ h9 => h9) rfl (by decide +kernel) rfl rfl (Nat.le_of_ble_eq_true rfl) dX4_append_39 (fun H locs hP hD hS => ?_)
  replace hP : va_P D vwCl [(w, .inr (4, [.ref t, .int 17, .int 0, .int (-1), .ref d, .int 0, .int 0, .int 0, .int 0, .int 0])), (t, .inl (K 0, 1000, .inl g217))] H := hP
  replace hD : va_D A [(w, .inr (4, [.ref t, .int 17, .int 0, .int (-1), .ref d, .int 0, .int 0, .int 0, .int 0, .int 0])), (t, .inl (K 0, 1000, .inl g217))] := hD
  refine lv_iinc (v := 16) (lv' := [(2, .int 16), (0, .ref w), (1, .int p0)]) hx hb dX4_append_42 hl (k := 0) rfl (by decide) (by decide) rfl (fun ls hl => ?_)
  refine lv_goto (tgt := 3) hx hb dX4_append_45 (by decide) ?_
  refine lv_iload_n hx hb dX4_append_3 rfl (lv_at hl 0 rfl) ?_
  refine lv_if_lt (tgt := 48) hx hb dX4_append_4 (by decide) (fun h => absurd h (by decide)) (fun _ => ?_)
  refine lv_aload_n hx hb dX4_append_7 rfl (lv_at hl 1 rfl) ?_
  refine va_get (D := D) (ci := 4) (v := .int 17) (C := RX4) (T := TX4) (N := 10) hx hb hts in_X4 hown hE.1 hP 0 rfl rfl 1 (by decide) (hts _ w_429) (fun _ h9 => h9) rfl dX4_append_8 ?_
  refine lv_aload_n hx hb dX4_append_11 rfl (lv_at hl 1 rfl) ?_
  refine va_get (D := D) (ci := 4) (v := .ref t) (C := RX4) (T := TX4) (N := 10) hx hb hts in_X4 hown hE.1 hP 0 rfl rfl 0 (by decide) (hts _ w_256) (fun _ h9 => h9) rfl dX4_append_12 ?_
  refine va_alen (v := 1000) hx hb hE.1 hP 1 0 rfl rfl (show Int32.ofNat 1000 = 1000 by decide) dX4_append_15 ?_
  refine lv_icmp_ge (tgt := 48) hx hb dX4_append_16 (by decide) (fun h => absurd h (by decide)) (fun _ => ?_)
  refine lv_aload_n hx hb dX4_append_19 rfl (lv_at hl 1 rfl) ?_
  refine va_get (D := D) (ci := 4) (v := .ref t) (C := RX4) (T := TX4) (N := 10) hx hb hts in_X4 hown hE.1 hP 0 rfl rfl 0 (by decide) (hts _ w_256) (fun _ h9 => h9) rfl dX4_append_20 ?_
  refine lv_aload_n hx hb dX4_append_23 rfl (lv_at hl 1 rfl) ?_
  refine va_get (D := D) (ci := 4) (v := .int 17) (C := RX4) (T := TX4) (N := 10) hx hb hts in_X4 hown hE.1 hP 0 rfl rfl 1 (by decide) (hts _ w_429) (fun _ h9 => h9) rfl dX4_append_24 ?_
  refine lv_iload_n hx hb dX4_append_27 rfl (lv_at hl 2 rfl) ?_
  refine lv_iload_n hx hb dX4_append_28 rfl (lv_at hl 0 rfl) ?_
  refine lv_ishr hx hb dX4_append_29 ?_
  refine lv_topi (fun v218 ev218 => ?_)
  refine lv_i2b hx hb dX4_append_30 rfl ?_
  refine lv_topi (fun v219 ev219 => ?_)
  refine stb hx hb hE.1 hP hD hS 1 0 rfl rfl (in_c (by decide)) dX4_append_31 (fun g220 H locs hP hD hS => ?_)
  replace hP : va_P D vwCl [(w, .inr (4, [.ref t, .int 17, .int 0, .int (-1), .ref d, .int 0, .int 0, .int 0, .int 0, .int 0])), (t, .inl (K 0, 1000, .inl g220))] H := hP
  replace hD : va_D A [(w, .inr (4, [.ref t, .int 17, .int 0, .int (-1), .ref d, .int 0, .int 0, .int 0, .int 0, .int 0])), (t, .inl (K 0, 1000, .inl g220))] := hD
  refine lv_aload_n hx hb dX4_append_32 rfl (lv_at hl 1 rfl) ?_
  refine lv_dup hx hb dX4_append_33 rfl ?_
  refine va_get (D := D) (ci := 4) (v := .int 17) (C := RX4) (T := TX4) (N := 10) hx hb hts in_X4 hown hE.1 hP 0 rfl rfl 1 (by decide) (hts _ w_429) (fun _ h9 => h9) rfl dX4_append_34 ?_
  refine lv_iconst (v := 1) hx hb dX4_append_37 (by decide) ?_
  refine lv_iadd hx hb dX4_append_38 ?_
  refine tc (y := 18) (by decide) ?_
  refine va_put (D := D) (ci := 4) (v := .int 18) (ty := .int) (C := RX4) (T := TX4) (N := 10) hx hb hts in_X4 tyX4 tyX4_ok nmX4 hown hE.1 hP hD hS 0 rfl rfl 1 (by decide) (hts _ w_429) (fun _ h9 => h9) rfl (by decide +kernel) rfl rfl (Nat.le_of_ble_eq_true rfl) dX4_append_39 (fun H locs hP hD hS => ?_)
  replace hP : va_P D vwCl [(w, .inr (4, [.ref t, .int 18, .int 0, .int (-1), .ref d, .int 0, .int 0, .int 0, .int 0, .int 0])), (t, .inl (K 0, 1000, .inl g220))] H := hP
  replace hD : va_D A [(w, .inr (4, [.ref t, .int 18, .int 0, .int (-1), .ref d, .int 0, .int 0, .int 0, .int 0, .int 0])), (t, .inl (K 0, 1000, .inl g220))] := hD
  refine lv_iinc (v := 8) (lv' := [(2, .int 8), (0, .ref w), (1, .int p0)]) hx hb dX4_append_42 hl (k := 0) rfl (by decide) (by decide) rfl (fun ls hl => ?_)
  refine lv_goto (tgt := 3) hx hb dX4_append_45 (by decide) ?_
  refine lv_iload_n hx hb dX4_append_3 rfl (lv_at hl 0 rfl) ?_
  refine lv_if_lt (tgt := 48) hx hb dX4_append_4 (by decide) (fun h => absurd h (by decide)) (fun _ => ?_)
  refine lv_aload_n hx hb dX4_append_7 rfl (lv_at hl 1 rfl) ?_
  refine va_get (D := D) (ci := 4) (v := .int 18) (C := RX4) (T := TX4) (N := 10) hx hb hts in_X4 hown hE.1 hP 0 rfl rfl 1 (by decide) (hts _ w_429) (fun _ h9 => h9) rfl dX4_append_8 ?_
  refine lv_aload_n hx hb dX4_append_11 rfl (lv_at hl 1 rfl) ?_
  refine va_get (D := D) (ci := 4) (v := .ref t) (C := RX4) (T := TX4) (N := 10) hx hb hts in_X4 hown hE.1 hP 0 rfl rfl 0 (by decide) (hts _ w_256) (fun _ h9 => h9) rfl dX4_append_12 ?_
  refine va_alen (v := 1000) hx hb hE.1 hP 1 0 rfl rfl (show Int32.ofNat 1000 = 1000 by decide) dX4_append_15 ?_
  refine lv_icmp_ge (tgt := 48) hx hb dX4_append_16 (by decide) (fun h => absurd h (by decide)) (fun _ => ?_)
  refine lv_aload_n hx hb dX4_append_19 rfl (lv_at hl 1 rfl) ?_
  refine va_get (D := D) (ci := 4) (v := .ref t) (C := RX4) (T := TX4) (N := 10) hx hb hts in_X4 hown hE.1 hP 0 rfl rfl 0 (by decide) (hts _ w_256) (fun _ h9 => h9) rfl dX4_append_20 ?_
  refine lv_aload_n hx hb dX4_append_23 rfl (lv_at hl 1 rfl) ?_
  refine va_get (D := D) (ci := 4) (v := .int 18) (C := RX4) (T := TX4) (N := 10) hx hb hts in_X4 hown hE.1 hP 0 rfl rfl 1 (by decide) (hts _ w_429) (fun _ h9 => h9) rfl dX4_append_24 ?_
  refine lv_iload_n hx hb dX4_append_27 rfl (lv_at hl 2 rfl) ?_
  refine lv_iload_n hx hb dX4_append_28 rfl (lv_at hl 0 rfl) ?_
  refine lv_ishr hx hb dX4_append_29 ?_
  refine lv_topi (fun v221 ev221 => ?_)
  refine lv_i2b hx hb dX4_append_30 rfl ?_
  refine lv_topi (fun v222 ev222 => ?_)
  refine stb hx hb hE.1 hP hD hS 1 0 rfl rfl (in_c (by decide)) dX4_append_31 (fun g223 H locs hP hD hS => ?_)
  replace hP : va_P D vwCl [(w, .inr (4, [.ref t, .int 18, .int 0, .int (-1), .ref d, .int 0, .int 0, .int 0, .int 0, .int 0])), (t, .inl (K 0, 1000, .inl g223))] H := hP
  replace hD : va_D A [(w, .inr (4, [.ref t, .int 18, .int 0, .int (-1), .ref d, .int 0, .int 0, .int 0, .int 0, .int 0])), (t, .inl (K 0, 1000, .inl g223))] := hD
  refine lv_aload_n hx hb dX4_append_32 rfl (lv_at hl 1 rfl) ?_
  refine lv_dup hx hb dX4_append_33 rfl ?_
  refine va_get (D := D) (ci := 4) (v := .int 18) (C := RX4) (T := TX4) (N := 10) hx hb hts in_X4 hown hE.1 hP 0 rfl rfl 1 (by decide) (hts _ w_429) (fun _ h9 => h9) rfl dX4_append_34 ?_
  refine lv_iconst (v := 1) hx hb dX4_append_37 (by decide) ?_
  refine lv_iadd hx hb dX4_append_38 ?_
  refine tc (y := 19) (by decide) ?_
  refine va_put (D := D) (ci := 4) (v := .int 19) (ty := .int) (C := RX4) (T := TX4) (N := 10) hx hb hts in_X4 tyX4 tyX4_ok nmX4 hown hE.1 hP hD hS 0 rfl rfl 1 (by decide) (hts _ w_429) (fun _ h9 => h9) rfl (by decide +kernel) rfl rfl (Nat.le_of_ble_eq_true rfl) dX4_append_39 (fun H locs hP hD hS => ?_)
  replace hP : va_P D vwCl [(w, .inr (4, [.ref t, .int 19, .int 0, .int (-1), .ref d, .int 0, .int 0, .int 0, .int 0, .int 0])), (t, .inl (K 0, 1000, .inl g223))] H := hP
  replace hD : va_D A [(w, .inr (4, [.ref t, .int 19, .int 0, .int (-1), .ref d, .int 0, .int 0, .int 0, .int 0, .int 0])), (t, .inl (K 0, 1000, .inl g223))] := hD
  refine lv_iinc (v := 0) (lv' := [(2, .int 0), (0, .ref w), (1, .int p0)]) hx hb dX4_append_42 hl (k := 0) rfl (by decide) (by decide) rfl (fun ls hl => ?_)
  refine lv_goto (tgt := 3) hx hb dX4_append_45 (by decide) ?_
  refine lv_iload_n hx hb dX4_append_3 rfl (lv_at hl 0 rfl) ?_
  refine lv_if_lt (tgt := 48) hx hb dX4_append_4 (by decide) (fun h => absurd h (by decide)) (fun _ => ?_)
  refine lv_aload_n hx hb dX4_append_7 rfl (lv_at hl 1 rfl) ?_
  refine va_get (D := D) (ci := 4) (v := .int 19) (C := RX4) (T := TX4) (N := 10) hx hb hts in_X4 hown hE.1 hP 0 rfl rfl 1 (by decide) (hts _ w_429) (fun _ h9 => h9) rfl dX4_append_8 ?_
  refine lv_aload_n hx hb dX4_append_11 rfl (lv_at hl 1 rfl) ?_
  refine va_get (D := D) (ci := 4) (v := .ref t) (C := RX4) (T := TX4) (N := 10) hx hb hts in_X4 hown hE.1 hP 0 rfl rfl 0 (by decide) (hts _ w_256) (fun _ h9 => h9) rfl dX4_append_12 ?_
  refine va_alen (v := 1000) hx hb hE.1 hP 1 0 rfl rfl (show Int32.ofNat 1000 = 1000 by decide) dX4_append_15 ?_
  refine lv_icmp_ge (tgt := 48) hx hb dX4_append_16 (by decide) (fun h => absurd h (by decide)) (fun _ => ?_)
  refine lv_aload_n hx hb dX4_append_19 rfl (lv_at hl 1 rfl) ?_
  refine va_get (D := D) (ci := 4) (v := .ref t) (C := RX4) (T := TX4) (N := 10) hx hb hts in_X4 hown hE.1 hP 0 rfl rfl 0 (by decide) (hts _ w_256) (fun _ h9 => h9) rfl dX4_append_20 ?_
  refine lv_aload_n hx hb dX4_append_23 rfl (lv_at hl 1 rfl) ?_
  refine va_get (D := D) (ci := 4) (v := .int 19) (C := RX4) (T := TX4) (N := 10) hx hb hts in_X4 hown hE.1 hP 0 rfl rfl 1 (by decide) (hts _ w_429) (fun _ h9 => h9) rfl dX4_append_24 ?_
  refine lv_iload_n hx hb dX4_append_27 rfl (lv_at hl 2 rfl) ?_
  refine lv_iload_n hx hb dX4_append_28 rfl (lv_at hl 0 rfl) ?_
  refine lv_ishr hx hb dX4_append_29 ?_
  refine lv_topi (fun v224 ev224 => ?_)
  refine lv_i2b hx hb dX4_append_30 rfl ?_
  refine lv_topi (fun v225 ev225 => ?_)
  refine stb hx hb hE.1 hP hD hS 1 0 rfl rfl (in_c (by decide)) dX4_append_31 (fun g226 H locs hP hD hS => ?_)
  replace hP : va_P D vwCl [(w, .inr (4, [.ref t, .int 19, .int 0, .int (-1), .ref d, .int 0, .int 0, .int 0, .int 0, .int 0])), (t, .inl (K 0, 1000, .inl g226))] H := hP
  replace hD : va_D A [(w, .inr (4, [.ref t, .int 19, .int 0, .int (-1), .ref d, .int 0, .int 0, .int 0, .int 0, .int 0])), (t, .inl (K 0, 1000, .inl g226))] := hD
  refine lv_aload_n hx hb dX4_append_32 rfl (lv_at hl 1 rfl) ?_
  refine lv_dup hx hb dX4_append_33 rfl ?_
  refine va_get (D := D) (ci := 4) (v := .int 19) (C := RX4) (T := TX4) (N := 10) hx hb hts in_X4 hown hE.1 hP 0 rfl rfl 1 (by decide) (hts _ w_429) (fun _ h9 => h9) rfl dX4_append_34 ?_
  refine lv_iconst (v := 1) hx hb dX4_append_37 (by decide) ?_
  refine lv_iadd hx hb dX4_append_38 ?_
  refine tc (y := 20) (by decide) ?_
  refine va_put (D := D) (ci := 4) (v := .int 20) (ty := .int) (C := RX4) (T := TX4) (N := 10) hx hb hts in_X4 tyX4 tyX4_ok nmX4 hown hE.1 hP hD hS 0 rfl rfl 1 (by decide) (hts _ w_429) (fun _ h9 => h9) rfl (by decide +kernel) rfl rfl (Nat.le_of_ble_eq_true rfl) dX4_append_39 (fun H locs hP hD hS => ?_)
  replace hP : va_P D vwCl [(w, .inr (4, [.ref t, .int 20, .int 0, .int (-1), .ref d, .int 0, .int 0, .int 0, .int 0, .int 0])), (t, .inl (K 0, 1000, .inl g226))] H := hP
  replace hD : va_D A [(w, .inr (4, [.ref t, .int 20, .int 0, .int (-1), .ref d, .int 0, .int 0, .int 0, .int 0, .int 0])), (t, .inl (K 0, 1000, .inl g226))] := hD
  refine lv_iinc (v := (-8)) (lv' := [(2, .int (-8)), (0, .ref w), (1, .int p0)]) hx hb dX4_append_42 hl (k := 0) rfl (by decide) (by decide) rfl (fun ls hl => ?_)
  refine lv_goto (tgt := 3) hx hb dX4_append_45 (by decide) ?_
  refine lv_iload_n hx hb dX4_append_3 rfl (lv_at hl 0 rfl) ?_
  refine lv_if_lt (tgt := 48) hx hb dX4_append_4 (by decide) (fun _ => ?_) (fun h => absurd h (by decide))
  refine W.widen (k := 0) (n := 0) (by decide) (by decide) ?_
  exact ch_vret hC hr hk hS dX4_append_48 g226 trivial (hP.sub [0, 1] rfl) (hD.sub [0, 1] (by decide) rfl)
set_option maxRecDepth 40000 in
set_option maxHeartbeats 4000000 in
theorem c_X11_feed (l : Launch) (D : va_G) (K : Nat → ClassId) (x : Nat → Nat) (p0 p1 p2 p3 p4 : Int32) : Ci (S := Unit) l D K yX11_feed cX11_feed 6 (some .int) 1 22 0 0 [.ref (x 0), .int p0, .int p1, .int p2, .int p3, .int p4] [(x 0, .inr (10, [.ref (x 1), .ref (x 2), .ref (x 3), .ref (x 40), .ref (x 4), .ref (x 41), .ref (x 42), .ref (x 5), .ref (x 43), .ref (x 44), .ref (x 6), .ref (x 7)])), (x 1, .inr (4, [.ref (x 8), .int 0, .int 0, .int (-1), .ref (x 9), .int 0, .int 0, .int 0, .int 0, .int 0])), (x 8, .inl (K 0, 1000, .inl (fun _ => 0)))] (fun r _ => r = 20) (fun _ => []) := by
  intro sz
  refine ch_of (Qc := fun A => va_Qi (S := Unit) (fun r _ => r = 20) (chB D A (fun _ => [])) A) (by decide) (Nat.le_of_ble_eq_true rfl) ?_
  intro p e s m below meth c A hC hr hk hin hE hD hA H locs hP hS ls hl
  replace hC : CallFix p m c cX11_feed 6 s [.ref (x 0), .int p0, .int p1, .int p2, .int p3, .int p4].toArray wl RX11 := hC
  have hx := hC.1
  have hb := hC.2.1
  have hml := hC.2.2.1
  have hown := hC.2.2.2.1
  have hts := hC.2.2.2.2
  replace hl : lv_has ls 6 [(0, .ref (x 0)), (1, .int p0), (2, .int p1), (3, .int p2), (4, .int p3), (5, .int p4)] := hl
  refine lv_aload_n hx hb dX11_feed_0 rfl (lv_at hl 0 rfl) ?_
  refine va_get (D := D) (ci := 10) (v := .ref (x 1)) (C := RX11) (T := TX11) (N := 12) hx hb hts in_X11 hown hE.1 hP 0 rfl rfl 0 (by decide) (hts _ w_96) (fun _ h9 => h9) rfl dX11_feed_1 ?_
  refine lv_bipush (v := 20) hx hb dX11_feed_4 (by decide) ?_
  refine ro_V (As := [.int 20]) (rest := []) hC hE kV_X11_87 (c_X4_hasRoom l D K (x 1) (x 8) (x 9)) (hP.sub (ws' := [(x 1, .inr (4, [.ref (x 8), .int 0, .int 0, .int (-1), .ref (x 9), .int 0, .int 0, .int 0, .int 0, .int 0]))]) [1] rfl) 0 4 rfl rfl rfl hl.1 rfl (Nat.le_of_ble_eq_true rfl) (by decide) (by decide) dX11_feed_6 (fun r hq => ?_)
  subst hq
  refine lv_if_ne (tgt := 14) hx hb dX11_feed_9 (by decide) (fun _ => ?_) (fun h => absurd h (by decide))
  refine lv_aload_n hx hb dX11_feed_14 rfl (lv_at hl 0 rfl) ?_
  refine va_get (D := D) (ci := 10) (v := .ref (x 1)) (C := RX11) (T := TX11) (N := 12) hx hb hts in_X11 hown hE.1 hP 0 rfl rfl 0 (by decide) (hts _ w_96) (fun _ h9 => h9) rfl dX11_feed_15 ?_
  refine lv_iload_n hx hb dX11_feed_18 rfl (lv_at hl 1 rfl) ?_
  refine cv_V (As := [.int p0]) (rest := []) (wc := [(x 1, .inr (4, [.ref (x 8), .int 0, .int 0, .int (-1), .ref (x 9), .int 0, .int 0, .int 0, .int 0, .int 0])), (x 8, .inl (K 0, 1000, .inl (fun _ => 0)))]) (wr := [(x 0, .inr (10, [.ref (x 1), .ref (x 2), .ref (x 3), .ref (x 40), .ref (x 4), .ref (x 41), .ref (x 42), .ref (x 5), .ref (x 43), .ref (x 44), .ref (x 6), .ref (x 7)]))]) hC hE kV_X11_91 (c_X4_append_0 l D K (x 1) (x 8) (x 9) (fun _ => 0) p0) hP hD hS hA [1, 2] [0] rfl rfl rfl (by decide) (by decide) (by decide) 0 4 rfl rfl rfl hl.1 rfl (Nat.le_of_ble_eq_true rfl) (by decide) (by decide) dX11_feed_19 (fun u227 H locs hw hP hD hS => ?_)
  replace hP : va_P D vwCl [(x 0, .inr (10, [.ref (x 1), .ref (x 2), .ref (x 3), .ref (x 40), .ref (x 4), .ref (x 41), .ref (x 42), .ref (x 5), .ref (x 43), .ref (x 44), .ref (x 6), .ref (x 7)])), (x 1, .inr (4, [.ref (x 8), .int 4, .int 0, .int (-1), .ref (x 9), .int 0, .int 0, .int 0, .int 0, .int 0])), (x 8, .inl (K 0, 1000, .inl u227))] H := hP
  replace hD : va_D A [(x 0, .inr (10, [.ref (x 1), .ref (x 2), .ref (x 3), .ref (x 40), .ref (x 4), .ref (x 41), .ref (x 42), .ref (x 5), .ref (x 43), .ref (x 44), .ref (x 6), .ref (x 7)])), (x 1, .inr (4, [.ref (x 8), .int 4, .int 0, .int (-1), .ref (x 9), .int 0, .int 0, .int 0, .int 0, .int 0])), (x 8, .inl (K 0, 1000, .inl u227))] := hD
  refine W.widen (k := 0) (n := 0) (by decide) (by decide) ?_
  refine lv_aload_n hx hb dX11_feed_22 rfl (lv_at hl 0 rfl) ?_
  refine va_get (D := D) (ci := 10) (v := .ref (x 1)) (C := RX11) (T := TX11) (N := 12) hx hb hts in_X11 hown hE.1 hP 0 rfl rfl 0 (by decide) (hts _ w_96) (fun _ h9 => h9) rfl dX11_feed_23 ?_
  refine lv_iload_n hx hb dX11_feed_26 rfl (lv_at hl 2 rfl) ?_
  refine cv_V (As := [.int p1]) (rest := []) (wc := [(x 1, .inr (4, [.ref (x 8), .int 4, .int 0, .int (-1), .ref (x 9), .int 0, .int 0, .int 0, .int 0, .int 0])), (x 8, .inl (K 0, 1000, .inl u227))]) (wr := [(x 0, .inr (10, [.ref (x 1), .ref (x 2), .ref (x 3), .ref (x 40), .ref (x 4), .ref (x 41), .ref (x 42), .ref (x 5), .ref (x 43), .ref (x 44), .ref (x 6), .ref (x 7)]))]) hC hE kV_X11_91 (c_X4_append_4 l D K (x 1) (x 8) (x 9) u227 p1) hP hD hS hA [1, 2] [0] rfl rfl rfl (by decide) (by decide) (by decide) 0 4 rfl rfl rfl hl.1 rfl (Nat.le_of_ble_eq_true rfl) (by decide) (by decide) dX11_feed_27 (fun u228 H locs hw hP hD hS => ?_)
  replace hP : va_P D vwCl [(x 0, .inr (10, [.ref (x 1), .ref (x 2), .ref (x 3), .ref (x 40), .ref (x 4), .ref (x 41), .ref (x 42), .ref (x 5), .ref (x 43), .ref (x 44), .ref (x 6), .ref (x 7)])), (x 1, .inr (4, [.ref (x 8), .int 8, .int 0, .int (-1), .ref (x 9), .int 0, .int 0, .int 0, .int 0, .int 0])), (x 8, .inl (K 0, 1000, .inl u228))] H := hP
  replace hD : va_D A [(x 0, .inr (10, [.ref (x 1), .ref (x 2), .ref (x 3), .ref (x 40), .ref (x 4), .ref (x 41), .ref (x 42), .ref (x 5), .ref (x 43), .ref (x 44), .ref (x 6), .ref (x 7)])), (x 1, .inr (4, [.ref (x 8), .int 8, .int 0, .int (-1), .ref (x 9), .int 0, .int 0, .int 0, .int 0, .int 0])), (x 8, .inl (K 0, 1000, .inl u228))] := hD
  refine W.widen (k := 0) (n := 0) (by decide) (by decide) ?_
  refine lv_aload_n hx hb dX11_feed_30 rfl (lv_at hl 0 rfl) ?_
  refine va_get (D := D) (ci := 10) (v := .ref (x 1)) (C := RX11) (T := TX11) (N := 12) hx hb hts in_X11 hown hE.1 hP 0 rfl rfl 0 (by decide) (hts _ w_96) (fun _ h9 => h9) rfl dX11_feed_31 ?_
  refine lv_iload_n hx hb dX11_feed_34 rfl (lv_at hl 3 rfl) ?_
  refine cv_V (As := [.int p2]) (rest := []) (wc := [(x 1, .inr (4, [.ref (x 8), .int 8, .int 0, .int (-1), .ref (x 9), .int 0, .int 0, .int 0, .int 0, .int 0])), (x 8, .inl (K 0, 1000, .inl u228))]) (wr := [(x 0, .inr (10, [.ref (x 1), .ref (x 2), .ref (x 3), .ref (x 40), .ref (x 4), .ref (x 41), .ref (x 42), .ref (x 5), .ref (x 43), .ref (x 44), .ref (x 6), .ref (x 7)]))]) hC hE kV_X11_91 (c_X4_append_8 l D K (x 1) (x 8) (x 9) u228 p2) hP hD hS hA [1, 2] [0] rfl rfl rfl (by decide) (by decide) (by decide) 0 4 rfl rfl rfl hl.1 rfl (Nat.le_of_ble_eq_true rfl) (by decide) (by decide) dX11_feed_35 (fun u229 H locs hw hP hD hS => ?_)
  replace hP : va_P D vwCl [(x 0, .inr (10, [.ref (x 1), .ref (x 2), .ref (x 3), .ref (x 40), .ref (x 4), .ref (x 41), .ref (x 42), .ref (x 5), .ref (x 43), .ref (x 44), .ref (x 6), .ref (x 7)])), (x 1, .inr (4, [.ref (x 8), .int 12, .int 0, .int (-1), .ref (x 9), .int 0, .int 0, .int 0, .int 0, .int 0])), (x 8, .inl (K 0, 1000, .inl u229))] H := hP
  replace hD : va_D A [(x 0, .inr (10, [.ref (x 1), .ref (x 2), .ref (x 3), .ref (x 40), .ref (x 4), .ref (x 41), .ref (x 42), .ref (x 5), .ref (x 43), .ref (x 44), .ref (x 6), .ref (x 7)])), (x 1, .inr (4, [.ref (x 8), .int 12, .int 0, .int (-1), .ref (x 9), .int 0, .int 0, .int 0, .int 0, .int 0])), (x 8, .inl (K 0, 1000, .inl u229))] := hD
  refine W.widen (k := 0) (n := 0) (by decide) (by decide) ?_
  refine lv_aload_n hx hb dX11_feed_38 rfl (lv_at hl 0 rfl) ?_
  refine va_get (D := D) (ci := 10) (v := .ref (x 1)) (C := RX11) (T := TX11) (N := 12) hx hb hts in_X11 hown hE.1 hP 0 rfl rfl 0 (by decide) (hts _ w_96) (fun _ h9 => h9) rfl dX11_feed_39 ?_
  refine lv_iload hx hb dX11_feed_42 (lv_at hl 4 rfl) ?_
  refine cv_V (As := [.int p3]) (rest := []) (wc := [(x 1, .inr (4, [.ref (x 8), .int 12, .int 0, .int (-1), .ref (x 9), .int 0, .int 0, .int 0, .int 0, .int 0])), (x 8, .inl (K 0, 1000, .inl u229))]) (wr := [(x 0, .inr (10, [.ref (x 1), .ref (x 2), .ref (x 3), .ref (x 40), .ref (x 4), .ref (x 41), .ref (x 42), .ref (x 5), .ref (x 43), .ref (x 44), .ref (x 6), .ref (x 7)]))]) hC hE kV_X11_91 (c_X4_append_12 l D K (x 1) (x 8) (x 9) u229 p3) hP hD hS hA [1, 2] [0] rfl rfl rfl (by decide) (by decide) (by decide) 0 4 rfl rfl rfl hl.1 rfl (Nat.le_of_ble_eq_true rfl) (by decide) (by decide) dX11_feed_44 (fun u230 H locs hw hP hD hS => ?_)
  replace hP : va_P D vwCl [(x 0, .inr (10, [.ref (x 1), .ref (x 2), .ref (x 3), .ref (x 40), .ref (x 4), .ref (x 41), .ref (x 42), .ref (x 5), .ref (x 43), .ref (x 44), .ref (x 6), .ref (x 7)])), (x 1, .inr (4, [.ref (x 8), .int 16, .int 0, .int (-1), .ref (x 9), .int 0, .int 0, .int 0, .int 0, .int 0])), (x 8, .inl (K 0, 1000, .inl u230))] H := hP
  replace hD : va_D A [(x 0, .inr (10, [.ref (x 1), .ref (x 2), .ref (x 3), .ref (x 40), .ref (x 4), .ref (x 41), .ref (x 42), .ref (x 5), .ref (x 43), .ref (x 44), .ref (x 6), .ref (x 7)])), (x 1, .inr (4, [.ref (x 8), .int 16, .int 0, .int (-1), .ref (x 9), .int 0, .int 0, .int 0, .int 0, .int 0])), (x 8, .inl (K 0, 1000, .inl u230))] := hD
  refine W.widen (k := 0) (n := 0) (by decide) (by decide) ?_
  refine lv_aload_n hx hb dX11_feed_47 rfl (lv_at hl 0 rfl) ?_
  refine va_get (D := D) (ci := 10) (v := .ref (x 1)) (C := RX11) (T := TX11) (N := 12) hx hb hts in_X11 hown hE.1 hP 0 rfl rfl 0 (by decide) (hts _ w_96) (fun _ h9 => h9) rfl dX11_feed_48 ?_
  refine lv_iload hx hb dX11_feed_51 (lv_at hl 5 rfl) ?_
  refine cv_V (As := [.int p4]) (rest := []) (wc := [(x 1, .inr (4, [.ref (x 8), .int 16, .int 0, .int (-1), .ref (x 9), .int 0, .int 0, .int 0, .int 0, .int 0])), (x 8, .inl (K 0, 1000, .inl u230))]) (wr := [(x 0, .inr (10, [.ref (x 1), .ref (x 2), .ref (x 3), .ref (x 40), .ref (x 4), .ref (x 41), .ref (x 42), .ref (x 5), .ref (x 43), .ref (x 44), .ref (x 6), .ref (x 7)]))]) hC hE kV_X11_91 (c_X4_append_16 l D K (x 1) (x 8) (x 9) u230 p4) hP hD hS hA [1, 2] [0] rfl rfl rfl (by decide) (by decide) (by decide) 0 4 rfl rfl rfl hl.1 rfl (Nat.le_of_ble_eq_true rfl) (by decide) (by decide) dX11_feed_53 (fun u231 H locs hw hP hD hS => ?_)
  replace hP : va_P D vwCl [(x 0, .inr (10, [.ref (x 1), .ref (x 2), .ref (x 3), .ref (x 40), .ref (x 4), .ref (x 41), .ref (x 42), .ref (x 5), .ref (x 43), .ref (x 44), .ref (x 6), .ref (x 7)])), (x 1, .inr (4, [.ref (x 8), .int 20, .int 0, .int (-1), .ref (x 9), .int 0, .int 0, .int 0, .int 0, .int 0])), (x 8, .inl (K 0, 1000, .inl u231))] H := hP
  replace hD : va_D A [(x 0, .inr (10, [.ref (x 1), .ref (x 2), .ref (x 3), .ref (x 40), .ref (x 4), .ref (x 41), .ref (x 42), .ref (x 5), .ref (x 43), .ref (x 44), .ref (x 6), .ref (x 7)])), (x 1, .inr (4, [.ref (x 8), .int 20, .int 0, .int (-1), .ref (x 9), .int 0, .int 0, .int 0, .int 0, .int 0])), (x 8, .inl (K 0, 1000, .inl u231))] := hD
  refine W.widen (k := 0) (n := 0) (by decide) (by decide) ?_
  refine lv_aload_n hx hb dX11_feed_56 rfl (lv_at hl 0 rfl) ?_
  refine va_get (D := D) (ci := 10) (v := .ref (x 1)) (C := RX11) (T := TX11) (N := 12) hx hb hts in_X11 hown hE.1 hP 0 rfl rfl 0 (by decide) (hts _ w_96) (fun _ h9 => h9) rfl dX11_feed_57 ?_
  refine va_get (D := D) (ci := 4) (v := .int 20) (C := RX4) (T := TX4) (N := 10) hx hb hts in_X4 hown hE.1 hP 1 rfl rfl 1 (by decide) (hts _ w_125) (fun _ h9 => h9) rfl dX11_feed_60 ?_
  refine W.widen (k := 0) (n := 0) (by decide) (by decide) ?_
  exact ch_iret hC hr hk hS dX11_feed_63 () rfl (hP.sub [] rfl) (hD.sub [] (by decide) rfl)
set_option maxRecDepth 40000 in
set_option maxHeartbeats 4000000 in
theorem c_X11_end (l : Launch) (D : va_G) (K : Nat → ClassId) (x : Nat → Nat) (p0 : Int32) : Ci (S := Unit) l D K yX11_end cX11_end 2 (some .int) 0 0 0 0 [.ref (x 0), .int p0] [(x 0, .inr (10, [.ref (x 1), .ref (x 2), .ref (x 3), .ref (x 40), .ref (x 4), .ref (x 41), .ref (x 42), .ref (x 5), .ref (x 43), .ref (x 44), .ref (x 6), .ref (x 7)])), (x 1, .inr (4, [.ref (x 8), .int 0, .int 0, .int (-1), .ref (x 9), .int 0, .int 0, .int 0, .int 0, .int 0]))] (fun r _ => (p0 = 0 ∧ r = 0) ∨ (¬ p0 = 0 ∧ r = -1)) (fun _ => []) := by
  intro sz
  refine ch_of (Qc := fun A => va_Qi (S := Unit) (fun r _ => (p0 = 0 ∧ r = 0) ∨ (¬ p0 = 0 ∧ r = -1)) (chB D A (fun _ => [])) A) (by decide) (Nat.le_of_ble_eq_true rfl) ?_
  intro p e s m below meth c A hC hr hk hin hE hD hA H locs hP hS ls hl
  replace hC : CallFix p m c cX11_end 2 s [.ref (x 0), .int p0].toArray wl RX11 := hC
  have hx := hC.1
  have hb := hC.2.1
  have hml := hC.2.2.1
  have hown := hC.2.2.2.1
  have hts := hC.2.2.2.2
  replace hl : lv_has ls 2 [(0, .ref (x 0)), (1, .int p0)] := hl
  refine lv_iload_n hx hb dX11_end_0 rfl (lv_at hl 1 rfl) ?_
  refine lv_if_lt (tgt := 15) hx hb dX11_end_1 (by decide) (fun c232 => ?_) (fun c232 => ?_)
  · refine lv_iconst (v := (-1)) hx hb dX11_end_15 (by decide) ?_
    refine W.widen (k := 0) (n := 0) (by decide) (by decide) ?_
    exact ch_iret hC hr hk hS dX11_end_16 () (Or.inr ⟨(fun z => absurd c232 (by rw [z]; decide)), rfl⟩) (hP.sub [] rfl) (hD.sub [] (by decide) rfl)
  · refine lv_iload_n hx hb dX11_end_4 rfl (lv_at hl 1 rfl) ?_
    refine lv_aload_n hx hb dX11_end_5 rfl (lv_at hl 0 rfl) ?_
    refine va_get (D := D) (ci := 10) (v := .ref (x 1)) (C := RX11) (T := TX11) (N := 12) hx hb hts in_X11 hown hE.1 hP 0 rfl rfl 0 (by decide) (hts _ w_96) (fun _ h9 => h9) rfl dX11_end_6 ?_
    refine va_get (D := D) (ci := 4) (v := .int 0) (C := RX4) (T := TX4) (N := 10) hx hb hts in_X4 hown hE.1 hP 1 rfl rfl 1 (by decide) (hts _ w_125) (fun _ h9 => h9) rfl dX11_end_9 ?_
    refine lv_icmp_le (tgt := 17) hx hb dX11_end_12 (by decide) (fun c233 => ?_) (fun c233 => ?_)
    · refine lv_aload_n hx hb dX11_end_17 rfl (lv_at hl 0 rfl) ?_
      refine va_get (D := D) (ci := 10) (v := .ref (x 1)) (C := RX11) (T := TX11) (N := 12) hx hb hts in_X11 hown hE.1 hP 0 rfl rfl 0 (by decide) (hts _ w_96) (fun _ h9 => h9) rfl dX11_end_18 ?_
      refine lv_iload_n hx hb dX11_end_21 rfl (lv_at hl 1 rfl) ?_
      refine va_put (D := D) (ci := 4) (v := .int p0) (ty := .int) (C := RX4) (T := TX4) (N := 10) hx hb hts in_X4 tyX4 tyX4_ok nmX4 hown hE.1 hP hD hS 1 rfl rfl 1 (by decide) (hts _ w_125) (fun _ h9 => h9) rfl (by decide +kernel) rfl rfl (Nat.le_of_ble_eq_true rfl) dX11_end_22 (fun H locs hP hD hS => ?_)
      replace hP : va_P D vwCl [(x 0, .inr (10, [.ref (x 1), .ref (x 2), .ref (x 3), .ref (x 40), .ref (x 4), .ref (x 41), .ref (x 42), .ref (x 5), .ref (x 43), .ref (x 44), .ref (x 6), .ref (x 7)])), (x 1, .inr (4, [.ref (x 8), .int p0, .int 0, .int (-1), .ref (x 9), .int 0, .int 0, .int 0, .int 0, .int 0]))] H := hP
      replace hD : va_D A [(x 0, .inr (10, [.ref (x 1), .ref (x 2), .ref (x 3), .ref (x 40), .ref (x 4), .ref (x 41), .ref (x 42), .ref (x 5), .ref (x 43), .ref (x 44), .ref (x 6), .ref (x 7)])), (x 1, .inr (4, [.ref (x 8), .int p0, .int 0, .int (-1), .ref (x 9), .int 0, .int 0, .int 0, .int 0, .int 0]))] := hD
      refine lv_iload_n hx hb dX11_end_25 rfl (lv_at hl 1 rfl) ?_
      refine W.widen (k := 0) (n := 0) (by decide) (by decide) ?_
      exact ch_iret hC hr hk hS dX11_end_26 () (Or.inl ⟨eq0 c232 c233, eq0 c232 c233⟩) (hP.sub [] rfl) (hD.sub [] (by decide) rfl)
    · refine lv_iconst (v := (-1)) hx hb dX11_end_15 (by decide) ?_
      refine W.widen (k := 0) (n := 0) (by decide) (by decide) ?_
      exact ch_iret hC hr hk hS dX11_end_16 () (Or.inr ⟨(fun z => c233 (by rw [z]; decide)), rfl⟩) (hP.sub [] rfl) (hD.sub [] (by decide) rfl)
