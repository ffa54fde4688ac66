set_option maxRecDepth 40000 in
set_option maxHeartbeats 4000000 in
theorem c_X4_kindAt (l : Launch) (D : va_G) (K : Nat → ClassId) (w : Nat) (wa0 : Nat) (wa4 : Nat) (wn1 : Int32) (wn2 : Int32) (wn3 : Int32) (wn5 : Int32) (wn6 : Int32) (wn7 : Int32) (wn8 : Int32) (wn9 : Int32) (wf0 : Nat → Int32) (p0 : Int32) : Ro l D K yX4_kindAt cX4_kindAt 3 (some .int) 0 0 [.ref w, .int p0] [(w, .inr (4, [.ref wa0, .int wn1, .int wn2, .int wn3, .ref wa4, .int wn5, .int wn6, .int wn7, .int wn8, .int wn9])), (wa0, .inl (K 0, 1000, .inl wf0))] (fun _ => True) := by
  refine ro_of (by decide) (Nat.le_of_ble_eq_true rfl) ?_
  intro p e s m below meth c hC hr hk hE hP ls hl
  replace hC : CallFix p m c cX4_kindAt 3 s [.ref w, .int p0].toArray wl RX4 := hC
  have hx := hC.1
  have hb := hC.2.1
  have hml := hC.2.2.1
  have hown := hC.2.2.2.1
  have hts := hC.2.2.2.2
  replace hl : lv_has ls 3 [(0, .ref w), (1, .int p0)] := hl
  have kc_0 : (0 : Int32).toInt = 0 := by decide
  have kc_10 : (10 : Int32).toInt = 10 := by decide
  have kc_32 : (32 : Int32).toInt = 32 := by decide
  have kc_48 : (48 : Int32).toInt = 48 := by decide
  have kc_57 : (57 : Int32).toInt = 57 := by decide
  have kc_59 : (59 : Int32).toInt = 59 := by decide
  have kc_97 : (97 : Int32).toInt = 97 := by decide
  have kc_122 : (122 : Int32).toInt = 122 := by decide
  have kc_1000 : (1000 : Int32).toInt = 1000 := by decide
  refine lv_iload_n hx hb dX4_kindAt_0 rfl (lv_at hl 1 rfl) ?_
  refine lv_if_lt (tgt := 21) hx hb dX4_kindAt_1 (by decide) (fun c2358 => ?_) (fun c2358 => ?_)
  · replace c2358 := lt_i c2358
    refine lv_iconst (v := 0) hx hb dX4_kindAt_21 (by decide) ?_
    exact ro_ret hC hr hk dX4_kindAt_22 trivial
  · replace c2358 := nlt_i c2358
    refine lv_iload_n hx hb dX4_kindAt_4 rfl (lv_at hl 1 rfl) ?_
    refine lv_aload_n hx hb dX4_kindAt_5 rfl (lv_at hl 0 rfl) ?_
    refine va_get (D := D) (ci := 4) (v := .int wn1) (C := RX4) (T := TX4) (N := 10) hx hb hts in_X4 hown hE.1 hP 0 rfl rfl 1 (by decide) (hts _ w_400) (fun _ h9 => h9) rfl dX4_kindAt_6 ?_
    refine lv_icmp_ge (tgt := 21) hx hb dX4_kindAt_9 (by decide) (fun c2359 => ?_) (fun c2359 => ?_)
    · replace c2359 := le_i c2359
      refine lv_iconst (v := 0) hx hb dX4_kindAt_21 (by decide) ?_
      exact ro_ret hC hr hk dX4_kindAt_22 trivial
    · replace c2359 := nle_i c2359
      refine lv_iload_n hx hb dX4_kindAt_12 rfl (lv_at hl 1 rfl) ?_
      refine lv_aload_n hx hb dX4_kindAt_13 rfl (lv_at hl 0 rfl) ?_
      refine va_get (D := D) (ci := 4) (v := .ref wa0) (C := RX4) (T := TX4) (N := 10) hx hb hts in_X4 hown hE.1 hP 0 rfl rfl 0 (by decide) (hts _ w_401) (fun _ h9 => h9) rfl dX4_kindAt_14 ?_
      refine va_alen (v := 1000) hx hb hE.1 hP 1 0 rfl rfl (show Int32.ofNat 1000 = 1000 by decide) dX4_kindAt_17 ?_
      refine lv_icmp_lt (tgt := 23) hx hb dX4_kindAt_18 (by decide) (fun c2360 => ?_) (fun c2360 => ?_)
      · replace c2360 := lt_i c2360
        refine lv_aload_n hx hb dX4_kindAt_23 rfl (lv_at hl 0 rfl) ?_
        refine va_get (D := D) (ci := 4) (v := .ref wa0) (C := RX4) (T := TX4) (N := 10) hx hb hts in_X4 hown hE.1 hP 0 rfl rfl 0 (by decide) (hts _ w_401) (fun _ h9 => h9) rfl dX4_kindAt_24 ?_
        refine lv_iload_n hx hb dX4_kindAt_27 rfl (lv_at hl 1 rfl) ?_
        refine va_bald hx hb hE.1 hP 1 0 rfl rfl (vp_in_iff.mpr (by omega)) dX4_kindAt_28 ?_
        refine lv_topi (fun v2361 ev2361 => ?_)
        refine lv_istore_n (lv' := [(2, .int v2361), (0, .ref w), (1, .int p0)]) hx hb dX4_kindAt_29 rfl hl (by decide) rfl (fun ls hl => ?_)
        refine lv_iload_n hx hb dX4_kindAt_30 rfl (lv_at hl 0 rfl) ?_
        refine lv_bipush (v := 32) hx hb dX4_kindAt_31 (by decide) ?_
        refine lv_icmp_eq (tgt := 42) hx hb dX4_kindAt_33 (by decide) (fun c2362 => ?_) (fun c2362 => ?_)
        · replace c2362 := eq_i c2362
          refine lv_iconst (v := 5) hx hb dX4_kindAt_42 (by decide) ?_
          exact ro_ret hC hr hk dX4_kindAt_43 trivial
        · replace c2362 := ne_i c2362
          refine lv_iload_n hx hb dX4_kindAt_36 rfl (lv_at hl 0 rfl) ?_
          refine lv_bipush (v := 10) hx hb dX4_kindAt_37 (by decide) ?_
          refine lv_icmp_ne (tgt := 44) hx hb dX4_kindAt_39 (by decide) (fun c2363 => ?_) (fun c2363 => ?_)
          · replace c2363 := ne_i c2363
            refine lv_iload_n hx hb dX4_kindAt_44 rfl (lv_at hl 0 rfl) ?_
            refine lv_bipush (v := 97) hx hb dX4_kindAt_45 (by decide) ?_
            refine lv_icmp_lt (tgt := 58) hx hb dX4_kindAt_47 (by decide) (fun c2364 => ?_) (fun c2364 => ?_)
            · replace c2364 := lt_i c2364
              refine lv_iload_n hx hb dX4_kindAt_58 rfl (lv_at hl 0 rfl) ?_
              refine lv_bipush (v := 48) hx hb dX4_kindAt_59 (by decide) ?_
              refine lv_icmp_lt (tgt := 72) hx hb dX4_kindAt_61 (by decide) (fun c2365 => ?_) (fun c2365 => ?_)
              · replace c2365 := lt_i c2365
                refine lv_iload_n hx hb dX4_kindAt_72 rfl (lv_at hl 0 rfl) ?_
                refine lv_bipush (v := 59) hx hb dX4_kindAt_73 (by decide) ?_
                refine lv_icmp_ne (tgt := 82) hx hb dX4_kindAt_75 (by decide) (fun c2366 => ?_) (fun c2366 => ?_)
                · replace c2366 := ne_i c2366
                  refine lv_iconst (v := 4) hx hb dX4_kindAt_82 (by decide) ?_
                  exact ro_ret hC hr hk dX4_kindAt_83 trivial
                · replace c2366 := eq_i c2366
                  refine lv_iconst (v := 3) hx hb dX4_kindAt_78 (by decide) ?_
                  refine lv_goto (tgt := 83) hx hb dX4_kindAt_79 (by decide) ?_
                  exact ro_ret hC hr hk dX4_kindAt_83 trivial
              · replace c2365 := nlt_i c2365
                refine lv_iload_n hx hb dX4_kindAt_64 rfl (lv_at hl 0 rfl) ?_
                refine lv_bipush (v := 57) hx hb dX4_kindAt_65 (by decide) ?_
                refine lv_icmp_gt (tgt := 72) hx hb dX4_kindAt_67 (by decide) (fun c2367 => ?_) (fun c2367 => ?_)
                · replace c2367 := lt_i c2367
                  refine lv_iload_n hx hb dX4_kindAt_72 rfl (lv_at hl 0 rfl) ?_
                  refine lv_bipush (v := 59) hx hb dX4_kindAt_73 (by decide) ?_
                  refine lv_icmp_ne (tgt := 82) hx hb dX4_kindAt_75 (by decide) (fun c2368 => ?_) (fun c2368 => ?_)
                  · replace c2368 := ne_i c2368
                    refine lv_iconst (v := 4) hx hb dX4_kindAt_82 (by decide) ?_
                    exact ro_ret hC hr hk dX4_kindAt_83 trivial
                  · replace c2368 := eq_i c2368
                    refine lv_iconst (v := 3) hx hb dX4_kindAt_78 (by decide) ?_
                    refine lv_goto (tgt := 83) hx hb dX4_kindAt_79 (by decide) ?_
                    exact ro_ret hC hr hk dX4_kindAt_83 trivial
                · replace c2367 := nlt_i c2367
                  refine lv_iconst (v := 2) hx hb dX4_kindAt_70 (by decide) ?_
                  exact ro_ret hC hr hk dX4_kindAt_71 trivial
            · replace c2364 := nlt_i c2364
              refine lv_iload_n hx hb dX4_kindAt_50 rfl (lv_at hl 0 rfl) ?_
              refine lv_bipush (v := 122) hx hb dX4_kindAt_51 (by decide) ?_
              refine lv_icmp_gt (tgt := 58) hx hb dX4_kindAt_53 (by decide) (fun c2369 => ?_) (fun c2369 => ?_)
              · replace c2369 := lt_i c2369
                refine lv_iload_n hx hb dX4_kindAt_58 rfl (lv_at hl 0 rfl) ?_
                refine lv_bipush (v := 48) hx hb dX4_kindAt_59 (by decide) ?_
                refine lv_icmp_lt (tgt := 72) hx hb dX4_kindAt_61 (by decide) (fun c2370 => ?_) (fun c2370 => ?_)
                · replace c2370 := lt_i c2370
                  refine lv_iload_n hx hb dX4_kindAt_72 rfl (lv_at hl 0 rfl) ?_
                  refine lv_bipush (v := 59) hx hb dX4_kindAt_73 (by decide) ?_
                  refine lv_icmp_ne (tgt := 82) hx hb dX4_kindAt_75 (by decide) (fun c2371 => ?_) (fun c2371 => ?_)
                  · replace c2371 := ne_i c2371
                    refine lv_iconst (v := 4) hx hb dX4_kindAt_82 (by decide) ?_
                    exact ro_ret hC hr hk dX4_kindAt_83 trivial
                  · replace c2371 := eq_i c2371
                    refine lv_iconst (v := 3) hx hb dX4_kindAt_78 (by decide) ?_
                    refine lv_goto (tgt := 83) hx hb dX4_kindAt_79 (by decide) ?_
                    exact ro_ret hC hr hk dX4_kindAt_83 trivial
                · replace c2370 := nlt_i c2370
                  refine lv_iload_n hx hb dX4_kindAt_64 rfl (lv_at hl 0 rfl) ?_
                  refine lv_bipush (v := 57) hx hb dX4_kindAt_65 (by decide) ?_
                  refine lv_icmp_gt (tgt := 72) hx hb dX4_kindAt_67 (by decide) (fun c2372 => ?_) (fun c2372 => ?_)
                  · replace c2372 := lt_i c2372
                    refine lv_iload_n hx hb dX4_kindAt_72 rfl (lv_at hl 0 rfl) ?_
                    refine lv_bipush (v := 59) hx hb dX4_kindAt_73 (by decide) ?_
                    refine lv_icmp_ne (tgt := 82) hx hb dX4_kindAt_75 (by decide) (fun c2373 => ?_) (fun c2373 => ?_)
                    · replace c2373 := ne_i c2373
                      refine lv_iconst (v := 4) hx hb dX4_kindAt_82 (by decide) ?_
                      exact ro_ret hC hr hk dX4_kindAt_83 trivial
                    · replace c2373 := eq_i c2373
                      refine lv_iconst (v := 3) hx hb dX4_kindAt_78 (by decide) ?_
                      refine lv_goto (tgt := 83) hx hb dX4_kindAt_79 (by decide) ?_
                      exact ro_ret hC hr hk dX4_kindAt_83 trivial
                  · replace c2372 := nlt_i c2372
                    refine lv_iconst (v := 2) hx hb dX4_kindAt_70 (by decide) ?_
                    exact ro_ret hC hr hk dX4_kindAt_71 trivial
              · replace c2369 := nlt_i c2369
                refine lv_iconst (v := 1) hx hb dX4_kindAt_56 (by decide) ?_
                exact ro_ret hC hr hk dX4_kindAt_57 trivial
          · replace c2363 := eq_i c2363
            refine lv_iconst (v := 5) hx hb dX4_kindAt_42 (by decide) ?_
            exact ro_ret hC hr hk dX4_kindAt_43 trivial
      · replace c2360 := nlt_i c2360
        refine lv_iconst (v := 0) hx hb dX4_kindAt_21 (by decide) ?_
        exact ro_ret hC hr hk dX4_kindAt_22 trivial
set_option maxRecDepth 40000 in
set_option maxHeartbeats 4000000 in
theorem c_X4_advance (l : Launch) (D : va_G) (K : Nat → ClassId) (w : Nat) (wa0 : Nat) (wa4 : Nat) (wn1 : Int32) (wn2 : Int32) (wn3 : Int32) (wn5 : Int32) (wn6 : Int32) (wn7 : Int32) (wn8 : Int32) (wn9 : Int32) (wf0 : Nat → Int32) : Cv (S := ((Nat → Int32) × (Nat → Nat → Int32) × (Nat → Nat → Int64))) l D K yX4_advance cX4_advance 3 1 22 0 0 [.ref w] [(w, .inr (4, [.ref wa0, .int wn1, .int wn2, .int wn3, .ref wa4, .int wn5, .int wn6, .int wn7, .int wn8, .int wn9])), (wa0, .inl (K 0, 1000, .inl wf0))] (fun _ => True) (fun u => [(w, .inr (4, [.ref wa0, .int wn1, .int wn2, .int wn3, .ref wa4, .int (u.1 0), .int (u.1 1), .int (u.1 2), .int (u.1 3), .int wn9])), (wa0, .inl (K 0, 1000, .inl wf0))]) := by
  intro sz
  refine ch_of (y := yX4_advance) (cc := cX4_advance) (maxL := 3) (ret := none) (av := [.ref w]) (ws := [(w, .inr (4, [.ref wa0, .int wn1, .int wn2, .int wn3, .ref wa4, .int wn5, .int wn6, .int wn7, .int wn8, .int wn9])), (wa0, .inl (K 0, 1000, .inl wf0))]) (D := D) (K := K) (Qc := fun A => va_Qv (S := ((Nat → Int32) × (Nat → Nat → Int32) × (Nat → Nat → Int64))) (fun _ => True) (chB D A (fun u => [(w, .inr (4, [.ref wa0, .int wn1, .int wn2, .int wn3, .ref wa4, .int (u.1 0), .int (u.1 1), .int (u.1 2), .int (u.1 3), .int wn9])), (wa0, .inl (K 0, 1000, .inl wf0))])) A) (by decide) (Nat.le_of_ble_eq_true rfl) ?_
  intro p e s m below meth c A hC hr hk hin hE hD hA H locs hP hS ls hl
  replace hC : CallFix p m c cX4_advance 3 s [.ref w].toArray wl RX4 := hC
  have hx := hC.1
  have hb := hC.2.1
  have hml := hC.2.2.1
  have hown := hC.2.2.2.1
  have hts := hC.2.2.2.2
  replace hl : lv_has ls 3 [(0, .ref w)] := hl
  have kc_0 : (0 : Int32).toInt = 0 := by decide
  have kc_1 : (1 : Int32).toInt = 1 := by decide
  have kc_2 : (2 : Int32).toInt = 2 := by decide
  have kc_5 : (5 : Int32).toInt = 5 := by decide
  have kc_1000 : (1000 : Int32).toInt = 1000 := by decide
  have kc_1000000 : (1000000 : Int32).toInt = 1000000 := by decide
  refine lv_aload_n hx hb dX4_advance_0 rfl (lv_at hl 0 rfl) ?_
  refine lv_aload_n hx hb dX4_advance_1 rfl (lv_at hl 0 rfl) ?_
  refine va_get (D := D) (ci := 4) (v := .int wn7) (C := RX4) (T := TX4) (N := 10) hx hb hts in_X4 hown hE.1 hP 0 rfl rfl 7 (by decide) (hts _ w_402) (fun _ h9 => h9) rfl dX4_advance_2 ?_
  refine va_put (D := D) (ci := 4) (v := .int wn7) (ty := .int) (C := RX4) (T := TX4) (N := 10) hx hb hts in_X4 tyX4 tyX4_ok nmX4 hown hE.1 hP hD hS 0 rfl rfl 6 (by decide) (hts _ w_403) (fun _ h9 => h9) rfl (by decide +kernel) rfl rfl (Nat.le_of_ble_eq_true rfl) dX4_advance_5 (fun H locs hP hD hS => ?_)
  replace hP : va_P D vwCl [(w, .inr (4, [.ref wa0, .int wn1, .int wn2, .int wn3, .ref wa4, .int wn5, .int wn7, .int wn7, .int wn8, .int wn9])), (wa0, .inl (K 0, 1000, .inl wf0))] H := hP
  replace hD : va_D A [(w, .inr (4, [.ref wa0, .int wn1, .int wn2, .int wn3, .ref wa4, .int wn5, .int wn7, .int wn7, .int wn8, .int wn9])), (wa0, .inl (K 0, 1000, .inl wf0))] := hD
  refine lv_iconst (v := 0) hx hb dX4_advance_8 (by decide) ?_
  refine lv_istore_n (lv' := [(1, .int 0), (0, .ref w)]) hx hb dX4_advance_9 rfl hl (by decide) rfl (fun ls hl => ?_)
  have hl' := hl; have hP' := hP; have hD' := hD; clear hl hP hD
  obtain ⟨i2446, w2447, hi_10, hl, hP, hD⟩ : ∃ (i2446 : Int32) (w2447 : Int32), ((0 : Int) ≤ i2446.toInt) ∧ lv_has ls 3 [(1, .int i2446), (0, .ref w)] ∧ va_P D vwCl [(w, .inr (4, [.ref wa0, .int wn1, .int wn2, .int wn3, .ref wa4, .int wn5, .int w2447, .int wn7, .int wn8, .int wn9])), (wa0, .inl (K 0, 1000, .inl wf0))] H ∧ va_D A [(w, .inr (4, [.ref wa0, .int wn1, .int wn2, .int wn3, .ref wa4, .int wn5, .int w2447, .int wn7, .int wn8, .int wn9])), (wa0, .inl (K 0, 1000, .inl wf0))] := ⟨_, _, by omega, hl', hP', hD'⟩
  clear hl' hP' hD'
  obtain ⟨n_10, hn_10⟩ : ∃ n : Nat, (1000 - i2446.toInt).toNat < n := ⟨_, Nat.lt_succ_self _⟩
  induction n_10 generalizing i2446 w2447 H locs ls with
  | zero => exact absurd hn_10 (Nat.not_lt_zero _)
  | succ n_10 ih_10 =>
    refine lv_iload_n hx hb dX4_advance_10 rfl (lv_at hl 0 rfl) ?_
    refine lv_sipush (v := 1000) hx hb dX4_advance_11 (by decide) ?_
    refine lv_icmp_ge (tgt := 45) hx hb dX4_advance_14 (by decide) (fun c2448 => ?_) (fun c2448 => ?_)
    · replace c2448 := le_i c2448
      refine lv_aload_n hx hb dX4_advance_45 rfl (lv_at hl 1 rfl) ?_
      refine lv_aload_n hx hb dX4_advance_46 rfl (lv_at hl 1 rfl) ?_
      refine lv_aload_n hx hb dX4_advance_47 rfl (lv_at hl 1 rfl) ?_
      refine va_get (D := D) (ci := 4) (v := .int w2447) (C := RX4) (T := TX4) (N := 10) hx hb hts in_X4 hown hE.1 hP 0 rfl rfl 6 (by decide) (hts _ w_403) (fun _ h9 => h9) rfl dX4_advance_48 ?_
      refine ro_V (As := [.int w2447]) (rest := [.ref w]) hC hE kV_X4_57 (c_X4_kindAt l D K w wa0 wa4 wn1 wn2 wn3 wn5 w2447 wn7 wn8 wn9 wf0 w2447) (hP.sub (ws' := [(w, .inr (4, [.ref wa0, .int wn1, .int wn2, .int wn3, .ref wa4, .int wn5, .int w2447, .int wn7, .int wn8, .int wn9])), (wa0, .inl (K 0, 1000, .inl wf0))]) [0, 1] rfl) 0 4 rfl rfl rfl hl.1 rfl (Nat.le_of_ble_eq_true rfl) (by decide) (by decide) dX4_advance_51 (fun r2449 _ => ?_)
      refine va_put (D := D) (ci := 4) (v := .int r2449) (ty := .int) (C := RX4) (T := TX4) (N := 10) hx hb hts in_X4 tyX4 tyX4_ok nmX4 hown hE.1 hP hD hS 0 rfl rfl 5 (by decide) (hts _ w_404) (fun _ h9 => h9) rfl (by decide +kernel) rfl rfl (Nat.le_of_ble_eq_true rfl) dX4_advance_54 (fun H locs hP hD hS => ?_)
      replace hP : va_P D vwCl [(w, .inr (4, [.ref wa0, .int wn1, .int wn2, .int wn3, .ref wa4, .int r2449, .int w2447, .int wn7, .int wn8, .int wn9])), (wa0, .inl (K 0, 1000, .inl wf0))] H := hP
      replace hD : va_D A [(w, .inr (4, [.ref wa0, .int wn1, .int wn2, .int wn3, .ref wa4, .int r2449, .int w2447, .int wn7, .int wn8, .int wn9])), (wa0, .inl (K 0, 1000, .inl wf0))] := hD
      refine lv_aload_n hx hb dX4_advance_57 rfl (lv_at hl 1 rfl) ?_
      refine lv_aload_n hx hb dX4_advance_58 rfl (lv_at hl 1 rfl) ?_
      refine va_get (D := D) (ci := 4) (v := .int w2447) (C := RX4) (T := TX4) (N := 10) hx hb hts in_X4 hown hE.1 hP 0 rfl rfl 6 (by decide) (hts _ w_403) (fun _ h9 => h9) rfl dX4_advance_59 ?_
      refine lv_iconst (v := 1) hx hb dX4_advance_62 (by decide) ?_
      refine lv_iadd hx hb dX4_advance_63 ?_
      refine lv_topi (fun v2450 ev2450 => ?_)
      refine va_put (D := D) (ci := 4) (v := .int v2450) (ty := .int) (C := RX4) (T := TX4) (N := 10) hx hb hts in_X4 tyX4 tyX4_ok nmX4 hown hE.1 hP hD hS 0 rfl rfl 7 (by decide) (hts _ w_402) (fun _ h9 => h9) rfl (by decide +kernel) rfl rfl (Nat.le_of_ble_eq_true rfl) dX4_advance_64 (fun H locs hP hD hS => ?_)
      replace hP : va_P D vwCl [(w, .inr (4, [.ref wa0, .int wn1, .int wn2, .int wn3, .ref wa4, .int r2449, .int w2447, .int v2450, .int wn8, .int wn9])), (wa0, .inl (K 0, 1000, .inl wf0))] H := hP
      replace hD : va_D A [(w, .inr (4, [.ref wa0, .int wn1, .int wn2, .int wn3, .ref wa4, .int r2449, .int w2447, .int v2450, .int wn8, .int wn9])), (wa0, .inl (K 0, 1000, .inl wf0))] := hD
      refine lv_aload_n hx hb dX4_advance_67 rfl (lv_at hl 1 rfl) ?_
      refine lv_aload_n hx hb dX4_advance_68 rfl (lv_at hl 1 rfl) ?_
      refine lv_aload_n hx hb dX4_advance_69 rfl (lv_at hl 1 rfl) ?_
      refine va_get (D := D) (ci := 4) (v := .int w2447) (C := RX4) (T := TX4) (N := 10) hx hb hts in_X4 hown hE.1 hP 0 rfl rfl 6 (by decide) (hts _ w_403) (fun _ h9 => h9) rfl dX4_advance_70 ?_
      refine ro_V (As := [.int w2447]) (rest := [.ref w]) hC hE kV_X4_61 (c_X4_byteAt l D K w wa0 wa4 wn1 wn2 wn3 r2449 w2447 v2450 wn8 wn9 wf0 w2447) (hP.sub (ws' := [(w, .inr (4, [.ref wa0, .int wn1, .int wn2, .int wn3, .ref wa4, .int r2449, .int w2447, .int v2450, .int wn8, .int wn9])), (wa0, .inl (K 0, 1000, .inl wf0))]) [0, 1] rfl) 0 4 rfl rfl rfl hl.1 rfl (Nat.le_of_ble_eq_true rfl) (by decide) (by decide) dX4_advance_73 (fun r2451 _ => ?_)
      refine lv_bipush (v := 48) hx hb dX4_advance_76 (by decide) ?_
      refine lv_isub hx hb dX4_advance_78 ?_
      refine lv_topi (fun v2452 ev2452 => ?_)
      refine va_put (D := D) (ci := 4) (v := .int v2452) (ty := .int) (C := RX4) (T := TX4) (N := 10) hx hb hts in_X4 tyX4 tyX4_ok nmX4 hown hE.1 hP hD hS 0 rfl rfl 8 (by decide) (hts _ w_405) (fun _ h9 => h9) rfl (by decide +kernel) rfl rfl (Nat.le_of_ble_eq_true rfl) dX4_advance_79 (fun H locs hP hD hS => ?_)
      replace hP : va_P D vwCl [(w, .inr (4, [.ref wa0, .int wn1, .int wn2, .int wn3, .ref wa4, .int r2449, .int w2447, .int v2450, .int v2452, .int wn9])), (wa0, .inl (K 0, 1000, .inl wf0))] H := hP
      replace hD : va_D A [(w, .inr (4, [.ref wa0, .int wn1, .int wn2, .int wn3, .ref wa4, .int r2449, .int w2447, .int v2450, .int v2452, .int wn9])), (wa0, .inl (K 0, 1000, .inl wf0))] := hD
      refine lv_aload_n hx hb dX4_advance_82 rfl (lv_at hl 1 rfl) ?_
      refine va_get (D := D) (ci := 4) (v := .int r2449) (C := RX4) (T := TX4) (N := 10) hx hb hts in_X4 hown hE.1 hP 0 rfl rfl 5 (by decide) (hts _ w_404) (fun _ h9 => h9) rfl dX4_advance_83 ?_
      refine lv_iconst (v := 1) hx hb dX4_advance_86 (by decide) ?_
      refine lv_icmp_eq (tgt := 98) hx hb dX4_advance_87 (by decide) (fun c2453 => ?_) (fun c2453 => ?_)
      · replace c2453 := eq_i c2453
        refine lv_iconst (v := 1) hx hb dX4_advance_98 (by decide) ?_
        refine lv_goto (tgt := 103) hx hb dX4_advance_99 (by decide) ?_
        refine lv_istore_n (lv' := [(1, .int 1), (0, .ref w)]) hx hb dX4_advance_103 rfl hl (by decide) rfl (fun ls hl => ?_)
        refine lv_iconst (v := 0) hx hb dX4_advance_104 (by decide) ?_
        refine lv_istore_n (lv' := [(2, .int 0), (1, .int 1), (0, .ref w)]) hx hb dX4_advance_105 rfl hl (by decide) rfl (fun ls hl => ?_)
        have hl' := hl; have hP' := hP; have hD' := hD; clear hl hP hD
        obtain ⟨i2465, w2466, w2467, hi_106, hl, hP, hD⟩ : ∃ (i2465 : Int32) (w2466 : Int32) (w2467 : Int32), ((0 : Int) ≤ i2465.toInt) ∧ lv_has ls 3 [(2, .int i2465), (1, .int 1), (0, .ref w)] ∧ va_P D vwCl [(w, .inr (4, [.ref wa0, .int wn1, .int wn2, .int wn3, .ref wa4, .int r2449, .int w2447, .int w2466, .int w2467, .int wn9])), (wa0, .inl (K 0, 1000, .inl wf0))] H ∧ va_D A [(w, .inr (4, [.ref wa0, .int wn1, .int wn2, .int wn3, .ref wa4, .int r2449, .int w2447, .int w2466, .int w2467, .int wn9])), (wa0, .inl (K 0, 1000, .inl wf0))] := ⟨_, _, _, by omega, hl', hP', hD'⟩
        clear hl' hP' hD'
        obtain ⟨n_106, hn_106⟩ : ∃ n : Nat, (1000 - i2465.toInt).toNat < n := ⟨_, Nat.lt_succ_self _⟩
        induction n_106 generalizing i2465 w2466 w2467 H locs ls with
        | zero => exact absurd hn_106 (Nat.not_lt_zero _)
        | succ n_106 ih_106 =>
          refine lv_iload_n hx hb dX4_advance_106 rfl (lv_at hl 0 rfl) ?_
          refine lv_sipush (v := 1000) hx hb dX4_advance_107 (by decide) ?_
          refine lv_icmp_ge (tgt := 176) hx hb dX4_advance_110 (by decide) (fun c2468 => ?_) (fun c2468 => ?_)
          · replace c2468 := le_i c2468
            refine W.widen (k := 0) (n := 0) (by decide) (by decide) ?_
            exact ch_vret hC hr hk hS dX4_advance_176 ((fun k => [r2449, w2447, w2466, w2467].getD k 0, fun k => [].getD k (fun _ => 0), fun k => [].getD k (fun _ => 0)) : ((Nat → Int32) × (Nat → Nat → Int32) × (Nat → Nat → Int64))) trivial (hP.sub [0, 1] rfl) (hD.sub [0, 1] (by decide) rfl)
          · replace c2468 := nle_i c2468
            refine lv_iload_n hx hb dX4_advance_113 rfl (lv_at hl 1 rfl) ?_
            refine lv_if_eq (tgt := 176) hx hb dX4_advance_114 (by decide) (fun h => absurd h (by decide)) (fun _ => ?_)
            refine lv_aload_n hx hb dX4_advance_117 rfl (lv_at hl 2 rfl) ?_
            refine lv_aload_n hx hb dX4_advance_118 rfl (lv_at hl 2 rfl) ?_
            refine va_get (D := D) (ci := 4) (v := .int w2466) (C := RX4) (T := TX4) (N := 10) hx hb hts in_X4 hown hE.1 hP 0 rfl rfl 7 (by decide) (hts _ w_402) (fun _ h9 => h9) rfl dX4_advance_119 ?_
            refine ro_V (As := [.int w2466]) (rest := []) hC hE kV_X4_57 (c_X4_kindAt l D K w wa0 wa4 wn1 wn2 wn3 r2449 w2447 w2466 w2467 wn9 wf0 w2466) (hP.sub (ws' := [(w, .inr (4, [.ref wa0, .int wn1, .int wn2, .int wn3, .ref wa4, .int r2449, .int w2447, .int w2466, .int w2467, .int wn9])), (wa0, .inl (K 0, 1000, .inl wf0))]) [0, 1] rfl) 0 4 rfl rfl rfl hl.1 rfl (Nat.le_of_ble_eq_true rfl) (by decide) (by decide) dX4_advance_122 (fun r2469 _ => ?_)
            refine lv_aload_n hx hb dX4_advance_125 rfl (lv_at hl 2 rfl) ?_
            refine va_get (D := D) (ci := 4) (v := .int r2449) (C := RX4) (T := TX4) (N := 10) hx hb hts in_X4 hown hE.1 hP 0 rfl rfl 5 (by decide) (hts _ w_404) (fun _ h9 => h9) rfl dX4_advance_126 ?_
            refine lv_icmp_ne (tgt := 176) hx hb dX4_advance_129 (by decide) (fun c2470 => ?_) (fun c2470 => ?_)
            · replace c2470 := ne_i c2470
              refine W.widen (k := 0) (n := 0) (by decide) (by decide) ?_
              exact ch_vret hC hr hk hS dX4_advance_176 ((fun k => [r2449, w2447, w2466, w2467].getD k 0, fun k => [].getD k (fun _ => 0), fun k => [].getD k (fun _ => 0)) : ((Nat → Int32) × (Nat → Nat → Int32) × (Nat → Nat → Int64))) trivial (hP.sub [0, 1] rfl) (hD.sub [0, 1] (by decide) rfl)
            · replace c2470 := eq_i c2470
              refine lv_aload_n hx hb dX4_advance_132 rfl (lv_at hl 2 rfl) ?_
              refine lv_ldc (v := 1000000) hx hb hown (hts _ w_416) dX4_advance_133 ?_
              refine lv_aload_n hx hb dX4_advance_135 rfl (lv_at hl 2 rfl) ?_
              refine va_get (D := D) (ci := 4) (v := .int w2467) (C := RX4) (T := TX4) (N := 10) hx hb hts in_X4 hown hE.1 hP 0 rfl rfl 8 (by decide) (hts _ w_405) (fun _ h9 => h9) rfl dX4_advance_136 ?_
              refine lv_bipush (v := 10) hx hb dX4_advance_139 (by decide) ?_
              refine lv_imul hx hb dX4_advance_141 ?_
              refine lv_topi (fun v2471 ev2471 => ?_)
              refine lv_aload_n hx hb dX4_advance_142 rfl (lv_at hl 2 rfl) ?_
              refine lv_aload_n hx hb dX4_advance_143 rfl (lv_at hl 2 rfl) ?_
              refine va_get (D := D) (ci := 4) (v := .int w2466) (C := RX4) (T := TX4) (N := 10) hx hb hts in_X4 hown hE.1 hP 0 rfl rfl 7 (by decide) (hts _ w_402) (fun _ h9 => h9) rfl dX4_advance_144 ?_
              refine ro_V (As := [.int w2466]) (rest := [.int v2471, .int 1000000, .ref w]) hC hE kV_X4_61 (c_X4_byteAt l D K w wa0 wa4 wn1 wn2 wn3 r2449 w2447 w2466 w2467 wn9 wf0 w2466) (hP.sub (ws' := [(w, .inr (4, [.ref wa0, .int wn1, .int wn2, .int wn3, .ref wa4, .int r2449, .int w2447, .int w2466, .int w2467, .int wn9])), (wa0, .inl (K 0, 1000, .inl wf0))]) [0, 1] rfl) 0 4 rfl rfl rfl hl.1 rfl (Nat.le_of_ble_eq_true rfl) (by decide) (by decide) dX4_advance_147 (fun r2472 _ => ?_)
              refine lv_iadd hx hb dX4_advance_150 ?_
              refine lv_topi (fun v2473 ev2473 => ?_)
              refine lv_bipush (v := 48) hx hb dX4_advance_151 (by decide) ?_
              refine lv_isub hx hb dX4_advance_153 ?_
              refine lv_topi (fun v2474 ev2474 => ?_)
              refine va_mmin hx hb (hml.trans hl.1.symm) hown (hts _ w_406) (hts _ w_142) (hts _ w_143) (hts _ w_144) (by decide) (Nat.le_of_ble_eq_true rfl) (by decide) (by decide) dX4_advance_154 ?_
              refine lv_topi (fun v2475 ev2475 => ?_)
              have tv2475 := min_i ev2475
              refine va_put (D := D) (ci := 4) (v := .int v2475) (ty := .int) (C := RX4) (T := TX4) (N := 10) hx hb hts in_X4 tyX4 tyX4_ok nmX4 hown hE.1 hP hD hS 0 rfl rfl 8 (by decide) (hts _ w_405) (fun _ h9 => h9) rfl (by decide +kernel) rfl rfl (Nat.le_of_ble_eq_true rfl) dX4_advance_157 (fun H locs hP hD hS => ?_)
              replace hP : va_P D vwCl [(w, .inr (4, [.ref wa0, .int wn1, .int wn2, .int wn3, .ref wa4, .int r2449, .int w2447, .int w2466, .int v2475, .int wn9])), (wa0, .inl (K 0, 1000, .inl wf0))] H := hP
              replace hD : va_D A [(w, .inr (4, [.ref wa0, .int wn1, .int wn2, .int wn3, .ref wa4, .int r2449, .int w2447, .int w2466, .int v2475, .int wn9])), (wa0, .inl (K 0, 1000, .inl wf0))] := hD
              refine lv_aload_n hx hb dX4_advance_160 rfl (lv_at hl 2 rfl) ?_
              refine lv_dup hx hb dX4_advance_161 rfl ?_
              refine va_get (D := D) (ci := 4) (v := .int w2466) (C := RX4) (T := TX4) (N := 10) hx hb hts in_X4 hown hE.1 hP 0 rfl rfl 7 (by decide) (hts _ w_402) (fun _ h9 => h9) rfl dX4_advance_162 ?_
              refine lv_iconst (v := 1) hx hb dX4_advance_165 (by decide) ?_
              refine lv_iadd hx hb dX4_advance_166 ?_
              refine lv_topi (fun v2476 ev2476 => ?_)
              refine va_put (D := D) (ci := 4) (v := .int v2476) (ty := .int) (C := RX4) (T := TX4) (N := 10) hx hb hts in_X4 tyX4 tyX4_ok nmX4 hown hE.1 hP hD hS 0 rfl rfl 7 (by decide) (hts _ w_402) (fun _ h9 => h9) rfl (by decide +kernel) rfl rfl (Nat.le_of_ble_eq_true rfl) dX4_advance_167 (fun H locs hP hD hS => ?_)
              replace hP : va_P D vwCl [(w, .inr (4, [.ref wa0, .int wn1, .int wn2, .int wn3, .ref wa4, .int r2449, .int w2447, .int v2476, .int v2475, .int wn9])), (wa0, .inl (K 0, 1000, .inl wf0))] H := hP
              replace hD : va_D A [(w, .inr (4, [.ref wa0, .int wn1, .int wn2, .int wn3, .ref wa4, .int r2449, .int w2447, .int v2476, .int v2475, .int wn9])), (wa0, .inl (K 0, 1000, .inl wf0))] := hD
              obtain ⟨v2477, ev2477⟩ : ∃ z : Int32, z = i2465 + 1 := ⟨_, rfl⟩
              refine lv_iinc (v := v2477) (lv' := [(2, .int v2477), (1, .int 1), (0, .ref w)]) hx hb dX4_advance_170 hl (k := 0) rfl (by rw [ev2477]; rfl) (by decide) rfl (fun ls hl => ?_)
              refine lv_goto (tgt := 106) hx hb dX4_advance_173 (by decide) ?_
              have tv2477 : v2477.toInt = (i2465 : Int32).toInt + (1 : Int32).toInt := add_i ev2477 (by omega) (by omega)
              exact ih_106 (i2465 := v2477) (w2466 := v2476) (w2467 := v2475) (hi_106 := by omega) (H := H) (locs := locs) (ls := ls) (hn_106 := by omega) (hP := hP) (hD := hD) (hS := hS) (hl := lv_sub hl [0, 1, 2] rfl)
      · replace c2453 := ne_i c2453
        refine lv_aload_n hx hb dX4_advance_90 rfl (lv_at hl 1 rfl) ?_
        refine va_get (D := D) (ci := 4) (v := .int r2449) (C := RX4) (T := TX4) (N := 10) hx hb hts in_X4 hown hE.1 hP 0 rfl rfl 5 (by decide) (hts _ w_404) (fun _ h9 => h9) rfl dX4_advance_91 ?_
        refine lv_iconst (v := 2) hx hb dX4_advance_94 (by decide) ?_
        refine lv_icmp_ne (tgt := 102) hx hb dX4_advance_95 (by decide) (fun c2478 => ?_) (fun c2478 => ?_)
        · replace c2478 := ne_i c2478
          refine lv_iconst (v := 0) hx hb dX4_advance_102 (by decide) ?_
          refine lv_istore_n (lv' := [(1, .int 0), (0, .ref w)]) hx hb dX4_advance_103 rfl hl (by decide) rfl (fun ls hl => ?_)
          refine lv_iconst (v := 0) hx hb dX4_advance_104 (by decide) ?_
          refine lv_istore_n (lv' := [(2, .int 0), (1, .int 0), (0, .ref w)]) hx hb dX4_advance_105 rfl hl (by decide) rfl (fun ls hl => ?_)
          have hl' := hl; have hP' := hP; have hD' := hD; clear hl hP hD
          obtain ⟨i2481, hi_106, hl, hP, hD⟩ : ∃ (i2481 : Int32), ((0 : Int) ≤ i2481.toInt) ∧ lv_has ls 3 [(2, .int i2481), (1, .int 0), (0, .ref w)] ∧ va_P D vwCl [(w, .inr (4, [.ref wa0, .int wn1, .int wn2, .int wn3, .ref wa4, .int r2449, .int w2447, .int v2450, .int v2452, .int wn9])), (wa0, .inl (K 0, 1000, .inl wf0))] H ∧ va_D A [(w, .inr (4, [.ref wa0, .int wn1, .int wn2, .int wn3, .ref wa4, .int r2449, .int w2447, .int v2450, .int v2452, .int wn9])), (wa0, .inl (K 0, 1000, .inl wf0))] := ⟨_, by omega, hl', hP', hD'⟩
          clear hl' hP' hD'
          obtain ⟨n_106, hn_106⟩ : ∃ n : Nat, (1000 - i2481.toInt).toNat < n := ⟨_, Nat.lt_succ_self _⟩
          induction n_106 generalizing i2481 H locs ls with
          | zero => exact absurd hn_106 (Nat.not_lt_zero _)
          | succ n_106 ih_106 =>
            refine lv_iload_n hx hb dX4_advance_106 rfl (lv_at hl 0 rfl) ?_
            refine lv_sipush (v := 1000) hx hb dX4_advance_107 (by decide) ?_
            refine lv_icmp_ge (tgt := 176) hx hb dX4_advance_110 (by decide) (fun c2482 => ?_) (fun c2482 => ?_)
            · replace c2482 := le_i c2482
              refine W.widen (k := 0) (n := 0) (by decide) (by decide) ?_
              exact ch_vret hC hr hk hS dX4_advance_176 ((fun k => [r2449, w2447, v2450, v2452].getD k 0, fun k => [].getD k (fun _ => 0), fun k => [].getD k (fun _ => 0)) : ((Nat → Int32) × (Nat → Nat → Int32) × (Nat → Nat → Int64))) trivial (hP.sub [0, 1] rfl) (hD.sub [0, 1] (by decide) rfl)
            · replace c2482 := nle_i c2482
              refine lv_iload_n hx hb dX4_advance_113 rfl (lv_at hl 1 rfl) ?_
              refine lv_if_eq (tgt := 176) hx hb dX4_advance_114 (by decide) (fun _ => ?_) (fun h => absurd h (by decide))
              refine W.widen (k := 0) (n := 0) (by decide) (by decide) ?_
              exact ch_vret hC hr hk hS dX4_advance_176 ((fun k => [r2449, w2447, v2450, v2452].getD k 0, fun k => [].getD k (fun _ => 0), fun k => [].getD k (fun _ => 0)) : ((Nat → Int32) × (Nat → Nat → Int32) × (Nat → Nat → Int64))) trivial (hP.sub [0, 1] rfl) (hD.sub [0, 1] (by decide) rfl)
        · replace c2478 := eq_i c2478
          refine lv_iconst (v := 1) hx hb dX4_advance_98 (by decide) ?_
          refine lv_goto (tgt := 103) hx hb dX4_advance_99 (by decide) ?_
          refine lv_istore_n (lv' := [(1, .int 1), (0, .ref w)]) hx hb dX4_advance_103 rfl hl (by decide) rfl (fun ls hl => ?_)
          refine lv_iconst (v := 0) hx hb dX4_advance_104 (by decide) ?_
          refine lv_istore_n (lv' := [(2, .int 0), (1, .int 1), (0, .ref w)]) hx hb dX4_advance_105 rfl hl (by decide) rfl (fun ls hl => ?_)
          have hl' := hl; have hP' := hP; have hD' := hD; clear hl hP hD
          obtain ⟨i2494, w2495, w2496, hi_106, hl, hP, hD⟩ : ∃ (i2494 : Int32) (w2495 : Int32) (w2496 : Int32), ((0 : Int) ≤ i2494.toInt) ∧ lv_has ls 3 [(2, .int i2494), (1, .int 1), (0, .ref w)] ∧ va_P D vwCl [(w, .inr (4, [.ref wa0, .int wn1, .int wn2, .int wn3, .ref wa4, .int r2449, .int w2447, .int w2495, .int w2496, .int wn9])), (wa0, .inl (K 0, 1000, .inl wf0))] H ∧ va_D A [(w, .inr (4, [.ref wa0, .int wn1, .int wn2, .int wn3, .ref wa4, .int r2449, .int w2447, .int w2495, .int w2496, .int wn9])), (wa0, .inl (K 0, 1000, .inl wf0))] := ⟨_, _, _, by omega, hl', hP', hD'⟩
          clear hl' hP' hD'
          obtain ⟨n_106, hn_106⟩ : ∃ n : Nat, (1000 - i2494.toInt).toNat < n := ⟨_, Nat.lt_succ_self _⟩
          induction n_106 generalizing i2494 w2495 w2496 H locs ls with
          | zero => exact absurd hn_106 (Nat.not_lt_zero _)
          | succ n_106 ih_106 =>
            refine lv_iload_n hx hb dX4_advance_106 rfl (lv_at hl 0 rfl) ?_
            refine lv_sipush (v := 1000) hx hb dX4_advance_107 (by decide) ?_
            refine lv_icmp_ge (tgt := 176) hx hb dX4_advance_110 (by decide) (fun c2497 => ?_) (fun c2497 => ?_)
            · replace c2497 := le_i c2497
              refine W.widen (k := 0) (n := 0) (by decide) (by decide) ?_
              exact ch_vret hC hr hk hS dX4_advance_176 ((fun k => [r2449, w2447, w2495, w2496].getD k 0, fun k => [].getD k (fun _ => 0), fun k => [].getD k (fun _ => 0)) : ((Nat → Int32) × (Nat → Nat → Int32) × (Nat → Nat → Int64))) trivial (hP.sub [0, 1] rfl) (hD.sub [0, 1] (by decide) rfl)
            · replace c2497 := nle_i c2497
              refine lv_iload_n hx hb dX4_advance_113 rfl (lv_at hl 1 rfl) ?_
              refine lv_if_eq (tgt := 176) hx hb dX4_advance_114 (by decide) (fun h => absurd h (by decide)) (fun _ => ?_)
              refine lv_aload_n hx hb dX4_advance_117 rfl (lv_at hl 2 rfl) ?_
              refine lv_aload_n hx hb dX4_advance_118 rfl (lv_at hl 2 rfl) ?_
              refine va_get (D := D) (ci := 4) (v := .int w2495) (C := RX4) (T := TX4) (N := 10) hx hb hts in_X4 hown hE.1 hP 0 rfl rfl 7 (by decide) (hts _ w_402) (fun _ h9 => h9) rfl dX4_advance_119 ?_
              refine ro_V (As := [.int w2495]) (rest := []) hC hE kV_X4_57 (c_X4_kindAt l D K w wa0 wa4 wn1 wn2 wn3 r2449 w2447 w2495 w2496 wn9 wf0 w2495) (hP.sub (ws' := [(w, .inr (4, [.ref wa0, .int wn1, .int wn2, .int wn3, .ref wa4, .int r2449, .int w2447, .int w2495, .int w2496, .int wn9])), (wa0, .inl (K 0, 1000, .inl wf0))]) [0, 1] rfl) 0 4 rfl rfl rfl hl.1 rfl (Nat.le_of_ble_eq_true rfl) (by decide) (by decide) dX4_advance_122 (fun r2498 _ => ?_)
              refine lv_aload_n hx hb dX4_advance_125 rfl (lv_at hl 2 rfl) ?_
              refine va_get (D := D) (ci := 4) (v := .int r2449) (C := RX4) (T := TX4) (N := 10) hx hb hts in_X4 hown hE.1 hP 0 rfl rfl 5 (by decide) (hts _ w_404) (fun _ h9 => h9) rfl dX4_advance_126 ?_
              refine lv_icmp_ne (tgt := 176) hx hb dX4_advance_129 (by decide) (fun c2499 => ?_) (fun c2499 => ?_)
              · replace c2499 := ne_i c2499
                refine W.widen (k := 0) (n := 0) (by decide) (by decide) ?_
                exact ch_vret hC hr hk hS dX4_advance_176 ((fun k => [r2449, w2447, w2495, w2496].getD k 0, fun k => [].getD k (fun _ => 0), fun k => [].getD k (fun _ => 0)) : ((Nat → Int32) × (Nat → Nat → Int32) × (Nat → Nat → Int64))) trivial (hP.sub [0, 1] rfl) (hD.sub [0, 1] (by decide) rfl)
              · replace c2499 := eq_i c2499
                refine lv_aload_n hx hb dX4_advance_132 rfl (lv_at hl 2 rfl) ?_
                refine lv_ldc (v := 1000000) hx hb hown (hts _ w_416) dX4_advance_133 ?_
                refine lv_aload_n hx hb dX4_advance_135 rfl (lv_at hl 2 rfl) ?_
                refine va_get (D := D) (ci := 4) (v := .int w2496) (C := RX4) (T := TX4) (N := 10) hx hb hts in_X4 hown hE.1 hP 0 rfl rfl 8 (by decide) (hts _ w_405) (fun _ h9 => h9) rfl dX4_advance_136 ?_
                refine lv_bipush (v := 10) hx hb dX4_advance_139 (by decide) ?_
                refine lv_imul hx hb dX4_advance_141 ?_
                refine lv_topi (fun v2500 ev2500 => ?_)
                refine lv_aload_n hx hb dX4_advance_142 rfl (lv_at hl 2 rfl) ?_
                refine lv_aload_n hx hb dX4_advance_143 rfl (lv_at hl 2 rfl) ?_
                refine va_get (D := D) (ci := 4) (v := .int w2495) (C := RX4) (T := TX4) (N := 10) hx hb hts in_X4 hown hE.1 hP 0 rfl rfl 7 (by decide) (hts _ w_402) (fun _ h9 => h9) rfl dX4_advance_144 ?_
                refine ro_V (As := [.int w2495]) (rest := [.int v2500, .int 1000000, .ref w]) hC hE kV_X4_61 (c_X4_byteAt l D K w wa0 wa4 wn1 wn2 wn3 r2449 w2447 w2495 w2496 wn9 wf0 w2495) (hP.sub (ws' := [(w, .inr (4, [.ref wa0, .int wn1, .int wn2, .int wn3, .ref wa4, .int r2449, .int w2447, .int w2495, .int w2496, .int wn9])), (wa0, .inl (K 0, 1000, .inl wf0))]) [0, 1] rfl) 0 4 rfl rfl rfl hl.1 rfl (Nat.le_of_ble_eq_true rfl) (by decide) (by decide) dX4_advance_147 (fun r2501 _ => ?_)
                refine lv_iadd hx hb dX4_advance_150 ?_
                refine lv_topi (fun v2502 ev2502 => ?_)
                refine lv_bipush (v := 48) hx hb dX4_advance_151 (by decide) ?_
                refine lv_isub hx hb dX4_advance_153 ?_
                refine lv_topi (fun v2503 ev2503 => ?_)
                refine va_mmin hx hb (hml.trans hl.1.symm) hown (hts _ w_406) (hts _ w_142) (hts _ w_143) (hts _ w_144) (by decide) (Nat.le_of_ble_eq_true rfl) (by decide) (by decide) dX4_advance_154 ?_
                refine lv_topi (fun v2504 ev2504 => ?_)
                have tv2504 := min_i ev2504
                refine va_put (D := D) (ci := 4) (v := .int v2504) (ty := .int) (C := RX4) (T := TX4) (N := 10) hx hb hts in_X4 tyX4 tyX4_ok nmX4 hown hE.1 hP hD hS 0 rfl rfl 8 (by decide) (hts _ w_405) (fun _ h9 => h9) rfl (by decide +kernel) rfl rfl (Nat.le_of_ble_eq_true rfl) dX4_advance_157 (fun H locs hP hD hS => ?_)
                replace hP : va_P D vwCl [(w, .inr (4, [.ref wa0, .int wn1, .int wn2, .int wn3, .ref wa4, .int r2449, .int w2447, .int w2495, .int v2504, .int wn9])), (wa0, .inl (K 0, 1000, .inl wf0))] H := hP
                replace hD : va_D A [(w, .inr (4, [.ref wa0, .int wn1, .int wn2, .int wn3, .ref wa4, .int r2449, .int w2447, .int w2495, .int v2504, .int wn9])), (wa0, .inl (K 0, 1000, .inl wf0))] := hD
                refine lv_aload_n hx hb dX4_advance_160 rfl (lv_at hl 2 rfl) ?_
                refine lv_dup hx hb dX4_advance_161 rfl ?_
                refine va_get (D := D) (ci := 4) (v := .int w2495) (C := RX4) (T := TX4) (N := 10) hx hb hts in_X4 hown hE.1 hP 0 rfl rfl 7 (by decide) (hts _ w_402) (fun _ h9 => h9) rfl dX4_advance_162 ?_
                refine lv_iconst (v := 1) hx hb dX4_advance_165 (by decide) ?_
                refine lv_iadd hx hb dX4_advance_166 ?_
                refine lv_topi (fun v2505 ev2505 => ?_)
                refine va_put (D := D) (ci := 4) (v := .int v2505) (ty := .int) (C := RX4) (T := TX4) (N := 10) hx hb hts in_X4 tyX4 tyX4_ok nmX4 hown hE.1 hP hD hS 0 rfl rfl 7 (by decide) (hts _ w_402) (fun _ h9 => h9) rfl (by decide +kernel) rfl rfl (Nat.le_of_ble_eq_true rfl) dX4_advance_167 (fun H locs hP hD hS => ?_)
                replace hP : va_P D vwCl [(w, .inr (4, [.ref wa0, .int wn1, .int wn2, .int wn3, .ref wa4, .int r2449, .int w2447, .int v2505, .int v2504, .int wn9])), (wa0, .inl (K 0, 1000, .inl wf0))] H := hP
                replace hD : va_D A [(w, .inr (4, [.ref wa0, .int wn1, .int wn2, .int wn3, .ref wa4, .int r2449, .int w2447, .int v2505, .int v2504, .int wn9])), (wa0, .inl (K 0, 1000, .inl wf0))] := hD
                obtain ⟨v2506, ev2506⟩ : ∃ z : Int32, z = i2494 + 1 := ⟨_, rfl⟩
                refine lv_iinc (v := v2506) (lv' := [(2, .int v2506), (1, .int 1), (0, .ref w)]) hx hb dX4_advance_170 hl (k := 0) rfl (by rw [ev2506]; rfl) (by decide) rfl (fun ls hl => ?_)
                refine lv_goto (tgt := 106) hx hb dX4_advance_173 (by decide) ?_
                have tv2506 : v2506.toInt = (i2494 : Int32).toInt + (1 : Int32).toInt := add_i ev2506 (by omega) (by omega)
                exact ih_106 (i2494 := v2506) (w2495 := v2505) (w2496 := v2504) (hi_106 := by omega) (H := H) (locs := locs) (ls := ls) (hn_106 := by omega) (hP := hP) (hD := hD) (hS := hS) (hl := lv_sub hl [0, 1, 2] rfl)
    · replace c2448 := nle_i c2448
      refine lv_aload_n hx hb dX4_advance_17 rfl (lv_at hl 1 rfl) ?_
      refine lv_aload_n hx hb dX4_advance_18 rfl (lv_at hl 1 rfl) ?_
      refine va_get (D := D) (ci := 4) (v := .int w2447) (C := RX4) (T := TX4) (N := 10) hx hb hts in_X4 hown hE.1 hP 0 rfl rfl 6 (by decide) (hts _ w_403) (fun _ h9 => h9) rfl dX4_advance_19 ?_
      refine ro_V (As := [.int w2447]) (rest := []) hC hE kV_X4_57 (c_X4_kindAt l D K w wa0 wa4 wn1 wn2 wn3 wn5 w2447 wn7 wn8 wn9 wf0 w2447) (hP.sub (ws' := [(w, .inr (4, [.ref wa0, .int wn1, .int wn2, .int wn3, .ref wa4, .int wn5, .int w2447, .int wn7, .int wn8, .int wn9])), (wa0, .inl (K 0, 1000, .inl wf0))]) [0, 1] rfl) 0 4 rfl rfl rfl hl.1 rfl (Nat.le_of_ble_eq_true rfl) (by decide) (by decide) dX4_advance_22 (fun r2507 _ => ?_)
      refine lv_iconst (v := 5) hx hb dX4_advance_25 (by decide) ?_
      refine lv_icmp_ne (tgt := 45) hx hb dX4_advance_26 (by decide) (fun c2508 => ?_) (fun c2508 => ?_)
      · replace c2508 := ne_i c2508
        refine lv_aload_n hx hb dX4_advance_45 rfl (lv_at hl 1 rfl) ?_
        refine lv_aload_n hx hb dX4_advance_46 rfl (lv_at hl 1 rfl) ?_
        refine lv_aload_n hx hb dX4_advance_47 rfl (lv_at hl 1 rfl) ?_
        refine va_get (D := D) (ci := 4) (v := .int w2447) (C := RX4) (T := TX4) (N := 10) hx hb hts in_X4 hown hE.1 hP 0 rfl rfl 6 (by decide) (hts _ w_403) (fun _ h9 => h9) rfl dX4_advance_48 ?_
        refine ro_V (As := [.int w2447]) (rest := [.ref w]) hC hE kV_X4_57 (c_X4_kindAt l D K w wa0 wa4 wn1 wn2 wn3 wn5 w2447 wn7 wn8 wn9 wf0 w2447) (hP.sub (ws' := [(w, .inr (4, [.ref wa0, .int wn1, .int wn2, .int wn3, .ref wa4, .int wn5, .int w2447, .int wn7, .int wn8, .int wn9])), (wa0, .inl (K 0, 1000, .inl wf0))]) [0, 1] rfl) 0 4 rfl rfl rfl hl.1 rfl (Nat.le_of_ble_eq_true rfl) (by decide) (by decide) dX4_advance_51 (fun r2509 _ => ?_)
        refine va_put (D := D) (ci := 4) (v := .int r2509) (ty := .int) (C := RX4) (T := TX4) (N := 10) hx hb hts in_X4 tyX4 tyX4_ok nmX4 hown hE.1 hP hD hS 0 rfl rfl 5 (by decide) (hts _ w_404) (fun _ h9 => h9) rfl (by decide +kernel) rfl rfl (Nat.le_of_ble_eq_true rfl) dX4_advance_54 (fun H locs hP hD hS => ?_)
        replace hP : va_P D vwCl [(w, .inr (4, [.ref wa0, .int wn1, .int wn2, .int wn3, .ref wa4, .int r2509, .int w2447, .int wn7, .int wn8, .int wn9])), (wa0, .inl (K 0, 1000, .inl wf0))] H := hP
        replace hD : va_D A [(w, .inr (4, [.ref wa0, .int wn1, .int wn2, .int wn3, .ref wa4, .int r2509, .int w2447, .int wn7, .int wn8, .int wn9])), (wa0, .inl (K 0, 1000, .inl wf0))] := hD
        refine lv_aload_n hx hb dX4_advance_57 rfl (lv_at hl 1 rfl) ?_
        refine lv_aload_n hx hb dX4_advance_58 rfl (lv_at hl 1 rfl) ?_
        refine va_get (D := D) (ci := 4) (v := .int w2447) (C := RX4) (T := TX4) (N := 10) hx hb hts in_X4 hown hE.1 hP 0 rfl rfl 6 (by decide) (hts _ w_403) (fun _ h9 => h9) rfl dX4_advance_59 ?_
        refine lv_iconst (v := 1) hx hb dX4_advance_62 (by decide) ?_
        refine lv_iadd hx hb dX4_advance_63 ?_
        refine lv_topi (fun v2510 ev2510 => ?_)
        refine va_put (D := D) (ci := 4) (v := .int v2510) (ty := .int) (C := RX4) (T := TX4) (N := 10) hx hb hts in_X4 tyX4 tyX4_ok nmX4 hown hE.1 hP hD hS 0 rfl rfl 7 (by decide) (hts _ w_402) (fun _ h9 => h9) rfl (by decide +kernel) rfl rfl (Nat.le_of_ble_eq_true rfl) dX4_advance_64 (fun H locs hP hD hS => ?_)
        replace hP : va_P D vwCl [(w, .inr (4, [.ref wa0, .int wn1, .int wn2, .int wn3, .ref wa4, .int r2509, .int w2447, .int v2510, .int wn8, .int wn9])), (wa0, .inl (K 0, 1000, .inl wf0))] H := hP
        replace hD : va_D A [(w, .inr (4, [.ref wa0, .int wn1, .int wn2, .int wn3, .ref wa4, .int r2509, .int w2447, .int v2510, .int wn8, .int wn9])), (wa0, .inl (K 0, 1000, .inl wf0))] := hD
        refine lv_aload_n hx hb dX4_advance_67 rfl (lv_at hl 1 rfl) ?_
        refine lv_aload_n hx hb dX4_advance_68 rfl (lv_at hl 1 rfl) ?_
        refine lv_aload_n hx hb dX4_advance_69 rfl (lv_at hl 1 rfl) ?_
        refine va_get (D := D) (ci := 4) (v := .int w2447) (C := RX4) (T := TX4) (N := 10) hx hb hts in_X4 hown hE.1 hP 0 rfl rfl 6 (by decide) (hts _ w_403) (fun _ h9 => h9) rfl dX4_advance_70 ?_
        refine ro_V (As := [.int w2447]) (rest := [.ref w]) hC hE kV_X4_61 (c_X4_byteAt l D K w wa0 wa4 wn1 wn2 wn3 r2509 w2447 v2510 wn8 wn9 wf0 w2447) (hP.sub (ws' := [(w, .inr (4, [.ref wa0, .int wn1, .int wn2, .int wn3, .ref wa4, .int r2509, .int w2447, .int v2510, .int wn8, .int wn9])), (wa0, .inl (K 0, 1000, .inl wf0))]) [0, 1] rfl) 0 4 rfl rfl rfl hl.1 rfl (Nat.le_of_ble_eq_true rfl) (by decide) (by decide) dX4_advance_73 (fun r2511 _ => ?_)
        refine lv_bipush (v := 48) hx hb dX4_advance_76 (by decide) ?_
        refine lv_isub hx hb dX4_advance_78 ?_
        refine lv_topi (fun v2512 ev2512 => ?_)
        refine va_put (D := D) (ci := 4) (v := .int v2512) (ty := .int) (C := RX4) (T := TX4) (N := 10) hx hb hts in_X4 tyX4 tyX4_ok nmX4 hown hE.1 hP hD hS 0 rfl rfl 8 (by decide) (hts _ w_405) (fun _ h9 => h9) rfl (by decide +kernel) rfl rfl (Nat.le_of_ble_eq_true rfl) dX4_advance_79 (fun H locs hP hD hS => ?_)
        replace hP : va_P D vwCl [(w, .inr (4, [.ref wa0, .int wn1, .int wn2, .int wn3, .ref wa4, .int r2509, .int w2447, .int v2510, .int v2512, .int wn9])), (wa0, .inl (K 0, 1000, .inl wf0))] H := hP
        replace hD : va_D A [(w, .inr (4, [.ref wa0, .int wn1, .int wn2, .int wn3, .ref wa4, .int r2509, .int w2447, .int v2510, .int v2512, .int wn9])), (wa0, .inl (K 0, 1000, .inl wf0))] := hD
        refine lv_aload_n hx hb dX4_advance_82 rfl (lv_at hl 1 rfl) ?_
        refine va_get (D := D) (ci := 4) (v := .int r2509) (C := RX4) (T := TX4) (N := 10) hx hb hts in_X4 hown hE.1 hP 0 rfl rfl 5 (by decide) (hts _ w_404) (fun _ h9 => h9) rfl dX4_advance_83 ?_
        refine lv_iconst (v := 1) hx hb dX4_advance_86 (by decide) ?_
        refine lv_icmp_eq (tgt := 98) hx hb dX4_advance_87 (by decide) (fun c2513 => ?_) (fun c2513 => ?_)
        · replace c2513 := eq_i c2513
          refine lv_iconst (v := 1) hx hb dX4_advance_98 (by decide) ?_
          refine lv_goto (tgt := 103) hx hb dX4_advance_99 (by decide) ?_
          refine lv_istore_n (lv' := [(1, .int 1), (0, .ref w)]) hx hb dX4_advance_103 rfl hl (by decide) rfl (fun ls hl => ?_)
          refine lv_iconst (v := 0) hx hb dX4_advance_104 (by decide) ?_
          refine lv_istore_n (lv' := [(2, .int 0), (1, .int 1), (0, .ref w)]) hx hb dX4_advance_105 rfl hl (by decide) rfl (fun ls hl => ?_)
          have hl' := hl; have hP' := hP; have hD' := hD; clear hl hP hD
          obtain ⟨i2525, w2526, w2527, hi_106, hl, hP, hD⟩ : ∃ (i2525 : Int32) (w2526 : Int32) (w2527 : Int32), ((0 : Int) ≤ i2525.toInt) ∧ lv_has ls 3 [(2, .int i2525), (1, .int 1), (0, .ref w)] ∧ va_P D vwCl [(w, .inr (4, [.ref wa0, .int wn1, .int wn2, .int wn3, .ref wa4, .int r2509, .int w2447, .int w2526, .int w2527, .int wn9])), (wa0, .inl (K 0, 1000, .inl wf0))] H ∧ va_D A [(w, .inr (4, [.ref wa0, .int wn1, .int wn2, .int wn3, .ref wa4, .int r2509, .int w2447, .int w2526, .int w2527, .int wn9])), (wa0, .inl (K 0, 1000, .inl wf0))] := ⟨_, _, _, by omega, hl', hP', hD'⟩
          clear hl' hP' hD'
          obtain ⟨n_106, hn_106⟩ : ∃ n : Nat, (1000 - i2525.toInt).toNat < n := ⟨_, Nat.lt_succ_self _⟩
          induction n_106 generalizing i2525 w2526 w2527 H locs ls with
          | zero => exact absurd hn_106 (Nat.not_lt_zero _)
          | succ n_106 ih_106 =>
            refine lv_iload_n hx hb dX4_advance_106 rfl (lv_at hl 0 rfl) ?_
            refine lv_sipush (v := 1000) hx hb dX4_advance_107 (by decide) ?_
            refine lv_icmp_ge (tgt := 176) hx hb dX4_advance_110 (by decide) (fun c2528 => ?_) (fun c2528 => ?_)
            · replace c2528 := le_i c2528
              refine W.widen (k := 0) (n := 0) (by decide) (by decide) ?_
              exact ch_vret hC hr hk hS dX4_advance_176 ((fun k => [r2509, w2447, w2526, w2527].getD k 0, fun k => [].getD k (fun _ => 0), fun k => [].getD k (fun _ => 0)) : ((Nat → Int32) × (Nat → Nat → Int32) × (Nat → Nat → Int64))) trivial (hP.sub [0, 1] rfl) (hD.sub [0, 1] (by decide) rfl)
            · replace c2528 := nle_i c2528
              refine lv_iload_n hx hb dX4_advance_113 rfl (lv_at hl 1 rfl) ?_
              refine lv_if_eq (tgt := 176) hx hb dX4_advance_114 (by decide) (fun h => absurd h (by decide)) (fun _ => ?_)
              refine lv_aload_n hx hb dX4_advance_117 rfl (lv_at hl 2 rfl) ?_
              refine lv_aload_n hx hb dX4_advance_118 rfl (lv_at hl 2 rfl) ?_
              refine va_get (D := D) (ci := 4) (v := .int w2526) (C := RX4) (T := TX4) (N := 10) hx hb hts in_X4 hown hE.1 hP 0 rfl rfl 7 (by decide) (hts _ w_402) (fun _ h9 => h9) rfl dX4_advance_119 ?_
              refine ro_V (As := [.int w2526]) (rest := []) hC hE kV_X4_57 (c_X4_kindAt l D K w wa0 wa4 wn1 wn2 wn3 r2509 w2447 w2526 w2527 wn9 wf0 w2526) (hP.sub (ws' := [(w, .inr (4, [.ref wa0, .int wn1, .int wn2, .int wn3, .ref wa4, .int r2509, .int w2447, .int w2526, .int w2527, .int wn9])), (wa0, .inl (K 0, 1000, .inl wf0))]) [0, 1] rfl) 0 4 rfl rfl rfl hl.1 rfl (Nat.le_of_ble_eq_true rfl) (by decide) (by decide) dX4_advance_122 (fun r2529 _ => ?_)
              refine lv_aload_n hx hb dX4_advance_125 rfl (lv_at hl 2 rfl) ?_
              refine va_get (D := D) (ci := 4) (v := .int r2509) (C := RX4) (T := TX4) (N := 10) hx hb hts in_X4 hown hE.1 hP 0 rfl rfl 5 (by decide) (hts _ w_404) (fun _ h9 => h9) rfl dX4_advance_126 ?_
              refine lv_icmp_ne (tgt := 176) hx hb dX4_advance_129 (by decide) (fun c2530 => ?_) (fun c2530 => ?_)
              · replace c2530 := ne_i c2530
                refine W.widen (k := 0) (n := 0) (by decide) (by decide) ?_
                exact ch_vret hC hr hk hS dX4_advance_176 ((fun k => [r2509, w2447, w2526, w2527].getD k 0, fun k => [].getD k (fun _ => 0), fun k => [].getD k (fun _ => 0)) : ((Nat → Int32) × (Nat → Nat → Int32) × (Nat → Nat → Int64))) trivial (hP.sub [0, 1] rfl) (hD.sub [0, 1] (by decide) rfl)
              · replace c2530 := eq_i c2530
                refine lv_aload_n hx hb dX4_advance_132 rfl (lv_at hl 2 rfl) ?_
                refine lv_ldc (v := 1000000) hx hb hown (hts _ w_416) dX4_advance_133 ?_
                refine lv_aload_n hx hb dX4_advance_135 rfl (lv_at hl 2 rfl) ?_
                refine va_get (D := D) (ci := 4) (v := .int w2527) (C := RX4) (T := TX4) (N := 10) hx hb hts in_X4 hown hE.1 hP 0 rfl rfl 8 (by decide) (hts _ w_405) (fun _ h9 => h9) rfl dX4_advance_136 ?_
                refine lv_bipush (v := 10) hx hb dX4_advance_139 (by decide) ?_
                refine lv_imul hx hb dX4_advance_141 ?_
                refine lv_topi (fun v2531 ev2531 => ?_)
                refine lv_aload_n hx hb dX4_advance_142 rfl (lv_at hl 2 rfl) ?_
                refine lv_aload_n hx hb dX4_advance_143 rfl (lv_at hl 2 rfl) ?_
                refine va_get (D := D) (ci := 4) (v := .int w2526) (C := RX4) (T := TX4) (N := 10) hx hb hts in_X4 hown hE.1 hP 0 rfl rfl 7 (by decide) (hts _ w_402) (fun _ h9 => h9) rfl dX4_advance_144 ?_
                refine ro_V (As := [.int w2526]) (rest := [.int v2531, .int 1000000, .ref w]) hC hE kV_X4_61 (c_X4_byteAt l D K w wa0 wa4 wn1 wn2 wn3 r2509 w2447 w2526 w2527 wn9 wf0 w2526) (hP.sub (ws' := [(w, .inr (4, [.ref wa0, .int wn1, .int wn2, .int wn3, .ref wa4, .int r2509, .int w2447, .int w2526, .int w2527, .int wn9])), (wa0, .inl (K 0, 1000, .inl wf0))]) [0, 1] rfl) 0 4 rfl rfl rfl hl.1 rfl (Nat.le_of_ble_eq_true rfl) (by decide) (by decide) dX4_advance_147 (fun r2532 _ => ?_)
                refine lv_iadd hx hb dX4_advance_150 ?_
                refine lv_topi (fun v2533 ev2533 => ?_)
                refine lv_bipush (v := 48) hx hb dX4_advance_151 (by decide) ?_
                refine lv_isub hx hb dX4_advance_153 ?_
                refine lv_topi (fun v2534 ev2534 => ?_)
                refine va_mmin hx hb (hml.trans hl.1.symm) hown (hts _ w_406) (hts _ w_142) (hts _ w_143) (hts _ w_144) (by decide) (Nat.le_of_ble_eq_true rfl) (by decide) (by decide) dX4_advance_154 ?_
                refine lv_topi (fun v2535 ev2535 => ?_)
                have tv2535 := min_i ev2535
                refine va_put (D := D) (ci := 4) (v := .int v2535) (ty := .int) (C := RX4) (T := TX4) (N := 10) hx hb hts in_X4 tyX4 tyX4_ok nmX4 hown hE.1 hP hD hS 0 rfl rfl 8 (by decide) (hts _ w_405) (fun _ h9 => h9) rfl (by decide +kernel) rfl rfl (Nat.le_of_ble_eq_true rfl) dX4_advance_157 (fun H locs hP hD hS => ?_)
                replace hP : va_P D vwCl [(w, .inr (4, [.ref wa0, .int wn1, .int wn2, .int wn3, .ref wa4, .int r2509, .int w2447, .int w2526, .int v2535, .int wn9])), (wa0, .inl (K 0, 1000, .inl wf0))] H := hP
                replace hD : va_D A [(w, .inr (4, [.ref wa0, .int wn1, .int wn2, .int wn3, .ref wa4, .int r2509, .int w2447, .int w2526, .int v2535, .int wn9])), (wa0, .inl (K 0, 1000, .inl wf0))] := hD
                refine lv_aload_n hx hb dX4_advance_160 rfl (lv_at hl 2 rfl) ?_
                refine lv_dup hx hb dX4_advance_161 rfl ?_
                refine va_get (D := D) (ci := 4) (v := .int w2526) (C := RX4) (T := TX4) (N := 10) hx hb hts in_X4 hown hE.1 hP 0 rfl rfl 7 (by decide) (hts _ w_402) (fun _ h9 => h9) rfl dX4_advance_162 ?_
                refine lv_iconst (v := 1) hx hb dX4_advance_165 (by decide) ?_
                refine lv_iadd hx hb dX4_advance_166 ?_
                refine lv_topi (fun v2536 ev2536 => ?_)
                refine va_put (D := D) (ci := 4) (v := .int v2536) (ty := .int) (C := RX4) (T := TX4) (N := 10) hx hb hts in_X4 tyX4 tyX4_ok nmX4 hown hE.1 hP hD hS 0 rfl rfl 7 (by decide) (hts _ w_402) (fun _ h9 => h9) rfl (by decide +kernel) rfl rfl (Nat.le_of_ble_eq_true rfl) dX4_advance_167 (fun H locs hP hD hS => ?_)
                replace hP : va_P D vwCl [(w, .inr (4, [.ref wa0, .int wn1, .int wn2, .int wn3, .ref wa4, .int r2509, .int w2447, .int v2536, .int v2535, .int wn9])), (wa0, .inl (K 0, 1000, .inl wf0))] H := hP
                replace hD : va_D A [(w, .inr (4, [.ref wa0, .int wn1, .int wn2, .int wn3, .ref wa4, .int r2509, .int w2447, .int v2536, .int v2535, .int wn9])), (wa0, .inl (K 0, 1000, .inl wf0))] := hD
                obtain ⟨v2537, ev2537⟩ : ∃ z : Int32, z = i2525 + 1 := ⟨_, rfl⟩
                refine lv_iinc (v := v2537) (lv' := [(2, .int v2537), (1, .int 1), (0, .ref w)]) hx hb dX4_advance_170 hl (k := 0) rfl (by rw [ev2537]; rfl) (by decide) rfl (fun ls hl => ?_)
                refine lv_goto (tgt := 106) hx hb dX4_advance_173 (by decide) ?_
                have tv2537 : v2537.toInt = (i2525 : Int32).toInt + (1 : Int32).toInt := add_i ev2537 (by omega) (by omega)
                exact ih_106 (i2525 := v2537) (w2526 := v2536) (w2527 := v2535) (hi_106 := by omega) (H := H) (locs := locs) (ls := ls) (hn_106 := by omega) (hP := hP) (hD := hD) (hS := hS) (hl := lv_sub hl [0, 1, 2] rfl)
        · replace c2513 := ne_i c2513
          refine lv_aload_n hx hb dX4_advance_90 rfl (lv_at hl 1 rfl) ?_
          refine va_get (D := D) (ci := 4) (v := .int r2509) (C := RX4) (T := TX4) (N := 10) hx hb hts in_X4 hown hE.1 hP 0 rfl rfl 5 (by decide) (hts _ w_404) (fun _ h9 => h9) rfl dX4_advance_91 ?_
          refine lv_iconst (v := 2) hx hb dX4_advance_94 (by decide) ?_
          refine lv_icmp_ne (tgt := 102) hx hb dX4_advance_95 (by decide) (fun c2538 => ?_) (fun c2538 => ?_)
          · replace c2538 := ne_i c2538
            refine lv_iconst (v := 0) hx hb dX4_advance_102 (by decide) ?_
            refine lv_istore_n (lv' := [(1, .int 0), (0, .ref w)]) hx hb dX4_advance_103 rfl hl (by decide) rfl (fun ls hl => ?_)
            refine lv_iconst (v := 0) hx hb dX4_advance_104 (by decide) ?_
            refine lv_istore_n (lv' := [(2, .int 0), (1, .int 0), (0, .ref w)]) hx hb dX4_advance_105 rfl hl (by decide) rfl (fun ls hl => ?_)
            have hl' := hl; have hP' := hP; have hD' := hD; clear hl hP hD
            obtain ⟨i2541, hi_106, hl, hP, hD⟩ : ∃ (i2541 : Int32), ((0 : Int) ≤ i2541.toInt) ∧ lv_has ls 3 [(2, .int i2541), (1, .int 0), (0, .ref w)] ∧ va_P D vwCl [(w, .inr (4, [.ref wa0, .int wn1, .int wn2, .int wn3, .ref wa4, .int r2509, .int w2447, .int v2510, .int v2512, .int wn9])), (wa0, .inl (K 0, 1000, .inl wf0))] H ∧ va_D A [(w, .inr (4, [.ref wa0, .int wn1, .int wn2, .int wn3, .ref wa4, .int r2509, .int w2447, .int v2510, .int v2512, .int wn9])), (wa0, .inl (K 0, 1000, .inl wf0))] := ⟨_, by omega, hl', hP', hD'⟩
            clear hl' hP' hD'
            obtain ⟨n_106, hn_106⟩ : ∃ n : Nat, (1000 - i2541.toInt).toNat < n := ⟨_, Nat.lt_succ_self _⟩
            induction n_106 generalizing i2541 H locs ls with
            | zero => exact absurd hn_106 (Nat.not_lt_zero _)
            | succ n_106 ih_106 =>
              refine lv_iload_n hx hb dX4_advance_106 rfl (lv_at hl 0 rfl) ?_
              refine lv_sipush (v := 1000) hx hb dX4_advance_107 (by decide) ?_
              refine lv_icmp_ge (tgt := 176) hx hb dX4_advance_110 (by decide) (fun c2542 => ?_) (fun c2542 => ?_)
              · replace c2542 := le_i c2542
                refine W.widen (k := 0) (n := 0) (by decide) (by decide) ?_
                exact ch_vret hC hr hk hS dX4_advance_176 ((fun k => [r2509, w2447, v2510, v2512].getD k 0, fun k => [].getD k (fun _ => 0), fun k => [].getD k (fun _ => 0)) : ((Nat → Int32) × (Nat → Nat → Int32) × (Nat → Nat → Int64))) trivial (hP.sub [0, 1] rfl) (hD.sub [0, 1] (by decide) rfl)
              · replace c2542 := nle_i c2542
                refine lv_iload_n hx hb dX4_advance_113 rfl (lv_at hl 1 rfl) ?_
                refine lv_if_eq (tgt := 176) hx hb dX4_advance_114 (by decide) (fun _ => ?_) (fun h => absurd h (by decide))
                refine W.widen (k := 0) (n := 0) (by decide) (by decide) ?_
                exact ch_vret hC hr hk hS dX4_advance_176 ((fun k => [r2509, w2447, v2510, v2512].getD k 0, fun k => [].getD k (fun _ => 0), fun k => [].getD k (fun _ => 0)) : ((Nat → Int32) × (Nat → Nat → Int32) × (Nat → Nat → Int64))) trivial (hP.sub [0, 1] rfl) (hD.sub [0, 1] (by decide) rfl)
          · replace c2538 := eq_i c2538
            refine lv_iconst (v := 1) hx hb dX4_advance_98 (by decide) ?_
            refine lv_goto (tgt := 103) hx hb dX4_advance_99 (by decide) ?_
            refine lv_istore_n (lv' := [(1, .int 1), (0, .ref w)]) hx hb dX4_advance_103 rfl hl (by decide) rfl (fun ls hl => ?_)
            refine lv_iconst (v := 0) hx hb dX4_advance_104 (by decide) ?_
            refine lv_istore_n (lv' := [(2, .int 0), (1, .int 1), (0, .ref w)]) hx hb dX4_advance_105 rfl hl (by decide) rfl (fun ls hl => ?_)
            have hl' := hl; have hP' := hP; have hD' := hD; clear hl hP hD
            obtain ⟨i2554, w2555, w2556, hi_106, hl, hP, hD⟩ : ∃ (i2554 : Int32) (w2555 : Int32) (w2556 : Int32), ((0 : Int) ≤ i2554.toInt) ∧ lv_has ls 3 [(2, .int i2554), (1, .int 1), (0, .ref w)] ∧ va_P D vwCl [(w, .inr (4, [.ref wa0, .int wn1, .int wn2, .int wn3, .ref wa4, .int r2509, .int w2447, .int w2555, .int w2556, .int wn9])), (wa0, .inl (K 0, 1000, .inl wf0))] H ∧ va_D A [(w, .inr (4, [.ref wa0, .int wn1, .int wn2, .int wn3, .ref wa4, .int r2509, .int w2447, .int w2555, .int w2556, .int wn9])), (wa0, .inl (K 0, 1000, .inl wf0))] := ⟨_, _, _, by omega, hl', hP', hD'⟩
            clear hl' hP' hD'
            obtain ⟨n_106, hn_106⟩ : ∃ n : Nat, (1000 - i2554.toInt).toNat < n := ⟨_, Nat.lt_succ_self _⟩
            induction n_106 generalizing i2554 w2555 w2556 H locs ls with
            | zero => exact absurd hn_106 (Nat.not_lt_zero _)
            | succ n_106 ih_106 =>
              refine lv_iload_n hx hb dX4_advance_106 rfl (lv_at hl 0 rfl) ?_
              refine lv_sipush (v := 1000) hx hb dX4_advance_107 (by decide) ?_
              refine lv_icmp_ge (tgt := 176) hx hb dX4_advance_110 (by decide) (fun c2557 => ?_) (fun c2557 => ?_)
              · replace c2557 := le_i c2557
                refine W.widen (k := 0) (n := 0) (by decide) (by decide) ?_
                exact ch_vret hC hr hk hS dX4_advance_176 ((fun k => [r2509, w2447, w2555, w2556].getD k 0, fun k => [].getD k (fun _ => 0), fun k => [].getD k (fun _ => 0)) : ((Nat → Int32) × (Nat → Nat → Int32) × (Nat → Nat → Int64))) trivial (hP.sub [0, 1] rfl) (hD.sub [0, 1] (by decide) rfl)
              · replace c2557 := nle_i c2557
                refine lv_iload_n hx hb dX4_advance_113 rfl (lv_at hl 1 rfl) ?_
                refine lv_if_eq (tgt := 176) hx hb dX4_advance_114 (by decide) (fun h => absurd h (by decide)) (fun _ => ?_)
                refine lv_aload_n hx hb dX4_advance_117 rfl (lv_at hl 2 rfl) ?_
                refine lv_aload_n hx hb dX4_advance_118 rfl (lv_at hl 2 rfl) ?_
                refine va_get (D := D) (ci := 4) (v := .int w2555) (C := RX4) (T := TX4) (N := 10) hx hb hts in_X4 hown hE.1 hP 0 rfl rfl 7 (by decide) (hts _ w_402) (fun _ h9 => h9) rfl dX4_advance_119 ?_
                refine ro_V (As := [.int w2555]) (rest := []) hC hE kV_X4_57 (c_X4_kindAt l D K w wa0 wa4 wn1 wn2 wn3 r2509 w2447 w2555 w2556 wn9 wf0 w2555) (hP.sub (ws' := [(w, .inr (4, [.ref wa0, .int wn1, .int wn2, .int wn3, .ref wa4, .int r2509, .int w2447, .int w2555, .int w2556, .int wn9])), (wa0, .inl (K 0, 1000, .inl wf0))]) [0, 1] rfl) 0 4 rfl rfl rfl hl.1 rfl (Nat.le_of_ble_eq_true rfl) (by decide) (by decide) dX4_advance_122 (fun r2558 _ => ?_)
                refine lv_aload_n hx hb dX4_advance_125 rfl (lv_at hl 2 rfl) ?_
                refine va_get (D := D) (ci := 4) (v := .int r2509) (C := RX4) (T := TX4) (N := 10) hx hb hts in_X4 hown hE.1 hP 0 rfl rfl 5 (by decide) (hts _ w_404) (fun _ h9 => h9) rfl dX4_advance_126 ?_
                refine lv_icmp_ne (tgt := 176) hx hb dX4_advance_129 (by decide) (fun c2559 => ?_) (fun c2559 => ?_)
                · replace c2559 := ne_i c2559
                  refine W.widen (k := 0) (n := 0) (by decide) (by decide) ?_
                  exact ch_vret hC hr hk hS dX4_advance_176 ((fun k => [r2509, w2447, w2555, w2556].getD k 0, fun k => [].getD k (fun _ => 0), fun k => [].getD k (fun _ => 0)) : ((Nat → Int32) × (Nat → Nat → Int32) × (Nat → Nat → Int64))) trivial (hP.sub [0, 1] rfl) (hD.sub [0, 1] (by decide) rfl)
                · replace c2559 := eq_i c2559
                  refine lv_aload_n hx hb dX4_advance_132 rfl (lv_at hl 2 rfl) ?_
                  refine lv_ldc (v := 1000000) hx hb hown (hts _ w_416) dX4_advance_133 ?_
                  refine lv_aload_n hx hb dX4_advance_135 rfl (lv_at hl 2 rfl) ?_
                  refine va_get (D := D) (ci := 4) (v := .int w2556) (C := RX4) (T := TX4) (N := 10) hx hb hts in_X4 hown hE.1 hP 0 rfl rfl 8 (by decide) (hts _ w_405) (fun _ h9 => h9) rfl dX4_advance_136 ?_
                  refine lv_bipush (v := 10) hx hb dX4_advance_139 (by decide) ?_
                  refine lv_imul hx hb dX4_advance_141 ?_
                  refine lv_topi (fun v2560 ev2560 => ?_)
                  refine lv_aload_n hx hb dX4_advance_142 rfl (lv_at hl 2 rfl) ?_
                  refine lv_aload_n hx hb dX4_advance_143 rfl (lv_at hl 2 rfl) ?_
                  refine va_get (D := D) (ci := 4) (v := .int w2555) (C := RX4) (T := TX4) (N := 10) hx hb hts in_X4 hown hE.1 hP 0 rfl rfl 7 (by decide) (hts _ w_402) (fun _ h9 => h9) rfl dX4_advance_144 ?_
                  refine ro_V (As := [.int w2555]) (rest := [.int v2560, .int 1000000, .ref w]) hC hE kV_X4_61 (c_X4_byteAt l D K w wa0 wa4 wn1 wn2 wn3 r2509 w2447 w2555 w2556 wn9 wf0 w2555) (hP.sub (ws' := [(w, .inr (4, [.ref wa0, .int wn1, .int wn2, .int wn3, .ref wa4, .int r2509, .int w2447, .int w2555, .int w2556, .int wn9])), (wa0, .inl (K 0, 1000, .inl wf0))]) [0, 1] rfl) 0 4 rfl rfl rfl hl.1 rfl (Nat.le_of_ble_eq_true rfl) (by decide) (by decide) dX4_advance_147 (fun r2561 _ => ?_)
                  refine lv_iadd hx hb dX4_advance_150 ?_
                  refine lv_topi (fun v2562 ev2562 => ?_)
                  refine lv_bipush (v := 48) hx hb dX4_advance_151 (by decide) ?_
                  refine lv_isub hx hb dX4_advance_153 ?_
                  refine lv_topi (fun v2563 ev2563 => ?_)
                  refine va_mmin hx hb (hml.trans hl.1.symm) hown (hts _ w_406) (hts _ w_142) (hts _ w_143) (hts _ w_144) (by decide) (Nat.le_of_ble_eq_true rfl) (by decide) (by decide) dX4_advance_154 ?_
                  refine lv_topi (fun v2564 ev2564 => ?_)
                  have tv2564 := min_i ev2564
                  refine va_put (D := D) (ci := 4) (v := .int v2564) (ty := .int) (C := RX4) (T := TX4) (N := 10) hx hb hts in_X4 tyX4 tyX4_ok nmX4 hown hE.1 hP hD hS 0 rfl rfl 8 (by decide) (hts _ w_405) (fun _ h9 => h9) rfl (by decide +kernel) rfl rfl (Nat.le_of_ble_eq_true rfl) dX4_advance_157 (fun H locs hP hD hS => ?_)
                  replace hP : va_P D vwCl [(w, .inr (4, [.ref wa0, .int wn1, .int wn2, .int wn3, .ref wa4, .int r2509, .int w2447, .int w2555, .int v2564, .int wn9])), (wa0, .inl (K 0, 1000, .inl wf0))] H := hP
                  replace hD : va_D A [(w, .inr (4, [.ref wa0, .int wn1, .int wn2, .int wn3, .ref wa4, .int r2509, .int w2447, .int w2555, .int v2564, .int wn9])), (wa0, .inl (K 0, 1000, .inl wf0))] := hD
                  refine lv_aload_n hx hb dX4_advance_160 rfl (lv_at hl 2 rfl) ?_
                  refine lv_dup hx hb dX4_advance_161 rfl ?_
                  refine va_get (D := D) (ci := 4) (v := .int w2555) (C := RX4) (T := TX4) (N := 10) hx hb hts in_X4 hown hE.1 hP 0 rfl rfl 7 (by decide) (hts _ w_402) (fun _ h9 => h9) rfl dX4_advance_162 ?_
                  refine lv_iconst (v := 1) hx hb dX4_advance_165 (by decide) ?_
                  refine lv_iadd hx hb dX4_advance_166 ?_
                  refine lv_topi (fun v2565 ev2565 => ?_)
                  refine va_put (D := D) (ci := 4) (v := .int v2565) (ty := .int) (C := RX4) (T := TX4) (N := 10) hx hb hts in_X4 tyX4 tyX4_ok nmX4 hown hE.1 hP hD hS 0 rfl rfl 7 (by decide) (hts _ w_402) (fun _ h9 => h9) rfl (by decide +kernel) rfl rfl (Nat.le_of_ble_eq_true rfl) dX4_advance_167 (fun H locs hP hD hS => ?_)
                  replace hP : va_P D vwCl [(w, .inr (4, [.ref wa0, .int wn1, .int wn2, .int wn3, .ref wa4, .int r2509, .int w2447, .int v2565, .int v2564, .int wn9])), (wa0, .inl (K 0, 1000, .inl wf0))] H := hP
                  replace hD : va_D A [(w, .inr (4, [.ref wa0, .int wn1, .int wn2, .int wn3, .ref wa4, .int r2509, .int w2447, .int v2565, .int v2564, .int wn9])), (wa0, .inl (K 0, 1000, .inl wf0))] := hD
                  obtain ⟨v2566, ev2566⟩ : ∃ z : Int32, z = i2554 + 1 := ⟨_, rfl⟩
                  refine lv_iinc (v := v2566) (lv' := [(2, .int v2566), (1, .int 1), (0, .ref w)]) hx hb dX4_advance_170 hl (k := 0) rfl (by rw [ev2566]; rfl) (by decide) rfl (fun ls hl => ?_)
                  refine lv_goto (tgt := 106) hx hb dX4_advance_173 (by decide) ?_
                  have tv2566 : v2566.toInt = (i2554 : Int32).toInt + (1 : Int32).toInt := add_i ev2566 (by omega) (by omega)
                  exact ih_106 (i2554 := v2566) (w2555 := v2565) (w2556 := v2564) (hi_106 := by omega) (H := H) (locs := locs) (ls := ls) (hn_106 := by omega) (hP := hP) (hD := hD) (hS := hS) (hl := lv_sub hl [0, 1, 2] rfl)
      · replace c2508 := eq_i c2508
        refine lv_aload_n hx hb dX4_advance_29 rfl (lv_at hl 1 rfl) ?_
        refine lv_dup hx hb dX4_advance_30 rfl ?_
        refine va_get (D := D) (ci := 4) (v := .int w2447) (C := RX4) (T := TX4) (N := 10) hx hb hts in_X4 hown hE.1 hP 0 rfl rfl 6 (by decide) (hts _ w_403) (fun _ h9 => h9) rfl dX4_advance_31 ?_
        refine lv_iconst (v := 1) hx hb dX4_advance_34 (by decide) ?_
        refine lv_iadd hx hb dX4_advance_35 ?_
        refine lv_topi (fun v2567 ev2567 => ?_)
        refine va_put (D := D) (ci := 4) (v := .int v2567) (ty := .int) (C := RX4) (T := TX4) (N := 10) hx hb hts in_X4 tyX4 tyX4_ok nmX4 hown hE.1 hP hD hS 0 rfl rfl 6 (by decide) (hts _ w_403) (fun _ h9 => h9) rfl (by decide +kernel) rfl rfl (Nat.le_of_ble_eq_true rfl) dX4_advance_36 (fun H locs hP hD hS => ?_)
        replace hP : va_P D vwCl [(w, .inr (4, [.ref wa0, .int wn1, .int wn2, .int wn3, .ref wa4, .int wn5, .int v2567, .int wn7, .int wn8, .int wn9])), (wa0, .inl (K 0, 1000, .inl wf0))] H := hP
        replace hD : va_D A [(w, .inr (4, [.ref wa0, .int wn1, .int wn2, .int wn3, .ref wa4, .int wn5, .int v2567, .int wn7, .int wn8, .int wn9])), (wa0, .inl (K 0, 1000, .inl wf0))] := hD
        obtain ⟨v2568, ev2568⟩ : ∃ z : Int32, z = i2446 + 1 := ⟨_, rfl⟩
        refine lv_iinc (v := v2568) (lv' := [(1, .int v2568), (0, .ref w)]) hx hb dX4_advance_39 hl (k := 0) rfl (by rw [ev2568]; rfl) (by decide) rfl (fun ls hl => ?_)
        refine lv_goto (tgt := 10) hx hb dX4_advance_42 (by decide) ?_
        have tv2568 : v2568.toInt = (i2446 : Int32).toInt + (1 : Int32).toInt := add_i ev2568 (by omega) (by omega)
        exact ih_10 (i2446 := v2568) (w2447 := v2567) (hi_10 := by omega) (H := H) (locs := locs) (ls := ls) (hn_10 := by omega) (hP := hP) (hD := hD) (hS := hS) (hl := lv_sub hl [0, 1] rfl)
set_option maxRecDepth 40000 in
set_option maxHeartbeats 4000000 in
theorem c_X4_refuse (l : Launch) (D : va_G) (K : Nat → ClassId) (w : Nat) (wa0 : Nat) (wa4 : Nat) (wn1 : Int32) (wn2 : Int32) (wn3 : Int32) (wn5 : Int32) (wn6 : Int32) (wn7 : Int32) (wn8 : Int32) (wn9 : Int32) (p0 : Int32) : Ci (S := ((Nat → Int32) × (Nat → Nat → Int32) × (Nat → Nat → Int64))) l D K yX4_refuse cX4_refuse 2 (some .boolean) 0 0 0 0 [.ref w, .int p0] [(w, .inr (4, [.ref wa0, .int wn1, .int wn2, .int wn3, .ref wa4, .int wn5, .int wn6, .int wn7, .int wn8, .int wn9]))] (fun r u => ((r = 0))) (fun u => [(w, .inr (4, [.ref wa0, .int wn1, .int (u.1 0), .int (u.1 1), .ref wa4, .int wn5, .int wn6, .int wn7, .int wn8, .int wn9]))]) := by
  intro sz
  refine ch_of (y := yX4_refuse) (cc := cX4_refuse) (maxL := 2) (ret := (some .boolean)) (av := [.ref w, .int p0]) (ws := [(w, .inr (4, [.ref wa0, .int wn1, .int wn2, .int wn3, .ref wa4, .int wn5, .int wn6, .int wn7, .int wn8, .int wn9]))]) (D := D) (K := K) (Qc := fun A => va_Qi (S := ((Nat → Int32) × (Nat → Nat → Int32) × (Nat → Nat → Int64))) (fun r u => ((r = 0))) (chB D A (fun u => [(w, .inr (4, [.ref wa0, .int wn1, .int (u.1 0), .int (u.1 1), .ref wa4, .int wn5, .int wn6, .int wn7, .int wn8, .int wn9]))])) A) (by decide) (Nat.le_of_ble_eq_true rfl) ?_
  intro p e s m below meth c A hC hr hk hin hE hD hA H locs hP hS ls hl
  replace hC : CallFix p m c cX4_refuse 2 s [.ref w, .int p0].toArray wl RX4 := hC
  have hx := hC.1
  have hb := hC.2.1
  have hml := hC.2.2.1
  have hown := hC.2.2.2.1
  have hts := hC.2.2.2.2
  replace hl : lv_has ls 2 [(0, .ref w), (1, .int p0)] := hl
  refine lv_aload_n hx hb dX4_refuse_0 rfl (lv_at hl 0 rfl) ?_
  refine lv_iload_n hx hb dX4_refuse_1 rfl (lv_at hl 1 rfl) ?_
  refine va_put (D := D) (ci := 4) (v := .int p0) (ty := .int) (C := RX4) (T := TX4) (N := 10) hx hb hts in_X4 tyX4 tyX4_ok nmX4 hown hE.1 hP hD hS 0 rfl rfl 2 (by decide) (hts _ w_417) (fun _ h9 => h9) rfl (by decide +kernel) rfl rfl (Nat.le_of_ble_eq_true rfl) dX4_refuse_2 (fun H locs hP hD hS => ?_)
  replace hP : va_P D vwCl [(w, .inr (4, [.ref wa0, .int wn1, .int p0, .int wn3, .ref wa4, .int wn5, .int wn6, .int wn7, .int wn8, .int wn9]))] H := hP
  replace hD : va_D A [(w, .inr (4, [.ref wa0, .int wn1, .int p0, .int wn3, .ref wa4, .int wn5, .int wn6, .int wn7, .int wn8, .int wn9]))] := hD
  refine lv_aload_n hx hb dX4_refuse_5 rfl (lv_at hl 0 rfl) ?_
  refine lv_aload_n hx hb dX4_refuse_6 rfl (lv_at hl 0 rfl) ?_
  refine va_get (D := D) (ci := 4) (v := .int wn6) (C := RX4) (T := TX4) (N := 10) hx hb hts in_X4 hown hE.1 hP 0 rfl rfl 6 (by decide) (hts _ w_403) (fun _ h9 => h9) rfl dX4_refuse_7 ?_
  refine va_put (D := D) (ci := 4) (v := .int wn6) (ty := .int) (C := RX4) (T := TX4) (N := 10) hx hb hts in_X4 tyX4 tyX4_ok nmX4 hown hE.1 hP hD hS 0 rfl rfl 3 (by decide) (hts _ w_418) (fun _ h9 => h9) rfl (by decide +kernel) rfl rfl (Nat.le_of_ble_eq_true rfl) dX4_refuse_10 (fun H locs hP hD hS => ?_)
  replace hP : va_P D vwCl [(w, .inr (4, [.ref wa0, .int wn1, .int p0, .int wn6, .ref wa4, .int wn5, .int wn6, .int wn7, .int wn8, .int wn9]))] H := hP
  replace hD : va_D A [(w, .inr (4, [.ref wa0, .int wn1, .int p0, .int wn6, .ref wa4, .int wn5, .int wn6, .int wn7, .int wn8, .int wn9]))] := hD
  refine lv_iconst (v := 0) hx hb dX4_refuse_13 (by decide) ?_
  refine W.widen (k := 0) (n := 0) (by decide) (by decide) ?_
  exact ch_zret hC hr hk hS dX4_refuse_14 rfl ((fun k => [p0, wn6].getD k 0, fun k => [].getD k (fun _ => 0), fun k => [].getD k (fun _ => 0)) : ((Nat → Int32) × (Nat → Nat → Int32) × (Nat → Nat → Int64))) rfl (hP.sub [0] rfl) (hD.sub [0] (by decide) rfl)
set_option maxRecDepth 40000 in
set_option maxHeartbeats 4000000 in
theorem c_X4_isWord (l : Launch) (D : va_G) (K : Nat → ClassId) (Z : stZ) (w : Nat) (wa0 : Nat) (wa4 : Nat) (wn1 : Int32) (wn2 : Int32) (wn3 : Int32) (wn5 : Int32) (wn6 : Int32) (wn7 : Int32) (wn8 : Int32) (wn9 : Int32) (wf0 : Nat → Int32) (i : Nat) (hi : i < 34) : RoT l D K Z yX4_isWord cX4_isWord 3 (some .boolean) 4 85 [.ref w, .ref (Z.1 i)] [(w, .inr (4, [.ref wa0, .int wn1, .int wn2, .int wn3, .ref wa4, .int wn5, .int wn6, .int wn7, .int wn8, .int wn9])), (wa0, .inl (K 0, 1000, .inl wf0))] (fun r => (r = 0) ∨ (r = 1)) := by
  refine roT_ofQ (by decide) (Nat.le_of_ble_eq_true rfl) ?_
  intro p e s m below meth c hC hr hk hE hP hT ls hl
  replace hC : CallFix p m c cX4_isWord 3 s [.ref w, .ref (Z.1 i)].toArray wl RX4 := hC
  have hx := hC.1
  have hb := hC.2.1
  have hml := hC.2.2.1
  have hown := hC.2.2.2.1
  have hts := hC.2.2.2.2
  replace hl : lv_has ls 3 [(0, .ref w), (1, .ref (Z.1 i))] := hl
  have kc_0 : (0 : Int32).toInt = 0 := by decide
  have kc_1 : (1 : Int32).toInt = 1 := by decide
  refine lv_aload_n hx hb dX4_isWord_0 rfl (lv_at hl 0 rfl) ?_
  refine va_get (D := D) (ci := 4) (v := .int wn5) (C := RX4) (T := TX4) (N := 10) hx hb hts in_X4 hown hE.1 hP 0 rfl rfl 5 (by decide) (hts _ w_404) (fun _ h9 => h9) rfl dX4_isWord_1 ?_
  refine lv_iconst (v := 1) hx hb dX4_isWord_4 (by decide) ?_
  refine lv_icmp_ne (tgt := 24) hx hb dX4_isWord_5 (by decide) (fun c2569 => ?_) (fun c2569 => ?_)
  · replace c2569 := ne_i c2569
    refine lv_iconst (v := 0) hx hb dX4_isWord_24 (by decide) ?_
    exact ro_zret hC hr hk dX4_isWord_25 rfl (Or.inl rfl)
  · replace c2569 := eq_i c2569
    refine lv_aload_n hx hb dX4_isWord_8 rfl (lv_at hl 0 rfl) ?_
    refine va_get (D := D) (ci := 4) (v := .int wn7) (C := RX4) (T := TX4) (N := 10) hx hb hts in_X4 hown hE.1 hP 0 rfl rfl 7 (by decide) (hts _ w_402) (fun _ h9 => h9) rfl dX4_isWord_9 ?_
    refine lv_aload_n hx hb dX4_isWord_12 rfl (lv_at hl 0 rfl) ?_
    refine va_get (D := D) (ci := 4) (v := .int wn6) (C := RX4) (T := TX4) (N := 10) hx hb hts in_X4 hown hE.1 hP 0 rfl rfl 6 (by decide) (hts _ w_403) (fun _ h9 => h9) rfl dX4_isWord_13 ?_
    refine lv_isub hx hb dX4_isWord_16 ?_
    refine lv_topi (fun v2570 ev2570 => ?_)
    refine lv_aload_n hx hb dX4_isWord_17 rfl (lv_at hl 1 rfl) ?_
    refine roT_VS (As := []) (rest := [.int v2570]) hC hE hT (fun _ _ _ => rfl) kV_X4_74 hi rfl (c_J0_length_8abf5 l D K Z i hi) rfl hl.1 rfl (Nat.le_of_ble_eq_true rfl) (by decide) (by decide) dX4_isWord_18 (fun r2571 er2571 => ?_)
    have tr2571 : r2571.toInt = (stL i : Int) := by rw [er2571]; exact (st_len0 i hi).2.2.1
    have ur2571 := (st_len0 i hi).1; have qr2571 := (st_len0 i hi).2.1
    refine lv_icmp_eq (tgt := 26) hx hb dX4_isWord_21 (by decide) (fun c2572 => ?_) (fun c2572 => ?_)
    · replace c2572 := eq_i c2572
      refine lv_iconst (v := 0) hx hb dX4_isWord_26 (by decide) ?_
      refine lv_istore_n (lv' := [(2, .int 0), (0, .ref w), (1, .ref (Z.1 i))]) hx hb dX4_isWord_27 rfl hl (by decide) rfl (fun ls hl => ?_)
      have hl' := hl; clear hl
      obtain ⟨i2581, hi_28, hl⟩ : ∃ (i2581 : Int32), ((0 : Int) ≤ i2581.toInt) ∧ lv_has ls 3 [(2, .int i2581), (0, .ref w), (1, .ref (Z.1 i))] := ⟨_, by omega, hl'⟩
      clear hl'
      obtain ⟨n_28, hn_28⟩ : ∃ n : Nat, ((stL i : Int) - i2581.toInt).toNat < n := ⟨_, Nat.lt_succ_self _⟩
      induction n_28 generalizing i2581 ls with
      | zero => exact absurd hn_28 (Nat.not_lt_zero _)
      | succ n_28 ih_28 =>
        refine lv_iload_n hx hb dX4_isWord_28 rfl (lv_at hl 0 rfl) ?_
        refine lv_aload_n hx hb dX4_isWord_29 rfl (lv_at hl 2 rfl) ?_
        refine roT_VS (As := []) (rest := [.int i2581]) hC hE hT (fun _ _ _ => rfl) kV_X4_74 hi rfl (c_J0_length_8abf5 l D K Z i hi) rfl hl.1 rfl (Nat.le_of_ble_eq_true rfl) (by decide) (by decide) dX4_isWord_30 (fun r2582 er2582 => ?_)
        have tr2582 : r2582.toInt = (stL i : Int) := by rw [er2582]; exact (st_len0 i hi).2.2.1
        have ur2582 := (st_len0 i hi).1; have qr2582 := (st_len0 i hi).2.1
        refine lv_icmp_ge (tgt := 62) hx hb dX4_isWord_33 (by decide) (fun c2583 => ?_) (fun c2583 => ?_)
        · replace c2583 := le_i c2583
          refine lv_iconst (v := 1) hx hb dX4_isWord_62 (by decide) ?_
          exact ro_zret hC hr hk dX4_isWord_63 rfl (Or.inr rfl)
        · replace c2583 := nle_i c2583
          refine lv_aload_n hx hb dX4_isWord_36 rfl (lv_at hl 1 rfl) ?_
          refine lv_aload_n hx hb dX4_isWord_37 rfl (lv_at hl 1 rfl) ?_
          refine va_get (D := D) (ci := 4) (v := .int wn6) (C := RX4) (T := TX4) (N := 10) hx hb hts in_X4 hown hE.1 hP 0 rfl rfl 6 (by decide) (hts _ w_403) (fun _ h9 => h9) rfl dX4_isWord_38 ?_
          refine lv_iload_n hx hb dX4_isWord_41 rfl (lv_at hl 0 rfl) ?_
          refine lv_iadd hx hb dX4_isWord_42 ?_
          refine lv_topi (fun v2584 ev2584 => ?_)
          refine ro_V (As := [.int v2584]) (rest := []) hC hE kV_X4_61 (c_X4_byteAt l D K w wa0 wa4 wn1 wn2 wn3 wn5 wn6 wn7 wn8 wn9 wf0 v2584) (hP.sub (ws' := [(w, .inr (4, [.ref wa0, .int wn1, .int wn2, .int wn3, .ref wa4, .int wn5, .int wn6, .int wn7, .int wn8, .int wn9])), (wa0, .inl (K 0, 1000, .inl wf0))]) [0, 1] rfl) 0 4 rfl rfl rfl hl.1 rfl (Nat.le_of_ble_eq_true rfl) (by decide) (by decide) dX4_isWord_43 (fun r2585 _ => ?_)
          refine lv_aload_n hx hb dX4_isWord_46 rfl (lv_at hl 2 rfl) ?_
          refine lv_iload_n hx hb dX4_isWord_47 rfl (lv_at hl 0 rfl) ?_
          refine roT_VS (As := [.int i2581]) (rest := [.int r2585]) hC hE hT (fun _ _ _ => rfl) kV_X4_79 hi rfl (c_J0_charAt_5068e l D K Z i i2581 hi (by omega) (by omega)) rfl hl.1 rfl (Nat.le_of_ble_eq_true rfl) (by decide) (by decide) dX4_isWord_48 (fun r2586 er2586 => ?_)
          refine lv_icmp_eq (tgt := 56) hx hb dX4_isWord_51 (by decide) (fun c2587 => ?_) (fun c2587 => ?_)
          · replace c2587 := eq_i c2587
            obtain ⟨v2588, ev2588⟩ : ∃ z : Int32, z = i2581 + 1 := ⟨_, rfl⟩
            refine lv_iinc (v := v2588) (lv' := [(2, .int v2588), (0, .ref w), (1, .ref (Z.1 i))]) hx hb dX4_isWord_56 hl (k := 0) rfl (by rw [ev2588]; rfl) (by decide) rfl (fun ls hl => ?_)
            refine lv_goto (tgt := 28) hx hb dX4_isWord_59 (by decide) ?_
            have tv2588 : v2588.toInt = (i2581 : Int32).toInt + (1 : Int32).toInt := add_i ev2588 (by omega) (by omega)
            exact ih_28 (i2581 := v2588) (hi_28 := by omega) (ls := ls) (hn_28 := by omega) (hl := lv_sub hl [0, 1, 2] rfl)
          · replace c2587 := ne_i c2587
            refine lv_iconst (v := 0) hx hb dX4_isWord_54 (by decide) ?_
            exact ro_zret hC hr hk dX4_isWord_55 rfl (Or.inl rfl)
    · replace c2572 := ne_i c2572
      refine lv_iconst (v := 0) hx hb dX4_isWord_24 (by decide) ?_
      exact ro_zret hC hr hk dX4_isWord_25 rfl (Or.inl rfl)
set_option maxRecDepth 40000 in
set_option maxHeartbeats 4000000 in
theorem c_X4_takeWord (l : Launch) (D : va_G) (K : Nat → ClassId) (Z : stZ) (w : Nat) (wa0 : Nat) (wa4 : Nat) (wn1 : Int32) (wn2 : Int32) (wn3 : Int32) (wn5 : Int32) (wn6 : Int32) (wn7 : Int32) (wn8 : Int32) (wn9 : Int32) (wf0 : Nat → Int32) (i : Nat) (hi : i < 34) : CiT (S := ((Nat → Int32) × (Nat → Nat → Int32) × (Nat → Nat → Int64))) l D K Z yX4_takeWord cX4_takeWord 2 (some .boolean) 5 107 0 0 [.ref w, .ref (Z.1 i)] [(w, .inr (4, [.ref wa0, .int wn1, .int wn2, .int wn3, .ref wa4, .int wn5, .int wn6, .int wn7, .int wn8, .int wn9])), (wa0, .inl (K 0, 1000, .inl wf0))] (fun r u => ((r = 0) ∨ (r = 1))) (fun u => [(w, .inr (4, [.ref wa0, .int wn1, .int (u.1 0), .int (u.1 1), .ref wa4, .int (u.1 2), .int (u.1 3), .int (u.1 4), .int (u.1 5), .int wn9])), (wa0, .inl (K 0, 1000, .inl wf0))]) := by
  intro sz
  refine chT_of (y := yX4_takeWord) (cc := cX4_takeWord) (maxL := 2) (ret := (some .boolean)) (av := [.ref w, .ref (Z.1 i)]) (ws := [(w, .inr (4, [.ref wa0, .int wn1, .int wn2, .int wn3, .ref wa4, .int wn5, .int wn6, .int wn7, .int wn8, .int wn9])), (wa0, .inl (K 0, 1000, .inl wf0))]) (D := D) (K := K) (Qc := fun A => va_Qi (S := ((Nat → Int32) × (Nat → Nat → Int32) × (Nat → Nat → Int64))) (fun r u => ((r = 0) ∨ (r = 1))) (chB D A (fun u => [(w, .inr (4, [.ref wa0, .int wn1, .int (u.1 0), .int (u.1 1), .ref wa4, .int (u.1 2), .int (u.1 3), .int (u.1 4), .int (u.1 5), .int wn9])), (wa0, .inl (K 0, 1000, .inl wf0))])) A) (by decide) (Nat.le_of_ble_eq_true rfl) ?_
  intro p e s m below meth c A hC hr hk hin hE hD hA hT hZ H locs hP hS ls hl
  replace hC : CallFix p m c cX4_takeWord 2 s [.ref w, .ref (Z.1 i)].toArray wl RX4 := hC
  have hx := hC.1
  have hb := hC.2.1
  have hml := hC.2.2.1
  have hown := hC.2.2.2.1
  have hts := hC.2.2.2.2
  replace hl : lv_has ls 2 [(0, .ref w), (1, .ref (Z.1 i))] := hl
  refine lv_aload_n hx hb dX4_takeWord_0 rfl (lv_at hl 0 rfl) ?_
  refine lv_aload_n hx hb dX4_takeWord_1 rfl (lv_at hl 1 rfl) ?_
  refine roT_V (As := [.ref (Z.1 i)]) (rest := []) hC hE hT (st_kp hS hZ) kV_X4_83 (c_X4_isWord l D K Z w wa0 wa4 wn1 wn2 wn3 wn5 wn6 wn7 wn8 wn9 wf0 i hi) (hP.sub (ws' := [(w, .inr (4, [.ref wa0, .int wn1, .int wn2, .int wn3, .ref wa4, .int wn5, .int wn6, .int wn7, .int wn8, .int wn9])), (wa0, .inl (K 0, 1000, .inl wf0))]) [0, 1] rfl) 0 4 rfl rfl rfl hl.1 rfl (Nat.le_of_ble_eq_true rfl) (by decide) (by decide) dX4_takeWord_2 (fun r2594 hq => ?_)
  rcases hq with rfl | rfl
  · refine lv_if_ne (tgt := 14) hx hb dX4_takeWord_5 (by decide) (fun h => absurd h (by decide)) (fun _ => ?_)
    refine lv_aload_n hx hb dX4_takeWord_8 rfl (lv_at hl 0 rfl) ?_
    refine lv_iconst (v := 1) hx hb dX4_takeWord_9 (by decide) ?_
    refine ci_V (As := [.int 1]) (rest := []) (wc := [(w, .inr (4, [.ref wa0, .int wn1, .int wn2, .int wn3, .ref wa4, .int wn5, .int wn6, .int wn7, .int wn8, .int wn9]))]) (wr := [(wa0, .inl (K 0, 1000, .inl wf0))]) hC hE kV_X4_87 (c_X4_refuse l D K w wa0 wa4 wn1 wn2 wn3 wn5 wn6 wn7 wn8 wn9 1) hP hD hS hA [0] [1] rfl rfl rfl (by decide) (by decide) (by decide) 0 4 rfl rfl rfl hl.1 rfl (Nat.le_of_ble_eq_true rfl) (by decide) (by decide) dX4_takeWord_10 (fun r2596 u2595 H locs hw hP hD hS => ?_)
    replace hP : va_P D vwCl [(wa0, .inl (K 0, 1000, .inl wf0)), (w, .inr (4, [.ref wa0, .int wn1, .int (u2595.1 0), .int (u2595.1 1), .ref wa4, .int wn5, .int wn6, .int wn7, .int wn8, .int wn9]))] H := hP
    replace hD : va_D A [(wa0, .inl (K 0, 1000, .inl wf0)), (w, .inr (4, [.ref wa0, .int wn1, .int (u2595.1 0), .int (u2595.1 1), .ref wa4, .int wn5, .int wn6, .int wn7, .int wn8, .int wn9]))] := hD
    replace hP : va_P D vwCl [(w, .inr (4, [.ref wa0, .int wn1, .int (u2595.1 0), .int (u2595.1 1), .ref wa4, .int wn5, .int wn6, .int wn7, .int wn8, .int wn9])), (wa0, .inl (K 0, 1000, .inl wf0))] H := hP.sub [1, 0] rfl
    replace hD : va_D A [(w, .inr (4, [.ref wa0, .int wn1, .int (u2595.1 0), .int (u2595.1 1), .ref wa4, .int wn5, .int wn6, .int wn7, .int wn8, .int wn9])), (wa0, .inl (K 0, 1000, .inl wf0))] := hD.sub [1, 0] (by decide) rfl
    refine W.widen (k := 0) (n := 0) (by decide) (by decide) ?_
    obtain rfl := hw
    refine W.widen (k := 0) (n := 0) (by decide) (by decide) ?_
    exact ch_zret hC hr hk hS dX4_takeWord_13 rfl ((fun k => [(u2595.1 0), (u2595.1 1), wn5, wn6, wn7, wn8].getD k 0, fun k => [].getD k (fun _ => 0), fun k => [].getD k (fun _ => 0)) : ((Nat → Int32) × (Nat → Nat → Int32) × (Nat → Nat → Int64))) (Or.inl rfl) (hP.sub [0, 1] rfl) (hD.sub [0, 1] (by decide) rfl)
  · refine lv_if_ne (tgt := 14) hx hb dX4_takeWord_5 (by decide) (fun _ => ?_) (fun h => absurd h (by decide))
    refine lv_aload_n hx hb dX4_takeWord_14 rfl (lv_at hl 0 rfl) ?_
    refine cv_V (As := []) (rest := []) (wc := [(w, .inr (4, [.ref wa0, .int wn1, .int wn2, .int wn3, .ref wa4, .int wn5, .int wn6, .int wn7, .int wn8, .int wn9])), (wa0, .inl (K 0, 1000, .inl wf0))]) (wr := []) hC hE kV_X4_38 (c_X4_advance l D K w wa0 wa4 wn1 wn2 wn3 wn5 wn6 wn7 wn8 wn9 wf0) hP hD hS hA [0, 1] [] rfl rfl rfl (by decide) (by decide) (by decide) 0 4 rfl rfl rfl hl.1 rfl (Nat.le_of_ble_eq_true rfl) (by decide) (by decide) dX4_takeWord_15 (fun u2597 H locs hw hP hD hS => ?_)
    replace hP : va_P D vwCl [(w, .inr (4, [.ref wa0, .int wn1, .int wn2, .int wn3, .ref wa4, .int (u2597.1 0), .int (u2597.1 1), .int (u2597.1 2), .int (u2597.1 3), .int wn9])), (wa0, .inl (K 0, 1000, .inl wf0))] H := hP
    replace hD : va_D A [(w, .inr (4, [.ref wa0, .int wn1, .int wn2, .int wn3, .ref wa4, .int (u2597.1 0), .int (u2597.1 1), .int (u2597.1 2), .int (u2597.1 3), .int wn9])), (wa0, .inl (K 0, 1000, .inl wf0))] := hD
    replace hP : va_P D vwCl [(w, .inr (4, [.ref wa0, .int wn1, .int wn2, .int wn3, .ref wa4, .int (u2597.1 0), .int (u2597.1 1), .int (u2597.1 2), .int (u2597.1 3), .int wn9])), (wa0, .inl (K 0, 1000, .inl wf0))] H := hP.sub [0, 1] rfl
    replace hD : va_D A [(w, .inr (4, [.ref wa0, .int wn1, .int wn2, .int wn3, .ref wa4, .int (u2597.1 0), .int (u2597.1 1), .int (u2597.1 2), .int (u2597.1 3), .int wn9])), (wa0, .inl (K 0, 1000, .inl wf0))] := hD.sub [0, 1] (by decide) rfl
    refine W.widen (k := 0) (n := 0) (by decide) (by decide) ?_
    refine lv_iconst (v := 1) hx hb dX4_takeWord_18 (by decide) ?_
    refine W.widen (k := 0) (n := 0) (by decide) (by decide) ?_
    exact ch_zret hC hr hk hS dX4_takeWord_19 rfl ((fun k => [wn2, wn3, (u2597.1 0), (u2597.1 1), (u2597.1 2), (u2597.1 3)].getD k 0, fun k => [].getD k (fun _ => 0), fun k => [].getD k (fun _ => 0)) : ((Nat → Int32) × (Nat → Nat → Int32) × (Nat → Nat → Int64))) (Or.inr rfl) (hP.sub [0, 1] rfl) (hD.sub [0, 1] (by decide) rfl)
set_option maxRecDepth 40000 in
set_option maxHeartbeats 4000000 in
theorem c_X4_takeNumber (l : Launch) (D : va_G) (K : Nat → ClassId) (w : Nat) (wa0 : Nat) (wa4 : Nat) (wn1 : Int32) (wn2 : Int32) (wn3 : Int32) (wn5 : Int32) (wn6 : Int32) (wn7 : Int32) (wn8 : Int32) (wn9 : Int32) (wf0 : Nat → Int32) (p0 : Int32) (p1 : Int32) : Ci (S := ((Nat → Int32) × (Nat → Nat → Int32) × (Nat → Nat → Int64))) l D K yX4_takeNumber cX4_takeNumber 3 (some .boolean) 2 44 0 0 [.ref w, .int p0, .int p1] [(w, .inr (4, [.ref wa0, .int wn1, .int wn2, .int wn3, .ref wa4, .int wn5, .int wn6, .int wn7, .int wn8, .int wn9])), (wa0, .inl (K 0, 1000, .inl wf0))] (fun r u => ((r = 0) ∨ (r = 1))) (fun u => [(w, .inr (4, [.ref wa0, .int wn1, .int (u.1 0), .int (u.1 1), .ref wa4, .int (u.1 2), .int (u.1 3), .int (u.1 4), .int (u.1 5), .int (u.1 6)])), (wa0, .inl (K 0, 1000, .inl wf0))]) := by
  intro sz
  refine ch_of (y := yX4_takeNumber) (cc := cX4_takeNumber) (maxL := 3) (ret := (some .boolean)) (av := [.ref w, .int p0, .int p1]) (ws := [(w, .inr (4, [.ref wa0, .int wn1, .int wn2, .int wn3, .ref wa4, .int wn5, .int wn6, .int wn7, .int wn8, .int wn9])), (wa0, .inl (K 0, 1000, .inl wf0))]) (D := D) (K := K) (Qc := fun A => va_Qi (S := ((Nat → Int32) × (Nat → Nat → Int32) × (Nat → Nat → Int64))) (fun r u => ((r = 0) ∨ (r = 1))) (chB D A (fun u => [(w, .inr (4, [.ref wa0, .int wn1, .int (u.1 0), .int (u.1 1), .ref wa4, .int (u.1 2), .int (u.1 3), .int (u.1 4), .int (u.1 5), .int (u.1 6)])), (wa0, .inl (K 0, 1000, .inl wf0))])) A) (by decide) (Nat.le_of_ble_eq_true rfl) ?_
  intro p e s m below meth c A hC hr hk hin hE hD hA H locs hP hS ls hl
  replace hC : CallFix p m c cX4_takeNumber 3 s [.ref w, .int p0, .int p1].toArray wl RX4 := hC
  have hx := hC.1
  have hb := hC.2.1
  have hml := hC.2.2.1
  have hown := hC.2.2.2.1
  have hts := hC.2.2.2.2
  replace hl : lv_has ls 3 [(0, .ref w), (1, .int p0), (2, .int p1)] := hl
  have kc_2 : (2 : Int32).toInt = 2 := by decide
  refine lv_aload_n hx hb dX4_takeNumber_0 rfl (lv_at hl 0 rfl) ?_
  refine va_get (D := D) (ci := 4) (v := .int wn5) (C := RX4) (T := TX4) (N := 10) hx hb hts in_X4 hown hE.1 hP 0 rfl rfl 5 (by decide) (hts _ w_404) (fun _ h9 => h9) rfl dX4_takeNumber_1 ?_
  refine lv_iconst (v := 2) hx hb dX4_takeNumber_4 (by decide) ?_
  refine lv_icmp_eq (tgt := 14) hx hb dX4_takeNumber_5 (by decide) (fun c2610 => ?_) (fun c2610 => ?_)
  · replace c2610 := eq_i c2610
    refine lv_aload_n hx hb dX4_takeNumber_14 rfl (lv_at hl 0 rfl) ?_
    refine va_get (D := D) (ci := 4) (v := .int wn8) (C := RX4) (T := TX4) (N := 10) hx hb hts in_X4 hown hE.1 hP 0 rfl rfl 8 (by decide) (hts _ w_405) (fun _ h9 => h9) rfl dX4_takeNumber_15 ?_
    refine lv_iload_n hx hb dX4_takeNumber_18 rfl (lv_at hl 1 rfl) ?_
    refine lv_icmp_lt (tgt := 30) hx hb dX4_takeNumber_19 (by decide) (fun c2611 => ?_) (fun c2611 => ?_)
    · replace c2611 := lt_i c2611
      refine lv_aload_n hx hb dX4_takeNumber_30 rfl (lv_at hl 0 rfl) ?_
      refine lv_iconst (v := 2) hx hb dX4_takeNumber_31 (by decide) ?_
      refine ci_V (As := [.int 2]) (rest := []) (wc := [(w, .inr (4, [.ref wa0, .int wn1, .int wn2, .int wn3, .ref wa4, .int wn5, .int wn6, .int wn7, .int wn8, .int wn9]))]) (wr := [(wa0, .inl (K 0, 1000, .inl wf0))]) hC hE kV_X4_87 (c_X4_refuse l D K w wa0 wa4 wn1 wn2 wn3 wn5 wn6 wn7 wn8 wn9 2) hP hD hS hA [0] [1] rfl rfl rfl (by decide) (by decide) (by decide) 0 4 rfl rfl rfl hl.1 rfl (Nat.le_of_ble_eq_true rfl) (by decide) (by decide) dX4_takeNumber_32 (fun r2613 u2612 H locs hw hP hD hS => ?_)
      replace hP : va_P D vwCl [(wa0, .inl (K 0, 1000, .inl wf0)), (w, .inr (4, [.ref wa0, .int wn1, .int (u2612.1 0), .int (u2612.1 1), .ref wa4, .int wn5, .int wn6, .int wn7, .int wn8, .int wn9]))] H := hP
      replace hD : va_D A [(wa0, .inl (K 0, 1000, .inl wf0)), (w, .inr (4, [.ref wa0, .int wn1, .int (u2612.1 0), .int (u2612.1 1), .ref wa4, .int wn5, .int wn6, .int wn7, .int wn8, .int wn9]))] := hD
      replace hP : va_P D vwCl [(w, .inr (4, [.ref wa0, .int wn1, .int (u2612.1 0), .int (u2612.1 1), .ref wa4, .int wn5, .int wn6, .int wn7, .int wn8, .int wn9])), (wa0, .inl (K 0, 1000, .inl wf0))] H := hP.sub [1, 0] rfl
      replace hD : va_D A [(w, .inr (4, [.ref wa0, .int wn1, .int (u2612.1 0), .int (u2612.1 1), .ref wa4, .int wn5, .int wn6, .int wn7, .int wn8, .int wn9])), (wa0, .inl (K 0, 1000, .inl wf0))] := hD.sub [1, 0] (by decide) rfl
      refine W.widen (k := 0) (n := 0) (by decide) (by decide) ?_
      obtain rfl := hw
      refine W.widen (k := 0) (n := 0) (by decide) (by decide) ?_
      exact ch_zret hC hr hk hS dX4_takeNumber_35 rfl ((fun k => [(u2612.1 0), (u2612.1 1), wn5, wn6, wn7, wn8, wn9].getD k 0, fun k => [].getD k (fun _ => 0), fun k => [].getD k (fun _ => 0)) : ((Nat → Int32) × (Nat → Nat → Int32) × (Nat → Nat → Int64))) (Or.inl rfl) (hP.sub [0, 1] rfl) (hD.sub [0, 1] (by decide) rfl)
    · replace c2611 := nlt_i c2611
      refine lv_aload_n hx hb dX4_takeNumber_22 rfl (lv_at hl 0 rfl) ?_
      refine va_get (D := D) (ci := 4) (v := .int wn8) (C := RX4) (T := TX4) (N := 10) hx hb hts in_X4 hown hE.1 hP 0 rfl rfl 8 (by decide) (hts _ w_405) (fun _ h9 => h9) rfl dX4_takeNumber_23 ?_
      refine lv_iload_n hx hb dX4_takeNumber_26 rfl (lv_at hl 2 rfl) ?_
      refine lv_icmp_le (tgt := 36) hx hb dX4_takeNumber_27 (by decide) (fun c2614 => ?_) (fun c2614 => ?_)
      · replace c2614 := le_i c2614
        refine lv_aload_n hx hb dX4_takeNumber_36 rfl (lv_at hl 0 rfl) ?_
        refine lv_aload_n hx hb dX4_takeNumber_37 rfl (lv_at hl 0 rfl) ?_
        refine va_get (D := D) (ci := 4) (v := .int wn8) (C := RX4) (T := TX4) (N := 10) hx hb hts in_X4 hown hE.1 hP 0 rfl rfl 8 (by decide) (hts _ w_405) (fun _ h9 => h9) rfl dX4_takeNumber_38 ?_
        refine va_put (D := D) (ci := 4) (v := .int wn8) (ty := .int) (C := RX4) (T := TX4) (N := 10) hx hb hts in_X4 tyX4 tyX4_ok nmX4 hown hE.1 hP hD hS 0 rfl rfl 9 (by decide) (hts _ w_439) (fun _ h9 => h9) rfl (by decide +kernel) rfl rfl (Nat.le_of_ble_eq_true rfl) dX4_takeNumber_41 (fun H locs hP hD hS => ?_)
        replace hP : va_P D vwCl [(w, .inr (4, [.ref wa0, .int wn1, .int wn2, .int wn3, .ref wa4, .int wn5, .int wn6, .int wn7, .int wn8, .int wn8])), (wa0, .inl (K 0, 1000, .inl wf0))] H := hP
        replace hD : va_D A [(w, .inr (4, [.ref wa0, .int wn1, .int wn2, .int wn3, .ref wa4, .int wn5, .int wn6, .int wn7, .int wn8, .int wn8])), (wa0, .inl (K 0, 1000, .inl wf0))] := hD
        refine lv_aload_n hx hb dX4_takeNumber_44 rfl (lv_at hl 0 rfl) ?_
        refine cv_V (As := []) (rest := []) (wc := [(w, .inr (4, [.ref wa0, .int wn1, .int wn2, .int wn3, .ref wa4, .int wn5, .int wn6, .int wn7, .int wn8, .int wn8])), (wa0, .inl (K 0, 1000, .inl wf0))]) (wr := []) hC hE kV_X4_38 (c_X4_advance l D K w wa0 wa4 wn1 wn2 wn3 wn5 wn6 wn7 wn8 wn8 wf0) hP hD hS hA [0, 1] [] rfl rfl rfl (by decide) (by decide) (by decide) 0 4 rfl rfl rfl hl.1 rfl (Nat.le_of_ble_eq_true rfl) (by decide) (by decide) dX4_takeNumber_45 (fun u2615 H locs hw hP hD hS => ?_)
        replace hP : va_P D vwCl [(w, .inr (4, [.ref wa0, .int wn1, .int wn2, .int wn3, .ref wa4, .int (u2615.1 0), .int (u2615.1 1), .int (u2615.1 2), .int (u2615.1 3), .int wn8])), (wa0, .inl (K 0, 1000, .inl wf0))] H := hP
        replace hD : va_D A [(w, .inr (4, [.ref wa0, .int wn1, .int wn2, .int wn3, .ref wa4, .int (u2615.1 0), .int (u2615.1 1), .int (u2615.1 2), .int (u2615.1 3), .int wn8])), (wa0, .inl (K 0, 1000, .inl wf0))] := hD
        replace hP : va_P D vwCl [(w, .inr (4, [.ref wa0, .int wn1, .int wn2, .int wn3, .ref wa4, .int (u2615.1 0), .int (u2615.1 1), .int (u2615.1 2), .int (u2615.1 3), .int wn8])), (wa0, .inl (K 0, 1000, .inl wf0))] H := hP.sub [0, 1] rfl
        replace hD : va_D A [(w, .inr (4, [.ref wa0, .int wn1, .int wn2, .int wn3, .ref wa4, .int (u2615.1 0), .int (u2615.1 1), .int (u2615.1 2), .int (u2615.1 3), .int wn8])), (wa0, .inl (K 0, 1000, .inl wf0))] := hD.sub [0, 1] (by decide) rfl
        refine W.widen (k := 0) (n := 0) (by decide) (by decide) ?_
        refine lv_iconst (v := 1) hx hb dX4_takeNumber_48 (by decide) ?_
        refine W.widen (k := 0) (n := 0) (by decide) (by decide) ?_
        exact ch_zret hC hr hk hS dX4_takeNumber_49 rfl ((fun k => [wn2, wn3, (u2615.1 0), (u2615.1 1), (u2615.1 2), (u2615.1 3), wn8].getD k 0, fun k => [].getD k (fun _ => 0), fun k => [].getD k (fun _ => 0)) : ((Nat → Int32) × (Nat → Nat → Int32) × (Nat → Nat → Int64))) (Or.inr rfl) (hP.sub [0, 1] rfl) (hD.sub [0, 1] (by decide) rfl)
      · replace c2614 := nle_i c2614
        refine lv_aload_n hx hb dX4_takeNumber_30 rfl (lv_at hl 0 rfl) ?_
        refine lv_iconst (v := 2) hx hb dX4_takeNumber_31 (by decide) ?_
        refine ci_V (As := [.int 2]) (rest := []) (wc := [(w, .inr (4, [.ref wa0, .int wn1, .int wn2, .int wn3, .ref wa4, .int wn5, .int wn6, .int wn7, .int wn8, .int wn9]))]) (wr := [(wa0, .inl (K 0, 1000, .inl wf0))]) hC hE kV_X4_87 (c_X4_refuse l D K w wa0 wa4 wn1 wn2 wn3 wn5 wn6 wn7 wn8 wn9 2) hP hD hS hA [0] [1] rfl rfl rfl (by decide) (by decide) (by decide) 0 4 rfl rfl rfl hl.1 rfl (Nat.le_of_ble_eq_true rfl) (by decide) (by decide) dX4_takeNumber_32 (fun r2618 u2617 H locs hw hP hD hS => ?_)
        replace hP : va_P D vwCl [(wa0, .inl (K 0, 1000, .inl wf0)), (w, .inr (4, [.ref wa0, .int wn1, .int (u2617.1 0), .int (u2617.1 1), .ref wa4, .int wn5, .int wn6, .int wn7, .int wn8, .int wn9]))] H := hP
        replace hD : va_D A [(wa0, .inl (K 0, 1000, .inl wf0)), (w, .inr (4, [.ref wa0, .int wn1, .int (u2617.1 0), .int (u2617.1 1), .ref wa4, .int wn5, .int wn6, .int wn7, .int wn8, .int wn9]))] := hD
        replace hP : va_P D vwCl [(w, .inr (4, [.ref wa0, .int wn1, .int (u2617.1 0), .int (u2617.1 1), .ref wa4, .int wn5, .int wn6, .int wn7, .int wn8, .int wn9])), (wa0, .inl (K 0, 1000, .inl wf0))] H := hP.sub [1, 0] rfl
        replace hD : va_D A [(w, .inr (4, [.ref wa0, .int wn1, .int (u2617.1 0), .int (u2617.1 1), .ref wa4, .int wn5, .int wn6, .int wn7, .int wn8, .int wn9])), (wa0, .inl (K 0, 1000, .inl wf0))] := hD.sub [1, 0] (by decide) rfl
        refine W.widen (k := 0) (n := 0) (by decide) (by decide) ?_
        obtain rfl := hw
        refine W.widen (k := 0) (n := 0) (by decide) (by decide) ?_
        exact ch_zret hC hr hk hS dX4_takeNumber_35 rfl ((fun k => [(u2617.1 0), (u2617.1 1), wn5, wn6, wn7, wn8, wn9].getD k 0, fun k => [].getD k (fun _ => 0), fun k => [].getD k (fun _ => 0)) : ((Nat → Int32) × (Nat → Nat → Int32) × (Nat → Nat → Int64))) (Or.inl rfl) (hP.sub [0, 1] rfl) (hD.sub [0, 1] (by decide) rfl)
  · replace c2610 := ne_i c2610
    refine lv_aload_n hx hb dX4_takeNumber_8 rfl (lv_at hl 0 rfl) ?_
    refine lv_iconst (v := 1) hx hb dX4_takeNumber_9 (by decide) ?_
    refine ci_V (As := [.int 1]) (rest := []) (wc := [(w, .inr (4, [.ref wa0, .int wn1, .int wn2, .int wn3, .ref wa4, .int wn5, .int wn6, .int wn7, .int wn8, .int wn9]))]) (wr := [(wa0, .inl (K 0, 1000, .inl wf0))]) hC hE kV_X4_87 (c_X4_refuse l D K w wa0 wa4 wn1 wn2 wn3 wn5 wn6 wn7 wn8 wn9 1) hP hD hS hA [0] [1] rfl rfl rfl (by decide) (by decide) (by decide) 0 4 rfl rfl rfl hl.1 rfl (Nat.le_of_ble_eq_true rfl) (by decide) (by decide) dX4_takeNumber_10 (fun r2620 u2619 H locs hw hP hD hS => ?_)
    replace hP : va_P D vwCl [(wa0, .inl (K 0, 1000, .inl wf0)), (w, .inr (4, [.ref wa0, .int wn1, .int (u2619.1 0), .int (u2619.1 1), .ref wa4, .int wn5, .int wn6, .int wn7, .int wn8, .int wn9]))] H := hP
    replace hD : va_D A [(wa0, .inl (K 0, 1000, .inl wf0)), (w, .inr (4, [.ref wa0, .int wn1, .int (u2619.1 0), .int (u2619.1 1), .ref wa4, .int wn5, .int wn6, .int wn7, .int wn8, .int wn9]))] := hD
    replace hP : va_P D vwCl [(w, .inr (4, [.ref wa0, .int wn1, .int (u2619.1 0), .int (u2619.1 1), .ref wa4, .int wn5, .int wn6, .int wn7, .int wn8, .int wn9])), (wa0, .inl (K 0, 1000, .inl wf0))] H := hP.sub [1, 0] rfl
    replace hD : va_D A [(w, .inr (4, [.ref wa0, .int wn1, .int (u2619.1 0), .int (u2619.1 1), .ref wa4, .int wn5, .int wn6, .int wn7, .int wn8, .int wn9])), (wa0, .inl (K 0, 1000, .inl wf0))] := hD.sub [1, 0] (by decide) rfl
    refine W.widen (k := 0) (n := 0) (by decide) (by decide) ?_
    obtain rfl := hw
    refine W.widen (k := 0) (n := 0) (by decide) (by decide) ?_
    exact ch_zret hC hr hk hS dX4_takeNumber_13 rfl ((fun k => [(u2619.1 0), (u2619.1 1), wn5, wn6, wn7, wn8, wn9].getD k 0, fun k => [].getD k (fun _ => 0), fun k => [].getD k (fun _ => 0)) : ((Nat → Int32) × (Nat → Nat → Int32) × (Nat → Nat → Int64))) (Or.inl rfl) (hP.sub [0, 1] rfl) (hD.sub [0, 1] (by decide) rfl)
set_option maxRecDepth 40000 in
set_option maxHeartbeats 4000000 in
theorem c_X4_takeWind (l : Launch) (D : va_G) (K : Nat → ClassId) (Z : stZ) (w : Nat) (wa0 : Nat) (wa4 : Nat) (wn1 : Int32) (wn2 : Int32) (wn3 : Int32) (wn5 : Int32) (wn6 : Int32) (wn7 : Int32) (wn8 : Int32) (wn9 : Int32) (wf0 : Nat → Int32) : CiT (S := ((Nat → Int32) × (Nat → Nat → Int32) × (Nat → Nat → Int64))) l D K Z yX4_takeWind cX4_takeWind 1 (some .boolean) 5 107 0 0 [.ref w] [(w, .inr (4, [.ref wa0, .int wn1, .int wn2, .int wn3, .ref wa4, .int wn5, .int wn6, .int wn7, .int wn8, .int wn9])), (wa0, .inl (K 0, 1000, .inl wf0))] (fun r u => ((r = 0) ∨ (r = 1))) (fun u => [(w, .inr (4, [.ref wa0, .int wn1, .int (u.1 0), .int (u.1 1), .ref wa4, .int (u.1 2), .int (u.1 3), .int (u.1 4), .int (u.1 5), .int (u.1 6)])), (wa0, .inl (K 0, 1000, .inl wf0))]) := by
  intro sz
  refine chT_of (y := yX4_takeWind) (cc := cX4_takeWind) (maxL := 1) (ret := (some .boolean)) (av := [.ref w]) (ws := [(w, .inr (4, [.ref wa0, .int wn1, .int wn2, .int wn3, .ref wa4, .int wn5, .int wn6, .int wn7, .int wn8, .int wn9])), (wa0, .inl (K 0, 1000, .inl wf0))]) (D := D) (K := K) (Qc := fun A => va_Qi (S := ((Nat → Int32) × (Nat → Nat → Int32) × (Nat → Nat → Int64))) (fun r u => ((r = 0) ∨ (r = 1))) (chB D A (fun u => [(w, .inr (4, [.ref wa0, .int wn1, .int (u.1 0), .int (u.1 1), .ref wa4, .int (u.1 2), .int (u.1 3), .int (u.1 4), .int (u.1 5), .int (u.1 6)])), (wa0, .inl (K 0, 1000, .inl wf0))])) A) (by decide) (Nat.le_of_ble_eq_true rfl) ?_
  intro p e s m below meth c A hC hr hk hin hE hD hA hT hZ H locs hP hS ls hl
  replace hC : CallFix p m c cX4_takeWind 1 s [.ref w].toArray wl RX4 := hC
  have hx := hC.1
  have hb := hC.2.1
  have hml := hC.2.2.1
  have hown := hC.2.2.2.1
  have hts := hC.2.2.2.2
  replace hl : lv_has ls 1 [(0, .ref w)] := hl
  refine lv_aload_n hx hb dX4_takeWind_0 rfl (lv_at hl 0 rfl) ?_
  refine va_ldcS hx hb hown (show vk_R RX4 94 "n" (Z.1 3) s from hT.2.2.2 3 (by decide)) dX4_takeWind_1 ?_
  refine roT_V (As := [.ref (Z.1 3)]) (rest := []) hC hE hT (st_kp hS hZ) kV_X4_83 (c_X4_isWord l D K Z w wa0 wa4 wn1 wn2 wn3 wn5 wn6 wn7 wn8 wn9 wf0 3 (by decide)) (hP.sub (ws' := [(w, .inr (4, [.ref wa0, .int wn1, .int wn2, .int wn3, .ref wa4, .int wn5, .int wn6, .int wn7, .int wn8, .int wn9])), (wa0, .inl (K 0, 1000, .inl wf0))]) [0, 1] rfl) 0 4 rfl rfl rfl hl.1 rfl (Nat.le_of_ble_eq_true rfl) (by decide) (by decide) dX4_takeWind_3 (fun r2635 hq => ?_)
  rcases hq with rfl | rfl
  · refine lv_if_eq (tgt := 17) hx hb dX4_takeWind_6 (by decide) (fun _ => ?_) (fun h => absurd h (by decide))
    refine lv_aload_n hx hb dX4_takeWind_17 rfl (lv_at hl 0 rfl) ?_
    refine va_ldcS hx hb hown (show vk_R RX4 96 "e" (Z.1 4) s from hT.2.2.2 4 (by decide)) dX4_takeWind_18 ?_
    refine roT_V (As := [.ref (Z.1 4)]) (rest := []) hC hE hT (st_kp hS hZ) kV_X4_83 (c_X4_isWord l D K Z w wa0 wa4 wn1 wn2 wn3 wn5 wn6 wn7 wn8 wn9 wf0 4 (by decide)) (hP.sub (ws' := [(w, .inr (4, [.ref wa0, .int wn1, .int wn2, .int wn3, .ref wa4, .int wn5, .int wn6, .int wn7, .int wn8, .int wn9])), (wa0, .inl (K 0, 1000, .inl wf0))]) [0, 1] rfl) 0 4 rfl rfl rfl hl.1 rfl (Nat.le_of_ble_eq_true rfl) (by decide) (by decide) dX4_takeWind_20 (fun r2636 hq => ?_)
    rcases hq with rfl | rfl
    · refine lv_if_eq (tgt := 34) hx hb dX4_takeWind_23 (by decide) (fun _ => ?_) (fun h => absurd h (by decide))
      refine lv_aload_n hx hb dX4_takeWind_34 rfl (lv_at hl 0 rfl) ?_
      refine va_ldcS hx hb hown (show vk_R RX4 98 "s" (Z.1 5) s from hT.2.2.2 5 (by decide)) dX4_takeWind_35 ?_
      refine roT_V (As := [.ref (Z.1 5)]) (rest := []) hC hE hT (st_kp hS hZ) kV_X4_83 (c_X4_isWord l D K Z w wa0 wa4 wn1 wn2 wn3 wn5 wn6 wn7 wn8 wn9 wf0 5 (by decide)) (hP.sub (ws' := [(w, .inr (4, [.ref wa0, .int wn1, .int wn2, .int wn3, .ref wa4, .int wn5, .int wn6, .int wn7, .int wn8, .int wn9])), (wa0, .inl (K 0, 1000, .inl wf0))]) [0, 1] rfl) 0 4 rfl rfl rfl hl.1 rfl (Nat.le_of_ble_eq_true rfl) (by decide) (by decide) dX4_takeWind_37 (fun r2637 hq => ?_)
      rcases hq with rfl | rfl
      · refine lv_if_eq (tgt := 51) hx hb dX4_takeWind_40 (by decide) (fun _ => ?_) (fun h => absurd h (by decide))
        refine lv_aload_n hx hb dX4_takeWind_51 rfl (lv_at hl 0 rfl) ?_
        refine va_ldcS hx hb hown (show vk_R RX4 100 "w" (Z.1 6) s from hT.2.2.2 6 (by decide)) dX4_takeWind_52 ?_
        refine roT_V (As := [.ref (Z.1 6)]) (rest := []) hC hE hT (st_kp hS hZ) kV_X4_83 (c_X4_isWord l D K Z w wa0 wa4 wn1 wn2 wn3 wn5 wn6 wn7 wn8 wn9 wf0 6 (by decide)) (hP.sub (ws' := [(w, .inr (4, [.ref wa0, .int wn1, .int wn2, .int wn3, .ref wa4, .int wn5, .int wn6, .int wn7, .int wn8, .int wn9])), (wa0, .inl (K 0, 1000, .inl wf0))]) [0, 1] rfl) 0 4 rfl rfl rfl hl.1 rfl (Nat.le_of_ble_eq_true rfl) (by decide) (by decide) dX4_takeWind_54 (fun r2638 hq => ?_)
        rcases hq with rfl | rfl
        · refine lv_if_eq (tgt := 68) hx hb dX4_takeWind_57 (by decide) (fun _ => ?_) (fun h => absurd h (by decide))
          refine lv_aload_n hx hb dX4_takeWind_68 rfl (lv_at hl 0 rfl) ?_
          refine lv_iconst (v := 1) hx hb dX4_takeWind_69 (by decide) ?_
          refine ci_V (As := [.int 1]) (rest := []) (wc := [(w, .inr (4, [.ref wa0, .int wn1, .int wn2, .int wn3, .ref wa4, .int wn5, .int wn6, .int wn7, .int wn8, .int wn9]))]) (wr := [(wa0, .inl (K 0, 1000, .inl wf0))]) hC hE kV_X4_87 (c_X4_refuse l D K w wa0 wa4 wn1 wn2 wn3 wn5 wn6 wn7 wn8 wn9 1) hP hD hS hA [0] [1] rfl rfl rfl (by decide) (by decide) (by decide) 0 4 rfl rfl rfl hl.1 rfl (Nat.le_of_ble_eq_true rfl) (by decide) (by decide) dX4_takeWind_70 (fun r2640 u2639 H locs hw hP hD hS => ?_)
          replace hP : va_P D vwCl [(wa0, .inl (K 0, 1000, .inl wf0)), (w, .inr (4, [.ref wa0, .int wn1, .int (u2639.1 0), .int (u2639.1 1), .ref wa4, .int wn5, .int wn6, .int wn7, .int wn8, .int wn9]))] H := hP
          replace hD : va_D A [(wa0, .inl (K 0, 1000, .inl wf0)), (w, .inr (4, [.ref wa0, .int wn1, .int (u2639.1 0), .int (u2639.1 1), .ref wa4, .int wn5, .int wn6, .int wn7, .int wn8, .int wn9]))] := hD
          replace hP : va_P D vwCl [(w, .inr (4, [.ref wa0, .int wn1, .int (u2639.1 0), .int (u2639.1 1), .ref wa4, .int wn5, .int wn6, .int wn7, .int wn8, .int wn9])), (wa0, .inl (K 0, 1000, .inl wf0))] H := hP.sub [1, 0] rfl
          replace hD : va_D A [(w, .inr (4, [.ref wa0, .int wn1, .int (u2639.1 0), .int (u2639.1 1), .ref wa4, .int wn5, .int wn6, .int wn7, .int wn8, .int wn9])), (wa0, .inl (K 0, 1000, .inl wf0))] := hD.sub [1, 0] (by decide) rfl
          refine W.widen (k := 0) (n := 0) (by decide) (by decide) ?_
          obtain rfl := hw
          refine W.widen (k := 0) (n := 0) (by decide) (by decide) ?_
          exact ch_zret hC hr hk hS dX4_takeWind_73 rfl ((fun k => [(u2639.1 0), (u2639.1 1), wn5, wn6, wn7, wn8, wn9].getD k 0, fun k => [].getD k (fun _ => 0), fun k => [].getD k (fun _ => 0)) : ((Nat → Int32) × (Nat → Nat → Int32) × (Nat → Nat → Int64))) (Or.inl rfl) (hP.sub [0, 1] rfl) (hD.sub [0, 1] (by decide) rfl)
        · refine lv_if_eq (tgt := 68) hx hb dX4_takeWind_57 (by decide) (fun h => absurd h (by decide)) (fun _ => ?_)
          refine lv_aload_n hx hb dX4_takeWind_60 rfl (lv_at hl 0 rfl) ?_
          refine lv_iconst (v := 3) hx hb dX4_takeWind_61 (by decide) ?_
          refine va_put (D := D) (ci := 4) (v := .int 3) (ty := .int) (C := RX4) (T := TX4) (N := 10) hx hb hts in_X4 tyX4 tyX4_ok nmX4 hown hE.1 hP hD hS 0 rfl rfl 9 (by decide) (hts _ w_439) (fun _ h9 => h9) rfl (by decide +kernel) rfl rfl (Nat.le_of_ble_eq_true rfl) dX4_takeWind_62 (fun H locs hP hD hS => ?_)
          replace hP : va_P D vwCl [(w, .inr (4, [.ref wa0, .int wn1, .int wn2, .int wn3, .ref wa4, .int wn5, .int wn6, .int wn7, .int wn8, .int 3])), (wa0, .inl (K 0, 1000, .inl wf0))] H := hP
          replace hD : va_D A [(w, .inr (4, [.ref wa0, .int wn1, .int wn2, .int wn3, .ref wa4, .int wn5, .int wn6, .int wn7, .int wn8, .int 3])), (wa0, .inl (K 0, 1000, .inl wf0))] := hD
          refine lv_goto (tgt := 74) hx hb dX4_takeWind_65 (by decide) ?_
          refine lv_aload_n hx hb dX4_takeWind_74 rfl (lv_at hl 0 rfl) ?_
          refine cv_V (As := []) (rest := []) (wc := [(w, .inr (4, [.ref wa0, .int wn1, .int wn2, .int wn3, .ref wa4, .int wn5, .int wn6, .int wn7, .int wn8, .int 3])), (wa0, .inl (K 0, 1000, .inl wf0))]) (wr := []) hC hE kV_X4_38 (c_X4_advance l D K w wa0 wa4 wn1 wn2 wn3 wn5 wn6 wn7 wn8 3 wf0) hP hD hS hA [0, 1] [] rfl rfl rfl (by decide) (by decide) (by decide) 0 4 rfl rfl rfl hl.1 rfl (Nat.le_of_ble_eq_true rfl) (by decide) (by decide) dX4_takeWind_75 (fun u2641 H locs hw hP hD hS => ?_)
          replace hP : va_P D vwCl [(w, .inr (4, [.ref wa0, .int wn1, .int wn2, .int wn3, .ref wa4, .int (u2641.1 0), .int (u2641.1 1), .int (u2641.1 2), .int (u2641.1 3), .int 3])), (wa0, .inl (K 0, 1000, .inl wf0))] H := hP
          replace hD : va_D A [(w, .inr (4, [.ref wa0, .int wn1, .int wn2, .int wn3, .ref wa4, .int (u2641.1 0), .int (u2641.1 1), .int (u2641.1 2), .int (u2641.1 3), .int 3])), (wa0, .inl (K 0, 1000, .inl wf0))] := hD
          replace hP : va_P D vwCl [(w, .inr (4, [.ref wa0, .int wn1, .int wn2, .int wn3, .ref wa4, .int (u2641.1 0), .int (u2641.1 1), .int (u2641.1 2), .int (u2641.1 3), .int 3])), (wa0, .inl (K 0, 1000, .inl wf0))] H := hP.sub [0, 1] rfl
          replace hD : va_D A [(w, .inr (4, [.ref wa0, .int wn1, .int wn2, .int wn3, .ref wa4, .int (u2641.1 0), .int (u2641.1 1), .int (u2641.1 2), .int (u2641.1 3), .int 3])), (wa0, .inl (K 0, 1000, .inl wf0))] := hD.sub [0, 1] (by decide) rfl
          refine W.widen (k := 0) (n := 0) (by decide) (by decide) ?_
          refine lv_iconst (v := 1) hx hb dX4_takeWind_78 (by decide) ?_
          refine W.widen (k := 0) (n := 0) (by decide) (by decide) ?_
          exact ch_zret hC hr hk hS dX4_takeWind_79 rfl ((fun k => [wn2, wn3, (u2641.1 0), (u2641.1 1), (u2641.1 2), (u2641.1 3), 3].getD k 0, fun k => [].getD k (fun _ => 0), fun k => [].getD k (fun _ => 0)) : ((Nat → Int32) × (Nat → Nat → Int32) × (Nat → Nat → Int64))) (Or.inr rfl) (hP.sub [0, 1] rfl) (hD.sub [0, 1] (by decide) rfl)
      · refine lv_if_eq (tgt := 51) hx hb dX4_takeWind_40 (by decide) (fun h => absurd h (by decide)) (fun _ => ?_)
        refine lv_aload_n hx hb dX4_takeWind_43 rfl (lv_at hl 0 rfl) ?_
        refine lv_iconst (v := 2) hx hb dX4_takeWind_44 (by decide) ?_
        refine va_put (D := D) (ci := 4) (v := .int 2) (ty := .int) (C := RX4) (T := TX4) (N := 10) hx hb hts in_X4 tyX4 tyX4_ok nmX4 hown hE.1 hP hD hS 0 rfl rfl 9 (by decide) (hts _ w_439) (fun _ h9 => h9) rfl (by decide +kernel) rfl rfl (Nat.le_of_ble_eq_true rfl) dX4_takeWind_45 (fun H locs hP hD hS => ?_)
        replace hP : va_P D vwCl [(w, .inr (4, [.ref wa0, .int wn1, .int wn2, .int wn3, .ref wa4, .int wn5, .int wn6, .int wn7, .int wn8, .int 2])), (wa0, .inl (K 0, 1000, .inl wf0))] H := hP
        replace hD : va_D A [(w, .inr (4, [.ref wa0, .int wn1, .int wn2, .int wn3, .ref wa4, .int wn5, .int wn6, .int wn7, .int wn8, .int 2])), (wa0, .inl (K 0, 1000, .inl wf0))] := hD
        refine lv_goto (tgt := 74) hx hb dX4_takeWind_48 (by decide) ?_
        refine lv_aload_n hx hb dX4_takeWind_74 rfl (lv_at hl 0 rfl) ?_
        refine cv_V (As := []) (rest := []) (wc := [(w, .inr (4, [.ref wa0, .int wn1, .int wn2, .int wn3, .ref wa4, .int wn5, .int wn6, .int wn7, .int wn8, .int 2])), (wa0, .inl (K 0, 1000, .inl wf0))]) (wr := []) hC hE kV_X4_38 (c_X4_advance l D K w wa0 wa4 wn1 wn2 wn3 wn5 wn6 wn7 wn8 2 wf0) hP hD hS hA [0, 1] [] rfl rfl rfl (by decide) (by decide) (by decide) 0 4 rfl rfl rfl hl.1 rfl (Nat.le_of_ble_eq_true rfl) (by decide) (by decide) dX4_takeWind_75 (fun u2643 H locs hw hP hD hS => ?_)
        replace hP : va_P D vwCl [(w, .inr (4, [.ref wa0, .int wn1, .int wn2, .int wn3, .ref wa4, .int (u2643.1 0), .int (u2643.1 1), .int (u2643.1 2), .int (u2643.1 3), .int 2])), (wa0, .inl (K 0, 1000, .inl wf0))] H := hP
        replace hD : va_D A [(w, .inr (4, [.ref wa0, .int wn1, .int wn2, .int wn3, .ref wa4, .int (u2643.1 0), .int (u2643.1 1), .int (u2643.1 2), .int (u2643.1 3), .int 2])), (wa0, .inl (K 0, 1000, .inl wf0))] := hD
        replace hP : va_P D vwCl [(w, .inr (4, [.ref wa0, .int wn1, .int wn2, .int wn3, .ref wa4, .int (u2643.1 0), .int (u2643.1 1), .int (u2643.1 2), .int (u2643.1 3), .int 2])), (wa0, .inl (K 0, 1000, .inl wf0))] H := hP.sub [0, 1] rfl
        replace hD : va_D A [(w, .inr (4, [.ref wa0, .int wn1, .int wn2, .int wn3, .ref wa4, .int (u2643.1 0), .int (u2643.1 1), .int (u2643.1 2), .int (u2643.1 3), .int 2])), (wa0, .inl (K 0, 1000, .inl wf0))] := hD.sub [0, 1] (by decide) rfl
        refine W.widen (k := 0) (n := 0) (by decide) (by decide) ?_
        refine lv_iconst (v := 1) hx hb dX4_takeWind_78 (by decide) ?_
        refine W.widen (k := 0) (n := 0) (by decide) (by decide) ?_
        exact ch_zret hC hr hk hS dX4_takeWind_79 rfl ((fun k => [wn2, wn3, (u2643.1 0), (u2643.1 1), (u2643.1 2), (u2643.1 3), 2].getD k 0, fun k => [].getD k (fun _ => 0), fun k => [].getD k (fun _ => 0)) : ((Nat → Int32) × (Nat → Nat → Int32) × (Nat → Nat → Int64))) (Or.inr rfl) (hP.sub [0, 1] rfl) (hD.sub [0, 1] (by decide) rfl)
    · refine lv_if_eq (tgt := 34) hx hb dX4_takeWind_23 (by decide) (fun h => absurd h (by decide)) (fun _ => ?_)
      refine lv_aload_n hx hb dX4_takeWind_26 rfl (lv_at hl 0 rfl) ?_
      refine lv_iconst (v := 1) hx hb dX4_takeWind_27 (by decide) ?_
      refine va_put (D := D) (ci := 4) (v := .int 1) (ty := .int) (C := RX4) (T := TX4) (N := 10) hx hb hts in_X4 tyX4 tyX4_ok nmX4 hown hE.1 hP hD hS 0 rfl rfl 9 (by decide) (hts _ w_439) (fun _ h9 => h9) rfl (by decide +kernel) rfl rfl (Nat.le_of_ble_eq_true rfl) dX4_takeWind_28 (fun H locs hP hD hS => ?_)
      replace hP : va_P D vwCl [(w, .inr (4, [.ref wa0, .int wn1, .int wn2, .int wn3, .ref wa4, .int wn5, .int wn6, .int wn7, .int wn8, .int 1])), (wa0, .inl (K 0, 1000, .inl wf0))] H := hP
      replace hD : va_D A [(w, .inr (4, [.ref wa0, .int wn1, .int wn2, .int wn3, .ref wa4, .int wn5, .int wn6, .int wn7, .int wn8, .int 1])), (wa0, .inl (K 0, 1000, .inl wf0))] := hD
      refine lv_goto (tgt := 74) hx hb dX4_takeWind_31 (by decide) ?_
      refine lv_aload_n hx hb dX4_takeWind_74 rfl (lv_at hl 0 rfl) ?_
      refine cv_V (As := []) (rest := []) (wc := [(w, .inr (4, [.ref wa0, .int wn1, .int wn2, .int wn3, .ref wa4, .int wn5, .int wn6, .int wn7, .int wn8, .int 1])), (wa0, .inl (K 0, 1000, .inl wf0))]) (wr := []) hC hE kV_X4_38 (c_X4_advance l D K w wa0 wa4 wn1 wn2 wn3 wn5 wn6 wn7 wn8 1 wf0) hP hD hS hA [0, 1] [] rfl rfl rfl (by decide) (by decide) (by decide) 0 4 rfl rfl rfl hl.1 rfl (Nat.le_of_ble_eq_true rfl) (by decide) (by decide) dX4_takeWind_75 (fun u2645 H locs hw hP hD hS => ?_)
      replace hP : va_P D vwCl [(w, .inr (4, [.ref wa0, .int wn1, .int wn2, .int wn3, .ref wa4, .int (u2645.1 0), .int (u2645.1 1), .int (u2645.1 2), .int (u2645.1 3), .int 1])), (wa0, .inl (K 0, 1000, .inl wf0))] H := hP
      replace hD : va_D A [(w, .inr (4, [.ref wa0, .int wn1, .int wn2, .int wn3, .ref wa4, .int (u2645.1 0), .int (u2645.1 1), .int (u2645.1 2), .int (u2645.1 3), .int 1])), (wa0, .inl (K 0, 1000, .inl wf0))] := hD
      replace hP : va_P D vwCl [(w, .inr (4, [.ref wa0, .int wn1, .int wn2, .int wn3, .ref wa4, .int (u2645.1 0), .int (u2645.1 1), .int (u2645.1 2), .int (u2645.1 3), .int 1])), (wa0, .inl (K 0, 1000, .inl wf0))] H := hP.sub [0, 1] rfl
      replace hD : va_D A [(w, .inr (4, [.ref wa0, .int wn1, .int wn2, .int wn3, .ref wa4, .int (u2645.1 0), .int (u2645.1 1), .int (u2645.1 2), .int (u2645.1 3), .int 1])), (wa0, .inl (K 0, 1000, .inl wf0))] := hD.sub [0, 1] (by decide) rfl
      refine W.widen (k := 0) (n := 0) (by decide) (by decide) ?_
      refine lv_iconst (v := 1) hx hb dX4_takeWind_78 (by decide) ?_
      refine W.widen (k := 0) (n := 0) (by decide) (by decide) ?_
      exact ch_zret hC hr hk hS dX4_takeWind_79 rfl ((fun k => [wn2, wn3, (u2645.1 0), (u2645.1 1), (u2645.1 2), (u2645.1 3), 1].getD k 0, fun k => [].getD k (fun _ => 0), fun k => [].getD k (fun _ => 0)) : ((Nat → Int32) × (Nat → Nat → Int32) × (Nat → Nat → Int64))) (Or.inr rfl) (hP.sub [0, 1] rfl) (hD.sub [0, 1] (by decide) rfl)
  · refine lv_if_eq (tgt := 17) hx hb dX4_takeWind_6 (by decide) (fun h => absurd h (by decide)) (fun _ => ?_)
    refine lv_aload_n hx hb dX4_takeWind_9 rfl (lv_at hl 0 rfl) ?_
    refine lv_iconst (v := 0) hx hb dX4_takeWind_10 (by decide) ?_
    refine va_put (D := D) (ci := 4) (v := .int 0) (ty := .int) (C := RX4) (T := TX4) (N := 10) hx hb hts in_X4 tyX4 tyX4_ok nmX4 hown hE.1 hP hD hS 0 rfl rfl 9 (by decide) (hts _ w_439) (fun _ h9 => h9) rfl (by decide +kernel) rfl rfl (Nat.le_of_ble_eq_true rfl) dX4_takeWind_11 (fun H locs hP hD hS => ?_)
    replace hP : va_P D vwCl [(w, .inr (4, [.ref wa0, .int wn1, .int wn2, .int wn3, .ref wa4, .int wn5, .int wn6, .int wn7, .int wn8, .int 0])), (wa0, .inl (K 0, 1000, .inl wf0))] H := hP
    replace hD : va_D A [(w, .inr (4, [.ref wa0, .int wn1, .int wn2, .int wn3, .ref wa4, .int wn5, .int wn6, .int wn7, .int wn8, .int 0])), (wa0, .inl (K 0, 1000, .inl wf0))] := hD
    refine lv_goto (tgt := 74) hx hb dX4_takeWind_14 (by decide) ?_
    refine lv_aload_n hx hb dX4_takeWind_74 rfl (lv_at hl 0 rfl) ?_
    refine cv_V (As := []) (rest := []) (wc := [(w, .inr (4, [.ref wa0, .int wn1, .int wn2, .int wn3, .ref wa4, .int wn5, .int wn6, .int wn7, .int wn8, .int 0])), (wa0, .inl (K 0, 1000, .inl wf0))]) (wr := []) hC hE kV_X4_38 (c_X4_advance l D K w wa0 wa4 wn1 wn2 wn3 wn5 wn6 wn7 wn8 0 wf0) hP hD hS hA [0, 1] [] rfl rfl rfl (by decide) (by decide) (by decide) 0 4 rfl rfl rfl hl.1 rfl (Nat.le_of_ble_eq_true rfl) (by decide) (by decide) dX4_takeWind_75 (fun u2647 H locs hw hP hD hS => ?_)
    replace hP : va_P D vwCl [(w, .inr (4, [.ref wa0, .int wn1, .int wn2, .int wn3, .ref wa4, .int (u2647.1 0), .int (u2647.1 1), .int (u2647.1 2), .int (u2647.1 3), .int 0])), (wa0, .inl (K 0, 1000, .inl wf0))] H := hP
    replace hD : va_D A [(w, .inr (4, [.ref wa0, .int wn1, .int wn2, .int wn3, .ref wa4, .int (u2647.1 0), .int (u2647.1 1), .int (u2647.1 2), .int (u2647.1 3), .int 0])), (wa0, .inl (K 0, 1000, .inl wf0))] := hD
    replace hP : va_P D vwCl [(w, .inr (4, [.ref wa0, .int wn1, .int wn2, .int wn3, .ref wa4, .int (u2647.1 0), .int (u2647.1 1), .int (u2647.1 2), .int (u2647.1 3), .int 0])), (wa0, .inl (K 0, 1000, .inl wf0))] H := hP.sub [0, 1] rfl
    replace hD : va_D A [(w, .inr (4, [.ref wa0, .int wn1, .int wn2, .int wn3, .ref wa4, .int (u2647.1 0), .int (u2647.1 1), .int (u2647.1 2), .int (u2647.1 3), .int 0])), (wa0, .inl (K 0, 1000, .inl wf0))] := hD.sub [0, 1] (by decide) rfl
    refine W.widen (k := 0) (n := 0) (by decide) (by decide) ?_
    refine lv_iconst (v := 1) hx hb dX4_takeWind_78 (by decide) ?_
    refine W.widen (k := 0) (n := 0) (by decide) (by decide) ?_
    exact ch_zret hC hr hk hS dX4_takeWind_79 rfl ((fun k => [wn2, wn3, (u2647.1 0), (u2647.1 1), (u2647.1 2), (u2647.1 3), 0].getD k 0, fun k => [].getD k (fun _ => 0), fun k => [].getD k (fun _ => 0)) : ((Nat → Int32) × (Nat → Nat → Int32) × (Nat → Nat → Int64))) (Or.inr rfl) (hP.sub [0, 1] rfl) (hD.sub [0, 1] (by decide) rfl)
set_option maxRecDepth 40000 in
set_option maxHeartbeats 4000000 in
theorem c_X4_takeSemicolon (l : Launch) (D : va_G) (K : Nat → ClassId) (w : Nat) (wa0 : Nat) (wa4 : Nat) (wn1 : Int32) (wn2 : Int32) (wn3 : Int32) (wn5 : Int32) (wn6 : Int32) (wn7 : Int32) (wn8 : Int32) (wn9 : Int32) (wf0 : Nat → Int32) : Ci (S := ((Nat → Int32) × (Nat → Nat → Int32) × (Nat → Nat → Int64))) l D K yX4_takeSemicolon cX4_takeSemicolon 1 (some .boolean) 2 44 0 0 [.ref w] [(w, .inr (4, [.ref wa0, .int wn1, .int wn2, .int wn3, .ref wa4, .int wn5, .int wn6, .int wn7, .int wn8, .int wn9])), (wa0, .inl (K 0, 1000, .inl wf0))] (fun r u => ((r = 0) ∨ (r = 1))) (fun u => [(w, .inr (4, [.ref wa0, .int wn1, .int (u.1 0), .int (u.1 1), .ref wa4, .int (u.1 2), .int (u.1 3), .int (u.1 4), .int (u.1 5), .int wn9])), (wa0, .inl (K 0, 1000, .inl wf0))]) := by
  intro sz
  refine ch_of (y := yX4_takeSemicolon) (cc := cX4_takeSemicolon) (maxL := 1) (ret := (some .boolean)) (av := [.ref w]) (ws := [(w, .inr (4, [.ref wa0, .int wn1, .int wn2, .int wn3, .ref wa4, .int wn5, .int wn6, .int wn7, .int wn8, .int wn9])), (wa0, .inl (K 0, 1000, .inl wf0))]) (D := D) (K := K) (Qc := fun A => va_Qi (S := ((Nat → Int32) × (Nat → Nat → Int32) × (Nat → Nat → Int64))) (fun r u => ((r = 0) ∨ (r = 1))) (chB D A (fun u => [(w, .inr (4, [.ref wa0, .int wn1, .int (u.1 0), .int (u.1 1), .ref wa4, .int (u.1 2), .int (u.1 3), .int (u.1 4), .int (u.1 5), .int wn9])), (wa0, .inl (K 0, 1000, .inl wf0))])) A) (by decide) (Nat.le_of_ble_eq_true rfl) ?_
  intro p e s m below meth c A hC hr hk hin hE hD hA H locs hP hS ls hl
  replace hC : CallFix p m c cX4_takeSemicolon 1 s [.ref w].toArray wl RX4 := hC
  have hx := hC.1
  have hb := hC.2.1
  have hml := hC.2.2.1
  have hown := hC.2.2.2.1
  have hts := hC.2.2.2.2
  replace hl : lv_has ls 1 [(0, .ref w)] := hl
  have kc_3 : (3 : Int32).toInt = 3 := by decide
  refine lv_aload_n hx hb dX4_takeSemicolon_0 rfl (lv_at hl 0 rfl) ?_
  refine va_get (D := D) (ci := 4) (v := .int wn5) (C := RX4) (T := TX4) (N := 10) hx hb hts in_X4 hown hE.1 hP 0 rfl rfl 5 (by decide) (hts _ w_404) (fun _ h9 => h9) rfl dX4_takeSemicolon_1 ?_
  refine lv_iconst (v := 3) hx hb dX4_takeSemicolon_4 (by decide) ?_
  refine lv_icmp_eq (tgt := 14) hx hb dX4_takeSemicolon_5 (by decide) (fun c2654 => ?_) (fun c2654 => ?_)
  · replace c2654 := eq_i c2654
    refine lv_aload_n hx hb dX4_takeSemicolon_14 rfl (lv_at hl 0 rfl) ?_
    refine cv_V (As := []) (rest := []) (wc := [(w, .inr (4, [.ref wa0, .int wn1, .int wn2, .int wn3, .ref wa4, .int wn5, .int wn6, .int wn7, .int wn8, .int wn9])), (wa0, .inl (K 0, 1000, .inl wf0))]) (wr := []) hC hE kV_X4_38 (c_X4_advance l D K w wa0 wa4 wn1 wn2 wn3 wn5 wn6 wn7 wn8 wn9 wf0) hP hD hS hA [0, 1] [] rfl rfl rfl (by decide) (by decide) (by decide) 0 4 rfl rfl rfl hl.1 rfl (Nat.le_of_ble_eq_true rfl) (by decide) (by decide) dX4_takeSemicolon_15 (fun u2655 H locs hw hP hD hS => ?_)
    replace hP : va_P D vwCl [(w, .inr (4, [.ref wa0, .int wn1, .int wn2, .int wn3, .ref wa4, .int (u2655.1 0), .int (u2655.1 1), .int (u2655.1 2), .int (u2655.1 3), .int wn9])), (wa0, .inl (K 0, 1000, .inl wf0))] H := hP
    replace hD : va_D A [(w, .inr (4, [.ref wa0, .int wn1, .int wn2, .int wn3, .ref wa4, .int (u2655.1 0), .int (u2655.1 1), .int (u2655.1 2), .int (u2655.1 3), .int wn9])), (wa0, .inl (K 0, 1000, .inl wf0))] := hD
    replace hP : va_P D vwCl [(w, .inr (4, [.ref wa0, .int wn1, .int wn2, .int wn3, .ref wa4, .int (u2655.1 0), .int (u2655.1 1), .int (u2655.1 2), .int (u2655.1 3), .int wn9])), (wa0, .inl (K 0, 1000, .inl wf0))] H := hP.sub [0, 1] rfl
    replace hD : va_D A [(w, .inr (4, [.ref wa0, .int wn1, .int wn2, .int wn3, .ref wa4, .int (u2655.1 0), .int (u2655.1 1), .int (u2655.1 2), .int (u2655.1 3), .int wn9])), (wa0, .inl (K 0, 1000, .inl wf0))] := hD.sub [0, 1] (by decide) rfl
    refine W.widen (k := 0) (n := 0) (by decide) (by decide) ?_
    refine lv_iconst (v := 1) hx hb dX4_takeSemicolon_18 (by decide) ?_
    refine W.widen (k := 0) (n := 0) (by decide) (by decide) ?_
    exact ch_zret hC hr hk hS dX4_takeSemicolon_19 rfl ((fun k => [wn2, wn3, (u2655.1 0), (u2655.1 1), (u2655.1 2), (u2655.1 3)].getD k 0, fun k => [].getD k (fun _ => 0), fun k => [].getD k (fun _ => 0)) : ((Nat → Int32) × (Nat → Nat → Int32) × (Nat → Nat → Int64))) (Or.inr rfl) (hP.sub [0, 1] rfl) (hD.sub [0, 1] (by decide) rfl)
  · replace c2654 := ne_i c2654
    refine lv_aload_n hx hb dX4_takeSemicolon_8 rfl (lv_at hl 0 rfl) ?_
    refine lv_iconst (v := 1) hx hb dX4_takeSemicolon_9 (by decide) ?_
    refine ci_V (As := [.int 1]) (rest := []) (wc := [(w, .inr (4, [.ref wa0, .int wn1, .int wn2, .int wn3, .ref wa4, .int wn5, .int wn6, .int wn7, .int wn8, .int wn9]))]) (wr := [(wa0, .inl (K 0, 1000, .inl wf0))]) hC hE kV_X4_87 (c_X4_refuse l D K w wa0 wa4 wn1 wn2 wn3 wn5 wn6 wn7 wn8 wn9 1) hP hD hS hA [0] [1] rfl rfl rfl (by decide) (by decide) (by decide) 0 4 rfl rfl rfl hl.1 rfl (Nat.le_of_ble_eq_true rfl) (by decide) (by decide) dX4_takeSemicolon_10 (fun r2658 u2657 H locs hw hP hD hS => ?_)
    replace hP : va_P D vwCl [(wa0, .inl (K 0, 1000, .inl wf0)), (w, .inr (4, [.ref wa0, .int wn1, .int (u2657.1 0), .int (u2657.1 1), .ref wa4, .int wn5, .int wn6, .int wn7, .int wn8, .int wn9]))] H := hP
    replace hD : va_D A [(wa0, .inl (K 0, 1000, .inl wf0)), (w, .inr (4, [.ref wa0, .int wn1, .int (u2657.1 0), .int (u2657.1 1), .ref wa4, .int wn5, .int wn6, .int wn7, .int wn8, .int wn9]))] := hD
    replace hP : va_P D vwCl [(w, .inr (4, [.ref wa0, .int wn1, .int (u2657.1 0), .int (u2657.1 1), .ref wa4, .int wn5, .int wn6, .int wn7, .int wn8, .int wn9])), (wa0, .inl (K 0, 1000, .inl wf0))] H := hP.sub [1, 0] rfl
    replace hD : va_D A [(w, .inr (4, [.ref wa0, .int wn1, .int (u2657.1 0), .int (u2657.1 1), .ref wa4, .int wn5, .int wn6, .int wn7, .int wn8, .int wn9])), (wa0, .inl (K 0, 1000, .inl wf0))] := hD.sub [1, 0] (by decide) rfl
    refine W.widen (k := 0) (n := 0) (by decide) (by decide) ?_
    obtain rfl := hw
    refine W.widen (k := 0) (n := 0) (by decide) (by decide) ?_
    exact ch_zret hC hr hk hS dX4_takeSemicolon_13 rfl ((fun k => [(u2657.1 0), (u2657.1 1), wn5, wn6, wn7, wn8].getD k 0, fun k => [].getD k (fun _ => 0), fun k => [].getD k (fun _ => 0)) : ((Nat → Int32) × (Nat → Nat → Int32) × (Nat → Nat → Int64))) (Or.inl rfl) (hP.sub [0, 1] rfl) (hD.sub [0, 1] (by decide) rfl)
set_option maxRecDepth 40000 in
set_option maxHeartbeats 4000000 in
theorem c_X4_takeWoodLine (l : Launch) (D : va_G) (K : Nat → ClassId) (Z : stZ) (w : Nat) (wa0 : Nat) (wa4 : Nat) (wa4a0 : Nat) (wa4a1 : Nat) (wa4a2 : Nat) (wa4a3 : Nat) (wa4a4 : Nat) (wa4a5 : Nat) (wa4a6 : Nat) (wa4a7 : Nat) (wn1 : Int32) (wn2 : Int32) (wn3 : Int32) (wn5 : Int32) (wn6 : Int32) (wn7 : Int32) (wn8 : Int32) (wn9 : Int32) (wa4n8 : Int32) (wa4n9 : Int32) (wa4n10 : Int32) (wa4n11 : Int32) (wf0 : Nat → Int32) : CiT (S := ((Nat → Int32) × (Nat → Nat → Int32) × (Nat → Nat → Int64))) l D K Z yX4_takeWoodLine cX4_takeWoodLine 1 (some .boolean) 6 128 0 0 [.ref w] [(w, .inr (4, [.ref wa0, .int wn1, .int wn2, .int wn3, .ref wa4, .int wn5, .int wn6, .int wn7, .int wn8, .int wn9])), (wa0, .inl (K 0, 1000, .inl wf0)), (wa4, .inr (9, [.ref wa4a0, .ref wa4a1, .ref wa4a2, .ref wa4a3, .ref wa4a4, .ref wa4a5, .ref wa4a6, .ref wa4a7, .int wa4n8, .int wa4n9, .int wa4n10, .int wa4n11]))] (fun r u => ((r = 0) ∨ (r = 1))) (fun u => [(w, .inr (4, [.ref wa0, .int wn1, .int (u.1 0), .int (u.1 1), .ref wa4, .int (u.1 2), .int (u.1 3), .int (u.1 4), .int (u.1 5), .int (u.1 6)])), (wa0, .inl (K 0, 1000, .inl wf0)), (wa4, .inr (9, [.ref wa4a0, .ref wa4a1, .ref wa4a2, .ref wa4a3, .ref wa4a4, .ref wa4a5, .ref wa4a6, .ref wa4a7, .int (u.1 7), .int wa4n9, .int wa4n10, .int wa4n11]))]) := by
  intro sz
  refine chT_of (y := yX4_takeWoodLine) (cc := cX4_takeWoodLine) (maxL := 1) (ret := (some .boolean)) (av := [.ref w]) (ws := [(w, .inr (4, [.ref wa0, .int wn1, .int wn2, .int wn3, .ref wa4, .int wn5, .int wn6, .int wn7, .int wn8, .int wn9])), (wa0, .inl (K 0, 1000, .inl wf0)), (wa4, .inr (9, [.ref wa4a0, .ref wa4a1, .ref wa4a2, .ref wa4a3, .ref wa4a4, .ref wa4a5, .ref wa4a6, .ref wa4a7, .int wa4n8, .int wa4n9, .int wa4n10, .int wa4n11]))]) (D := D) (K := K) (Qc := fun A => va_Qi (S := ((Nat → Int32) × (Nat → Nat → Int32) × (Nat → Nat → Int64))) (fun r u => ((r = 0) ∨ (r = 1))) (chB D A (fun u => [(w, .inr (4, [.ref wa0, .int wn1, .int (u.1 0), .int (u.1 1), .ref wa4, .int (u.1 2), .int (u.1 3), .int (u.1 4), .int (u.1 5), .int (u.1 6)])), (wa0, .inl (K 0, 1000, .inl wf0)), (wa4, .inr (9, [.ref wa4a0, .ref wa4a1, .ref wa4a2, .ref wa4a3, .ref wa4a4, .ref wa4a5, .ref wa4a6, .ref wa4a7, .int (u.1 7), .int wa4n9, .int wa4n10, .int wa4n11]))])) A) (by decide) (Nat.le_of_ble_eq_true rfl) ?_
  intro p e s m below meth c A hC hr hk hin hE hD hA hT hZ H locs hP hS ls hl
  replace hC : CallFix p m c cX4_takeWoodLine 1 s [.ref w].toArray wl RX4 := hC
  have hx := hC.1
  have hb := hC.2.1
  have hml := hC.2.2.1
  have hown := hC.2.2.2.1
  have hts := hC.2.2.2.2
  replace hl : lv_has ls 1 [(0, .ref w)] := hl
  refine lv_aload_n hx hb dX4_takeWoodLine_0 rfl (lv_at hl 0 rfl) ?_
  refine va_ldcS hx hb hown (show vk_R RX4 125 "wood" (Z.1 0) s from hT.2.2.2 0 (by decide)) dX4_takeWoodLine_1 ?_
  refine ciT_V (As := [.ref (Z.1 0)]) (rest := []) (wc := [(w, .inr (4, [.ref wa0, .int wn1, .int wn2, .int wn3, .ref wa4, .int wn5, .int wn6, .int wn7, .int wn8, .int wn9])), (wa0, .inl (K 0, 1000, .inl wf0))]) (wr := [(wa4, .inr (9, [.ref wa4a0, .ref wa4a1, .ref wa4a2, .ref wa4a3, .ref wa4a4, .ref wa4a5, .ref wa4a6, .ref wa4a7, .int wa4n8, .int wa4n9, .int wa4n10, .int wa4n11]))]) hC hE hT hZ kV_X4_127 (c_X4_takeWord l D K Z w wa0 wa4 wn1 wn2 wn3 wn5 wn6 wn7 wn8 wn9 wf0 0 (by decide)) hP hD hS hA [0, 1] [2] rfl rfl rfl (by decide) (by decide) (by decide) 0 4 rfl rfl rfl hl.1 rfl (Nat.le_of_ble_eq_true rfl) (by decide) (by decide) dX4_takeWoodLine_3 (fun r2666 u2665 H locs hw hP hD hS => ?_)
  replace hP : va_P D vwCl [(wa4, .inr (9, [.ref wa4a0, .ref wa4a1, .ref wa4a2, .ref wa4a3, .ref wa4a4, .ref wa4a5, .ref wa4a6, .ref wa4a7, .int wa4n8, .int wa4n9, .int wa4n10, .int wa4n11])), (w, .inr (4, [.ref wa0, .int wn1, .int (u2665.1 0), .int (u2665.1 1), .ref wa4, .int (u2665.1 2), .int (u2665.1 3), .int (u2665.1 4), .int (u2665.1 5), .int wn9])), (wa0, .inl (K 0, 1000, .inl wf0))] H := hP
  replace hD : va_D A [(wa4, .inr (9, [.ref wa4a0, .ref wa4a1, .ref wa4a2, .ref wa4a3, .ref wa4a4, .ref wa4a5, .ref wa4a6, .ref wa4a7, .int wa4n8, .int wa4n9, .int wa4n10, .int wa4n11])), (w, .inr (4, [.ref wa0, .int wn1, .int (u2665.1 0), .int (u2665.1 1), .ref wa4, .int (u2665.1 2), .int (u2665.1 3), .int (u2665.1 4), .int (u2665.1 5), .int wn9])), (wa0, .inl (K 0, 1000, .inl wf0))] := hD
  replace hP : va_P D vwCl [(w, .inr (4, [.ref wa0, .int wn1, .int (u2665.1 0), .int (u2665.1 1), .ref wa4, .int (u2665.1 2), .int (u2665.1 3), .int (u2665.1 4), .int (u2665.1 5), .int wn9])), (wa0, .inl (K 0, 1000, .inl wf0)), (wa4, .inr (9, [.ref wa4a0, .ref wa4a1, .ref wa4a2, .ref wa4a3, .ref wa4a4, .ref wa4a5, .ref wa4a6, .ref wa4a7, .int wa4n8, .int wa4n9, .int wa4n10, .int wa4n11]))] H := hP.sub [1, 2, 0] rfl
  replace hD : va_D A [(w, .inr (4, [.ref wa0, .int wn1, .int (u2665.1 0), .int (u2665.1 1), .ref wa4, .int (u2665.1 2), .int (u2665.1 3), .int (u2665.1 4), .int (u2665.1 5), .int wn9])), (wa0, .inl (K 0, 1000, .inl wf0)), (wa4, .inr (9, [.ref wa4a0, .ref wa4a1, .ref wa4a2, .ref wa4a3, .ref wa4a4, .ref wa4a5, .ref wa4a6, .ref wa4a7, .int wa4n8, .int wa4n9, .int wa4n10, .int wa4n11]))] := hD.sub [1, 2, 0] (by decide) rfl
  refine W.widen (k := 0) (n := 0) (by decide) (by decide) ?_
  rcases hw with rfl | rfl
  · refine lv_if_eq (tgt := 28) hx hb dX4_takeWoodLine_6 (by decide) (fun _ => ?_) (fun h => absurd h (by decide))
    refine lv_iconst (v := 0) hx hb dX4_takeWoodLine_28 (by decide) ?_
    refine W.widen (k := 0) (n := 0) (by decide) (by decide) ?_
    exact ch_zret hC hr hk hS dX4_takeWoodLine_29 rfl ((fun k => [(u2665.1 0), (u2665.1 1), (u2665.1 2), (u2665.1 3), (u2665.1 4), (u2665.1 5), wn9, wa4n8].getD k 0, fun k => [].getD k (fun _ => 0), fun k => [].getD k (fun _ => 0)) : ((Nat → Int32) × (Nat → Nat → Int32) × (Nat → Nat → Int64))) (Or.inl rfl) (hP.sub [0, 1, 2] rfl) (hD.sub [0, 1, 2] (by decide) rfl)
  · refine lv_if_eq (tgt := 28) hx hb dX4_takeWoodLine_6 (by decide) (fun h => absurd h (by decide)) (fun _ => ?_)
    refine lv_aload_n hx hb dX4_takeWoodLine_9 rfl (lv_at hl 0 rfl) ?_
    refine va_ldcS hx hb hown (show vk_R RX4 130 "places" (Z.1 1) s from hT.2.2.2 1 (by decide)) dX4_takeWoodLine_10 ?_
    refine ciT_V (As := [.ref (Z.1 1)]) (rest := []) (wc := [(w, .inr (4, [.ref wa0, .int wn1, .int (u2665.1 0), .int (u2665.1 1), .ref wa4, .int (u2665.1 2), .int (u2665.1 3), .int (u2665.1 4), .int (u2665.1 5), .int wn9])), (wa0, .inl (K 0, 1000, .inl wf0))]) (wr := [(wa4, .inr (9, [.ref wa4a0, .ref wa4a1, .ref wa4a2, .ref wa4a3, .ref wa4a4, .ref wa4a5, .ref wa4a6, .ref wa4a7, .int wa4n8, .int wa4n9, .int wa4n10, .int wa4n11]))]) hC hE hT hZ kV_X4_127 (c_X4_takeWord l D K Z w wa0 wa4 wn1 (u2665.1 0) (u2665.1 1) (u2665.1 2) (u2665.1 3) (u2665.1 4) (u2665.1 5) wn9 wf0 1 (by decide)) hP hD hS hA [0, 1] [2] rfl rfl rfl (by decide) (by decide) (by decide) 0 4 rfl rfl rfl hl.1 rfl (Nat.le_of_ble_eq_true rfl) (by decide) (by decide) dX4_takeWoodLine_12 (fun r2668 u2667 H locs hw hP hD hS => ?_)
    replace hP : va_P D vwCl [(wa4, .inr (9, [.ref wa4a0, .ref wa4a1, .ref wa4a2, .ref wa4a3, .ref wa4a4, .ref wa4a5, .ref wa4a6, .ref wa4a7, .int wa4n8, .int wa4n9, .int wa4n10, .int wa4n11])), (w, .inr (4, [.ref wa0, .int wn1, .int (u2667.1 0), .int (u2667.1 1), .ref wa4, .int (u2667.1 2), .int (u2667.1 3), .int (u2667.1 4), .int (u2667.1 5), .int wn9])), (wa0, .inl (K 0, 1000, .inl wf0))] H := hP
    replace hD : va_D A [(wa4, .inr (9, [.ref wa4a0, .ref wa4a1, .ref wa4a2, .ref wa4a3, .ref wa4a4, .ref wa4a5, .ref wa4a6, .ref wa4a7, .int wa4n8, .int wa4n9, .int wa4n10, .int wa4n11])), (w, .inr (4, [.ref wa0, .int wn1, .int (u2667.1 0), .int (u2667.1 1), .ref wa4, .int (u2667.1 2), .int (u2667.1 3), .int (u2667.1 4), .int (u2667.1 5), .int wn9])), (wa0, .inl (K 0, 1000, .inl wf0))] := hD
    replace hP : va_P D vwCl [(w, .inr (4, [.ref wa0, .int wn1, .int (u2667.1 0), .int (u2667.1 1), .ref wa4, .int (u2667.1 2), .int (u2667.1 3), .int (u2667.1 4), .int (u2667.1 5), .int wn9])), (wa0, .inl (K 0, 1000, .inl wf0)), (wa4, .inr (9, [.ref wa4a0, .ref wa4a1, .ref wa4a2, .ref wa4a3, .ref wa4a4, .ref wa4a5, .ref wa4a6, .ref wa4a7, .int wa4n8, .int wa4n9, .int wa4n10, .int wa4n11]))] H := hP.sub [1, 2, 0] rfl
    replace hD : va_D A [(w, .inr (4, [.ref wa0, .int wn1, .int (u2667.1 0), .int (u2667.1 1), .ref wa4, .int (u2667.1 2), .int (u2667.1 3), .int (u2667.1 4), .int (u2667.1 5), .int wn9])), (wa0, .inl (K 0, 1000, .inl wf0)), (wa4, .inr (9, [.ref wa4a0, .ref wa4a1, .ref wa4a2, .ref wa4a3, .ref wa4a4, .ref wa4a5, .ref wa4a6, .ref wa4a7, .int wa4n8, .int wa4n9, .int wa4n10, .int wa4n11]))] := hD.sub [1, 2, 0] (by decide) rfl
    refine W.widen (k := 0) (n := 0) (by decide) (by decide) ?_
    rcases hw with rfl | rfl
    · refine lv_if_eq (tgt := 28) hx hb dX4_takeWoodLine_15 (by decide) (fun _ => ?_) (fun h => absurd h (by decide))
      refine lv_iconst (v := 0) hx hb dX4_takeWoodLine_28 (by decide) ?_
      refine W.widen (k := 0) (n := 0) (by decide) (by decide) ?_
      exact ch_zret hC hr hk hS dX4_takeWoodLine_29 rfl ((fun k => [(u2667.1 0), (u2667.1 1), (u2667.1 2), (u2667.1 3), (u2667.1 4), (u2667.1 5), wn9, wa4n8].getD k 0, fun k => [].getD k (fun _ => 0), fun k => [].getD k (fun _ => 0)) : ((Nat → Int32) × (Nat → Nat → Int32) × (Nat → Nat → Int64))) (Or.inl rfl) (hP.sub [0, 1, 2] rfl) (hD.sub [0, 1, 2] (by decide) rfl)
    · refine lv_if_eq (tgt := 28) hx hb dX4_takeWoodLine_15 (by decide) (fun h => absurd h (by decide)) (fun _ => ?_)
      refine lv_aload_n hx hb dX4_takeWoodLine_18 rfl (lv_at hl 0 rfl) ?_
      refine lv_iconst (v := 2) hx hb dX4_takeWoodLine_19 (by decide) ?_
      refine lv_bipush (v := 10) hx hb dX4_takeWoodLine_20 (by decide) ?_
      refine ci_V (As := [.int 2, .int 10]) (rest := []) (wc := [(w, .inr (4, [.ref wa0, .int wn1, .int (u2667.1 0), .int (u2667.1 1), .ref wa4, .int (u2667.1 2), .int (u2667.1 3), .int (u2667.1 4), .int (u2667.1 5), .int wn9])), (wa0, .inl (K 0, 1000, .inl wf0))]) (wr := [(wa4, .inr (9, [.ref wa4a0, .ref wa4a1, .ref wa4a2, .ref wa4a3, .ref wa4a4, .ref wa4a5, .ref wa4a6, .ref wa4a7, .int wa4n8, .int wa4n9, .int wa4n10, .int wa4n11]))]) hC hE kV_X4_132 (c_X4_takeNumber l D K w wa0 wa4 wn1 (u2667.1 0) (u2667.1 1) (u2667.1 2) (u2667.1 3) (u2667.1 4) (u2667.1 5) wn9 wf0 2 10) hP hD hS hA [0, 1] [2] rfl rfl rfl (by decide) (by decide) (by decide) 0 4 rfl rfl rfl hl.1 rfl (Nat.le_of_ble_eq_true rfl) (by decide) (by decide) dX4_takeWoodLine_22 (fun r2670 u2669 H locs hw hP hD hS => ?_)
      replace hP : va_P D vwCl [(wa4, .inr (9, [.ref wa4a0, .ref wa4a1, .ref wa4a2, .ref wa4a3, .ref wa4a4, .ref wa4a5, .ref wa4a6, .ref wa4a7, .int wa4n8, .int wa4n9, .int wa4n10, .int wa4n11])), (w, .inr (4, [.ref wa0, .int wn1, .int (u2669.1 0), .int (u2669.1 1), .ref wa4, .int (u2669.1 2), .int (u2669.1 3), .int (u2669.1 4), .int (u2669.1 5), .int (u2669.1 6)])), (wa0, .inl (K 0, 1000, .inl wf0))] H := hP
      replace hD : va_D A [(wa4, .inr (9, [.ref wa4a0, .ref wa4a1, .ref wa4a2, .ref wa4a3, .ref wa4a4, .ref wa4a5, .ref wa4a6, .ref wa4a7, .int wa4n8, .int wa4n9, .int wa4n10, .int wa4n11])), (w, .inr (4, [.ref wa0, .int wn1, .int (u2669.1 0), .int (u2669.1 1), .ref wa4, .int (u2669.1 2), .int (u2669.1 3), .int (u2669.1 4), .int (u2669.1 5), .int (u2669.1 6)])), (wa0, .inl (K 0, 1000, .inl wf0))] := hD
      replace hP : va_P D vwCl [(w, .inr (4, [.ref wa0, .int wn1, .int (u2669.1 0), .int (u2669.1 1), .ref wa4, .int (u2669.1 2), .int (u2669.1 3), .int (u2669.1 4), .int (u2669.1 5), .int (u2669.1 6)])), (wa0, .inl (K 0, 1000, .inl wf0)), (wa4, .inr (9, [.ref wa4a0, .ref wa4a1, .ref wa4a2, .ref wa4a3, .ref wa4a4, .ref wa4a5, .ref wa4a6, .ref wa4a7, .int wa4n8, .int wa4n9, .int wa4n10, .int wa4n11]))] H := hP.sub [1, 2, 0] rfl
      replace hD : va_D A [(w, .inr (4, [.ref wa0, .int wn1, .int (u2669.1 0), .int (u2669.1 1), .ref wa4, .int (u2669.1 2), .int (u2669.1 3), .int (u2669.1 4), .int (u2669.1 5), .int (u2669.1 6)])), (wa0, .inl (K 0, 1000, .inl wf0)), (wa4, .inr (9, [.ref wa4a0, .ref wa4a1, .ref wa4a2, .ref wa4a3, .ref wa4a4, .ref wa4a5, .ref wa4a6, .ref wa4a7, .int wa4n8, .int wa4n9, .int wa4n10, .int wa4n11]))] := hD.sub [1, 2, 0] (by decide) rfl
      refine W.widen (k := 0) (n := 0) (by decide) (by decide) ?_
      rcases hw with rfl | rfl
      · refine lv_if_ne (tgt := 30) hx hb dX4_takeWoodLine_25 (by decide) (fun h => absurd h (by decide)) (fun _ => ?_)
        refine lv_iconst (v := 0) hx hb dX4_takeWoodLine_28 (by decide) ?_
        refine W.widen (k := 0) (n := 0) (by decide) (by decide) ?_
        exact ch_zret hC hr hk hS dX4_takeWoodLine_29 rfl ((fun k => [(u2669.1 0), (u2669.1 1), (u2669.1 2), (u2669.1 3), (u2669.1 4), (u2669.1 5), (u2669.1 6), wa4n8].getD k 0, fun k => [].getD k (fun _ => 0), fun k => [].getD k (fun _ => 0)) : ((Nat → Int32) × (Nat → Nat → Int32) × (Nat → Nat → Int64))) (Or.inl rfl) (hP.sub [0, 1, 2] rfl) (hD.sub [0, 1, 2] (by decide) rfl)
      · refine lv_if_ne (tgt := 30) hx hb dX4_takeWoodLine_25 (by decide) (fun _ => ?_) (fun h => absurd h (by decide))
        refine lv_aload_n hx hb dX4_takeWoodLine_30 rfl (lv_at hl 0 rfl) ?_
        refine va_get (D := D) (ci := 4) (v := .ref wa4) (C := RX4) (T := TX4) (N := 10) hx hb hts in_X4 hown hE.1 hP 0 rfl rfl 4 (by decide) (hts _ w_440) (fun _ h9 => h9) rfl dX4_takeWoodLine_31 ?_
        refine lv_aload_n hx hb dX4_takeWoodLine_34 rfl (lv_at hl 0 rfl) ?_
        refine va_get (D := D) (ci := 4) (v := .int (u2669.1 6)) (C := RX4) (T := TX4) (N := 10) hx hb hts in_X4 hown hE.1 hP 0 rfl rfl 9 (by decide) (hts _ w_439) (fun _ h9 => h9) rfl dX4_takeWoodLine_35 ?_
        refine va_put (D := D) (ci := 9) (v := .int (u2669.1 6)) (ty := .int) (C := RX10) (T := TX10) (N := 12) hx hb hts in_X10 tyX10 tyX10_ok nmX10 hown hE.1 hP hD hS 2 rfl rfl 8 (by decide) (hts _ w_441) (fun _ h9 => h9) rfl (by decide +kernel) rfl rfl (Nat.le_of_ble_eq_true rfl) dX4_takeWoodLine_38 (fun H locs hP hD hS => ?_)
        replace hP : va_P D vwCl [(w, .inr (4, [.ref wa0, .int wn1, .int (u2669.1 0), .int (u2669.1 1), .ref wa4, .int (u2669.1 2), .int (u2669.1 3), .int (u2669.1 4), .int (u2669.1 5), .int (u2669.1 6)])), (wa0, .inl (K 0, 1000, .inl wf0)), (wa4, .inr (9, [.ref wa4a0, .ref wa4a1, .ref wa4a2, .ref wa4a3, .ref wa4a4, .ref wa4a5, .ref wa4a6, .ref wa4a7, .int (u2669.1 6), .int wa4n9, .int wa4n10, .int wa4n11]))] H := hP
        replace hD : va_D A [(w, .inr (4, [.ref wa0, .int wn1, .int (u2669.1 0), .int (u2669.1 1), .ref wa4, .int (u2669.1 2), .int (u2669.1 3), .int (u2669.1 4), .int (u2669.1 5), .int (u2669.1 6)])), (wa0, .inl (K 0, 1000, .inl wf0)), (wa4, .inr (9, [.ref wa4a0, .ref wa4a1, .ref wa4a2, .ref wa4a3, .ref wa4a4, .ref wa4a5, .ref wa4a6, .ref wa4a7, .int (u2669.1 6), .int wa4n9, .int wa4n10, .int wa4n11]))] := hD
        refine lv_iconst (v := 1) hx hb dX4_takeWoodLine_41 (by decide) ?_
        refine W.widen (k := 0) (n := 0) (by decide) (by decide) ?_
        exact ch_zret hC hr hk hS dX4_takeWoodLine_42 rfl ((fun k => [(u2669.1 0), (u2669.1 1), (u2669.1 2), (u2669.1 3), (u2669.1 4), (u2669.1 5), (u2669.1 6), (u2669.1 6)].getD k 0, fun k => [].getD k (fun _ => 0), fun k => [].getD k (fun _ => 0)) : ((Nat → Int32) × (Nat → Nat → Int32) × (Nat → Nat → Int64))) (Or.inr rfl) (hP.sub [0, 1, 2] rfl) (hD.sub [0, 1, 2] (by decide) rfl)
set_option maxRecDepth 40000 in
set_option maxHeartbeats 4000000 in
theorem c_X4_takeWayLine (l : Launch) (D : va_G) (K : Nat → ClassId) (Z : stZ) (w : Nat) (wa0 : Nat) (wa4 : Nat) (wa4a0 : Nat) (wa4a1 : Nat) (wa4a2 : Nat) (wa4a3 : Nat) (wa4a4 : Nat) (wa4a5 : Nat) (wa4a6 : Nat) (wa4a7 : Nat) (wn1 : Int32) (wn2 : Int32) (wn3 : Int32) (wn5 : Int32) (wn6 : Int32) (wn7 : Int32) (wn8 : Int32) (wn9 : Int32) (wa4n8 : Int32) (wa4n9 : Int32) (wa4n10 : Int32) (wa4n11 : Int32) (wf0 : Nat → Int32) (wa4f0 : Nat → Int32) : CiT (S := ((Nat → Int32) × (Nat → Nat → Int32) × (Nat → Nat → Int64))) l D K Z yX4_takeWayLine cX4_takeWayLine 4 (some .boolean) 6 128 0 0 [.ref w] [(w, .inr (4, [.ref wa0, .int wn1, .int wn2, .int wn3, .ref wa4, .int wn5, .int wn6, .int wn7, .int wn8, .int wn9])), (wa0, .inl (K 0, 1000, .inl wf0)), (wa4, .inr (9, [.ref wa4a0, .ref wa4a1, .ref wa4a2, .ref wa4a3, .ref wa4a4, .ref wa4a5, .ref wa4a6, .ref wa4a7, .int wa4n8, .int wa4n9, .int wa4n10, .int wa4n11])), (wa4a0, .inl (K 1, 40, .inl wa4f0))] (fun r u => ((r = 0) ∨ (r = 1))) (fun u => [(w, .inr (4, [.ref wa0, .int wn1, .int (u.1 0), .int (u.1 1), .ref wa4, .int (u.1 2), .int (u.1 3), .int (u.1 4), .int (u.1 5), .int (u.1 6)])), (wa0, .inl (K 0, 1000, .inl wf0)), (wa4, .inr (9, [.ref wa4a0, .ref wa4a1, .ref wa4a2, .ref wa4a3, .ref wa4a4, .ref wa4a5, .ref wa4a6, .ref wa4a7, .int wa4n8, .int wa4n9, .int wa4n10, .int wa4n11])), (wa4a0, .inl (K 1, 40, .inl (u.2.1 0)))]) := by
  intro sz
  refine chT_of (y := yX4_takeWayLine) (cc := cX4_takeWayLine) (maxL := 4) (ret := (some .boolean)) (av := [.ref w]) (ws := [(w, .inr (4, [.ref wa0, .int wn1, .int wn2, .int wn3, .ref wa4, .int wn5, .int wn6, .int wn7, .int wn8, .int wn9])), (wa0, .inl (K 0, 1000, .inl wf0)), (wa4, .inr (9, [.ref wa4a0, .ref wa4a1, .ref wa4a2, .ref wa4a3, .ref wa4a4, .ref wa4a5, .ref wa4a6, .ref wa4a7, .int wa4n8, .int wa4n9, .int wa4n10, .int wa4n11])), (wa4a0, .inl (K 1, 40, .inl wa4f0))]) (D := D) (K := K) (Qc := fun A => va_Qi (S := ((Nat → Int32) × (Nat → Nat → Int32) × (Nat → Nat → Int64))) (fun r u => ((r = 0) ∨ (r = 1))) (chB D A (fun u => [(w, .inr (4, [.ref wa0, .int wn1, .int (u.1 0), .int (u.1 1), .ref wa4, .int (u.1 2), .int (u.1 3), .int (u.1 4), .int (u.1 5), .int (u.1 6)])), (wa0, .inl (K 0, 1000, .inl wf0)), (wa4, .inr (9, [.ref wa4a0, .ref wa4a1, .ref wa4a2, .ref wa4a3, .ref wa4a4, .ref wa4a5, .ref wa4a6, .ref wa4a7, .int wa4n8, .int wa4n9, .int wa4n10, .int wa4n11])), (wa4a0, .inl (K 1, 40, .inl (u.2.1 0)))])) A) (by decide) (Nat.le_of_ble_eq_true rfl) ?_
  intro p e s m below meth c A hC hr hk hin hE hD hA hT hZ H locs hP hS ls hl
  replace hC : CallFix p m c cX4_takeWayLine 4 s [.ref w].toArray wl RX4 := hC
  have hx := hC.1
  have hb := hC.2.1
  have hml := hC.2.2.1
  have hown := hC.2.2.2.1
  have hts := hC.2.2.2.2
  replace hl : lv_has ls 4 [(0, .ref w)] := hl
  refine lv_aload_n hx hb dX4_takeWayLine_0 rfl (lv_at hl 0 rfl) ?_
  refine cv_V (As := []) (rest := []) (wc := [(w, .inr (4, [.ref wa0, .int wn1, .int wn2, .int wn3, .ref wa4, .int wn5, .int wn6, .int wn7, .int wn8, .int wn9])), (wa0, .inl (K 0, 1000, .inl wf0))]) (wr := [(wa4, .inr (9, [.ref wa4a0, .ref wa4a1, .ref wa4a2, .ref wa4a3, .ref wa4a4, .ref wa4a5, .ref wa4a6, .ref wa4a7, .int wa4n8, .int wa4n9, .int wa4n10, .int wa4n11])), (wa4a0, .inl (K 1, 40, .inl wa4f0))]) hC hE kV_X4_38 (c_X4_advance l D K w wa0 wa4 wn1 wn2 wn3 wn5 wn6 wn7 wn8 wn9 wf0) hP hD hS hA [0, 1] [2, 3] rfl rfl rfl (by decide) (by decide) (by decide) 0 4 rfl rfl rfl hl.1 rfl (Nat.le_of_ble_eq_true rfl) (by decide) (by decide) dX4_takeWayLine_1 (fun u2692 H locs hw hP hD hS => ?_)
  replace hP : va_P D vwCl [(wa4, .inr (9, [.ref wa4a0, .ref wa4a1, .ref wa4a2, .ref wa4a3, .ref wa4a4, .ref wa4a5, .ref wa4a6, .ref wa4a7, .int wa4n8, .int wa4n9, .int wa4n10, .int wa4n11])), (wa4a0, .inl (K 1, 40, .inl wa4f0)), (w, .inr (4, [.ref wa0, .int wn1, .int wn2, .int wn3, .ref wa4, .int (u2692.1 0), .int (u2692.1 1), .int (u2692.1 2), .int (u2692.1 3), .int wn9])), (wa0, .inl (K 0, 1000, .inl wf0))] H := hP
  replace hD : va_D A [(wa4, .inr (9, [.ref wa4a0, .ref wa4a1, .ref wa4a2, .ref wa4a3, .ref wa4a4, .ref wa4a5, .ref wa4a6, .ref wa4a7, .int wa4n8, .int wa4n9, .int wa4n10, .int wa4n11])), (wa4a0, .inl (K 1, 40, .inl wa4f0)), (w, .inr (4, [.ref wa0, .int wn1, .int wn2, .int wn3, .ref wa4, .int (u2692.1 0), .int (u2692.1 1), .int (u2692.1 2), .int (u2692.1 3), .int wn9])), (wa0, .inl (K 0, 1000, .inl wf0))] := hD
  replace hP : va_P D vwCl [(w, .inr (4, [.ref wa0, .int wn1, .int wn2, .int wn3, .ref wa4, .int (u2692.1 0), .int (u2692.1 1), .int (u2692.1 2), .int (u2692.1 3), .int wn9])), (wa0, .inl (K 0, 1000, .inl wf0)), (wa4, .inr (9, [.ref wa4a0, .ref wa4a1, .ref wa4a2, .ref wa4a3, .ref wa4a4, .ref wa4a5, .ref wa4a6, .ref wa4a7, .int wa4n8, .int wa4n9, .int wa4n10, .int wa4n11])), (wa4a0, .inl (K 1, 40, .inl wa4f0))] H := hP.sub [2, 3, 0, 1] rfl
  replace hD : va_D A [(w, .inr (4, [.ref wa0, .int wn1, .int wn2, .int wn3, .ref wa4, .int (u2692.1 0), .int (u2692.1 1), .int (u2692.1 2), .int (u2692.1 3), .int wn9])), (wa0, .inl (K 0, 1000, .inl wf0)), (wa4, .inr (9, [.ref wa4a0, .ref wa4a1, .ref wa4a2, .ref wa4a3, .ref wa4a4, .ref wa4a5, .ref wa4a6, .ref wa4a7, .int wa4n8, .int wa4n9, .int wa4n10, .int wa4n11])), (wa4a0, .inl (K 1, 40, .inl wa4f0))] := hD.sub [2, 3, 0, 1] (by decide) rfl
  refine W.widen (k := 0) (n := 0) (by decide) (by decide) ?_
  refine lv_aload_n hx hb dX4_takeWayLine_4 rfl (lv_at hl 0 rfl) ?_
  refine lv_iconst (v := 0) hx hb dX4_takeWayLine_5 (by decide) ?_
  refine lv_aload_n hx hb dX4_takeWayLine_6 rfl (lv_at hl 0 rfl) ?_
  refine va_get (D := D) (ci := 4) (v := .ref wa4) (C := RX4) (T := TX4) (N := 10) hx hb hts in_X4 hown hE.1 hP 0 rfl rfl 4 (by decide) (hts _ w_440) (fun _ h9 => h9) rfl dX4_takeWayLine_7 ?_
  refine va_get (D := D) (ci := 9) (v := .int wa4n8) (C := RX10) (T := TX10) (N := 12) hx hb hts in_X10 hown hE.1 hP 2 rfl rfl 8 (by decide) (hts _ w_441) (fun _ h9 => h9) rfl dX4_takeWayLine_10 ?_
  refine lv_iconst (v := 1) hx hb dX4_takeWayLine_13 (by decide) ?_
  refine lv_isub hx hb dX4_takeWayLine_14 ?_
  refine lv_topi (fun v2694 ev2694 => ?_)
  refine ci_V (As := [.int 0, .int v2694]) (rest := []) (wc := [(w, .inr (4, [.ref wa0, .int wn1, .int wn2, .int wn3, .ref wa4, .int (u2692.1 0), .int (u2692.1 1), .int (u2692.1 2), .int (u2692.1 3), .int wn9])), (wa0, .inl (K 0, 1000, .inl wf0))]) (wr := [(wa4, .inr (9, [.ref wa4a0, .ref wa4a1, .ref wa4a2, .ref wa4a3, .ref wa4a4, .ref wa4a5, .ref wa4a6, .ref wa4a7, .int wa4n8, .int wa4n9, .int wa4n10, .int wa4n11])), (wa4a0, .inl (K 1, 40, .inl wa4f0))]) hC hE kV_X4_132 (c_X4_takeNumber l D K w wa0 wa4 wn1 wn2 wn3 (u2692.1 0) (u2692.1 1) (u2692.1 2) (u2692.1 3) wn9 wf0 0 v2694) hP hD hS hA [0, 1] [2, 3] rfl rfl rfl (by decide) (by decide) (by decide) 0 4 rfl rfl rfl hl.1 rfl (Nat.le_of_ble_eq_true rfl) (by decide) (by decide) dX4_takeWayLine_15 (fun r2696 u2695 H locs hw hP hD hS => ?_)
  replace hP : va_P D vwCl [(wa4, .inr (9, [.ref wa4a0, .ref wa4a1, .ref wa4a2, .ref wa4a3, .ref wa4a4, .ref wa4a5, .ref wa4a6, .ref wa4a7, .int wa4n8, .int wa4n9, .int wa4n10, .int wa4n11])), (wa4a0, .inl (K 1, 40, .inl wa4f0)), (w, .inr (4, [.ref wa0, .int wn1, .int (u2695.1 0), .int (u2695.1 1), .ref wa4, .int (u2695.1 2), .int (u2695.1 3), .int (u2695.1 4), .int (u2695.1 5), .int (u2695.1 6)])), (wa0, .inl (K 0, 1000, .inl wf0))] H := hP
  replace hD : va_D A [(wa4, .inr (9, [.ref wa4a0, .ref wa4a1, .ref wa4a2, .ref wa4a3, .ref wa4a4, .ref wa4a5, .ref wa4a6, .ref wa4a7, .int wa4n8, .int wa4n9, .int wa4n10, .int wa4n11])), (wa4a0, .inl (K 1, 40, .inl wa4f0)), (w, .inr (4, [.ref wa0, .int wn1, .int (u2695.1 0), .int (u2695.1 1), .ref wa4, .int (u2695.1 2), .int (u2695.1 3), .int (u2695.1 4), .int (u2695.1 5), .int (u2695.1 6)])), (wa0, .inl (K 0, 1000, .inl wf0))] := hD
  replace hP : va_P D vwCl [(w, .inr (4, [.ref wa0, .int wn1, .int (u2695.1 0), .int (u2695.1 1), .ref wa4, .int (u2695.1 2), .int (u2695.1 3), .int (u2695.1 4), .int (u2695.1 5), .int (u2695.1 6)])), (wa0, .inl (K 0, 1000, .inl wf0)), (wa4, .inr (9, [.ref wa4a0, .ref wa4a1, .ref wa4a2, .ref wa4a3, .ref wa4a4, .ref wa4a5, .ref wa4a6, .ref wa4a7, .int wa4n8, .int wa4n9, .int wa4n10, .int wa4n11])), (wa4a0, .inl (K 1, 40, .inl wa4f0))] H := hP.sub [2, 3, 0, 1] rfl
  replace hD : va_D A [(w, .inr (4, [.ref wa0, .int wn1, .int (u2695.1 0), .int (u2695.1 1), .ref wa4, .int (u2695.1 2), .int (u2695.1 3), .int (u2695.1 4), .int (u2695.1 5), .int (u2695.1 6)])), (wa0, .inl (K 0, 1000, .inl wf0)), (wa4, .inr (9, [.ref wa4a0, .ref wa4a1, .ref wa4a2, .ref wa4a3, .ref wa4a4, .ref wa4a5, .ref wa4a6, .ref wa4a7, .int wa4n8, .int wa4n9, .int wa4n10, .int wa4n11])), (wa4a0, .inl (K 1, 40, .inl wa4f0))] := hD.sub [2, 3, 0, 1] (by decide) rfl
  refine W.widen (k := 0) (n := 0) (by decide) (by decide) ?_
  rcases hw with rfl | rfl
  · refine lv_if_ne (tgt := 23) hx hb dX4_takeWayLine_18 (by decide) (fun h => absurd h (by decide)) (fun _ => ?_)
    refine lv_iconst (v := 0) hx hb dX4_takeWayLine_21 (by decide) ?_
    refine W.widen (k := 0) (n := 0) (by decide) (by decide) ?_
    exact ch_zret hC hr hk hS dX4_takeWayLine_22 rfl ((fun k => [(u2695.1 0), (u2695.1 1), (u2695.1 2), (u2695.1 3), (u2695.1 4), (u2695.1 5), (u2695.1 6)].getD k 0, fun k => [wa4f0].getD k (fun _ => 0), fun k => [].getD k (fun _ => 0)) : ((Nat → Int32) × (Nat → Nat → Int32) × (Nat → Nat → Int64))) (Or.inl rfl) (hP.sub [0, 1, 2, 3] rfl) (hD.sub [0, 1, 2, 3] (by decide) rfl)
  · refine lv_if_ne (tgt := 23) hx hb dX4_takeWayLine_18 (by decide) (fun _ => ?_) (fun h => absurd h (by decide))
    refine lv_aload_n hx hb dX4_takeWayLine_23 rfl (lv_at hl 0 rfl) ?_
    refine va_get (D := D) (ci := 4) (v := .int (u2695.1 6)) (C := RX4) (T := TX4) (N := 10) hx hb hts in_X4 hown hE.1 hP 0 rfl rfl 9 (by decide) (hts _ w_439) (fun _ h9 => h9) rfl dX4_takeWayLine_24 ?_
    refine lv_istore_n (lv' := [(1, .int (u2695.1 6)), (0, .ref w)]) hx hb dX4_takeWayLine_27 rfl hl (by decide) rfl (fun ls hl => ?_)
    refine lv_aload_n hx hb dX4_takeWayLine_28 rfl (lv_at hl 1 rfl) ?_
    refine ciT_V (As := []) (rest := []) (wc := [(w, .inr (4, [.ref wa0, .int wn1, .int (u2695.1 0), .int (u2695.1 1), .ref wa4, .int (u2695.1 2), .int (u2695.1 3), .int (u2695.1 4), .int (u2695.1 5), .int (u2695.1 6)])), (wa0, .inl (K 0, 1000, .inl wf0))]) (wr := [(wa4, .inr (9, [.ref wa4a0, .ref wa4a1, .ref wa4a2, .ref wa4a3, .ref wa4a4, .ref wa4a5, .ref wa4a6, .ref wa4a7, .int wa4n8, .int wa4n9, .int wa4n10, .int wa4n11])), (wa4a0, .inl (K 1, 40, .inl wa4f0))]) hC hE hT hZ kV_X4_138 (c_X4_takeWind l D K Z w wa0 wa4 wn1 (u2695.1 0) (u2695.1 1) (u2695.1 2) (u2695.1 3) (u2695.1 4) (u2695.1 5) (u2695.1 6) wf0) hP hD hS hA [0, 1] [2, 3] rfl rfl rfl (by decide) (by decide) (by decide) 0 4 rfl rfl rfl hl.1 rfl (Nat.le_of_ble_eq_true rfl) (by decide) (by decide) dX4_takeWayLine_29 (fun r2698 u2697 H locs hw hP hD hS => ?_)
    replace hP : va_P D vwCl [(wa4, .inr (9, [.ref wa4a0, .ref wa4a1, .ref wa4a2, .ref wa4a3, .ref wa4a4, .ref wa4a5, .ref wa4a6, .ref wa4a7, .int wa4n8, .int wa4n9, .int wa4n10, .int wa4n11])), (wa4a0, .inl (K 1, 40, .inl wa4f0)), (w, .inr (4, [.ref wa0, .int wn1, .int (u2697.1 0), .int (u2697.1 1), .ref wa4, .int (u2697.1 2), .int (u2697.1 3), .int (u2697.1 4), .int (u2697.1 5), .int (u2697.1 6)])), (wa0, .inl (K 0, 1000, .inl wf0))] H := hP
    replace hD : va_D A [(wa4, .inr (9, [.ref wa4a0, .ref wa4a1, .ref wa4a2, .ref wa4a3, .ref wa4a4, .ref wa4a5, .ref wa4a6, .ref wa4a7, .int wa4n8, .int wa4n9, .int wa4n10, .int wa4n11])), (wa4a0, .inl (K 1, 40, .inl wa4f0)), (w, .inr (4, [.ref wa0, .int wn1, .int (u2697.1 0), .int (u2697.1 1), .ref wa4, .int (u2697.1 2), .int (u2697.1 3), .int (u2697.1 4), .int (u2697.1 5), .int (u2697.1 6)])), (wa0, .inl (K 0, 1000, .inl wf0))] := hD
    replace hP : va_P D vwCl [(w, .inr (4, [.ref wa0, .int wn1, .int (u2697.1 0), .int (u2697.1 1), .ref wa4, .int (u2697.1 2), .int (u2697.1 3), .int (u2697.1 4), .int (u2697.1 5), .int (u2697.1 6)])), (wa0, .inl (K 0, 1000, .inl wf0)), (wa4, .inr (9, [.ref wa4a0, .ref wa4a1, .ref wa4a2, .ref wa4a3, .ref wa4a4, .ref wa4a5, .ref wa4a6, .ref wa4a7, .int wa4n8, .int wa4n9, .int wa4n10, .int wa4n11])), (wa4a0, .inl (K 1, 40, .inl wa4f0))] H := hP.sub [2, 3, 0, 1] rfl
    replace hD : va_D A [(w, .inr (4, [.ref wa0, .int wn1, .int (u2697.1 0), .int (u2697.1 1), .ref wa4, .int (u2697.1 2), .int (u2697.1 3), .int (u2697.1 4), .int (u2697.1 5), .int (u2697.1 6)])), (wa0, .inl (K 0, 1000, .inl wf0)), (wa4, .inr (9, [.ref wa4a0, .ref wa4a1, .ref wa4a2, .ref wa4a3, .ref wa4a4, .ref wa4a5, .ref wa4a6, .ref wa4a7, .int wa4n8, .int wa4n9, .int wa4n10, .int wa4n11])), (wa4a0, .inl (K 1, 40, .inl wa4f0))] := hD.sub [2, 3, 0, 1] (by decide) rfl
    refine W.widen (k := 0) (n := 0) (by decide) (by decide) ?_
    rcases hw with rfl | rfl
    · refine lv_if_ne (tgt := 37) hx hb dX4_takeWayLine_32 (by decide) (fun h => absurd h (by decide)) (fun _ => ?_)
      refine lv_iconst (v := 0) hx hb dX4_takeWayLine_35 (by decide) ?_
      refine W.widen (k := 0) (n := 0) (by decide) (by decide) ?_
      exact ch_zret hC hr hk hS dX4_takeWayLine_36 rfl ((fun k => [(u2697.1 0), (u2697.1 1), (u2697.1 2), (u2697.1 3), (u2697.1 4), (u2697.1 5), (u2697.1 6)].getD k 0, fun k => [wa4f0].getD k (fun _ => 0), fun k => [].getD k (fun _ => 0)) : ((Nat → Int32) × (Nat → Nat → Int32) × (Nat → Nat → Int64))) (Or.inl rfl) (hP.sub [0, 1, 2, 3] rfl) (hD.sub [0, 1, 2, 3] (by decide) rfl)
    · refine lv_if_ne (tgt := 37) hx hb dX4_takeWayLine_32 (by decide) (fun _ => ?_) (fun h => absurd h (by decide))
      refine lv_aload_n hx hb dX4_takeWayLine_37 rfl (lv_at hl 1 rfl) ?_
      refine va_get (D := D) (ci := 4) (v := .int (u2697.1 6)) (C := RX4) (T := TX4) (N := 10) hx hb hts in_X4 hown hE.1 hP 0 rfl rfl 9 (by decide) (hts _ w_439) (fun _ h9 => h9) rfl dX4_takeWayLine_38 ?_
      refine lv_istore_n (lv' := [(2, .int (u2697.1 6)), (1, .int (u2695.1 6)), (0, .ref w)]) hx hb dX4_takeWayLine_41 rfl hl (by decide) rfl (fun ls hl => ?_)
      refine lv_aload_n hx hb dX4_takeWayLine_42 rfl (lv_at hl 2 rfl) ?_
      refine va_ldcS hx hb hown (show vk_R RX4 141 "to" (Z.1 7) s from hT.2.2.2 7 (by decide)) dX4_takeWayLine_43 ?_
      refine ciT_V (As := [.ref (Z.1 7)]) (rest := []) (wc := [(w, .inr (4, [.ref wa0, .int wn1, .int (u2697.1 0), .int (u2697.1 1), .ref wa4, .int (u2697.1 2), .int (u2697.1 3), .int (u2697.1 4), .int (u2697.1 5), .int (u2697.1 6)])), (wa0, .inl (K 0, 1000, .inl wf0))]) (wr := [(wa4, .inr (9, [.ref wa4a0, .ref wa4a1, .ref wa4a2, .ref wa4a3, .ref wa4a4, .ref wa4a5, .ref wa4a6, .ref wa4a7, .int wa4n8, .int wa4n9, .int wa4n10, .int wa4n11])), (wa4a0, .inl (K 1, 40, .inl wa4f0))]) hC hE hT hZ kV_X4_127 (c_X4_takeWord l D K Z w wa0 wa4 wn1 (u2697.1 0) (u2697.1 1) (u2697.1 2) (u2697.1 3) (u2697.1 4) (u2697.1 5) (u2697.1 6) wf0 7 (by decide)) hP hD hS hA [0, 1] [2, 3] rfl rfl rfl (by decide) (by decide) (by decide) 0 4 rfl rfl rfl hl.1 rfl (Nat.le_of_ble_eq_true rfl) (by decide) (by decide) dX4_takeWayLine_45 (fun r2700 u2699 H locs hw hP hD hS => ?_)
      replace hP : va_P D vwCl [(wa4, .inr (9, [.ref wa4a0, .ref wa4a1, .ref wa4a2, .ref wa4a3, .ref wa4a4, .ref wa4a5, .ref wa4a6, .ref wa4a7, .int wa4n8, .int wa4n9, .int wa4n10, .int wa4n11])), (wa4a0, .inl (K 1, 40, .inl wa4f0)), (w, .inr (4, [.ref wa0, .int wn1, .int (u2699.1 0), .int (u2699.1 1), .ref wa4, .int (u2699.1 2), .int (u2699.1 3), .int (u2699.1 4), .int (u2699.1 5), .int (u2697.1 6)])), (wa0, .inl (K 0, 1000, .inl wf0))] H := hP
      replace hD : va_D A [(wa4, .inr (9, [.ref wa4a0, .ref wa4a1, .ref wa4a2, .ref wa4a3, .ref wa4a4, .ref wa4a5, .ref wa4a6, .ref wa4a7, .int wa4n8, .int wa4n9, .int wa4n10, .int wa4n11])), (wa4a0, .inl (K 1, 40, .inl wa4f0)), (w, .inr (4, [.ref wa0, .int wn1, .int (u2699.1 0), .int (u2699.1 1), .ref wa4, .int (u2699.1 2), .int (u2699.1 3), .int (u2699.1 4), .int (u2699.1 5), .int (u2697.1 6)])), (wa0, .inl (K 0, 1000, .inl wf0))] := hD
      replace hP : va_P D vwCl [(w, .inr (4, [.ref wa0, .int wn1, .int (u2699.1 0), .int (u2699.1 1), .ref wa4, .int (u2699.1 2), .int (u2699.1 3), .int (u2699.1 4), .int (u2699.1 5), .int (u2697.1 6)])), (wa0, .inl (K 0, 1000, .inl wf0)), (wa4, .inr (9, [.ref wa4a0, .ref wa4a1, .ref wa4a2, .ref wa4a3, .ref wa4a4, .ref wa4a5, .ref wa4a6, .ref wa4a7, .int wa4n8, .int wa4n9, .int wa4n10, .int wa4n11])), (wa4a0, .inl (K 1, 40, .inl wa4f0))] H := hP.sub [2, 3, 0, 1] rfl
      replace hD : va_D A [(w, .inr (4, [.ref wa0, .int wn1, .int (u2699.1 0), .int (u2699.1 1), .ref wa4, .int (u2699.1 2), .int (u2699.1 3), .int (u2699.1 4), .int (u2699.1 5), .int (u2697.1 6)])), (wa0, .inl (K 0, 1000, .inl wf0)), (wa4, .inr (9, [.ref wa4a0, .ref wa4a1, .ref wa4a2, .ref wa4a3, .ref wa4a4, .ref wa4a5, .ref wa4a6, .ref wa4a7, .int wa4n8, .int wa4n9, .int wa4n10, .int wa4n11])), (wa4a0, .inl (K 1, 40, .inl wa4f0))] := hD.sub [2, 3, 0, 1] (by decide) rfl
      refine W.widen (k := 0) (n := 0) (by decide) (by decide) ?_
      rcases hw with rfl | rfl
      · refine lv_if_eq (tgt := 68) hx hb dX4_takeWayLine_48 (by decide) (fun _ => ?_) (fun h => absurd h (by decide))
        refine lv_iconst (v := 0) hx hb dX4_takeWayLine_68 (by decide) ?_
        refine W.widen (k := 0) (n := 0) (by decide) (by decide) ?_
        exact ch_zret hC hr hk hS dX4_takeWayLine_69 rfl ((fun k => [(u2699.1 0), (u2699.1 1), (u2699.1 2), (u2699.1 3), (u2699.1 4), (u2699.1 5), (u2697.1 6)].getD k 0, fun k => [wa4f0].getD k (fun _ => 0), fun k => [].getD k (fun _ => 0)) : ((Nat → Int32) × (Nat → Nat → Int32) × (Nat → Nat → Int64))) (Or.inl rfl) (hP.sub [0, 1, 2, 3] rfl) (hD.sub [0, 1, 2, 3] (by decide) rfl)
      · refine lv_if_eq (tgt := 68) hx hb dX4_takeWayLine_48 (by decide) (fun h => absurd h (by decide)) (fun _ => ?_)
        refine lv_aload_n hx hb dX4_takeWayLine_51 rfl (lv_at hl 2 rfl) ?_
        refine lv_iconst (v := 0) hx hb dX4_takeWayLine_52 (by decide) ?_
        refine lv_aload_n hx hb dX4_takeWayLine_53 rfl (lv_at hl 2 rfl) ?_
        refine va_get (D := D) (ci := 4) (v := .ref wa4) (C := RX4) (T := TX4) (N := 10) hx hb hts in_X4 hown hE.1 hP 0 rfl rfl 4 (by decide) (hts _ w_440) (fun _ h9 => h9) rfl dX4_takeWayLine_54 ?_
        refine va_get (D := D) (ci := 9) (v := .int wa4n8) (C := RX10) (T := TX10) (N := 12) hx hb hts in_X10 hown hE.1 hP 2 rfl rfl 8 (by decide) (hts _ w_441) (fun _ h9 => h9) rfl dX4_takeWayLine_57 ?_
        refine lv_iconst (v := 1) hx hb dX4_takeWayLine_60 (by decide) ?_
        refine lv_isub hx hb dX4_takeWayLine_61 ?_
        refine lv_topi (fun v2701 ev2701 => ?_)
        refine ci_V (As := [.int 0, .int v2701]) (rest := []) (wc := [(w, .inr (4, [.ref wa0, .int wn1, .int (u2699.1 0), .int (u2699.1 1), .ref wa4, .int (u2699.1 2), .int (u2699.1 3), .int (u2699.1 4), .int (u2699.1 5), .int (u2697.1 6)])), (wa0, .inl (K 0, 1000, .inl wf0))]) (wr := [(wa4, .inr (9, [.ref wa4a0, .ref wa4a1, .ref wa4a2, .ref wa4a3, .ref wa4a4, .ref wa4a5, .ref wa4a6, .ref wa4a7, .int wa4n8, .int wa4n9, .int wa4n10, .int wa4n11])), (wa4a0, .inl (K 1, 40, .inl wa4f0))]) hC hE kV_X4_132 (c_X4_takeNumber l D K w wa0 wa4 wn1 (u2699.1 0) (u2699.1 1) (u2699.1 2) (u2699.1 3) (u2699.1 4) (u2699.1 5) (u2697.1 6) wf0 0 v2701) hP hD hS hA [0, 1] [2, 3] rfl rfl rfl (by decide) (by decide) (by decide) 0 4 rfl rfl rfl hl.1 rfl (Nat.le_of_ble_eq_true rfl) (by decide) (by decide) dX4_takeWayLine_62 (fun r2703 u2702 H locs hw hP hD hS => ?_)
        replace hP : va_P D vwCl [(wa4, .inr (9, [.ref wa4a0, .ref wa4a1, .ref wa4a2, .ref wa4a3, .ref wa4a4, .ref wa4a5, .ref wa4a6, .ref wa4a7, .int wa4n8, .int wa4n9, .int wa4n10, .int wa4n11])), (wa4a0, .inl (K 1, 40, .inl wa4f0)), (w, .inr (4, [.ref wa0, .int wn1, .int (u2702.1 0), .int (u2702.1 1), .ref wa4, .int (u2702.1 2), .int (u2702.1 3), .int (u2702.1 4), .int (u2702.1 5), .int (u2702.1 6)])), (wa0, .inl (K 0, 1000, .inl wf0))] H := hP
        replace hD : va_D A [(wa4, .inr (9, [.ref wa4a0, .ref wa4a1, .ref wa4a2, .ref wa4a3, .ref wa4a4, .ref wa4a5, .ref wa4a6, .ref wa4a7, .int wa4n8, .int wa4n9, .int wa4n10, .int wa4n11])), (wa4a0, .inl (K 1, 40, .inl wa4f0)), (w, .inr (4, [.ref wa0, .int wn1, .int (u2702.1 0), .int (u2702.1 1), .ref wa4, .int (u2702.1 2), .int (u2702.1 3), .int (u2702.1 4), .int (u2702.1 5), .int (u2702.1 6)])), (wa0, .inl (K 0, 1000, .inl wf0))] := hD
        replace hP : va_P D vwCl [(w, .inr (4, [.ref wa0, .int wn1, .int (u2702.1 0), .int (u2702.1 1), .ref wa4, .int (u2702.1 2), .int (u2702.1 3), .int (u2702.1 4), .int (u2702.1 5), .int (u2702.1 6)])), (wa0, .inl (K 0, 1000, .inl wf0)), (wa4, .inr (9, [.ref wa4a0, .ref wa4a1, .ref wa4a2, .ref wa4a3, .ref wa4a4, .ref wa4a5, .ref wa4a6, .ref wa4a7, .int wa4n8, .int wa4n9, .int wa4n10, .int wa4n11])), (wa4a0, .inl (K 1, 40, .inl wa4f0))] H := hP.sub [2, 3, 0, 1] rfl
        replace hD : va_D A [(w, .inr (4, [.ref wa0, .int wn1, .int (u2702.1 0), .int (u2702.1 1), .ref wa4, .int (u2702.1 2), .int (u2702.1 3), .int (u2702.1 4), .int (u2702.1 5), .int (u2702.1 6)])), (wa0, .inl (K 0, 1000, .inl wf0)), (wa4, .inr (9, [.ref wa4a0, .ref wa4a1, .ref wa4a2, .ref wa4a3, .ref wa4a4, .ref wa4a5, .ref wa4a6, .ref wa4a7, .int wa4n8, .int wa4n9, .int wa4n10, .int wa4n11])), (wa4a0, .inl (K 1, 40, .inl wa4f0))] := hD.sub [2, 3, 0, 1] (by decide) rfl
        refine W.widen (k := 0) (n := 0) (by decide) (by decide) ?_
        rcases hw with rfl | rfl
        · refine lv_if_ne (tgt := 70) hx hb dX4_takeWayLine_65 (by decide) (fun h => absurd h (by decide)) (fun _ => ?_)
          refine lv_iconst (v := 0) hx hb dX4_takeWayLine_68 (by decide) ?_
          refine W.widen (k := 0) (n := 0) (by decide) (by decide) ?_
          exact ch_zret hC hr hk hS dX4_takeWayLine_69 rfl ((fun k => [(u2702.1 0), (u2702.1 1), (u2702.1 2), (u2702.1 3), (u2702.1 4), (u2702.1 5), (u2702.1 6)].getD k 0, fun k => [wa4f0].getD k (fun _ => 0), fun k => [].getD k (fun _ => 0)) : ((Nat → Int32) × (Nat → Nat → Int32) × (Nat → Nat → Int64))) (Or.inl rfl) (hP.sub [0, 1, 2, 3] rfl) (hD.sub [0, 1, 2, 3] (by decide) rfl)
        · refine lv_if_ne (tgt := 70) hx hb dX4_takeWayLine_65 (by decide) (fun _ => ?_) (fun h => absurd h (by decide))
          refine lv_aload_n hx hb dX4_takeWayLine_70 rfl (lv_at hl 2 rfl) ?_
          refine va_get (D := D) (ci := 4) (v := .int (u2702.1 6)) (C := RX4) (T := TX4) (N := 10) hx hb hts in_X4 hown hE.1 hP 0 rfl rfl 9 (by decide) (hts _ w_439) (fun _ h9 => h9) rfl dX4_takeWayLine_71 ?_
          refine lv_istore_n (lv' := [(3, .int (u2702.1 6)), (2, .int (u2697.1 6)), (1, .int (u2695.1 6)), (0, .ref w)]) hx hb dX4_takeWayLine_74 rfl hl (by decide) rfl (fun ls hl => ?_)
          refine lv_aload_n hx hb dX4_takeWayLine_75 rfl (lv_at hl 3 rfl) ?_
          refine va_get (D := D) (ci := 4) (v := .ref wa4) (C := RX4) (T := TX4) (N := 10) hx hb hts in_X4 hown hE.1 hP 0 rfl rfl 4 (by decide) (hts _ w_440) (fun _ h9 => h9) rfl dX4_takeWayLine_76 ?_
          refine lv_iload_n hx hb dX4_takeWayLine_79 rfl (lv_at hl 2 rfl) ?_
          refine lv_iload_n hx hb dX4_takeWayLine_80 rfl (lv_at hl 1 rfl) ?_
          refine lv_iload_n hx hb dX4_takeWayLine_81 rfl (lv_at hl 0 rfl) ?_
          refine cv_V (As := [.int (u2695.1 6), .int (u2697.1 6), .int (u2702.1 6)]) (rest := []) (wc := [(wa4, .inr (9, [.ref wa4a0, .ref wa4a1, .ref wa4a2, .ref wa4a3, .ref wa4a4, .ref wa4a5, .ref wa4a6, .ref wa4a7, .int wa4n8, .int wa4n9, .int wa4n10, .int wa4n11])), (wa4a0, .inl (K 1, 40, .inl wa4f0))]) (wr := [(w, .inr (4, [.ref wa0, .int wn1, .int (u2702.1 0), .int (u2702.1 1), .ref wa4, .int (u2702.1 2), .int (u2702.1 3), .int (u2702.1 4), .int (u2702.1 5), .int (u2702.1 6)])), (wa0, .inl (K 0, 1000, .inl wf0))]) hC hE kV_X4_143 (c_X10_setWay l D K wa4 wa4a0 wa4a1 wa4a2 wa4a3 wa4a4 wa4a5 wa4a6 wa4a7 wa4n8 wa4n9 wa4n10 wa4n11 wa4f0 (u2695.1 6) (u2697.1 6) (u2702.1 6)) hP hD hS hA [2, 3] [0, 1] rfl rfl rfl (by decide) (by decide) (by decide) 0 9 rfl rfl rfl hl.1 rfl (Nat.le_of_ble_eq_true rfl) (by decide) (by decide) dX4_takeWayLine_82 (fun u2704 H locs hw hP hD hS => ?_)
          replace hP : va_P D vwCl [(w, .inr (4, [.ref wa0, .int wn1, .int (u2702.1 0), .int (u2702.1 1), .ref wa4, .int (u2702.1 2), .int (u2702.1 3), .int (u2702.1 4), .int (u2702.1 5), .int (u2702.1 6)])), (wa0, .inl (K 0, 1000, .inl wf0)), (wa4, .inr (9, [.ref wa4a0, .ref wa4a1, .ref wa4a2, .ref wa4a3, .ref wa4a4, .ref wa4a5, .ref wa4a6, .ref wa4a7, .int wa4n8, .int wa4n9, .int wa4n10, .int wa4n11])), (wa4a0, .inl (K 1, 40, .inl (u2704.2.1 0)))] H := hP
          replace hD : va_D A [(w, .inr (4, [.ref wa0, .int wn1, .int (u2702.1 0), .int (u2702.1 1), .ref wa4, .int (u2702.1 2), .int (u2702.1 3), .int (u2702.1 4), .int (u2702.1 5), .int (u2702.1 6)])), (wa0, .inl (K 0, 1000, .inl wf0)), (wa4, .inr (9, [.ref wa4a0, .ref wa4a1, .ref wa4a2, .ref wa4a3, .ref wa4a4, .ref wa4a5, .ref wa4a6, .ref wa4a7, .int wa4n8, .int wa4n9, .int wa4n10, .int wa4n11])), (wa4a0, .inl (K 1, 40, .inl (u2704.2.1 0)))] := hD
          replace hP : va_P D vwCl [(w, .inr (4, [.ref wa0, .int wn1, .int (u2702.1 0), .int (u2702.1 1), .ref wa4, .int (u2702.1 2), .int (u2702.1 3), .int (u2702.1 4), .int (u2702.1 5), .int (u2702.1 6)])), (wa0, .inl (K 0, 1000, .inl wf0)), (wa4, .inr (9, [.ref wa4a0, .ref wa4a1, .ref wa4a2, .ref wa4a3, .ref wa4a4, .ref wa4a5, .ref wa4a6, .ref wa4a7, .int wa4n8, .int wa4n9, .int wa4n10, .int wa4n11])), (wa4a0, .inl (K 1, 40, .inl (u2704.2.1 0)))] H := hP.sub [0, 1, 2, 3] rfl
          replace hD : va_D A [(w, .inr (4, [.ref wa0, .int wn1, .int (u2702.1 0), .int (u2702.1 1), .ref wa4, .int (u2702.1 2), .int (u2702.1 3), .int (u2702.1 4), .int (u2702.1 5), .int (u2702.1 6)])), (wa0, .inl (K 0, 1000, .inl wf0)), (wa4, .inr (9, [.ref wa4a0, .ref wa4a1, .ref wa4a2, .ref wa4a3, .ref wa4a4, .ref wa4a5, .ref wa4a6, .ref wa4a7, .int wa4n8, .int wa4n9, .int wa4n10, .int wa4n11])), (wa4a0, .inl (K 1, 40, .inl (u2704.2.1 0)))] := hD.sub [0, 1, 2, 3] (by decide) rfl
          refine W.widen (k := 0) (n := 0) (by decide) (by decide) ?_
          refine lv_aload_n hx hb dX4_takeWayLine_85 rfl (lv_at hl 3 rfl) ?_
          refine va_ldcS hx hb hown (show vk_R RX4 147 "back" (Z.1 8) s from hT.2.2.2 8 (by decide)) dX4_takeWayLine_86 ?_
          refine roT_V (As := [.ref (Z.1 8)]) (rest := []) hC hE hT (st_kp hS hZ) kV_X4_83 (c_X4_isWord l D K Z w wa0 wa4 wn1 (u2702.1 0) (u2702.1 1) (u2702.1 2) (u2702.1 3) (u2702.1 4) (u2702.1 5) (u2702.1 6) wf0 8 (by decide)) (hP.sub (ws' := [(w, .inr (4, [.ref wa0, .int wn1, .int (u2702.1 0), .int (u2702.1 1), .ref wa4, .int (u2702.1 2), .int (u2702.1 3), .int (u2702.1 4), .int (u2702.1 5), .int (u2702.1 6)])), (wa0, .inl (K 0, 1000, .inl wf0))]) [0, 1] rfl) 0 4 rfl rfl rfl hl.1 rfl (Nat.le_of_ble_eq_true rfl) (by decide) (by decide) dX4_takeWayLine_88 (fun r2706 hq => ?_)
          rcases hq with rfl | rfl
          · refine lv_if_eq (tgt := 112) hx hb dX4_takeWayLine_91 (by decide) (fun _ => ?_) (fun h => absurd h (by decide))
            refine lv_iconst (v := 1) hx hb dX4_takeWayLine_112 (by decide) ?_
            refine W.widen (k := 0) (n := 0) (by decide) (by decide) ?_
            exact ch_zret hC hr hk hS dX4_takeWayLine_113 rfl ((fun k => [(u2702.1 0), (u2702.1 1), (u2702.1 2), (u2702.1 3), (u2702.1 4), (u2702.1 5), (u2702.1 6)].getD k 0, fun k => [(u2704.2.1 0)].getD k (fun _ => 0), fun k => [].getD k (fun _ => 0)) : ((Nat → Int32) × (Nat → Nat → Int32) × (Nat → Nat → Int64))) (Or.inr rfl) (hP.sub [0, 1, 2, 3] rfl) (hD.sub [0, 1, 2, 3] (by decide) rfl)
          · refine lv_if_eq (tgt := 112) hx hb dX4_takeWayLine_91 (by decide) (fun h => absurd h (by decide)) (fun _ => ?_)
            refine lv_aload_n hx hb dX4_takeWayLine_94 rfl (lv_at hl 3 rfl) ?_
            refine cv_V (As := []) (rest := []) (wc := [(w, .inr (4, [.ref wa0, .int wn1, .int (u2702.1 0), .int (u2702.1 1), .ref wa4, .int (u2702.1 2), .int (u2702.1 3), .int (u2702.1 4), .int (u2702.1 5), .int (u2702.1 6)])), (wa0, .inl (K 0, 1000, .inl wf0))]) (wr := [(wa4, .inr (9, [.ref wa4a0, .ref wa4a1, .ref wa4a2, .ref wa4a3, .ref wa4a4, .ref wa4a5, .ref wa4a6, .ref wa4a7, .int wa4n8, .int wa4n9, .int wa4n10, .int wa4n11])), (wa4a0, .inl (K 1, 40, .inl (u2704.2.1 0)))]) hC hE kV_X4_38 (c_X4_advance l D K w wa0 wa4 wn1 (u2702.1 0) (u2702.1 1) (u2702.1 2) (u2702.1 3) (u2702.1 4) (u2702.1 5) (u2702.1 6) wf0) hP hD hS hA [0, 1] [2, 3] rfl rfl rfl (by decide) (by decide) (by decide) 0 4 rfl rfl rfl hl.1 rfl (Nat.le_of_ble_eq_true rfl) (by decide) (by decide) dX4_takeWayLine_95 (fun u2707 H locs hw hP hD hS => ?_)
            replace hP : va_P D vwCl [(wa4, .inr (9, [.ref wa4a0, .ref wa4a1, .ref wa4a2, .ref wa4a3, .ref wa4a4, .ref wa4a5, .ref wa4a6, .ref wa4a7, .int wa4n8, .int wa4n9, .int wa4n10, .int wa4n11])), (wa4a0, .inl (K 1, 40, .inl (u2704.2.1 0))), (w, .inr (4, [.ref wa0, .int wn1, .int (u2702.1 0), .int (u2702.1 1), .ref wa4, .int (u2707.1 0), .int (u2707.1 1), .int (u2707.1 2), .int (u2707.1 3), .int (u2702.1 6)])), (wa0, .inl (K 0, 1000, .inl wf0))] H := hP
            replace hD : va_D A [(wa4, .inr (9, [.ref wa4a0, .ref wa4a1, .ref wa4a2, .ref wa4a3, .ref wa4a4, .ref wa4a5, .ref wa4a6, .ref wa4a7, .int wa4n8, .int wa4n9, .int wa4n10, .int wa4n11])), (wa4a0, .inl (K 1, 40, .inl (u2704.2.1 0))), (w, .inr (4, [.ref wa0, .int wn1, .int (u2702.1 0), .int (u2702.1 1), .ref wa4, .int (u2707.1 0), .int (u2707.1 1), .int (u2707.1 2), .int (u2707.1 3), .int (u2702.1 6)])), (wa0, .inl (K 0, 1000, .inl wf0))] := hD
            replace hP : va_P D vwCl [(w, .inr (4, [.ref wa0, .int wn1, .int (u2702.1 0), .int (u2702.1 1), .ref wa4, .int (u2707.1 0), .int (u2707.1 1), .int (u2707.1 2), .int (u2707.1 3), .int (u2702.1 6)])), (wa0, .inl (K 0, 1000, .inl wf0)), (wa4, .inr (9, [.ref wa4a0, .ref wa4a1, .ref wa4a2, .ref wa4a3, .ref wa4a4, .ref wa4a5, .ref wa4a6, .ref wa4a7, .int wa4n8, .int wa4n9, .int wa4n10, .int wa4n11])), (wa4a0, .inl (K 1, 40, .inl (u2704.2.1 0)))] H := hP.sub [2, 3, 0, 1] rfl
            replace hD : va_D A [(w, .inr (4, [.ref wa0, .int wn1, .int (u2702.1 0), .int (u2702.1 1), .ref wa4, .int (u2707.1 0), .int (u2707.1 1), .int (u2707.1 2), .int (u2707.1 3), .int (u2702.1 6)])), (wa0, .inl (K 0, 1000, .inl wf0)), (wa4, .inr (9, [.ref wa4a0, .ref wa4a1, .ref wa4a2, .ref wa4a3, .ref wa4a4, .ref wa4a5, .ref wa4a6, .ref wa4a7, .int wa4n8, .int wa4n9, .int wa4n10, .int wa4n11])), (wa4a0, .inl (K 1, 40, .inl (u2704.2.1 0)))] := hD.sub [2, 3, 0, 1] (by decide) rfl
            refine W.widen (k := 0) (n := 0) (by decide) (by decide) ?_
            refine lv_aload_n hx hb dX4_takeWayLine_98 rfl (lv_at hl 3 rfl) ?_
            refine va_get (D := D) (ci := 4) (v := .ref wa4) (C := RX4) (T := TX4) (N := 10) hx hb hts in_X4 hown hE.1 hP 0 rfl rfl 4 (by decide) (hts _ w_440) (fun _ h9 => h9) rfl dX4_takeWayLine_99 ?_
            refine lv_iload_n hx hb dX4_takeWayLine_102 rfl (lv_at hl 0 rfl) ?_
            refine lv_iload_n hx hb dX4_takeWayLine_103 rfl (lv_at hl 1 rfl) ?_
            refine lv_iconst (v := 2) hx hb dX4_takeWayLine_104 (by decide) ?_
            refine lv_iadd hx hb dX4_takeWayLine_105 ?_
            refine lv_topi (fun v2709 ev2709 => ?_)
            refine lv_iconst (v := 4) hx hb dX4_takeWayLine_106 (by decide) ?_
            refine lv_irem hx hb dX4_takeWayLine_107 (by decide) ?_
            refine lv_topi (fun v2710 ev2710 => ?_)
            refine lv_iload_n hx hb dX4_takeWayLine_108 rfl (lv_at hl 2 rfl) ?_
            refine cv_V (As := [.int (u2702.1 6), .int v2710, .int (u2695.1 6)]) (rest := []) (wc := [(wa4, .inr (9, [.ref wa4a0, .ref wa4a1, .ref wa4a2, .ref wa4a3, .ref wa4a4, .ref wa4a5, .ref wa4a6, .ref wa4a7, .int wa4n8, .int wa4n9, .int wa4n10, .int wa4n11])), (wa4a0, .inl (K 1, 40, .inl (u2704.2.1 0)))]) (wr := [(w, .inr (4, [.ref wa0, .int wn1, .int (u2702.1 0), .int (u2702.1 1), .ref wa4, .int (u2707.1 0), .int (u2707.1 1), .int (u2707.1 2), .int (u2707.1 3), .int (u2702.1 6)])), (wa0, .inl (K 0, 1000, .inl wf0))]) hC hE kV_X4_143 (c_X10_setWay l D K wa4 wa4a0 wa4a1 wa4a2 wa4a3 wa4a4 wa4a5 wa4a6 wa4a7 wa4n8 wa4n9 wa4n10 wa4n11 (u2704.2.1 0) (u2702.1 6) v2710 (u2695.1 6)) hP hD hS hA [2, 3] [0, 1] rfl rfl rfl (by decide) (by decide) (by decide) 0 9 rfl rfl rfl hl.1 rfl (Nat.le_of_ble_eq_true rfl) (by decide) (by decide) dX4_takeWayLine_109 (fun u2711 H locs hw hP hD hS => ?_)
            replace hP : va_P D vwCl [(w, .inr (4, [.ref wa0, .int wn1, .int (u2702.1 0), .int (u2702.1 1), .ref wa4, .int (u2707.1 0), .int (u2707.1 1), .int (u2707.1 2), .int (u2707.1 3), .int (u2702.1 6)])), (wa0, .inl (K 0, 1000, .inl wf0)), (wa4, .inr (9, [.ref wa4a0, .ref wa4a1, .ref wa4a2, .ref wa4a3, .ref wa4a4, .ref wa4a5, .ref wa4a6, .ref wa4a7, .int wa4n8, .int wa4n9, .int wa4n10, .int wa4n11])), (wa4a0, .inl (K 1, 40, .inl (u2711.2.1 0)))] H := hP
            replace hD : va_D A [(w, .inr (4, [.ref wa0, .int wn1, .int (u2702.1 0), .int (u2702.1 1), .ref wa4, .int (u2707.1 0), .int (u2707.1 1), .int (u2707.1 2), .int (u2707.1 3), .int (u2702.1 6)])), (wa0, .inl (K 0, 1000, .inl wf0)), (wa4, .inr (9, [.ref wa4a0, .ref wa4a1, .ref wa4a2, .ref wa4a3, .ref wa4a4, .ref wa4a5, .ref wa4a6, .ref wa4a7, .int wa4n8, .int wa4n9, .int wa4n10, .int wa4n11])), (wa4a0, .inl (K 1, 40, .inl (u2711.2.1 0)))] := hD
            replace hP : va_P D vwCl [(w, .inr (4, [.ref wa0, .int wn1, .int (u2702.1 0), .int (u2702.1 1), .ref wa4, .int (u2707.1 0), .int (u2707.1 1), .int (u2707.1 2), .int (u2707.1 3), .int (u2702.1 6)])), (wa0, .inl (K 0, 1000, .inl wf0)), (wa4, .inr (9, [.ref wa4a0, .ref wa4a1, .ref wa4a2, .ref wa4a3, .ref wa4a4, .ref wa4a5, .ref wa4a6, .ref wa4a7, .int wa4n8, .int wa4n9, .int wa4n10, .int wa4n11])), (wa4a0, .inl (K 1, 40, .inl (u2711.2.1 0)))] H := hP.sub [0, 1, 2, 3] rfl
            replace hD : va_D A [(w, .inr (4, [.ref wa0, .int wn1, .int (u2702.1 0), .int (u2702.1 1), .ref wa4, .int (u2707.1 0), .int (u2707.1 1), .int (u2707.1 2), .int (u2707.1 3), .int (u2702.1 6)])), (wa0, .inl (K 0, 1000, .inl wf0)), (wa4, .inr (9, [.ref wa4a0, .ref wa4a1, .ref wa4a2, .ref wa4a3, .ref wa4a4, .ref wa4a5, .ref wa4a6, .ref wa4a7, .int wa4n8, .int wa4n9, .int wa4n10, .int wa4n11])), (wa4a0, .inl (K 1, 40, .inl (u2711.2.1 0)))] := hD.sub [0, 1, 2, 3] (by decide) rfl
            refine W.widen (k := 0) (n := 0) (by decide) (by decide) ?_
            refine lv_iconst (v := 1) hx hb dX4_takeWayLine_112 (by decide) ?_
            refine W.widen (k := 0) (n := 0) (by decide) (by decide) ?_
            exact ch_zret hC hr hk hS dX4_takeWayLine_113 rfl ((fun k => [(u2702.1 0), (u2702.1 1), (u2707.1 0), (u2707.1 1), (u2707.1 2), (u2707.1 3), (u2702.1 6)].getD k 0, fun k => [(u2711.2.1 0)].getD k (fun _ => 0), fun k => [].getD k (fun _ => 0)) : ((Nat → Int32) × (Nat → Nat → Int32) × (Nat → Nat → Int64))) (Or.inr rfl) (hP.sub [0, 1, 2, 3] rfl) (hD.sub [0, 1, 2, 3] (by decide) rfl)
set_option maxRecDepth 40000 in
set_option maxHeartbeats 4000000 in
theorem c_X4_takeMarkLine (l : Launch) (D : va_G) (K : Nat → ClassId) (w : Nat) (wa0 : Nat) (wa4 : Nat) (wa4a0 : Nat) (wa4a1 : Nat) (wa4a2 : Nat) (wa4a3 : Nat) (wa4a4 : Nat) (wa4a5 : Nat) (wa4a6 : Nat) (wa4a7 : Nat) (wn1 : Int32) (wn2 : Int32) (wn3 : Int32) (wn5 : Int32) (wn6 : Int32) (wn7 : Int32) (wn8 : Int32) (wn9 : Int32) (wa4n8 : Int32) (wa4n9 : Int32) (wa4n10 : Int32) (wa4n11 : Int32) (wf0 : Nat → Int32) (wa4f1 : Nat → Int32) : Ci (S := ((Nat → Int32) × (Nat → Nat → Int32) × (Nat → Nat → Int64))) l D K yX4_takeMarkLine cX4_takeMarkLine 2 (some .boolean) 3 66 0 0 [.ref w] [(w, .inr (4, [.ref wa0, .int wn1, .int wn2, .int wn3, .ref wa4, .int wn5, .int wn6, .int wn7, .int wn8, .int wn9])), (wa0, .inl (K 0, 1000, .inl wf0)), (wa4, .inr (9, [.ref wa4a0, .ref wa4a1, .ref wa4a2, .ref wa4a3, .ref wa4a4, .ref wa4a5, .ref wa4a6, .ref wa4a7, .int wa4n8, .int wa4n9, .int wa4n10, .int wa4n11])), (wa4a1, .inl (K 1, 10, .inl wa4f1))] (fun r u => ((r = 0) ∨ (r = 1))) (fun u => [(w, .inr (4, [.ref wa0, .int wn1, .int (u.1 0), .int (u.1 1), .ref wa4, .int (u.1 2), .int (u.1 3), .int (u.1 4), .int (u.1 5), .int (u.1 6)])), (wa0, .inl (K 0, 1000, .inl wf0)), (wa4, .inr (9, [.ref wa4a0, .ref wa4a1, .ref wa4a2, .ref wa4a3, .ref wa4a4, .ref wa4a5, .ref wa4a6, .ref wa4a7, .int wa4n8, .int wa4n9, .int wa4n10, .int wa4n11])), (wa4a1, .inl (K 1, 10, .inl (u.2.1 0)))]) := by
  intro sz
  refine ch_of (y := yX4_takeMarkLine) (cc := cX4_takeMarkLine) (maxL := 2) (ret := (some .boolean)) (av := [.ref w]) (ws := [(w, .inr (4, [.ref wa0, .int wn1, .int wn2, .int wn3, .ref wa4, .int wn5, .int wn6, .int wn7, .int wn8, .int wn9])), (wa0, .inl (K 0, 1000, .inl wf0)), (wa4, .inr (9, [.ref wa4a0, .ref wa4a1, .ref wa4a2, .ref wa4a3, .ref wa4a4, .ref wa4a5, .ref wa4a6, .ref wa4a7, .int wa4n8, .int wa4n9, .int wa4n10, .int wa4n11])), (wa4a1, .inl (K 1, 10, .inl wa4f1))]) (D := D) (K := K) (Qc := fun A => va_Qi (S := ((Nat → Int32) × (Nat → Nat → Int32) × (Nat → Nat → Int64))) (fun r u => ((r = 0) ∨ (r = 1))) (chB D A (fun u => [(w, .inr (4, [.ref wa0, .int wn1, .int (u.1 0), .int (u.1 1), .ref wa4, .int (u.1 2), .int (u.1 3), .int (u.1 4), .int (u.1 5), .int (u.1 6)])), (wa0, .inl (K 0, 1000, .inl wf0)), (wa4, .inr (9, [.ref wa4a0, .ref wa4a1, .ref wa4a2, .ref wa4a3, .ref wa4a4, .ref wa4a5, .ref wa4a6, .ref wa4a7, .int wa4n8, .int wa4n9, .int wa4n10, .int wa4n11])), (wa4a1, .inl (K 1, 10, .inl (u.2.1 0)))])) A) (by decide) (Nat.le_of_ble_eq_true rfl) ?_
  intro p e s m below meth c A hC hr hk hin hE hD hA H locs hP hS ls hl
  replace hC : CallFix p m c cX4_takeMarkLine 2 s [.ref w].toArray wl RX4 := hC
  have hx := hC.1
  have hb := hC.2.1
  have hml := hC.2.2.1
  have hown := hC.2.2.2.1
  have hts := hC.2.2.2.2
  replace hl : lv_has ls 2 [(0, .ref w)] := hl
  refine lv_aload_n hx hb dX4_takeMarkLine_0 rfl (lv_at hl 0 rfl) ?_
  refine cv_V (As := []) (rest := []) (wc := [(w, .inr (4, [.ref wa0, .int wn1, .int wn2, .int wn3, .ref wa4, .int wn5, .int wn6, .int wn7, .int wn8, .int wn9])), (wa0, .inl (K 0, 1000, .inl wf0))]) (wr := [(wa4, .inr (9, [.ref wa4a0, .ref wa4a1, .ref wa4a2, .ref wa4a3, .ref wa4a4, .ref wa4a5, .ref wa4a6, .ref wa4a7, .int wa4n8, .int wa4n9, .int wa4n10, .int wa4n11])), (wa4a1, .inl (K 1, 10, .inl wa4f1))]) hC hE kV_X4_38 (c_X4_advance l D K w wa0 wa4 wn1 wn2 wn3 wn5 wn6 wn7 wn8 wn9 wf0) hP hD hS hA [0, 1] [2, 3] rfl rfl rfl (by decide) (by decide) (by decide) 0 4 rfl rfl rfl hl.1 rfl (Nat.le_of_ble_eq_true rfl) (by decide) (by decide) dX4_takeMarkLine_1 (fun u2722 H locs hw hP hD hS => ?_)
  replace hP : va_P D vwCl [(wa4, .inr (9, [.ref wa4a0, .ref wa4a1, .ref wa4a2, .ref wa4a3, .ref wa4a4, .ref wa4a5, .ref wa4a6, .ref wa4a7, .int wa4n8, .int wa4n9, .int wa4n10, .int wa4n11])), (wa4a1, .inl (K 1, 10, .inl wa4f1)), (w, .inr (4, [.ref wa0, .int wn1, .int wn2, .int wn3, .ref wa4, .int (u2722.1 0), .int (u2722.1 1), .int (u2722.1 2), .int (u2722.1 3), .int wn9])), (wa0, .inl (K 0, 1000, .inl wf0))] H := hP
  replace hD : va_D A [(wa4, .inr (9, [.ref wa4a0, .ref wa4a1, .ref wa4a2, .ref wa4a3, .ref wa4a4, .ref wa4a5, .ref wa4a6, .ref wa4a7, .int wa4n8, .int wa4n9, .int wa4n10, .int wa4n11])), (wa4a1, .inl (K 1, 10, .inl wa4f1)), (w, .inr (4, [.ref wa0, .int wn1, .int wn2, .int wn3, .ref wa4, .int (u2722.1 0), .int (u2722.1 1), .int (u2722.1 2), .int (u2722.1 3), .int wn9])), (wa0, .inl (K 0, 1000, .inl wf0))] := hD
  replace hP : va_P D vwCl [(w, .inr (4, [.ref wa0, .int wn1, .int wn2, .int wn3, .ref wa4, .int (u2722.1 0), .int (u2722.1 1), .int (u2722.1 2), .int (u2722.1 3), .int wn9])), (wa0, .inl (K 0, 1000, .inl wf0)), (wa4, .inr (9, [.ref wa4a0, .ref wa4a1, .ref wa4a2, .ref wa4a3, .ref wa4a4, .ref wa4a5, .ref wa4a6, .ref wa4a7, .int wa4n8, .int wa4n9, .int wa4n10, .int wa4n11])), (wa4a1, .inl (K 1, 10, .inl wa4f1))] H := hP.sub [2, 3, 0, 1] rfl
  replace hD : va_D A [(w, .inr (4, [.ref wa0, .int wn1, .int wn2, .int wn3, .ref wa4, .int (u2722.1 0), .int (u2722.1 1), .int (u2722.1 2), .int (u2722.1 3), .int wn9])), (wa0, .inl (K 0, 1000, .inl wf0)), (wa4, .inr (9, [.ref wa4a0, .ref wa4a1, .ref wa4a2, .ref wa4a3, .ref wa4a4, .ref wa4a5, .ref wa4a6, .ref wa4a7, .int wa4n8, .int wa4n9, .int wa4n10, .int wa4n11])), (wa4a1, .inl (K 1, 10, .inl wa4f1))] := hD.sub [2, 3, 0, 1] (by decide) rfl
  refine W.widen (k := 0) (n := 0) (by decide) (by decide) ?_
  refine lv_aload_n hx hb dX4_takeMarkLine_4 rfl (lv_at hl 0 rfl) ?_
  refine lv_iconst (v := 0) hx hb dX4_takeMarkLine_5 (by decide) ?_
  refine lv_aload_n hx hb dX4_takeMarkLine_6 rfl (lv_at hl 0 rfl) ?_
  refine va_get (D := D) (ci := 4) (v := .ref wa4) (C := RX4) (T := TX4) (N := 10) hx hb hts in_X4 hown hE.1 hP 0 rfl rfl 4 (by decide) (hts _ w_440) (fun _ h9 => h9) rfl dX4_takeMarkLine_7 ?_
  refine va_get (D := D) (ci := 9) (v := .int wa4n8) (C := RX10) (T := TX10) (N := 12) hx hb hts in_X10 hown hE.1 hP 2 rfl rfl 8 (by decide) (hts _ w_441) (fun _ h9 => h9) rfl dX4_takeMarkLine_10 ?_
  refine lv_iconst (v := 1) hx hb dX4_takeMarkLine_13 (by decide) ?_
  refine lv_isub hx hb dX4_takeMarkLine_14 ?_
  refine lv_topi (fun v2724 ev2724 => ?_)
  refine ci_V (As := [.int 0, .int v2724]) (rest := []) (wc := [(w, .inr (4, [.ref wa0, .int wn1, .int wn2, .int wn3, .ref wa4, .int (u2722.1 0), .int (u2722.1 1), .int (u2722.1 2), .int (u2722.1 3), .int wn9])), (wa0, .inl (K 0, 1000, .inl wf0))]) (wr := [(wa4, .inr (9, [.ref wa4a0, .ref wa4a1, .ref wa4a2, .ref wa4a3, .ref wa4a4, .ref wa4a5, .ref wa4a6, .ref wa4a7, .int wa4n8, .int wa4n9, .int wa4n10, .int wa4n11])), (wa4a1, .inl (K 1, 10, .inl wa4f1))]) hC hE kV_X4_132 (c_X4_takeNumber l D K w wa0 wa4 wn1 wn2 wn3 (u2722.1 0) (u2722.1 1) (u2722.1 2) (u2722.1 3) wn9 wf0 0 v2724) hP hD hS hA [0, 1] [2, 3] rfl rfl rfl (by decide) (by decide) (by decide) 0 4 rfl rfl rfl hl.1 rfl (Nat.le_of_ble_eq_true rfl) (by decide) (by decide) dX4_takeMarkLine_15 (fun r2726 u2725 H locs hw hP hD hS => ?_)
  replace hP : va_P D vwCl [(wa4, .inr (9, [.ref wa4a0, .ref wa4a1, .ref wa4a2, .ref wa4a3, .ref wa4a4, .ref wa4a5, .ref wa4a6, .ref wa4a7, .int wa4n8, .int wa4n9, .int wa4n10, .int wa4n11])), (wa4a1, .inl (K 1, 10, .inl wa4f1)), (w, .inr (4, [.ref wa0, .int wn1, .int (u2725.1 0), .int (u2725.1 1), .ref wa4, .int (u2725.1 2), .int (u2725.1 3), .int (u2725.1 4), .int (u2725.1 5), .int (u2725.1 6)])), (wa0, .inl (K 0, 1000, .inl wf0))] H := hP
  replace hD : va_D A [(wa4, .inr (9, [.ref wa4a0, .ref wa4a1, .ref wa4a2, .ref wa4a3, .ref wa4a4, .ref wa4a5, .ref wa4a6, .ref wa4a7, .int wa4n8, .int wa4n9, .int wa4n10, .int wa4n11])), (wa4a1, .inl (K 1, 10, .inl wa4f1)), (w, .inr (4, [.ref wa0, .int wn1, .int (u2725.1 0), .int (u2725.1 1), .ref wa4, .int (u2725.1 2), .int (u2725.1 3), .int (u2725.1 4), .int (u2725.1 5), .int (u2725.1 6)])), (wa0, .inl (K 0, 1000, .inl wf0))] := hD
  replace hP : va_P D vwCl [(w, .inr (4, [.ref wa0, .int wn1, .int (u2725.1 0), .int (u2725.1 1), .ref wa4, .int (u2725.1 2), .int (u2725.1 3), .int (u2725.1 4), .int (u2725.1 5), .int (u2725.1 6)])), (wa0, .inl (K 0, 1000, .inl wf0)), (wa4, .inr (9, [.ref wa4a0, .ref wa4a1, .ref wa4a2, .ref wa4a3, .ref wa4a4, .ref wa4a5, .ref wa4a6, .ref wa4a7, .int wa4n8, .int wa4n9, .int wa4n10, .int wa4n11])), (wa4a1, .inl (K 1, 10, .inl wa4f1))] H := hP.sub [2, 3, 0, 1] rfl
  replace hD : va_D A [(w, .inr (4, [.ref wa0, .int wn1, .int (u2725.1 0), .int (u2725.1 1), .ref wa4, .int (u2725.1 2), .int (u2725.1 3), .int (u2725.1 4), .int (u2725.1 5), .int (u2725.1 6)])), (wa0, .inl (K 0, 1000, .inl wf0)), (wa4, .inr (9, [.ref wa4a0, .ref wa4a1, .ref wa4a2, .ref wa4a3, .ref wa4a4, .ref wa4a5, .ref wa4a6, .ref wa4a7, .int wa4n8, .int wa4n9, .int wa4n10, .int wa4n11])), (wa4a1, .inl (K 1, 10, .inl wa4f1))] := hD.sub [2, 3, 0, 1] (by decide) rfl
  refine W.widen (k := 0) (n := 0) (by decide) (by decide) ?_
  rcases hw with rfl | rfl
  · refine lv_if_ne (tgt := 23) hx hb dX4_takeMarkLine_18 (by decide) (fun h => absurd h (by decide)) (fun _ => ?_)
    refine lv_iconst (v := 0) hx hb dX4_takeMarkLine_21 (by decide) ?_
    refine W.widen (k := 0) (n := 0) (by decide) (by decide) ?_
    exact ch_zret hC hr hk hS dX4_takeMarkLine_22 rfl ((fun k => [(u2725.1 0), (u2725.1 1), (u2725.1 2), (u2725.1 3), (u2725.1 4), (u2725.1 5), (u2725.1 6)].getD k 0, fun k => [wa4f1].getD k (fun _ => 0), fun k => [].getD k (fun _ => 0)) : ((Nat → Int32) × (Nat → Nat → Int32) × (Nat → Nat → Int64))) (Or.inl rfl) (hP.sub [0, 1, 2, 3] rfl) (hD.sub [0, 1, 2, 3] (by decide) rfl)
  · refine lv_if_ne (tgt := 23) hx hb dX4_takeMarkLine_18 (by decide) (fun _ => ?_) (fun h => absurd h (by decide))
    refine lv_aload_n hx hb dX4_takeMarkLine_23 rfl (lv_at hl 0 rfl) ?_
    refine va_get (D := D) (ci := 4) (v := .int (u2725.1 6)) (C := RX4) (T := TX4) (N := 10) hx hb hts in_X4 hown hE.1 hP 0 rfl rfl 9 (by decide) (hts _ w_439) (fun _ h9 => h9) rfl dX4_takeMarkLine_24 ?_
    refine lv_istore_n (lv' := [(1, .int (u2725.1 6)), (0, .ref w)]) hx hb dX4_takeMarkLine_27 rfl hl (by decide) rfl (fun ls hl => ?_)
    refine lv_aload_n hx hb dX4_takeMarkLine_28 rfl (lv_at hl 1 rfl) ?_
    refine lv_iconst (v := 0) hx hb dX4_takeMarkLine_29 (by decide) ?_
    refine lv_bipush (v := 9) hx hb dX4_takeMarkLine_30 (by decide) ?_
    refine ci_V (As := [.int 0, .int 9]) (rest := []) (wc := [(w, .inr (4, [.ref wa0, .int wn1, .int (u2725.1 0), .int (u2725.1 1), .ref wa4, .int (u2725.1 2), .int (u2725.1 3), .int (u2725.1 4), .int (u2725.1 5), .int (u2725.1 6)])), (wa0, .inl (K 0, 1000, .inl wf0))]) (wr := [(wa4, .inr (9, [.ref wa4a0, .ref wa4a1, .ref wa4a2, .ref wa4a3, .ref wa4a4, .ref wa4a5, .ref wa4a6, .ref wa4a7, .int wa4n8, .int wa4n9, .int wa4n10, .int wa4n11])), (wa4a1, .inl (K 1, 10, .inl wa4f1))]) hC hE kV_X4_132 (c_X4_takeNumber l D K w wa0 wa4 wn1 (u2725.1 0) (u2725.1 1) (u2725.1 2) (u2725.1 3) (u2725.1 4) (u2725.1 5) (u2725.1 6) wf0 0 9) hP hD hS hA [0, 1] [2, 3] rfl rfl rfl (by decide) (by decide) (by decide) 0 4 rfl rfl rfl hl.1 rfl (Nat.le_of_ble_eq_true rfl) (by decide) (by decide) dX4_takeMarkLine_32 (fun r2728 u2727 H locs hw hP hD hS => ?_)
    replace hP : va_P D vwCl [(wa4, .inr (9, [.ref wa4a0, .ref wa4a1, .ref wa4a2, .ref wa4a3, .ref wa4a4, .ref wa4a5, .ref wa4a6, .ref wa4a7, .int wa4n8, .int wa4n9, .int wa4n10, .int wa4n11])), (wa4a1, .inl (K 1, 10, .inl wa4f1)), (w, .inr (4, [.ref wa0, .int wn1, .int (u2727.1 0), .int (u2727.1 1), .ref wa4, .int (u2727.1 2), .int (u2727.1 3), .int (u2727.1 4), .int (u2727.1 5), .int (u2727.1 6)])), (wa0, .inl (K 0, 1000, .inl wf0))] H := hP
    replace hD : va_D A [(wa4, .inr (9, [.ref wa4a0, .ref wa4a1, .ref wa4a2, .ref wa4a3, .ref wa4a4, .ref wa4a5, .ref wa4a6, .ref wa4a7, .int wa4n8, .int wa4n9, .int wa4n10, .int wa4n11])), (wa4a1, .inl (K 1, 10, .inl wa4f1)), (w, .inr (4, [.ref wa0, .int wn1, .int (u2727.1 0), .int (u2727.1 1), .ref wa4, .int (u2727.1 2), .int (u2727.1 3), .int (u2727.1 4), .int (u2727.1 5), .int (u2727.1 6)])), (wa0, .inl (K 0, 1000, .inl wf0))] := hD
    replace hP : va_P D vwCl [(w, .inr (4, [.ref wa0, .int wn1, .int (u2727.1 0), .int (u2727.1 1), .ref wa4, .int (u2727.1 2), .int (u2727.1 3), .int (u2727.1 4), .int (u2727.1 5), .int (u2727.1 6)])), (wa0, .inl (K 0, 1000, .inl wf0)), (wa4, .inr (9, [.ref wa4a0, .ref wa4a1, .ref wa4a2, .ref wa4a3, .ref wa4a4, .ref wa4a5, .ref wa4a6, .ref wa4a7, .int wa4n8, .int wa4n9, .int wa4n10, .int wa4n11])), (wa4a1, .inl (K 1, 10, .inl wa4f1))] H := hP.sub [2, 3, 0, 1] rfl
    replace hD : va_D A [(w, .inr (4, [.ref wa0, .int wn1, .int (u2727.1 0), .int (u2727.1 1), .ref wa4, .int (u2727.1 2), .int (u2727.1 3), .int (u2727.1 4), .int (u2727.1 5), .int (u2727.1 6)])), (wa0, .inl (K 0, 1000, .inl wf0)), (wa4, .inr (9, [.ref wa4a0, .ref wa4a1, .ref wa4a2, .ref wa4a3, .ref wa4a4, .ref wa4a5, .ref wa4a6, .ref wa4a7, .int wa4n8, .int wa4n9, .int wa4n10, .int wa4n11])), (wa4a1, .inl (K 1, 10, .inl wa4f1))] := hD.sub [2, 3, 0, 1] (by decide) rfl
    refine W.widen (k := 0) (n := 0) (by decide) (by decide) ?_
    rcases hw with rfl | rfl
    · refine lv_if_ne (tgt := 40) hx hb dX4_takeMarkLine_35 (by decide) (fun h => absurd h (by decide)) (fun _ => ?_)
      refine lv_iconst (v := 0) hx hb dX4_takeMarkLine_38 (by decide) ?_
      refine W.widen (k := 0) (n := 0) (by decide) (by decide) ?_
      exact ch_zret hC hr hk hS dX4_takeMarkLine_39 rfl ((fun k => [(u2727.1 0), (u2727.1 1), (u2727.1 2), (u2727.1 3), (u2727.1 4), (u2727.1 5), (u2727.1 6)].getD k 0, fun k => [wa4f1].getD k (fun _ => 0), fun k => [].getD k (fun _ => 0)) : ((Nat → Int32) × (Nat → Nat → Int32) × (Nat → Nat → Int64))) (Or.inl rfl) (hP.sub [0, 1, 2, 3] rfl) (hD.sub [0, 1, 2, 3] (by decide) rfl)
    · refine lv_if_ne (tgt := 40) hx hb dX4_takeMarkLine_35 (by decide) (fun _ => ?_) (fun h => absurd h (by decide))
      refine lv_aload_n hx hb dX4_takeMarkLine_40 rfl (lv_at hl 1 rfl) ?_
      refine va_get (D := D) (ci := 4) (v := .ref wa4) (C := RX4) (T := TX4) (N := 10) hx hb hts in_X4 hown hE.1 hP 0 rfl rfl 4 (by decide) (hts _ w_440) (fun _ h9 => h9) rfl dX4_takeMarkLine_41 ?_
      refine lv_iload_n hx hb dX4_takeMarkLine_44 rfl (lv_at hl 0 rfl) ?_
      refine lv_aload_n hx hb dX4_takeMarkLine_45 rfl (lv_at hl 1 rfl) ?_
      refine va_get (D := D) (ci := 4) (v := .int (u2727.1 6)) (C := RX4) (T := TX4) (N := 10) hx hb hts in_X4 hown hE.1 hP 0 rfl rfl 9 (by decide) (hts _ w_439) (fun _ h9 => h9) rfl dX4_takeMarkLine_46 ?_
      refine cv_V (As := [.int (u2725.1 6), .int (u2727.1 6)]) (rest := []) (wc := [(wa4, .inr (9, [.ref wa4a0, .ref wa4a1, .ref wa4a2, .ref wa4a3, .ref wa4a4, .ref wa4a5, .ref wa4a6, .ref wa4a7, .int wa4n8, .int wa4n9, .int wa4n10, .int wa4n11])), (wa4a1, .inl (K 1, 10, .inl wa4f1))]) (wr := [(w, .inr (4, [.ref wa0, .int wn1, .int (u2727.1 0), .int (u2727.1 1), .ref wa4, .int (u2727.1 2), .int (u2727.1 3), .int (u2727.1 4), .int (u2727.1 5), .int (u2727.1 6)])), (wa0, .inl (K 0, 1000, .inl wf0))]) hC hE kV_X4_149 (c_X10_setSign l D K wa4 wa4a0 wa4a1 wa4a2 wa4a3 wa4a4 wa4a5 wa4a6 wa4a7 wa4n8 wa4n9 wa4n10 wa4n11 wa4f1 (u2725.1 6) (u2727.1 6)) hP hD hS hA [2, 3] [0, 1] rfl rfl rfl (by decide) (by decide) (by decide) 0 9 rfl rfl rfl hl.1 rfl (Nat.le_of_ble_eq_true rfl) (by decide) (by decide) dX4_takeMarkLine_49 (fun u2729 H locs hw hP hD hS => ?_)
      replace hP : va_P D vwCl [(w, .inr (4, [.ref wa0, .int wn1, .int (u2727.1 0), .int (u2727.1 1), .ref wa4, .int (u2727.1 2), .int (u2727.1 3), .int (u2727.1 4), .int (u2727.1 5), .int (u2727.1 6)])), (wa0, .inl (K 0, 1000, .inl wf0)), (wa4, .inr (9, [.ref wa4a0, .ref wa4a1, .ref wa4a2, .ref wa4a3, .ref wa4a4, .ref wa4a5, .ref wa4a6, .ref wa4a7, .int wa4n8, .int wa4n9, .int wa4n10, .int wa4n11])), (wa4a1, .inl (K 1, 10, .inl (u2729.2.1 0)))] H := hP
      replace hD : va_D A [(w, .inr (4, [.ref wa0, .int wn1, .int (u2727.1 0), .int (u2727.1 1), .ref wa4, .int (u2727.1 2), .int (u2727.1 3), .int (u2727.1 4), .int (u2727.1 5), .int (u2727.1 6)])), (wa0, .inl (K 0, 1000, .inl wf0)), (wa4, .inr (9, [.ref wa4a0, .ref wa4a1, .ref wa4a2, .ref wa4a3, .ref wa4a4, .ref wa4a5, .ref wa4a6, .ref wa4a7, .int wa4n8, .int wa4n9, .int wa4n10, .int wa4n11])), (wa4a1, .inl (K 1, 10, .inl (u2729.2.1 0)))] := hD
      replace hP : va_P D vwCl [(w, .inr (4, [.ref wa0, .int wn1, .int (u2727.1 0), .int (u2727.1 1), .ref wa4, .int (u2727.1 2), .int (u2727.1 3), .int (u2727.1 4), .int (u2727.1 5), .int (u2727.1 6)])), (wa0, .inl (K 0, 1000, .inl wf0)), (wa4, .inr (9, [.ref wa4a0, .ref wa4a1, .ref wa4a2, .ref wa4a3, .ref wa4a4, .ref wa4a5, .ref wa4a6, .ref wa4a7, .int wa4n8, .int wa4n9, .int wa4n10, .int wa4n11])), (wa4a1, .inl (K 1, 10, .inl (u2729.2.1 0)))] H := hP.sub [0, 1, 2, 3] rfl
      replace hD : va_D A [(w, .inr (4, [.ref wa0, .int wn1, .int (u2727.1 0), .int (u2727.1 1), .ref wa4, .int (u2727.1 2), .int (u2727.1 3), .int (u2727.1 4), .int (u2727.1 5), .int (u2727.1 6)])), (wa0, .inl (K 0, 1000, .inl wf0)), (wa4, .inr (9, [.ref wa4a0, .ref wa4a1, .ref wa4a2, .ref wa4a3, .ref wa4a4, .ref wa4a5, .ref wa4a6, .ref wa4a7, .int wa4n8, .int wa4n9, .int wa4n10, .int wa4n11])), (wa4a1, .inl (K 1, 10, .inl (u2729.2.1 0)))] := hD.sub [0, 1, 2, 3] (by decide) rfl
      refine W.widen (k := 0) (n := 0) (by decide) (by decide) ?_
      refine lv_iconst (v := 1) hx hb dX4_takeMarkLine_52 (by decide) ?_
      refine W.widen (k := 0) (n := 0) (by decide) (by decide) ?_
      exact ch_zret hC hr hk hS dX4_takeMarkLine_53 rfl ((fun k => [(u2727.1 0), (u2727.1 1), (u2727.1 2), (u2727.1 3), (u2727.1 4), (u2727.1 5), (u2727.1 6)].getD k 0, fun k => [(u2729.2.1 0)].getD k (fun _ => 0), fun k => [].getD k (fun _ => 0)) : ((Nat → Int32) × (Nat → Nat → Int32) × (Nat → Nat → Int64))) (Or.inr rfl) (hP.sub [0, 1, 2, 3] rfl) (hD.sub [0, 1, 2, 3] (by decide) rfl)
set_option maxRecDepth 40000 in
set_option maxHeartbeats 4000000 in
theorem c_X4_takePupilLine (l : Launch) (D : va_G) (K : Nat → ClassId) (Z : stZ) (w : Nat) (wa0 : Nat) (wa4 : Nat) (wa4a0 : Nat) (wa4a1 : Nat) (wa4a2 : Nat) (wa4a3 : Nat) (wa4a4 : Nat) (wa4a5 : Nat) (wa4a6 : Nat) (wa4a7 : Nat) (wn1 : Int32) (wn2 : Int32) (wn3 : Int32) (wn5 : Int32) (wn6 : Int32) (wn7 : Int32) (wn8 : Int32) (wn9 : Int32) (wa4n8 : Int32) (wa4n9 : Int32) (wa4n10 : Int32) (wa4n11 : Int32) (wf0 : Nat → Int32) (wa4f2 : Nat → Int32) (wa4f3 : Nat → Int32) (wa4f4 : Nat → Int32) (hp9 : 0 ≤ wa4n9.toInt) : CiT (S := ((Nat → Int32) × (Nat → Nat → Int32) × (Nat → Nat → Int64))) l D K Z yX4_takePupilLine cX4_takePupilLine 5 (some .boolean) 6 128 0 0 [.ref w] [(w, .inr (4, [.ref wa0, .int wn1, .int wn2, .int wn3, .ref wa4, .int wn5, .int wn6, .int wn7, .int wn8, .int wn9])), (wa0, .inl (K 0, 1000, .inl wf0)), (wa4, .inr (9, [.ref wa4a0, .ref wa4a1, .ref wa4a2, .ref wa4a3, .ref wa4a4, .ref wa4a5, .ref wa4a6, .ref wa4a7, .int wa4n8, .int wa4n9, .int wa4n10, .int wa4n11])), (wa4a2, .inl (K 1, 4, .inl wa4f2)), (wa4a3, .inl (K 1, 4, .inl wa4f3)), (wa4a4, .inl (K 1, 4, .inl wa4f4))] (fun r u => ((r = 0) ∨ (r = 1)) ∧ (0 ≤ (u.1 7).toInt)) (fun u => [(w, .inr (4, [.ref wa0, .int wn1, .int (u.1 0), .int (u.1 1), .ref wa4, .int (u.1 2), .int (u.1 3), .int (u.1 4), .int (u.1 5), .int (u.1 6)])), (wa0, .inl (K 0, 1000, .inl wf0)), (wa4, .inr (9, [.ref wa4a0, .ref wa4a1, .ref wa4a2, .ref wa4a3, .ref wa4a4, .ref wa4a5, .ref wa4a6, .ref wa4a7, .int wa4n8, .int (u.1 7), .int wa4n10, .int wa4n11])), (wa4a2, .inl (K 1, 4, .inl (u.2.1 0))), (wa4a3, .inl (K 1, 4, .inl (u.2.1 1))), (wa4a4, .inl (K 1, 4, .inl (u.2.1 2)))]) := by
  intro sz
  refine chT_of (y := yX4_takePupilLine) (cc := cX4_takePupilLine) (maxL := 5) (ret := (some .boolean)) (av := [.ref w]) (ws := [(w, .inr (4, [.ref wa0, .int wn1, .int wn2, .int wn3, .ref wa4, .int wn5, .int wn6, .int wn7, .int wn8, .int wn9])), (wa0, .inl (K 0, 1000, .inl wf0)), (wa4, .inr (9, [.ref wa4a0, .ref wa4a1, .ref wa4a2, .ref wa4a3, .ref wa4a4, .ref wa4a5, .ref wa4a6, .ref wa4a7, .int wa4n8, .int wa4n9, .int wa4n10, .int wa4n11])), (wa4a2, .inl (K 1, 4, .inl wa4f2)), (wa4a3, .inl (K 1, 4, .inl wa4f3)), (wa4a4, .inl (K 1, 4, .inl wa4f4))]) (D := D) (K := K) (Qc := fun A => va_Qi (S := ((Nat → Int32) × (Nat → Nat → Int32) × (Nat → Nat → Int64))) (fun r u => ((r = 0) ∨ (r = 1)) ∧ (0 ≤ (u.1 7).toInt)) (chB D A (fun u => [(w, .inr (4, [.ref wa0, .int wn1, .int (u.1 0), .int (u.1 1), .ref wa4, .int (u.1 2), .int (u.1 3), .int (u.1 4), .int (u.1 5), .int (u.1 6)])), (wa0, .inl (K 0, 1000, .inl wf0)), (wa4, .inr (9, [.ref wa4a0, .ref wa4a1, .ref wa4a2, .ref wa4a3, .ref wa4a4, .ref wa4a5, .ref wa4a6, .ref wa4a7, .int wa4n8, .int (u.1 7), .int wa4n10, .int wa4n11])), (wa4a2, .inl (K 1, 4, .inl (u.2.1 0))), (wa4a3, .inl (K 1, 4, .inl (u.2.1 1))), (wa4a4, .inl (K 1, 4, .inl (u.2.1 2)))])) A) (by decide) (Nat.le_of_ble_eq_true rfl) ?_
  intro p e s m below meth c A hC hr hk hin hE hD hA hT hZ H locs hP hS ls hl
  replace hC : CallFix p m c cX4_takePupilLine 5 s [.ref w].toArray wl RX4 := hC
  have hx := hC.1
  have hb := hC.2.1
  have hml := hC.2.2.1
  have hown := hC.2.2.2.1
  have hts := hC.2.2.2.2
  replace hl : lv_has ls 5 [(0, .ref w)] := hl
  have kc_0 : (0 : Int32).toInt = 0 := by decide
  have kc_1 : (1 : Int32).toInt = 1 := by decide
  have kc_2 : (2 : Int32).toInt = 2 := by decide
  have kc_4 : (4 : Int32).toInt = 4 := by decide
  have kc_1000 : (1000 : Int32).toInt = 1000 := by decide
  refine lv_aload_n hx hb dX4_takePupilLine_0 rfl (lv_at hl 0 rfl) ?_
  refine va_get (D := D) (ci := 4) (v := .ref wa4) (C := RX4) (T := TX4) (N := 10) hx hb hts in_X4 hown hE.1 hP 0 rfl rfl 4 (by decide) (hts _ w_440) (fun _ h9 => h9) rfl dX4_takePupilLine_1 ?_
  refine va_get (D := D) (ci := 9) (v := .int wa4n9) (C := RX10) (T := TX10) (N := 12) hx hb hts in_X10 hown hE.1 hP 2 rfl rfl 9 (by decide) (hts _ w_456) (fun _ h9 => h9) rfl dX4_takePupilLine_4 ?_
  refine lv_iconst (v := 4) hx hb dX4_takePupilLine_7 (by decide) ?_
  refine lv_icmp_lt (tgt := 17) hx hb dX4_takePupilLine_8 (by decide) (fun c2767 => ?_) (fun c2767 => ?_)
  · replace c2767 := lt_i c2767
    refine lv_aload_n hx hb dX4_takePupilLine_17 rfl (lv_at hl 0 rfl) ?_
    refine cv_V (As := []) (rest := []) (wc := [(w, .inr (4, [.ref wa0, .int wn1, .int wn2, .int wn3, .ref wa4, .int wn5, .int wn6, .int wn7, .int wn8, .int wn9])), (wa0, .inl (K 0, 1000, .inl wf0))]) (wr := [(wa4, .inr (9, [.ref wa4a0, .ref wa4a1, .ref wa4a2, .ref wa4a3, .ref wa4a4, .ref wa4a5, .ref wa4a6, .ref wa4a7, .int wa4n8, .int wa4n9, .int wa4n10, .int wa4n11])), (wa4a2, .inl (K 1, 4, .inl wa4f2)), (wa4a3, .inl (K 1, 4, .inl wa4f3)), (wa4a4, .inl (K 1, 4, .inl wa4f4))]) hC hE kV_X4_38 (c_X4_advance l D K w wa0 wa4 wn1 wn2 wn3 wn5 wn6 wn7 wn8 wn9 wf0) hP hD hS hA [0, 1] [2, 3, 4, 5] rfl rfl rfl (by decide) (by decide) (by decide) 0 4 rfl rfl rfl hl.1 rfl (Nat.le_of_ble_eq_true rfl) (by decide) (by decide) dX4_takePupilLine_18 (fun u2768 H locs hw hP hD hS => ?_)
    replace hP : va_P D vwCl [(wa4, .inr (9, [.ref wa4a0, .ref wa4a1, .ref wa4a2, .ref wa4a3, .ref wa4a4, .ref wa4a5, .ref wa4a6, .ref wa4a7, .int wa4n8, .int wa4n9, .int wa4n10, .int wa4n11])), (wa4a2, .inl (K 1, 4, .inl wa4f2)), (wa4a3, .inl (K 1, 4, .inl wa4f3)), (wa4a4, .inl (K 1, 4, .inl wa4f4)), (w, .inr (4, [.ref wa0, .int wn1, .int wn2, .int wn3, .ref wa4, .int (u2768.1 0), .int (u2768.1 1), .int (u2768.1 2), .int (u2768.1 3), .int wn9])), (wa0, .inl (K 0, 1000, .inl wf0))] H := hP
    replace hD : va_D A [(wa4, .inr (9, [.ref wa4a0, .ref wa4a1, .ref wa4a2, .ref wa4a3, .ref wa4a4, .ref wa4a5, .ref wa4a6, .ref wa4a7, .int wa4n8, .int wa4n9, .int wa4n10, .int wa4n11])), (wa4a2, .inl (K 1, 4, .inl wa4f2)), (wa4a3, .inl (K 1, 4, .inl wa4f3)), (wa4a4, .inl (K 1, 4, .inl wa4f4)), (w, .inr (4, [.ref wa0, .int wn1, .int wn2, .int wn3, .ref wa4, .int (u2768.1 0), .int (u2768.1 1), .int (u2768.1 2), .int (u2768.1 3), .int wn9])), (wa0, .inl (K 0, 1000, .inl wf0))] := hD
    replace hP : va_P D vwCl [(w, .inr (4, [.ref wa0, .int wn1, .int wn2, .int wn3, .ref wa4, .int (u2768.1 0), .int (u2768.1 1), .int (u2768.1 2), .int (u2768.1 3), .int wn9])), (wa0, .inl (K 0, 1000, .inl wf0)), (wa4, .inr (9, [.ref wa4a0, .ref wa4a1, .ref wa4a2, .ref wa4a3, .ref wa4a4, .ref wa4a5, .ref wa4a6, .ref wa4a7, .int wa4n8, .int wa4n9, .int wa4n10, .int wa4n11])), (wa4a2, .inl (K 1, 4, .inl wa4f2)), (wa4a3, .inl (K 1, 4, .inl wa4f3)), (wa4a4, .inl (K 1, 4, .inl wa4f4))] H := hP.sub [4, 5, 0, 1, 2, 3] rfl
    replace hD : va_D A [(w, .inr (4, [.ref wa0, .int wn1, .int wn2, .int wn3, .ref wa4, .int (u2768.1 0), .int (u2768.1 1), .int (u2768.1 2), .int (u2768.1 3), .int wn9])), (wa0, .inl (K 0, 1000, .inl wf0)), (wa4, .inr (9, [.ref wa4a0, .ref wa4a1, .ref wa4a2, .ref wa4a3, .ref wa4a4, .ref wa4a5, .ref wa4a6, .ref wa4a7, .int wa4n8, .int wa4n9, .int wa4n10, .int wa4n11])), (wa4a2, .inl (K 1, 4, .inl wa4f2)), (wa4a3, .inl (K 1, 4, .inl wa4f3)), (wa4a4, .inl (K 1, 4, .inl wa4f4))] := hD.sub [4, 5, 0, 1, 2, 3] (by decide) rfl
    refine W.widen (k := 0) (n := 0) (by decide) (by decide) ?_
    refine lv_aload_n hx hb dX4_takePupilLine_21 rfl (lv_at hl 0 rfl) ?_
    refine va_ldcS hx hb hown (show vk_R RX4 156 "in" (Z.1 11) s from hT.2.2.2 11 (by decide)) dX4_takePupilLine_22 ?_
    refine ciT_V (As := [.ref (Z.1 11)]) (rest := []) (wc := [(w, .inr (4, [.ref wa0, .int wn1, .int wn2, .int wn3, .ref wa4, .int (u2768.1 0), .int (u2768.1 1), .int (u2768.1 2), .int (u2768.1 3), .int wn9])), (wa0, .inl (K 0, 1000, .inl wf0))]) (wr := [(wa4, .inr (9, [.ref wa4a0, .ref wa4a1, .ref wa4a2, .ref wa4a3, .ref wa4a4, .ref wa4a5, .ref wa4a6, .ref wa4a7, .int wa4n8, .int wa4n9, .int wa4n10, .int wa4n11])), (wa4a2, .inl (K 1, 4, .inl wa4f2)), (wa4a3, .inl (K 1, 4, .inl wa4f3)), (wa4a4, .inl (K 1, 4, .inl wa4f4))]) hC hE hT hZ kV_X4_127 (c_X4_takeWord l D K Z w wa0 wa4 wn1 wn2 wn3 (u2768.1 0) (u2768.1 1) (u2768.1 2) (u2768.1 3) wn9 wf0 11 (by decide)) hP hD hS hA [0, 1] [2, 3, 4, 5] rfl rfl rfl (by decide) (by decide) (by decide) 0 4 rfl rfl rfl hl.1 rfl (Nat.le_of_ble_eq_true rfl) (by decide) (by decide) dX4_takePupilLine_24 (fun r2771 u2770 H locs hw hP hD hS => ?_)
    replace hP : va_P D vwCl [(wa4, .inr (9, [.ref wa4a0, .ref wa4a1, .ref wa4a2, .ref wa4a3, .ref wa4a4, .ref wa4a5, .ref wa4a6, .ref wa4a7, .int wa4n8, .int wa4n9, .int wa4n10, .int wa4n11])), (wa4a2, .inl (K 1, 4, .inl wa4f2)), (wa4a3, .inl (K 1, 4, .inl wa4f3)), (wa4a4, .inl (K 1, 4, .inl wa4f4)), (w, .inr (4, [.ref wa0, .int wn1, .int (u2770.1 0), .int (u2770.1 1), .ref wa4, .int (u2770.1 2), .int (u2770.1 3), .int (u2770.1 4), .int (u2770.1 5), .int wn9])), (wa0, .inl (K 0, 1000, .inl wf0))] H := hP
    replace hD : va_D A [(wa4, .inr (9, [.ref wa4a0, .ref wa4a1, .ref wa4a2, .ref wa4a3, .ref wa4a4, .ref wa4a5, .ref wa4a6, .ref wa4a7, .int wa4n8, .int wa4n9, .int wa4n10, .int wa4n11])), (wa4a2, .inl (K 1, 4, .inl wa4f2)), (wa4a3, .inl (K 1, 4, .inl wa4f3)), (wa4a4, .inl (K 1, 4, .inl wa4f4)), (w, .inr (4, [.ref wa0, .int wn1, .int (u2770.1 0), .int (u2770.1 1), .ref wa4, .int (u2770.1 2), .int (u2770.1 3), .int (u2770.1 4), .int (u2770.1 5), .int wn9])), (wa0, .inl (K 0, 1000, .inl wf0))] := hD
    replace hP : va_P D vwCl [(w, .inr (4, [.ref wa0, .int wn1, .int (u2770.1 0), .int (u2770.1 1), .ref wa4, .int (u2770.1 2), .int (u2770.1 3), .int (u2770.1 4), .int (u2770.1 5), .int wn9])), (wa0, .inl (K 0, 1000, .inl wf0)), (wa4, .inr (9, [.ref wa4a0, .ref wa4a1, .ref wa4a2, .ref wa4a3, .ref wa4a4, .ref wa4a5, .ref wa4a6, .ref wa4a7, .int wa4n8, .int wa4n9, .int wa4n10, .int wa4n11])), (wa4a2, .inl (K 1, 4, .inl wa4f2)), (wa4a3, .inl (K 1, 4, .inl wa4f3)), (wa4a4, .inl (K 1, 4, .inl wa4f4))] H := hP.sub [4, 5, 0, 1, 2, 3] rfl
    replace hD : va_D A [(w, .inr (4, [.ref wa0, .int wn1, .int (u2770.1 0), .int (u2770.1 1), .ref wa4, .int (u2770.1 2), .int (u2770.1 3), .int (u2770.1 4), .int (u2770.1 5), .int wn9])), (wa0, .inl (K 0, 1000, .inl wf0)), (wa4, .inr (9, [.ref wa4a0, .ref wa4a1, .ref wa4a2, .ref wa4a3, .ref wa4a4, .ref wa4a5, .ref wa4a6, .ref wa4a7, .int wa4n8, .int wa4n9, .int wa4n10, .int wa4n11])), (wa4a2, .inl (K 1, 4, .inl wa4f2)), (wa4a3, .inl (K 1, 4, .inl wa4f3)), (wa4a4, .inl (K 1, 4, .inl wa4f4))] := hD.sub [4, 5, 0, 1, 2, 3] (by decide) rfl
    refine W.widen (k := 0) (n := 0) (by decide) (by decide) ?_
    rcases hw with rfl | rfl
    · refine lv_if_eq (tgt := 47) hx hb dX4_takePupilLine_27 (by decide) (fun _ => ?_) (fun h => absurd h (by decide))
      refine lv_iconst (v := 0) hx hb dX4_takePupilLine_47 (by decide) ?_
      refine W.widen (k := 0) (n := 0) (by decide) (by decide) ?_
      exact ch_zret hC hr hk hS dX4_takePupilLine_48 rfl ((fun k => [(u2770.1 0), (u2770.1 1), (u2770.1 2), (u2770.1 3), (u2770.1 4), (u2770.1 5), wn9, wa4n9].getD k 0, fun k => [wa4f2, wa4f3, wa4f4].getD k (fun _ => 0), fun k => [].getD k (fun _ => 0)) : ((Nat → Int32) × (Nat → Nat → Int32) × (Nat → Nat → Int64))) ⟨(Or.inl rfl), (show 0 ≤ (wa4n9 : Int32).toInt from by omega)⟩ (hP.sub [0, 1, 2, 3, 4, 5] rfl) (hD.sub [0, 1, 2, 3, 4, 5] (by decide) rfl)
    · refine lv_if_eq (tgt := 47) hx hb dX4_takePupilLine_27 (by decide) (fun h => absurd h (by decide)) (fun _ => ?_)
      refine lv_aload_n hx hb dX4_takePupilLine_30 rfl (lv_at hl 0 rfl) ?_
      refine lv_iconst (v := 0) hx hb dX4_takePupilLine_31 (by decide) ?_
      refine lv_aload_n hx hb dX4_takePupilLine_32 rfl (lv_at hl 0 rfl) ?_
      refine va_get (D := D) (ci := 4) (v := .ref wa4) (C := RX4) (T := TX4) (N := 10) hx hb hts in_X4 hown hE.1 hP 0 rfl rfl 4 (by decide) (hts _ w_440) (fun _ h9 => h9) rfl dX4_takePupilLine_33 ?_
      refine va_get (D := D) (ci := 9) (v := .int wa4n8) (C := RX10) (T := TX10) (N := 12) hx hb hts in_X10 hown hE.1 hP 2 rfl rfl 8 (by decide) (hts _ w_441) (fun _ h9 => h9) rfl dX4_takePupilLine_36 ?_
      refine lv_iconst (v := 1) hx hb dX4_takePupilLine_39 (by decide) ?_
      refine lv_isub hx hb dX4_takePupilLine_40 ?_
      refine lv_topi (fun v2772 ev2772 => ?_)
      refine ci_V (As := [.int 0, .int v2772]) (rest := []) (wc := [(w, .inr (4, [.ref wa0, .int wn1, .int (u2770.1 0), .int (u2770.1 1), .ref wa4, .int (u2770.1 2), .int (u2770.1 3), .int (u2770.1 4), .int (u2770.1 5), .int wn9])), (wa0, .inl (K 0, 1000, .inl wf0))]) (wr := [(wa4, .inr (9, [.ref wa4a0, .ref wa4a1, .ref wa4a2, .ref wa4a3, .ref wa4a4, .ref wa4a5, .ref wa4a6, .ref wa4a7, .int wa4n8, .int wa4n9, .int wa4n10, .int wa4n11])), (wa4a2, .inl (K 1, 4, .inl wa4f2)), (wa4a3, .inl (K 1, 4, .inl wa4f3)), (wa4a4, .inl (K 1, 4, .inl wa4f4))]) hC hE kV_X4_132 (c_X4_takeNumber l D K w wa0 wa4 wn1 (u2770.1 0) (u2770.1 1) (u2770.1 2) (u2770.1 3) (u2770.1 4) (u2770.1 5) wn9 wf0 0 v2772) hP hD hS hA [0, 1] [2, 3, 4, 5] rfl rfl rfl (by decide) (by decide) (by decide) 0 4 rfl rfl rfl hl.1 rfl (Nat.le_of_ble_eq_true rfl) (by decide) (by decide) dX4_takePupilLine_41 (fun r2774 u2773 H locs hw hP hD hS => ?_)
      replace hP : va_P D vwCl [(wa4, .inr (9, [.ref wa4a0, .ref wa4a1, .ref wa4a2, .ref wa4a3, .ref wa4a4, .ref wa4a5, .ref wa4a6, .ref wa4a7, .int wa4n8, .int wa4n9, .int wa4n10, .int wa4n11])), (wa4a2, .inl (K 1, 4, .inl wa4f2)), (wa4a3, .inl (K 1, 4, .inl wa4f3)), (wa4a4, .inl (K 1, 4, .inl wa4f4)), (w, .inr (4, [.ref wa0, .int wn1, .int (u2773.1 0), .int (u2773.1 1), .ref wa4, .int (u2773.1 2), .int (u2773.1 3), .int (u2773.1 4), .int (u2773.1 5), .int (u2773.1 6)])), (wa0, .inl (K 0, 1000, .inl wf0))] H := hP
      replace hD : va_D A [(wa4, .inr (9, [.ref wa4a0, .ref wa4a1, .ref wa4a2, .ref wa4a3, .ref wa4a4, .ref wa4a5, .ref wa4a6, .ref wa4a7, .int wa4n8, .int wa4n9, .int wa4n10, .int wa4n11])), (wa4a2, .inl (K 1, 4, .inl wa4f2)), (wa4a3, .inl (K 1, 4, .inl wa4f3)), (wa4a4, .inl (K 1, 4, .inl wa4f4)), (w, .inr (4, [.ref wa0, .int wn1, .int (u2773.1 0), .int (u2773.1 1), .ref wa4, .int (u2773.1 2), .int (u2773.1 3), .int (u2773.1 4), .int (u2773.1 5), .int (u2773.1 6)])), (wa0, .inl (K 0, 1000, .inl wf0))] := hD
      replace hP : va_P D vwCl [(w, .inr (4, [.ref wa0, .int wn1, .int (u2773.1 0), .int (u2773.1 1), .ref wa4, .int (u2773.1 2), .int (u2773.1 3), .int (u2773.1 4), .int (u2773.1 5), .int (u2773.1 6)])), (wa0, .inl (K 0, 1000, .inl wf0)), (wa4, .inr (9, [.ref wa4a0, .ref wa4a1, .ref wa4a2, .ref wa4a3, .ref wa4a4, .ref wa4a5, .ref wa4a6, .ref wa4a7, .int wa4n8, .int wa4n9, .int wa4n10, .int wa4n11])), (wa4a2, .inl (K 1, 4, .inl wa4f2)), (wa4a3, .inl (K 1, 4, .inl wa4f3)), (wa4a4, .inl (K 1, 4, .inl wa4f4))] H := hP.sub [4, 5, 0, 1, 2, 3] rfl
      replace hD : va_D A [(w, .inr (4, [.ref wa0, .int wn1, .int (u2773.1 0), .int (u2773.1 1), .ref wa4, .int (u2773.1 2), .int (u2773.1 3), .int (u2773.1 4), .int (u2773.1 5), .int (u2773.1 6)])), (wa0, .inl (K 0, 1000, .inl wf0)), (wa4, .inr (9, [.ref wa4a0, .ref wa4a1, .ref wa4a2, .ref wa4a3, .ref wa4a4, .ref wa4a5, .ref wa4a6, .ref wa4a7, .int wa4n8, .int wa4n9, .int wa4n10, .int wa4n11])), (wa4a2, .inl (K 1, 4, .inl wa4f2)), (wa4a3, .inl (K 1, 4, .inl wa4f3)), (wa4a4, .inl (K 1, 4, .inl wa4f4))] := hD.sub [4, 5, 0, 1, 2, 3] (by decide) rfl
      refine W.widen (k := 0) (n := 0) (by decide) (by decide) ?_
      rcases hw with rfl | rfl
      · refine lv_if_ne (tgt := 49) hx hb dX4_takePupilLine_44 (by decide) (fun h => absurd h (by decide)) (fun _ => ?_)
        refine lv_iconst (v := 0) hx hb dX4_takePupilLine_47 (by decide) ?_
        refine W.widen (k := 0) (n := 0) (by decide) (by decide) ?_
        exact ch_zret hC hr hk hS dX4_takePupilLine_48 rfl ((fun k => [(u2773.1 0), (u2773.1 1), (u2773.1 2), (u2773.1 3), (u2773.1 4), (u2773.1 5), (u2773.1 6), wa4n9].getD k 0, fun k => [wa4f2, wa4f3, wa4f4].getD k (fun _ => 0), fun k => [].getD k (fun _ => 0)) : ((Nat → Int32) × (Nat → Nat → Int32) × (Nat → Nat → Int64))) ⟨(Or.inl rfl), (show 0 ≤ (wa4n9 : Int32).toInt from by omega)⟩ (hP.sub [0, 1, 2, 3, 4, 5] rfl) (hD.sub [0, 1, 2, 3, 4, 5] (by decide) rfl)
      · refine lv_if_ne (tgt := 49) hx hb dX4_takePupilLine_44 (by decide) (fun _ => ?_) (fun h => absurd h (by decide))
        refine lv_aload_n hx hb dX4_takePupilLine_49 rfl (lv_at hl 0 rfl) ?_
        refine va_get (D := D) (ci := 4) (v := .int (u2773.1 6)) (C := RX4) (T := TX4) (N := 10) hx hb hts in_X4 hown hE.1 hP 0 rfl rfl 9 (by decide) (hts _ w_439) (fun _ h9 => h9) rfl dX4_takePupilLine_50 ?_
        refine lv_istore_n (lv' := [(1, .int (u2773.1 6)), (0, .ref w)]) hx hb dX4_takePupilLine_53 rfl hl (by decide) rfl (fun ls hl => ?_)
        refine lv_aload_n hx hb dX4_takePupilLine_54 rfl (lv_at hl 1 rfl) ?_
        refine va_ldcS hx hb hown (show vk_R RX4 158 "lies" (Z.1 12) s from hT.2.2.2 12 (by decide)) dX4_takePupilLine_55 ?_
        refine ciT_V (As := [.ref (Z.1 12)]) (rest := []) (wc := [(w, .inr (4, [.ref wa0, .int wn1, .int (u2773.1 0), .int (u2773.1 1), .ref wa4, .int (u2773.1 2), .int (u2773.1 3), .int (u2773.1 4), .int (u2773.1 5), .int (u2773.1 6)])), (wa0, .inl (K 0, 1000, .inl wf0))]) (wr := [(wa4, .inr (9, [.ref wa4a0, .ref wa4a1, .ref wa4a2, .ref wa4a3, .ref wa4a4, .ref wa4a5, .ref wa4a6, .ref wa4a7, .int wa4n8, .int wa4n9, .int wa4n10, .int wa4n11])), (wa4a2, .inl (K 1, 4, .inl wa4f2)), (wa4a3, .inl (K 1, 4, .inl wa4f3)), (wa4a4, .inl (K 1, 4, .inl wa4f4))]) hC hE hT hZ kV_X4_127 (c_X4_takeWord l D K Z w wa0 wa4 wn1 (u2773.1 0) (u2773.1 1) (u2773.1 2) (u2773.1 3) (u2773.1 4) (u2773.1 5) (u2773.1 6) wf0 12 (by decide)) hP hD hS hA [0, 1] [2, 3, 4, 5] rfl rfl rfl (by decide) (by decide) (by decide) 0 4 rfl rfl rfl hl.1 rfl (Nat.le_of_ble_eq_true rfl) (by decide) (by decide) dX4_takePupilLine_57 (fun r2776 u2775 H locs hw hP hD hS => ?_)
        replace hP : va_P D vwCl [(wa4, .inr (9, [.ref wa4a0, .ref wa4a1, .ref wa4a2, .ref wa4a3, .ref wa4a4, .ref wa4a5, .ref wa4a6, .ref wa4a7, .int wa4n8, .int wa4n9, .int wa4n10, .int wa4n11])), (wa4a2, .inl (K 1, 4, .inl wa4f2)), (wa4a3, .inl (K 1, 4, .inl wa4f3)), (wa4a4, .inl (K 1, 4, .inl wa4f4)), (w, .inr (4, [.ref wa0, .int wn1, .int (u2775.1 0), .int (u2775.1 1), .ref wa4, .int (u2775.1 2), .int (u2775.1 3), .int (u2775.1 4), .int (u2775.1 5), .int (u2773.1 6)])), (wa0, .inl (K 0, 1000, .inl wf0))] H := hP
        replace hD : va_D A [(wa4, .inr (9, [.ref wa4a0, .ref wa4a1, .ref wa4a2, .ref wa4a3, .ref wa4a4, .ref wa4a5, .ref wa4a6, .ref wa4a7, .int wa4n8, .int wa4n9, .int wa4n10, .int wa4n11])), (wa4a2, .inl (K 1, 4, .inl wa4f2)), (wa4a3, .inl (K 1, 4, .inl wa4f3)), (wa4a4, .inl (K 1, 4, .inl wa4f4)), (w, .inr (4, [.ref wa0, .int wn1, .int (u2775.1 0), .int (u2775.1 1), .ref wa4, .int (u2775.1 2), .int (u2775.1 3), .int (u2775.1 4), .int (u2775.1 5), .int (u2773.1 6)])), (wa0, .inl (K 0, 1000, .inl wf0))] := hD
        replace hP : va_P D vwCl [(w, .inr (4, [.ref wa0, .int wn1, .int (u2775.1 0), .int (u2775.1 1), .ref wa4, .int (u2775.1 2), .int (u2775.1 3), .int (u2775.1 4), .int (u2775.1 5), .int (u2773.1 6)])), (wa0, .inl (K 0, 1000, .inl wf0)), (wa4, .inr (9, [.ref wa4a0, .ref wa4a1, .ref wa4a2, .ref wa4a3, .ref wa4a4, .ref wa4a5, .ref wa4a6, .ref wa4a7, .int wa4n8, .int wa4n9, .int wa4n10, .int wa4n11])), (wa4a2, .inl (K 1, 4, .inl wa4f2)), (wa4a3, .inl (K 1, 4, .inl wa4f3)), (wa4a4, .inl (K 1, 4, .inl wa4f4))] H := hP.sub [4, 5, 0, 1, 2, 3] rfl
        replace hD : va_D A [(w, .inr (4, [.ref wa0, .int wn1, .int (u2775.1 0), .int (u2775.1 1), .ref wa4, .int (u2775.1 2), .int (u2775.1 3), .int (u2775.1 4), .int (u2775.1 5), .int (u2773.1 6)])), (wa0, .inl (K 0, 1000, .inl wf0)), (wa4, .inr (9, [.ref wa4a0, .ref wa4a1, .ref wa4a2, .ref wa4a3, .ref wa4a4, .ref wa4a5, .ref wa4a6, .ref wa4a7, .int wa4n8, .int wa4n9, .int wa4n10, .int wa4n11])), (wa4a2, .inl (K 1, 4, .inl wa4f2)), (wa4a3, .inl (K 1, 4, .inl wa4f3)), (wa4a4, .inl (K 1, 4, .inl wa4f4))] := hD.sub [4, 5, 0, 1, 2, 3] (by decide) rfl
        refine W.widen (k := 0) (n := 0) (by decide) (by decide) ?_
        rcases hw with rfl | rfl
        · refine lv_if_eq (tgt := 72) hx hb dX4_takePupilLine_60 (by decide) (fun _ => ?_) (fun h => absurd h (by decide))
          refine lv_iconst (v := 0) hx hb dX4_takePupilLine_72 (by decide) ?_
          refine W.widen (k := 0) (n := 0) (by decide) (by decide) ?_
          exact ch_zret hC hr hk hS dX4_takePupilLine_73 rfl ((fun k => [(u2775.1 0), (u2775.1 1), (u2775.1 2), (u2775.1 3), (u2775.1 4), (u2775.1 5), (u2773.1 6), wa4n9].getD k 0, fun k => [wa4f2, wa4f3, wa4f4].getD k (fun _ => 0), fun k => [].getD k (fun _ => 0)) : ((Nat → Int32) × (Nat → Nat → Int32) × (Nat → Nat → Int64))) ⟨(Or.inl rfl), (show 0 ≤ (wa4n9 : Int32).toInt from by omega)⟩ (hP.sub [0, 1, 2, 3, 4, 5] rfl) (hD.sub [0, 1, 2, 3, 4, 5] (by decide) rfl)
        · refine lv_if_eq (tgt := 72) hx hb dX4_takePupilLine_60 (by decide) (fun h => absurd h (by decide)) (fun _ => ?_)
          refine lv_aload_n hx hb dX4_takePupilLine_63 rfl (lv_at hl 1 rfl) ?_
          refine lv_iconst (v := 0) hx hb dX4_takePupilLine_64 (by decide) ?_
          refine lv_iconst (v := 3) hx hb dX4_takePupilLine_65 (by decide) ?_
          refine ci_V (As := [.int 0, .int 3]) (rest := []) (wc := [(w, .inr (4, [.ref wa0, .int wn1, .int (u2775.1 0), .int (u2775.1 1), .ref wa4, .int (u2775.1 2), .int (u2775.1 3), .int (u2775.1 4), .int (u2775.1 5), .int (u2773.1 6)])), (wa0, .inl (K 0, 1000, .inl wf0))]) (wr := [(wa4, .inr (9, [.ref wa4a0, .ref wa4a1, .ref wa4a2, .ref wa4a3, .ref wa4a4, .ref wa4a5, .ref wa4a6, .ref wa4a7, .int wa4n8, .int wa4n9, .int wa4n10, .int wa4n11])), (wa4a2, .inl (K 1, 4, .inl wa4f2)), (wa4a3, .inl (K 1, 4, .inl wa4f3)), (wa4a4, .inl (K 1, 4, .inl wa4f4))]) hC hE kV_X4_132 (c_X4_takeNumber l D K w wa0 wa4 wn1 (u2775.1 0) (u2775.1 1) (u2775.1 2) (u2775.1 3) (u2775.1 4) (u2775.1 5) (u2773.1 6) wf0 0 3) hP hD hS hA [0, 1] [2, 3, 4, 5] rfl rfl rfl (by decide) (by decide) (by decide) 0 4 rfl rfl rfl hl.1 rfl (Nat.le_of_ble_eq_true rfl) (by decide) (by decide) dX4_takePupilLine_66 (fun r2778 u2777 H locs hw hP hD hS => ?_)
          replace hP : va_P D vwCl [(wa4, .inr (9, [.ref wa4a0, .ref wa4a1, .ref wa4a2, .ref wa4a3, .ref wa4a4, .ref wa4a5, .ref wa4a6, .ref wa4a7, .int wa4n8, .int wa4n9, .int wa4n10, .int wa4n11])), (wa4a2, .inl (K 1, 4, .inl wa4f2)), (wa4a3, .inl (K 1, 4, .inl wa4f3)), (wa4a4, .inl (K 1, 4, .inl wa4f4)), (w, .inr (4, [.ref wa0, .int wn1, .int (u2777.1 0), .int (u2777.1 1), .ref wa4, .int (u2777.1 2), .int (u2777.1 3), .int (u2777.1 4), .int (u2777.1 5), .int (u2777.1 6)])), (wa0, .inl (K 0, 1000, .inl wf0))] H := hP
          replace hD : va_D A [(wa4, .inr (9, [.ref wa4a0, .ref wa4a1, .ref wa4a2, .ref wa4a3, .ref wa4a4, .ref wa4a5, .ref wa4a6, .ref wa4a7, .int wa4n8, .int wa4n9, .int wa4n10, .int wa4n11])), (wa4a2, .inl (K 1, 4, .inl wa4f2)), (wa4a3, .inl (K 1, 4, .inl wa4f3)), (wa4a4, .inl (K 1, 4, .inl wa4f4)), (w, .inr (4, [.ref wa0, .int wn1, .int (u2777.1 0), .int (u2777.1 1), .ref wa4, .int (u2777.1 2), .int (u2777.1 3), .int (u2777.1 4), .int (u2777.1 5), .int (u2777.1 6)])), (wa0, .inl (K 0, 1000, .inl wf0))] := hD
          replace hP : va_P D vwCl [(w, .inr (4, [.ref wa0, .int wn1, .int (u2777.1 0), .int (u2777.1 1), .ref wa4, .int (u2777.1 2), .int (u2777.1 3), .int (u2777.1 4), .int (u2777.1 5), .int (u2777.1 6)])), (wa0, .inl (K 0, 1000, .inl wf0)), (wa4, .inr (9, [.ref wa4a0, .ref wa4a1, .ref wa4a2, .ref wa4a3, .ref wa4a4, .ref wa4a5, .ref wa4a6, .ref wa4a7, .int wa4n8, .int wa4n9, .int wa4n10, .int wa4n11])), (wa4a2, .inl (K 1, 4, .inl wa4f2)), (wa4a3, .inl (K 1, 4, .inl wa4f3)), (wa4a4, .inl (K 1, 4, .inl wa4f4))] H := hP.sub [4, 5, 0, 1, 2, 3] rfl
          replace hD : va_D A [(w, .inr (4, [.ref wa0, .int wn1, .int (u2777.1 0), .int (u2777.1 1), .ref wa4, .int (u2777.1 2), .int (u2777.1 3), .int (u2777.1 4), .int (u2777.1 5), .int (u2777.1 6)])), (wa0, .inl (K 0, 1000, .inl wf0)), (wa4, .inr (9, [.ref wa4a0, .ref wa4a1, .ref wa4a2, .ref wa4a3, .ref wa4a4, .ref wa4a5, .ref wa4a6, .ref wa4a7, .int wa4n8, .int wa4n9, .int wa4n10, .int wa4n11])), (wa4a2, .inl (K 1, 4, .inl wa4f2)), (wa4a3, .inl (K 1, 4, .inl wa4f3)), (wa4a4, .inl (K 1, 4, .inl wa4f4))] := hD.sub [4, 5, 0, 1, 2, 3] (by decide) rfl
          refine W.widen (k := 0) (n := 0) (by decide) (by decide) ?_
          rcases hw with rfl | rfl
          · refine lv_if_ne (tgt := 74) hx hb dX4_takePupilLine_69 (by decide) (fun h => absurd h (by decide)) (fun _ => ?_)
            refine lv_iconst (v := 0) hx hb dX4_takePupilLine_72 (by decide) ?_
            refine W.widen (k := 0) (n := 0) (by decide) (by decide) ?_
            exact ch_zret hC hr hk hS dX4_takePupilLine_73 rfl ((fun k => [(u2777.1 0), (u2777.1 1), (u2777.1 2), (u2777.1 3), (u2777.1 4), (u2777.1 5), (u2777.1 6), wa4n9].getD k 0, fun k => [wa4f2, wa4f3, wa4f4].getD k (fun _ => 0), fun k => [].getD k (fun _ => 0)) : ((Nat → Int32) × (Nat → Nat → Int32) × (Nat → Nat → Int64))) ⟨(Or.inl rfl), (show 0 ≤ (wa4n9 : Int32).toInt from by omega)⟩ (hP.sub [0, 1, 2, 3, 4, 5] rfl) (hD.sub [0, 1, 2, 3, 4, 5] (by decide) rfl)
          · refine lv_if_ne (tgt := 74) hx hb dX4_takePupilLine_69 (by decide) (fun _ => ?_) (fun h => absurd h (by decide))
            refine lv_aload_n hx hb dX4_takePupilLine_74 rfl (lv_at hl 1 rfl) ?_
            refine va_get (D := D) (ci := 4) (v := .int (u2777.1 6)) (C := RX4) (T := TX4) (N := 10) hx hb hts in_X4 hown hE.1 hP 0 rfl rfl 9 (by decide) (hts _ w_439) (fun _ h9 => h9) rfl dX4_takePupilLine_75 ?_
            refine lv_istore_n (lv' := [(2, .int (u2777.1 6)), (1, .int (u2773.1 6)), (0, .ref w)]) hx hb dX4_takePupilLine_78 rfl hl (by decide) rfl (fun ls hl => ?_)
            refine lv_aload_n hx hb dX4_takePupilLine_79 rfl (lv_at hl 2 rfl) ?_
            refine va_ldcS hx hb hown (show vk_R RX4 160 "thinks" (Z.1 13) s from hT.2.2.2 13 (by decide)) dX4_takePupilLine_80 ?_
            refine ciT_V (As := [.ref (Z.1 13)]) (rest := []) (wc := [(w, .inr (4, [.ref wa0, .int wn1, .int (u2777.1 0), .int (u2777.1 1), .ref wa4, .int (u2777.1 2), .int (u2777.1 3), .int (u2777.1 4), .int (u2777.1 5), .int (u2777.1 6)])), (wa0, .inl (K 0, 1000, .inl wf0))]) (wr := [(wa4, .inr (9, [.ref wa4a0, .ref wa4a1, .ref wa4a2, .ref wa4a3, .ref wa4a4, .ref wa4a5, .ref wa4a6, .ref wa4a7, .int wa4n8, .int wa4n9, .int wa4n10, .int wa4n11])), (wa4a2, .inl (K 1, 4, .inl wa4f2)), (wa4a3, .inl (K 1, 4, .inl wa4f3)), (wa4a4, .inl (K 1, 4, .inl wa4f4))]) hC hE hT hZ kV_X4_127 (c_X4_takeWord l D K Z w wa0 wa4 wn1 (u2777.1 0) (u2777.1 1) (u2777.1 2) (u2777.1 3) (u2777.1 4) (u2777.1 5) (u2777.1 6) wf0 13 (by decide)) hP hD hS hA [0, 1] [2, 3, 4, 5] rfl rfl rfl (by decide) (by decide) (by decide) 0 4 rfl rfl rfl hl.1 rfl (Nat.le_of_ble_eq_true rfl) (by decide) (by decide) dX4_takePupilLine_82 (fun r2780 u2779 H locs hw hP hD hS => ?_)
            replace hP : va_P D vwCl [(wa4, .inr (9, [.ref wa4a0, .ref wa4a1, .ref wa4a2, .ref wa4a3, .ref wa4a4, .ref wa4a5, .ref wa4a6, .ref wa4a7, .int wa4n8, .int wa4n9, .int wa4n10, .int wa4n11])), (wa4a2, .inl (K 1, 4, .inl wa4f2)), (wa4a3, .inl (K 1, 4, .inl wa4f3)), (wa4a4, .inl (K 1, 4, .inl wa4f4)), (w, .inr (4, [.ref wa0, .int wn1, .int (u2779.1 0), .int (u2779.1 1), .ref wa4, .int (u2779.1 2), .int (u2779.1 3), .int (u2779.1 4), .int (u2779.1 5), .int (u2777.1 6)])), (wa0, .inl (K 0, 1000, .inl wf0))] H := hP
            replace hD : va_D A [(wa4, .inr (9, [.ref wa4a0, .ref wa4a1, .ref wa4a2, .ref wa4a3, .ref wa4a4, .ref wa4a5, .ref wa4a6, .ref wa4a7, .int wa4n8, .int wa4n9, .int wa4n10, .int wa4n11])), (wa4a2, .inl (K 1, 4, .inl wa4f2)), (wa4a3, .inl (K 1, 4, .inl wa4f3)), (wa4a4, .inl (K 1, 4, .inl wa4f4)), (w, .inr (4, [.ref wa0, .int wn1, .int (u2779.1 0), .int (u2779.1 1), .ref wa4, .int (u2779.1 2), .int (u2779.1 3), .int (u2779.1 4), .int (u2779.1 5), .int (u2777.1 6)])), (wa0, .inl (K 0, 1000, .inl wf0))] := hD
            replace hP : va_P D vwCl [(w, .inr (4, [.ref wa0, .int wn1, .int (u2779.1 0), .int (u2779.1 1), .ref wa4, .int (u2779.1 2), .int (u2779.1 3), .int (u2779.1 4), .int (u2779.1 5), .int (u2777.1 6)])), (wa0, .inl (K 0, 1000, .inl wf0)), (wa4, .inr (9, [.ref wa4a0, .ref wa4a1, .ref wa4a2, .ref wa4a3, .ref wa4a4, .ref wa4a5, .ref wa4a6, .ref wa4a7, .int wa4n8, .int wa4n9, .int wa4n10, .int wa4n11])), (wa4a2, .inl (K 1, 4, .inl wa4f2)), (wa4a3, .inl (K 1, 4, .inl wa4f3)), (wa4a4, .inl (K 1, 4, .inl wa4f4))] H := hP.sub [4, 5, 0, 1, 2, 3] rfl
            replace hD : va_D A [(w, .inr (4, [.ref wa0, .int wn1, .int (u2779.1 0), .int (u2779.1 1), .ref wa4, .int (u2779.1 2), .int (u2779.1 3), .int (u2779.1 4), .int (u2779.1 5), .int (u2777.1 6)])), (wa0, .inl (K 0, 1000, .inl wf0)), (wa4, .inr (9, [.ref wa4a0, .ref wa4a1, .ref wa4a2, .ref wa4a3, .ref wa4a4, .ref wa4a5, .ref wa4a6, .ref wa4a7, .int wa4n8, .int wa4n9, .int wa4n10, .int wa4n11])), (wa4a2, .inl (K 1, 4, .inl wa4f2)), (wa4a3, .inl (K 1, 4, .inl wa4f3)), (wa4a4, .inl (K 1, 4, .inl wa4f4))] := hD.sub [4, 5, 0, 1, 2, 3] (by decide) rfl
            refine W.widen (k := 0) (n := 0) (by decide) (by decide) ?_
            rcases hw with rfl | rfl
            · refine lv_if_eq (tgt := 105) hx hb dX4_takePupilLine_85 (by decide) (fun _ => ?_) (fun h => absurd h (by decide))
              refine lv_iconst (v := 0) hx hb dX4_takePupilLine_105 (by decide) ?_
              refine W.widen (k := 0) (n := 0) (by decide) (by decide) ?_
              exact ch_zret hC hr hk hS dX4_takePupilLine_106 rfl ((fun k => [(u2779.1 0), (u2779.1 1), (u2779.1 2), (u2779.1 3), (u2779.1 4), (u2779.1 5), (u2777.1 6), wa4n9].getD k 0, fun k => [wa4f2, wa4f3, wa4f4].getD k (fun _ => 0), fun k => [].getD k (fun _ => 0)) : ((Nat → Int32) × (Nat → Nat → Int32) × (Nat → Nat → Int64))) ⟨(Or.inl rfl), (show 0 ≤ (wa4n9 : Int32).toInt from by omega)⟩ (hP.sub [0, 1, 2, 3, 4, 5] rfl) (hD.sub [0, 1, 2, 3, 4, 5] (by decide) rfl)
            · refine lv_if_eq (tgt := 105) hx hb dX4_takePupilLine_85 (by decide) (fun h => absurd h (by decide)) (fun _ => ?_)
              refine lv_aload_n hx hb dX4_takePupilLine_88 rfl (lv_at hl 2 rfl) ?_
              refine lv_iconst (v := 0) hx hb dX4_takePupilLine_89 (by decide) ?_
              refine lv_aload_n hx hb dX4_takePupilLine_90 rfl (lv_at hl 2 rfl) ?_
              refine va_get (D := D) (ci := 4) (v := .ref wa4) (C := RX4) (T := TX4) (N := 10) hx hb hts in_X4 hown hE.1 hP 0 rfl rfl 4 (by decide) (hts _ w_440) (fun _ h9 => h9) rfl dX4_takePupilLine_91 ?_
              refine va_get (D := D) (ci := 9) (v := .int wa4n8) (C := RX10) (T := TX10) (N := 12) hx hb hts in_X10 hown hE.1 hP 2 rfl rfl 8 (by decide) (hts _ w_441) (fun _ h9 => h9) rfl dX4_takePupilLine_94 ?_
              refine lv_iconst (v := 1) hx hb dX4_takePupilLine_97 (by decide) ?_
              refine lv_isub hx hb dX4_takePupilLine_98 ?_
              refine lv_topi (fun v2781 ev2781 => ?_)
              refine ci_V (As := [.int 0, .int v2781]) (rest := []) (wc := [(w, .inr (4, [.ref wa0, .int wn1, .int (u2779.1 0), .int (u2779.1 1), .ref wa4, .int (u2779.1 2), .int (u2779.1 3), .int (u2779.1 4), .int (u2779.1 5), .int (u2777.1 6)])), (wa0, .inl (K 0, 1000, .inl wf0))]) (wr := [(wa4, .inr (9, [.ref wa4a0, .ref wa4a1, .ref wa4a2, .ref wa4a3, .ref wa4a4, .ref wa4a5, .ref wa4a6, .ref wa4a7, .int wa4n8, .int wa4n9, .int wa4n10, .int wa4n11])), (wa4a2, .inl (K 1, 4, .inl wa4f2)), (wa4a3, .inl (K 1, 4, .inl wa4f3)), (wa4a4, .inl (K 1, 4, .inl wa4f4))]) hC hE kV_X4_132 (c_X4_takeNumber l D K w wa0 wa4 wn1 (u2779.1 0) (u2779.1 1) (u2779.1 2) (u2779.1 3) (u2779.1 4) (u2779.1 5) (u2777.1 6) wf0 0 v2781) hP hD hS hA [0, 1] [2, 3, 4, 5] rfl rfl rfl (by decide) (by decide) (by decide) 0 4 rfl rfl rfl hl.1 rfl (Nat.le_of_ble_eq_true rfl) (by decide) (by decide) dX4_takePupilLine_99 (fun r2783 u2782 H locs hw hP hD hS => ?_)
              replace hP : va_P D vwCl [(wa4, .inr (9, [.ref wa4a0, .ref wa4a1, .ref wa4a2, .ref wa4a3, .ref wa4a4, .ref wa4a5, .ref wa4a6, .ref wa4a7, .int wa4n8, .int wa4n9, .int wa4n10, .int wa4n11])), (wa4a2, .inl (K 1, 4, .inl wa4f2)), (wa4a3, .inl (K 1, 4, .inl wa4f3)), (wa4a4, .inl (K 1, 4, .inl wa4f4)), (w, .inr (4, [.ref wa0, .int wn1, .int (u2782.1 0), .int (u2782.1 1), .ref wa4, .int (u2782.1 2), .int (u2782.1 3), .int (u2782.1 4), .int (u2782.1 5), .int (u2782.1 6)])), (wa0, .inl (K 0, 1000, .inl wf0))] H := hP
              replace hD : va_D A [(wa4, .inr (9, [.ref wa4a0, .ref wa4a1, .ref wa4a2, .ref wa4a3, .ref wa4a4, .ref wa4a5, .ref wa4a6, .ref wa4a7, .int wa4n8, .int wa4n9, .int wa4n10, .int wa4n11])), (wa4a2, .inl (K 1, 4, .inl wa4f2)), (wa4a3, .inl (K 1, 4, .inl wa4f3)), (wa4a4, .inl (K 1, 4, .inl wa4f4)), (w, .inr (4, [.ref wa0, .int wn1, .int (u2782.1 0), .int (u2782.1 1), .ref wa4, .int (u2782.1 2), .int (u2782.1 3), .int (u2782.1 4), .int (u2782.1 5), .int (u2782.1 6)])), (wa0, .inl (K 0, 1000, .inl wf0))] := hD
              replace hP : va_P D vwCl [(w, .inr (4, [.ref wa0, .int wn1, .int (u2782.1 0), .int (u2782.1 1), .ref wa4, .int (u2782.1 2), .int (u2782.1 3), .int (u2782.1 4), .int (u2782.1 5), .int (u2782.1 6)])), (wa0, .inl (K 0, 1000, .inl wf0)), (wa4, .inr (9, [.ref wa4a0, .ref wa4a1, .ref wa4a2, .ref wa4a3, .ref wa4a4, .ref wa4a5, .ref wa4a6, .ref wa4a7, .int wa4n8, .int wa4n9, .int wa4n10, .int wa4n11])), (wa4a2, .inl (K 1, 4, .inl wa4f2)), (wa4a3, .inl (K 1, 4, .inl wa4f3)), (wa4a4, .inl (K 1, 4, .inl wa4f4))] H := hP.sub [4, 5, 0, 1, 2, 3] rfl
              replace hD : va_D A [(w, .inr (4, [.ref wa0, .int wn1, .int (u2782.1 0), .int (u2782.1 1), .ref wa4, .int (u2782.1 2), .int (u2782.1 3), .int (u2782.1 4), .int (u2782.1 5), .int (u2782.1 6)])), (wa0, .inl (K 0, 1000, .inl wf0)), (wa4, .inr (9, [.ref wa4a0, .ref wa4a1, .ref wa4a2, .ref wa4a3, .ref wa4a4, .ref wa4a5, .ref wa4a6, .ref wa4a7, .int wa4n8, .int wa4n9, .int wa4n10, .int wa4n11])), (wa4a2, .inl (K 1, 4, .inl wa4f2)), (wa4a3, .inl (K 1, 4, .inl wa4f3)), (wa4a4, .inl (K 1, 4, .inl wa4f4))] := hD.sub [4, 5, 0, 1, 2, 3] (by decide) rfl
              refine W.widen (k := 0) (n := 0) (by decide) (by decide) ?_
              rcases hw with rfl | rfl
              · refine lv_if_ne (tgt := 107) hx hb dX4_takePupilLine_102 (by decide) (fun h => absurd h (by decide)) (fun _ => ?_)
                refine lv_iconst (v := 0) hx hb dX4_takePupilLine_105 (by decide) ?_
                refine W.widen (k := 0) (n := 0) (by decide) (by decide) ?_
                exact ch_zret hC hr hk hS dX4_takePupilLine_106 rfl ((fun k => [(u2782.1 0), (u2782.1 1), (u2782.1 2), (u2782.1 3), (u2782.1 4), (u2782.1 5), (u2782.1 6), wa4n9].getD k 0, fun k => [wa4f2, wa4f3, wa4f4].getD k (fun _ => 0), fun k => [].getD k (fun _ => 0)) : ((Nat → Int32) × (Nat → Nat → Int32) × (Nat → Nat → Int64))) ⟨(Or.inl rfl), (show 0 ≤ (wa4n9 : Int32).toInt from by omega)⟩ (hP.sub [0, 1, 2, 3, 4, 5] rfl) (hD.sub [0, 1, 2, 3, 4, 5] (by decide) rfl)
              · refine lv_if_ne (tgt := 107) hx hb dX4_takePupilLine_102 (by decide) (fun _ => ?_) (fun h => absurd h (by decide))
                refine lv_iconst (v := 1) hx hb dX4_takePupilLine_107 (by decide) ?_
                refine lv_aload_n hx hb dX4_takePupilLine_108 rfl (lv_at hl 2 rfl) ?_
                refine va_get (D := D) (ci := 4) (v := .int (u2782.1 6)) (C := RX4) (T := TX4) (N := 10) hx hb hts in_X4 hown hE.1 hP 0 rfl rfl 9 (by decide) (hts _ w_439) (fun _ h9 => h9) rfl dX4_takePupilLine_109 ?_
                refine lv_ishl hx hb dX4_takePupilLine_112 ?_
                refine lv_topi (fun v2784 ev2784 => ?_)
                refine lv_istore_n (lv' := [(3, .int v2784), (2, .int (u2777.1 6)), (1, .int (u2773.1 6)), (0, .ref w)]) hx hb dX4_takePupilLine_113 rfl hl (by decide) rfl (fun ls hl => ?_)
                refine lv_iconst (v := 0) hx hb dX4_takePupilLine_114 (by decide) ?_
                refine lv_istore (lv' := [(4, .int 0), (3, .int v2784), (2, .int (u2777.1 6)), (1, .int (u2773.1 6)), (0, .ref w)]) hx hb dX4_takePupilLine_115 hl (by decide) rfl (fun ls hl => ?_)
                have hl' := hl; have hP' := hP; have hD' := hD; clear hl hP hD
                obtain ⟨i2795, i2796, w2797, w2798, w2799, w2800, w2801, w2802, w2803, hi_117, hl, hP, hD⟩ : ∃ (i2795 : Int32) (i2796 : Int32) (w2797 : Int32) (w2798 : Int32) (w2799 : Int32) (w2800 : Int32) (w2801 : Int32) (w2802 : Int32) (w2803 : Int32), ((0 : Int) ≤ i2795.toInt) ∧ lv_has ls 5 [(4, .int i2795), (3, .int i2796), (2, .int (u2777.1 6)), (1, .int (u2773.1 6)), (0, .ref w)] ∧ va_P D vwCl [(w, .inr (4, [.ref wa0, .int wn1, .int w2797, .int w2798, .ref wa4, .int w2799, .int w2800, .int w2801, .int w2802, .int w2803])), (wa0, .inl (K 0, 1000, .inl wf0)), (wa4, .inr (9, [.ref wa4a0, .ref wa4a1, .ref wa4a2, .ref wa4a3, .ref wa4a4, .ref wa4a5, .ref wa4a6, .ref wa4a7, .int wa4n8, .int wa4n9, .int wa4n10, .int wa4n11])), (wa4a2, .inl (K 1, 4, .inl wa4f2)), (wa4a3, .inl (K 1, 4, .inl wa4f3)), (wa4a4, .inl (K 1, 4, .inl wa4f4))] H ∧ va_D A [(w, .inr (4, [.ref wa0, .int wn1, .int w2797, .int w2798, .ref wa4, .int w2799, .int w2800, .int w2801, .int w2802, .int w2803])), (wa0, .inl (K 0, 1000, .inl wf0)), (wa4, .inr (9, [.ref wa4a0, .ref wa4a1, .ref wa4a2, .ref wa4a3, .ref wa4a4, .ref wa4a5, .ref wa4a6, .ref wa4a7, .int wa4n8, .int wa4n9, .int wa4n10, .int wa4n11])), (wa4a2, .inl (K 1, 4, .inl wa4f2)), (wa4a3, .inl (K 1, 4, .inl wa4f3)), (wa4a4, .inl (K 1, 4, .inl wa4f4))] := ⟨_, _, _, _, _, _, _, _, _, by omega, hl', hP', hD'⟩
                clear hl' hP' hD'
                obtain ⟨n_117, hn_117⟩ : ∃ n : Nat, (1000 - i2795.toInt).toNat < n := ⟨_, Nat.lt_succ_self _⟩
                induction n_117 generalizing i2795 i2796 w2797 w2798 w2799 w2800 w2801 w2802 w2803 H locs ls with
                | zero => exact absurd hn_117 (Nat.not_lt_zero _)
                | succ n_117 ih_117 =>
                  refine lv_iload hx hb dX4_takePupilLine_117 (lv_at hl 0 rfl) ?_
                  refine lv_sipush (v := 1000) hx hb dX4_takePupilLine_119 (by decide) ?_
                  refine lv_icmp_ge (tgt := 167) hx hb dX4_takePupilLine_122 (by decide) (fun c2804 => ?_) (fun c2804 => ?_)
                  · replace c2804 := le_i c2804
                    refine lv_aload_n hx hb dX4_takePupilLine_167 rfl (lv_at hl 4 rfl) ?_
                    refine va_get (D := D) (ci := 4) (v := .ref wa4) (C := RX4) (T := TX4) (N := 10) hx hb hts in_X4 hown hE.1 hP 0 rfl rfl 4 (by decide) (hts _ w_440) (fun _ h9 => h9) rfl dX4_takePupilLine_168 ?_
                    refine lv_iload_n hx hb dX4_takePupilLine_171 rfl (lv_at hl 3 rfl) ?_
                    refine lv_iload_n hx hb dX4_takePupilLine_172 rfl (lv_at hl 2 rfl) ?_
                    refine lv_iload_n hx hb dX4_takePupilLine_173 rfl (lv_at hl 1 rfl) ?_
                    refine cv_V (As := [.int (u2773.1 6), .int (u2777.1 6), .int i2796]) (rest := []) (wc := [(wa4, .inr (9, [.ref wa4a0, .ref wa4a1, .ref wa4a2, .ref wa4a3, .ref wa4a4, .ref wa4a5, .ref wa4a6, .ref wa4a7, .int wa4n8, .int wa4n9, .int wa4n10, .int wa4n11])), (wa4a2, .inl (K 1, 4, .inl wa4f2)), (wa4a3, .inl (K 1, 4, .inl wa4f3)), (wa4a4, .inl (K 1, 4, .inl wa4f4))]) (wr := [(w, .inr (4, [.ref wa0, .int wn1, .int w2797, .int w2798, .ref wa4, .int w2799, .int w2800, .int w2801, .int w2802, .int w2803])), (wa0, .inl (K 0, 1000, .inl wf0))]) hC hE kV_X4_162 (c_X10_addPupil l D K wa4 wa4a0 wa4a1 wa4a2 wa4a3 wa4a4 wa4a5 wa4a6 wa4a7 wa4n8 wa4n9 wa4n10 wa4n11 wa4f2 wa4f3 wa4f4 (u2773.1 6) (u2777.1 6) i2796 (by omega)) hP hD hS hA [2, 3, 4, 5] [0, 1] rfl rfl rfl (by decide) (by decide) (by decide) 0 9 rfl rfl rfl hl.1 rfl (Nat.le_of_ble_eq_true rfl) (by decide) (by decide) dX4_takePupilLine_174 (fun u2805 H locs hw hP hD hS => ?_)
                    replace hP : va_P D vwCl [(w, .inr (4, [.ref wa0, .int wn1, .int w2797, .int w2798, .ref wa4, .int w2799, .int w2800, .int w2801, .int w2802, .int w2803])), (wa0, .inl (K 0, 1000, .inl wf0)), (wa4, .inr (9, [.ref wa4a0, .ref wa4a1, .ref wa4a2, .ref wa4a3, .ref wa4a4, .ref wa4a5, .ref wa4a6, .ref wa4a7, .int wa4n8, .int (u2805.1 0), .int wa4n10, .int wa4n11])), (wa4a2, .inl (K 1, 4, .inl (u2805.2.1 0))), (wa4a3, .inl (K 1, 4, .inl (u2805.2.1 1))), (wa4a4, .inl (K 1, 4, .inl (u2805.2.1 2)))] H := hP
                    replace hD : va_D A [(w, .inr (4, [.ref wa0, .int wn1, .int w2797, .int w2798, .ref wa4, .int w2799, .int w2800, .int w2801, .int w2802, .int w2803])), (wa0, .inl (K 0, 1000, .inl wf0)), (wa4, .inr (9, [.ref wa4a0, .ref wa4a1, .ref wa4a2, .ref wa4a3, .ref wa4a4, .ref wa4a5, .ref wa4a6, .ref wa4a7, .int wa4n8, .int (u2805.1 0), .int wa4n10, .int wa4n11])), (wa4a2, .inl (K 1, 4, .inl (u2805.2.1 0))), (wa4a3, .inl (K 1, 4, .inl (u2805.2.1 1))), (wa4a4, .inl (K 1, 4, .inl (u2805.2.1 2)))] := hD
                    replace hP : va_P D vwCl [(w, .inr (4, [.ref wa0, .int wn1, .int w2797, .int w2798, .ref wa4, .int w2799, .int w2800, .int w2801, .int w2802, .int w2803])), (wa0, .inl (K 0, 1000, .inl wf0)), (wa4, .inr (9, [.ref wa4a0, .ref wa4a1, .ref wa4a2, .ref wa4a3, .ref wa4a4, .ref wa4a5, .ref wa4a6, .ref wa4a7, .int wa4n8, .int (u2805.1 0), .int wa4n10, .int wa4n11])), (wa4a2, .inl (K 1, 4, .inl (u2805.2.1 0))), (wa4a3, .inl (K 1, 4, .inl (u2805.2.1 1))), (wa4a4, .inl (K 1, 4, .inl (u2805.2.1 2)))] H := hP.sub [0, 1, 2, 3, 4, 5] rfl
                    replace hD : va_D A [(w, .inr (4, [.ref wa0, .int wn1, .int w2797, .int w2798, .ref wa4, .int w2799, .int w2800, .int w2801, .int w2802, .int w2803])), (wa0, .inl (K 0, 1000, .inl wf0)), (wa4, .inr (9, [.ref wa4a0, .ref wa4a1, .ref wa4a2, .ref wa4a3, .ref wa4a4, .ref wa4a5, .ref wa4a6, .ref wa4a7, .int wa4n8, .int (u2805.1 0), .int wa4n10, .int wa4n11])), (wa4a2, .inl (K 1, 4, .inl (u2805.2.1 0))), (wa4a3, .inl (K 1, 4, .inl (u2805.2.1 1))), (wa4a4, .inl (K 1, 4, .inl (u2805.2.1 2)))] := hD.sub [0, 1, 2, 3, 4, 5] (by decide) rfl
                    refine W.widen (k := 0) (n := 0) (by decide) (by decide) ?_
                    have hf := hw
                    have f2807 : 0 ≤ (u2805.1 0).toInt := hf
                    refine lv_iconst (v := 1) hx hb dX4_takePupilLine_177 (by decide) ?_
                    refine W.widen (k := 0) (n := 0) (by decide) (by decide) ?_
                    exact ch_zret hC hr hk hS dX4_takePupilLine_178 rfl ((fun k => [w2797, w2798, w2799, w2800, w2801, w2802, w2803, (u2805.1 0)].getD k 0, fun k => [(u2805.2.1 0), (u2805.2.1 1), (u2805.2.1 2)].getD k (fun _ => 0), fun k => [].getD k (fun _ => 0)) : ((Nat → Int32) × (Nat → Nat → Int32) × (Nat → Nat → Int64))) ⟨(Or.inr rfl), (show 0 ≤ ((u2805.1 0) : Int32).toInt from by omega)⟩ (hP.sub [0, 1, 2, 3, 4, 5] rfl) (hD.sub [0, 1, 2, 3, 4, 5] (by decide) rfl)
                  · replace c2804 := nle_i c2804
                    refine lv_aload_n hx hb dX4_takePupilLine_125 rfl (lv_at hl 4 rfl) ?_
                    refine va_get (D := D) (ci := 4) (v := .int w2799) (C := RX4) (T := TX4) (N := 10) hx hb hts in_X4 hown hE.1 hP 0 rfl rfl 5 (by decide) (hts _ w_404) (fun _ h9 => h9) rfl dX4_takePupilLine_126 ?_
                    refine lv_iconst (v := 2) hx hb dX4_takePupilLine_129 (by decide) ?_
                    refine lv_icmp_ne (tgt := 167) hx hb dX4_takePupilLine_130 (by decide) (fun c2808 => ?_) (fun c2808 => ?_)
                    · replace c2808 := ne_i c2808
                      refine lv_aload_n hx hb dX4_takePupilLine_167 rfl (lv_at hl 4 rfl) ?_
                      refine va_get (D := D) (ci := 4) (v := .ref wa4) (C := RX4) (T := TX4) (N := 10) hx hb hts in_X4 hown hE.1 hP 0 rfl rfl 4 (by decide) (hts _ w_440) (fun _ h9 => h9) rfl dX4_takePupilLine_168 ?_
                      refine lv_iload_n hx hb dX4_takePupilLine_171 rfl (lv_at hl 3 rfl) ?_
                      refine lv_iload_n hx hb dX4_takePupilLine_172 rfl (lv_at hl 2 rfl) ?_
                      refine lv_iload_n hx hb dX4_takePupilLine_173 rfl (lv_at hl 1 rfl) ?_
                      refine cv_V (As := [.int (u2773.1 6), .int (u2777.1 6), .int i2796]) (rest := []) (wc := [(wa4, .inr (9, [.ref wa4a0, .ref wa4a1, .ref wa4a2, .ref wa4a3, .ref wa4a4, .ref wa4a5, .ref wa4a6, .ref wa4a7, .int wa4n8, .int wa4n9, .int wa4n10, .int wa4n11])), (wa4a2, .inl (K 1, 4, .inl wa4f2)), (wa4a3, .inl (K 1, 4, .inl wa4f3)), (wa4a4, .inl (K 1, 4, .inl wa4f4))]) (wr := [(w, .inr (4, [.ref wa0, .int wn1, .int w2797, .int w2798, .ref wa4, .int w2799, .int w2800, .int w2801, .int w2802, .int w2803])), (wa0, .inl (K 0, 1000, .inl wf0))]) hC hE kV_X4_162 (c_X10_addPupil l D K wa4 wa4a0 wa4a1 wa4a2 wa4a3 wa4a4 wa4a5 wa4a6 wa4a7 wa4n8 wa4n9 wa4n10 wa4n11 wa4f2 wa4f3 wa4f4 (u2773.1 6) (u2777.1 6) i2796 (by omega)) hP hD hS hA [2, 3, 4, 5] [0, 1] rfl rfl rfl (by decide) (by decide) (by decide) 0 9 rfl rfl rfl hl.1 rfl (Nat.le_of_ble_eq_true rfl) (by decide) (by decide) dX4_takePupilLine_174 (fun u2809 H locs hw hP hD hS => ?_)
                      replace hP : va_P D vwCl [(w, .inr (4, [.ref wa0, .int wn1, .int w2797, .int w2798, .ref wa4, .int w2799, .int w2800, .int w2801, .int w2802, .int w2803])), (wa0, .inl (K 0, 1000, .inl wf0)), (wa4, .inr (9, [.ref wa4a0, .ref wa4a1, .ref wa4a2, .ref wa4a3, .ref wa4a4, .ref wa4a5, .ref wa4a6, .ref wa4a7, .int wa4n8, .int (u2809.1 0), .int wa4n10, .int wa4n11])), (wa4a2, .inl (K 1, 4, .inl (u2809.2.1 0))), (wa4a3, .inl (K 1, 4, .inl (u2809.2.1 1))), (wa4a4, .inl (K 1, 4, .inl (u2809.2.1 2)))] H := hP
                      replace hD : va_D A [(w, .inr (4, [.ref wa0, .int wn1, .int w2797, .int w2798, .ref wa4, .int w2799, .int w2800, .int w2801, .int w2802, .int w2803])), (wa0, .inl (K 0, 1000, .inl wf0)), (wa4, .inr (9, [.ref wa4a0, .ref wa4a1, .ref wa4a2, .ref wa4a3, .ref wa4a4, .ref wa4a5, .ref wa4a6, .ref wa4a7, .int wa4n8, .int (u2809.1 0), .int wa4n10, .int wa4n11])), (wa4a2, .inl (K 1, 4, .inl (u2809.2.1 0))), (wa4a3, .inl (K 1, 4, .inl (u2809.2.1 1))), (wa4a4, .inl (K 1, 4, .inl (u2809.2.1 2)))] := hD
                      replace hP : va_P D vwCl [(w, .inr (4, [.ref wa0, .int wn1, .int w2797, .int w2798, .ref wa4, .int w2799, .int w2800, .int w2801, .int w2802, .int w2803])), (wa0, .inl (K 0, 1000, .inl wf0)), (wa4, .inr (9, [.ref wa4a0, .ref wa4a1, .ref wa4a2, .ref wa4a3, .ref wa4a4, .ref wa4a5, .ref wa4a6, .ref wa4a7, .int wa4n8, .int (u2809.1 0), .int wa4n10, .int wa4n11])), (wa4a2, .inl (K 1, 4, .inl (u2809.2.1 0))), (wa4a3, .inl (K 1, 4, .inl (u2809.2.1 1))), (wa4a4, .inl (K 1, 4, .inl (u2809.2.1 2)))] H := hP.sub [0, 1, 2, 3, 4, 5] rfl
                      replace hD : va_D A [(w, .inr (4, [.ref wa0, .int wn1, .int w2797, .int w2798, .ref wa4, .int w2799, .int w2800, .int w2801, .int w2802, .int w2803])), (wa0, .inl (K 0, 1000, .inl wf0)), (wa4, .inr (9, [.ref wa4a0, .ref wa4a1, .ref wa4a2, .ref wa4a3, .ref wa4a4, .ref wa4a5, .ref wa4a6, .ref wa4a7, .int wa4n8, .int (u2809.1 0), .int wa4n10, .int wa4n11])), (wa4a2, .inl (K 1, 4, .inl (u2809.2.1 0))), (wa4a3, .inl (K 1, 4, .inl (u2809.2.1 1))), (wa4a4, .inl (K 1, 4, .inl (u2809.2.1 2)))] := hD.sub [0, 1, 2, 3, 4, 5] (by decide) rfl
                      refine W.widen (k := 0) (n := 0) (by decide) (by decide) ?_
                      have hf := hw
                      have f2811 : 0 ≤ (u2809.1 0).toInt := hf
                      refine lv_iconst (v := 1) hx hb dX4_takePupilLine_177 (by decide) ?_
                      refine W.widen (k := 0) (n := 0) (by decide) (by decide) ?_
                      exact ch_zret hC hr hk hS dX4_takePupilLine_178 rfl ((fun k => [w2797, w2798, w2799, w2800, w2801, w2802, w2803, (u2809.1 0)].getD k 0, fun k => [(u2809.2.1 0), (u2809.2.1 1), (u2809.2.1 2)].getD k (fun _ => 0), fun k => [].getD k (fun _ => 0)) : ((Nat → Int32) × (Nat → Nat → Int32) × (Nat → Nat → Int64))) ⟨(Or.inr rfl), (show 0 ≤ ((u2809.1 0) : Int32).toInt from by omega)⟩ (hP.sub [0, 1, 2, 3, 4, 5] rfl) (hD.sub [0, 1, 2, 3, 4, 5] (by decide) rfl)
                    · replace c2808 := eq_i c2808
                      refine lv_aload_n hx hb dX4_takePupilLine_133 rfl (lv_at hl 4 rfl) ?_
                      refine lv_iconst (v := 0) hx hb dX4_takePupilLine_134 (by decide) ?_
                      refine lv_aload_n hx hb dX4_takePupilLine_135 rfl (lv_at hl 4 rfl) ?_
                      refine va_get (D := D) (ci := 4) (v := .ref wa4) (C := RX4) (T := TX4) (N := 10) hx hb hts in_X4 hown hE.1 hP 0 rfl rfl 4 (by decide) (hts _ w_440) (fun _ h9 => h9) rfl dX4_takePupilLine_136 ?_
                      refine va_get (D := D) (ci := 9) (v := .int wa4n8) (C := RX10) (T := TX10) (N := 12) hx hb hts in_X10 hown hE.1 hP 2 rfl rfl 8 (by decide) (hts _ w_441) (fun _ h9 => h9) rfl dX4_takePupilLine_139 ?_
                      refine lv_iconst (v := 1) hx hb dX4_takePupilLine_142 (by decide) ?_
                      refine lv_isub hx hb dX4_takePupilLine_143 ?_
                      refine lv_topi (fun v2812 ev2812 => ?_)
                      refine ci_V (As := [.int 0, .int v2812]) (rest := []) (wc := [(w, .inr (4, [.ref wa0, .int wn1, .int w2797, .int w2798, .ref wa4, .int w2799, .int w2800, .int w2801, .int w2802, .int w2803])), (wa0, .inl (K 0, 1000, .inl wf0))]) (wr := [(wa4, .inr (9, [.ref wa4a0, .ref wa4a1, .ref wa4a2, .ref wa4a3, .ref wa4a4, .ref wa4a5, .ref wa4a6, .ref wa4a7, .int wa4n8, .int wa4n9, .int wa4n10, .int wa4n11])), (wa4a2, .inl (K 1, 4, .inl wa4f2)), (wa4a3, .inl (K 1, 4, .inl wa4f3)), (wa4a4, .inl (K 1, 4, .inl wa4f4))]) hC hE kV_X4_132 (c_X4_takeNumber l D K w wa0 wa4 wn1 w2797 w2798 w2799 w2800 w2801 w2802 w2803 wf0 0 v2812) hP hD hS hA [0, 1] [2, 3, 4, 5] rfl rfl rfl (by decide) (by decide) (by decide) 0 4 rfl rfl rfl hl.1 rfl (Nat.le_of_ble_eq_true rfl) (by decide) (by decide) dX4_takePupilLine_144 (fun r2814 u2813 H locs hw hP hD hS => ?_)
                      replace hP : va_P D vwCl [(wa4, .inr (9, [.ref wa4a0, .ref wa4a1, .ref wa4a2, .ref wa4a3, .ref wa4a4, .ref wa4a5, .ref wa4a6, .ref wa4a7, .int wa4n8, .int wa4n9, .int wa4n10, .int wa4n11])), (wa4a2, .inl (K 1, 4, .inl wa4f2)), (wa4a3, .inl (K 1, 4, .inl wa4f3)), (wa4a4, .inl (K 1, 4, .inl wa4f4)), (w, .inr (4, [.ref wa0, .int wn1, .int (u2813.1 0), .int (u2813.1 1), .ref wa4, .int (u2813.1 2), .int (u2813.1 3), .int (u2813.1 4), .int (u2813.1 5), .int (u2813.1 6)])), (wa0, .inl (K 0, 1000, .inl wf0))] H := hP
                      replace hD : va_D A [(wa4, .inr (9, [.ref wa4a0, .ref wa4a1, .ref wa4a2, .ref wa4a3, .ref wa4a4, .ref wa4a5, .ref wa4a6, .ref wa4a7, .int wa4n8, .int wa4n9, .int wa4n10, .int wa4n11])), (wa4a2, .inl (K 1, 4, .inl wa4f2)), (wa4a3, .inl (K 1, 4, .inl wa4f3)), (wa4a4, .inl (K 1, 4, .inl wa4f4)), (w, .inr (4, [.ref wa0, .int wn1, .int (u2813.1 0), .int (u2813.1 1), .ref wa4, .int (u2813.1 2), .int (u2813.1 3), .int (u2813.1 4), .int (u2813.1 5), .int (u2813.1 6)])), (wa0, .inl (K 0, 1000, .inl wf0))] := hD
                      replace hP : va_P D vwCl [(w, .inr (4, [.ref wa0, .int wn1, .int (u2813.1 0), .int (u2813.1 1), .ref wa4, .int (u2813.1 2), .int (u2813.1 3), .int (u2813.1 4), .int (u2813.1 5), .int (u2813.1 6)])), (wa0, .inl (K 0, 1000, .inl wf0)), (wa4, .inr (9, [.ref wa4a0, .ref wa4a1, .ref wa4a2, .ref wa4a3, .ref wa4a4, .ref wa4a5, .ref wa4a6, .ref wa4a7, .int wa4n8, .int wa4n9, .int wa4n10, .int wa4n11])), (wa4a2, .inl (K 1, 4, .inl wa4f2)), (wa4a3, .inl (K 1, 4, .inl wa4f3)), (wa4a4, .inl (K 1, 4, .inl wa4f4))] H := hP.sub [4, 5, 0, 1, 2, 3] rfl
                      replace hD : va_D A [(w, .inr (4, [.ref wa0, .int wn1, .int (u2813.1 0), .int (u2813.1 1), .ref wa4, .int (u2813.1 2), .int (u2813.1 3), .int (u2813.1 4), .int (u2813.1 5), .int (u2813.1 6)])), (wa0, .inl (K 0, 1000, .inl wf0)), (wa4, .inr (9, [.ref wa4a0, .ref wa4a1, .ref wa4a2, .ref wa4a3, .ref wa4a4, .ref wa4a5, .ref wa4a6, .ref wa4a7, .int wa4n8, .int wa4n9, .int wa4n10, .int wa4n11])), (wa4a2, .inl (K 1, 4, .inl wa4f2)), (wa4a3, .inl (K 1, 4, .inl wa4f3)), (wa4a4, .inl (K 1, 4, .inl wa4f4))] := hD.sub [4, 5, 0, 1, 2, 3] (by decide) rfl
                      refine W.widen (k := 0) (n := 0) (by decide) (by decide) ?_
                      rcases hw with rfl | rfl
                      · refine lv_if_ne (tgt := 152) hx hb dX4_takePupilLine_147 (by decide) (fun h => absurd h (by decide)) (fun _ => ?_)
                        refine lv_iconst (v := 0) hx hb dX4_takePupilLine_150 (by decide) ?_
                        refine W.widen (k := 0) (n := 0) (by decide) (by decide) ?_
                        exact ch_zret hC hr hk hS dX4_takePupilLine_151 rfl ((fun k => [(u2813.1 0), (u2813.1 1), (u2813.1 2), (u2813.1 3), (u2813.1 4), (u2813.1 5), (u2813.1 6), wa4n9].getD k 0, fun k => [wa4f2, wa4f3, wa4f4].getD k (fun _ => 0), fun k => [].getD k (fun _ => 0)) : ((Nat → Int32) × (Nat → Nat → Int32) × (Nat → Nat → Int64))) ⟨(Or.inl rfl), (show 0 ≤ (wa4n9 : Int32).toInt from by omega)⟩ (hP.sub [0, 1, 2, 3, 4, 5] rfl) (hD.sub [0, 1, 2, 3, 4, 5] (by decide) rfl)
                      · refine lv_if_ne (tgt := 152) hx hb dX4_takePupilLine_147 (by decide) (fun _ => ?_) (fun h => absurd h (by decide))
                        refine lv_iload_n hx hb dX4_takePupilLine_152 rfl (lv_at hl 1 rfl) ?_
                        refine lv_iconst (v := 1) hx hb dX4_takePupilLine_153 (by decide) ?_
                        refine lv_aload_n hx hb dX4_takePupilLine_154 rfl (lv_at hl 4 rfl) ?_
                        refine va_get (D := D) (ci := 4) (v := .int (u2813.1 6)) (C := RX4) (T := TX4) (N := 10) hx hb hts in_X4 hown hE.1 hP 0 rfl rfl 9 (by decide) (hts _ w_439) (fun _ h9 => h9) rfl dX4_takePupilLine_155 ?_
                        refine lv_ishl hx hb dX4_takePupilLine_158 ?_
                        refine lv_topi (fun v2815 ev2815 => ?_)
                        refine lv_ior hx hb dX4_takePupilLine_159 ?_
                        refine lv_topi (fun v2816 ev2816 => ?_)
                        refine lv_istore_n (lv' := [(3, .int v2816), (4, .int i2795), (2, .int (u2777.1 6)), (1, .int (u2773.1 6)), (0, .ref w)]) hx hb dX4_takePupilLine_160 rfl hl (by decide) rfl (fun ls hl => ?_)
                        obtain ⟨v2817, ev2817⟩ : ∃ z : Int32, z = i2795 + 1 := ⟨_, rfl⟩
                        refine lv_iinc (v := v2817) (lv' := [(4, .int v2817), (3, .int v2816), (2, .int (u2777.1 6)), (1, .int (u2773.1 6)), (0, .ref w)]) hx hb dX4_takePupilLine_161 hl (k := 1) rfl (by rw [ev2817]; rfl) (by decide) rfl (fun ls hl => ?_)
                        refine lv_goto (tgt := 117) hx hb dX4_takePupilLine_164 (by decide) ?_
                        have tv2817 : v2817.toInt = (i2795 : Int32).toInt + (1 : Int32).toInt := add_i ev2817 (by omega) (by omega)
                        exact ih_117 (i2795 := v2817) (i2796 := v2816) (w2797 := (u2813.1 0)) (w2798 := (u2813.1 1)) (w2799 := (u2813.1 2)) (w2800 := (u2813.1 3)) (w2801 := (u2813.1 4)) (w2802 := (u2813.1 5)) (w2803 := (u2813.1 6)) (hi_117 := by omega) (H := H) (locs := locs) (ls := ls) (hn_117 := by omega) (hP := hP) (hD := hD) (hS := hS) (hl := lv_sub hl [0, 1, 2, 3, 4] rfl)
  · replace c2767 := nlt_i c2767
    refine lv_aload_n hx hb dX4_takePupilLine_11 rfl (lv_at hl 0 rfl) ?_
    refine lv_iconst (v := 3) hx hb dX4_takePupilLine_12 (by decide) ?_
    refine ci_V (As := [.int 3]) (rest := []) (wc := [(w, .inr (4, [.ref wa0, .int wn1, .int wn2, .int wn3, .ref wa4, .int wn5, .int wn6, .int wn7, .int wn8, .int wn9]))]) (wr := [(wa0, .inl (K 0, 1000, .inl wf0)), (wa4, .inr (9, [.ref wa4a0, .ref wa4a1, .ref wa4a2, .ref wa4a3, .ref wa4a4, .ref wa4a5, .ref wa4a6, .ref wa4a7, .int wa4n8, .int wa4n9, .int wa4n10, .int wa4n11])), (wa4a2, .inl (K 1, 4, .inl wa4f2)), (wa4a3, .inl (K 1, 4, .inl wa4f3)), (wa4a4, .inl (K 1, 4, .inl wa4f4))]) hC hE kV_X4_87 (c_X4_refuse l D K w wa0 wa4 wn1 wn2 wn3 wn5 wn6 wn7 wn8 wn9 3) hP hD hS hA [0] [1, 2, 3, 4, 5] rfl rfl rfl (by decide) (by decide) (by decide) 0 4 rfl rfl rfl hl.1 rfl (Nat.le_of_ble_eq_true rfl) (by decide) (by decide) dX4_takePupilLine_13 (fun r2819 u2818 H locs hw hP hD hS => ?_)
    replace hP : va_P D vwCl [(wa0, .inl (K 0, 1000, .inl wf0)), (wa4, .inr (9, [.ref wa4a0, .ref wa4a1, .ref wa4a2, .ref wa4a3, .ref wa4a4, .ref wa4a5, .ref wa4a6, .ref wa4a7, .int wa4n8, .int wa4n9, .int wa4n10, .int wa4n11])), (wa4a2, .inl (K 1, 4, .inl wa4f2)), (wa4a3, .inl (K 1, 4, .inl wa4f3)), (wa4a4, .inl (K 1, 4, .inl wa4f4)), (w, .inr (4, [.ref wa0, .int wn1, .int (u2818.1 0), .int (u2818.1 1), .ref wa4, .int wn5, .int wn6, .int wn7, .int wn8, .int wn9]))] H := hP
    replace hD : va_D A [(wa0, .inl (K 0, 1000, .inl wf0)), (wa4, .inr (9, [.ref wa4a0, .ref wa4a1, .ref wa4a2, .ref wa4a3, .ref wa4a4, .ref wa4a5, .ref wa4a6, .ref wa4a7, .int wa4n8, .int wa4n9, .int wa4n10, .int wa4n11])), (wa4a2, .inl (K 1, 4, .inl wa4f2)), (wa4a3, .inl (K 1, 4, .inl wa4f3)), (wa4a4, .inl (K 1, 4, .inl wa4f4)), (w, .inr (4, [.ref wa0, .int wn1, .int (u2818.1 0), .int (u2818.1 1), .ref wa4, .int wn5, .int wn6, .int wn7, .int wn8, .int wn9]))] := hD
    replace hP : va_P D vwCl [(w, .inr (4, [.ref wa0, .int wn1, .int (u2818.1 0), .int (u2818.1 1), .ref wa4, .int wn5, .int wn6, .int wn7, .int wn8, .int wn9])), (wa0, .inl (K 0, 1000, .inl wf0)), (wa4, .inr (9, [.ref wa4a0, .ref wa4a1, .ref wa4a2, .ref wa4a3, .ref wa4a4, .ref wa4a5, .ref wa4a6, .ref wa4a7, .int wa4n8, .int wa4n9, .int wa4n10, .int wa4n11])), (wa4a2, .inl (K 1, 4, .inl wa4f2)), (wa4a3, .inl (K 1, 4, .inl wa4f3)), (wa4a4, .inl (K 1, 4, .inl wa4f4))] H := hP.sub [5, 0, 1, 2, 3, 4] rfl
    replace hD : va_D A [(w, .inr (4, [.ref wa0, .int wn1, .int (u2818.1 0), .int (u2818.1 1), .ref wa4, .int wn5, .int wn6, .int wn7, .int wn8, .int wn9])), (wa0, .inl (K 0, 1000, .inl wf0)), (wa4, .inr (9, [.ref wa4a0, .ref wa4a1, .ref wa4a2, .ref wa4a3, .ref wa4a4, .ref wa4a5, .ref wa4a6, .ref wa4a7, .int wa4n8, .int wa4n9, .int wa4n10, .int wa4n11])), (wa4a2, .inl (K 1, 4, .inl wa4f2)), (wa4a3, .inl (K 1, 4, .inl wa4f3)), (wa4a4, .inl (K 1, 4, .inl wa4f4))] := hD.sub [5, 0, 1, 2, 3, 4] (by decide) rfl
    refine W.widen (k := 0) (n := 0) (by decide) (by decide) ?_
    obtain rfl := hw
    refine W.widen (k := 0) (n := 0) (by decide) (by decide) ?_
    exact ch_zret hC hr hk hS dX4_takePupilLine_16 rfl ((fun k => [(u2818.1 0), (u2818.1 1), wn5, wn6, wn7, wn8, wn9, wa4n9].getD k 0, fun k => [wa4f2, wa4f3, wa4f4].getD k (fun _ => 0), fun k => [].getD k (fun _ => 0)) : ((Nat → Int32) × (Nat → Nat → Int32) × (Nat → Nat → Int64))) ⟨(Or.inl rfl), (show 0 ≤ (wa4n9 : Int32).toInt from by omega)⟩ (hP.sub [0, 1, 2, 3, 4, 5] rfl) (hD.sub [0, 1, 2, 3, 4, 5] (by decide) rfl)
