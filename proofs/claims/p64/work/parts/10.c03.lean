set_option maxRecDepth 40000 in
set_option maxHeartbeats 4000000 in
theorem c_X5_width (l : Launch) (D : va_G) (K : Nat → ClassId) (w : Nat) (wa0 : Nat) (wa1 : Nat) (wa2 : Nat) (wf1 : Nat → Int32) (p0 : Int32) : Ro l D K yX5_width cX5_width 2 (some .int) 1 20 [.ref w, .int p0] [(w, .inr (5, [.ref wa0, .ref wa1, .ref wa2])), (wa1, .inl (K 1, 4, .inl wf1))] (fun _ => True) := by
  refine ro_of (by decide) (Nat.le_of_ble_eq_true rfl) ?_
  intro p e s m below meth c hC hr hk hE hP ls hl
  replace hC : CallFix p m c cX5_width 2 s [.ref w, .int p0].toArray wl RX5 := hC
  have hx := hC.1
  have hb := hC.2.1
  have hml := hC.2.2.1
  have hown := hC.2.2.2.1
  have hts := hC.2.2.2.2
  replace hl : lv_has ls 2 [(0, .ref w), (1, .int p0)] := hl
  refine lv_iload_n hx hb dX5_width_0 rfl (lv_at hl 1 rfl) ?_
  refine ro_SN (As := [.int p0]) (rest := []) hC hE kSN_X5_28 (c_X11_isSlot l D K p0) (hP.sub (ws' := []) [] rfl) rfl hl.1 rfl (Nat.le_of_ble_eq_true rfl) (by decide) (by decide) dX5_width_1 (fun r445 hq => ?_)
  rcases hq with rfl | ⟨rfl, h443, h444⟩
  · refine lv_if_eq (tgt := 16) hx hb dX5_width_4 (by decide) (fun _ => ?_) (fun h => absurd h (by decide))
    refine lv_iconst (v := (-1)) hx hb dX5_width_16 (by decide) ?_
    exact ro_ret hC hr hk dX5_width_17 trivial
  · refine lv_if_eq (tgt := 16) hx hb dX5_width_4 (by decide) (fun h => absurd h (by decide)) (fun _ => ?_)
    refine lv_aload_n hx hb dX5_width_7 rfl (lv_at hl 0 rfl) ?_
    refine va_get (D := D) (ci := 5) (v := .ref wa1) (C := RX5) (T := TX5) (N := 3) hx hb hts in_X5 hown hE.1 hP 0 rfl rfl 1 (by decide) (hts _ w_103) (fun _ h9 => h9) rfl dX5_width_8 ?_
    refine lv_iload_n hx hb dX5_width_11 rfl (lv_at hl 1 rfl) ?_
    refine va_iald hx hb hE.1 hP 1 1 rfl rfl (vp_in_iff.mpr (by omega)) dX5_width_12 ?_
    refine lv_topi (fun v446 ev446 => ?_)
    refine lv_goto (tgt := 17) hx hb dX5_width_13 (by decide) ?_
    exact ro_ret hC hr hk dX5_width_17 trivial
set_option maxRecDepth 40000 in
set_option maxHeartbeats 4000000 in
theorem c_X5_size (l : Launch) (D : va_G) (K : Nat → ClassId) (w : Nat) (wa0 : Nat) (wa1 : Nat) (wa2 : Nat) (wf2 : Nat → Int32) (p0 : Int32) (hsz : ∀ j, j < 4 → -1 ≤ (wf2 j).toInt ∧ (wf2 j).toInt ≤ 60) : Ro l D K yX5_size cX5_size 2 (some .int) 2 41 [.ref w, .int p0] [(w, .inr (5, [.ref wa0, .ref wa1, .ref wa2])), (wa2, .inl (K 1, 4, .inl wf2))] (fun r => (r = 0) ∨ ((0 ≤ p0.toInt) ∧ (p0.toInt < 4) ∧ (-1 ≤ r.toInt) ∧ (r.toInt ≤ 60))) := by
  refine ro_of (by decide) (Nat.le_of_ble_eq_true rfl) ?_
  intro p e s m below meth c hC hr hk hE hP ls hl
  replace hC : CallFix p m c cX5_size 2 s [.ref w, .int p0].toArray wl RX5 := hC
  have hx := hC.1
  have hb := hC.2.1
  have hml := hC.2.2.1
  have hown := hC.2.2.2.1
  have hts := hC.2.2.2.2
  replace hl : lv_has ls 2 [(0, .ref w), (1, .int p0)] := hl
  refine lv_aload_n hx hb dX5_size_0 rfl (lv_at hl 0 rfl) ?_
  refine lv_iload_n hx hb dX5_size_1 rfl (lv_at hl 1 rfl) ?_
  refine ro_V (As := [.int p0]) (rest := []) hC hE kV_X5_35 (c_X5_has l D K w wa0 wa1 wa2 wf2 p0) (hP.sub (ws' := [(w, .inr (5, [.ref wa0, .ref wa1, .ref wa2])), (wa2, .inl (K 1, 4, .inl wf2))]) [0, 1] rfl) 0 5 rfl rfl rfl hl.1 rfl (Nat.le_of_ble_eq_true rfl) (by decide) (by decide) dX5_size_2 (fun r449 hq => ?_)
  rcases hq with rfl | ⟨rfl, h447, h448⟩
  · refine lv_if_eq (tgt := 17) hx hb dX5_size_5 (by decide) (fun _ => ?_) (fun h => absurd h (by decide))
    refine lv_iconst (v := 0) hx hb dX5_size_17 (by decide) ?_
    exact ro_ret hC hr hk dX5_size_18 (Or.inl rfl)
  · refine lv_if_eq (tgt := 17) hx hb dX5_size_5 (by decide) (fun h => absurd h (by decide)) (fun _ => ?_)
    refine lv_aload_n hx hb dX5_size_8 rfl (lv_at hl 0 rfl) ?_
    refine va_get (D := D) (ci := 5) (v := .ref wa2) (C := RX5) (T := TX5) (N := 3) hx hb hts in_X5 hown hE.1 hP 0 rfl rfl 2 (by decide) (hts _ w_102) (fun _ h9 => h9) rfl dX5_size_9 ?_
    refine lv_iload_n hx hb dX5_size_12 rfl (lv_at hl 1 rfl) ?_
    refine va_iald hx hb hE.1 hP 1 1 rfl rfl (vp_in_iff.mpr (by omega)) dX5_size_13 ?_
    refine lv_topi (fun v450 ev450 => ?_)
    have tv450 := hsz p0.toNatClampNeg (in_lt (i := p0) (vp_in_iff.mpr (by omega)))
    rw [← ev450] at tv450
    refine lv_goto (tgt := 18) hx hb dX5_size_14 (by decide) ?_
    exact ro_ret hC hr hk dX5_size_18 (Or.inr ⟨(by omega), (by omega), (by omega), (by omega)⟩)
set_option maxRecDepth 40000 in
set_option maxHeartbeats 4000000 in
theorem c_X5_kept (l : Launch) (D : va_G) (K : Nat → ClassId) (w : Nat) (wa0 : Nat) (wa1 : Nat) (wa2 : Nat) (wf2 : Nat → Int32) : Ro l D K yX5_kept cX5_kept 3 (some .int) 2 41 [.ref w] [(w, .inr (5, [.ref wa0, .ref wa1, .ref wa2])), (wa2, .inl (K 1, 4, .inl wf2))] (fun _ => True) := by
  refine ro_of (by decide) (Nat.le_of_ble_eq_true rfl) ?_
  intro p e s m below meth c hC hr hk hE hP ls hl
  replace hC : CallFix p m c cX5_kept 3 s [.ref w].toArray wl RX5 := hC
  have hx := hC.1
  have hb := hC.2.1
  have hml := hC.2.2.1
  have hown := hC.2.2.2.1
  have hts := hC.2.2.2.2
  replace hl : lv_has ls 3 [(0, .ref w)] := hl
  have kc_0 : (0 : Int32).toInt = 0 := by decide
  have kc_1 : (1 : Int32).toInt = 1 := by decide
  have kc_4 : (4 : Int32).toInt = 4 := by decide
  refine lv_iconst (v := 0) hx hb dX5_kept_0 (by decide) ?_
  refine lv_istore_n (lv' := [(1, .int 0), (0, .ref w)]) hx hb dX5_kept_1 rfl hl (by decide) rfl (fun ls hl => ?_)
  refine lv_iconst (v := 0) hx hb dX5_kept_2 (by decide) ?_
  refine lv_istore_n (lv' := [(2, .int 0), (1, .int 0), (0, .ref w)]) hx hb dX5_kept_3 rfl hl (by decide) rfl (fun ls hl => ?_)
  have hl' := hl; clear hl
  obtain ⟨i461, i462, hi_4, hl⟩ : ∃ (i461 : Int32) (i462 : Int32), ((0 : Int) ≤ i461.toInt) ∧ lv_has ls 3 [(2, .int i461), (1, .int i462), (0, .ref w)] := ⟨_, _, by omega, hl'⟩
  clear hl'
  obtain ⟨n_4, hn_4⟩ : ∃ n : Nat, (4 - i461.toInt).toNat < n := ⟨_, Nat.lt_succ_self _⟩
  induction n_4 generalizing i461 i462 ls with
  | zero => exact absurd hn_4 (Nat.not_lt_zero _)
  | succ n_4 ih_4 =>
    refine lv_iload_n hx hb dX5_kept_4 rfl (lv_at hl 0 rfl) ?_
    refine lv_iconst (v := 4) hx hb dX5_kept_5 (by decide) ?_
    refine lv_icmp_ge (tgt := 31) hx hb dX5_kept_6 (by decide) (fun c463 => ?_) (fun c463 => ?_)
    · replace c463 := le_i c463
      refine lv_iload_n hx hb dX5_kept_31 rfl (lv_at hl 1 rfl) ?_
      exact ro_ret hC hr hk dX5_kept_32 trivial
    · replace c463 := nle_i c463
      refine lv_iload_n hx hb dX5_kept_9 rfl (lv_at hl 1 rfl) ?_
      refine lv_aload_n hx hb dX5_kept_10 rfl (lv_at hl 2 rfl) ?_
      refine lv_iload_n hx hb dX5_kept_11 rfl (lv_at hl 0 rfl) ?_
      refine ro_V (As := [.int i461]) (rest := [.int i462]) hC hE kV_X5_35 (c_X5_has l D K w wa0 wa1 wa2 wf2 i461) (hP.sub (ws' := [(w, .inr (5, [.ref wa0, .ref wa1, .ref wa2])), (wa2, .inl (K 1, 4, .inl wf2))]) [0, 1] rfl) 0 5 rfl rfl rfl hl.1 rfl (Nat.le_of_ble_eq_true rfl) (by decide) (by decide) dX5_kept_12 (fun r466 hq => ?_)
      rcases hq with rfl | ⟨rfl, h464, h465⟩
      · refine lv_if_eq (tgt := 22) hx hb dX5_kept_15 (by decide) (fun _ => ?_) (fun h => absurd h (by decide))
        refine lv_iconst (v := 0) hx hb dX5_kept_22 (by decide) ?_
        refine lv_iadd hx hb dX5_kept_23 ?_
        refine lv_topi (fun v467 ev467 => ?_)
        refine lv_istore_n (lv' := [(1, .int v467), (2, .int i461), (0, .ref w)]) hx hb dX5_kept_24 rfl hl (by decide) rfl (fun ls hl => ?_)
        obtain ⟨v468, ev468⟩ : ∃ z : Int32, z = i461 + 1 := ⟨_, rfl⟩
        refine lv_iinc (v := v468) (lv' := [(2, .int v468), (1, .int v467), (0, .ref w)]) hx hb dX5_kept_25 hl (k := 1) rfl (by rw [ev468]; rfl) (by decide) rfl (fun ls hl => ?_)
        refine lv_goto (tgt := 4) hx hb dX5_kept_28 (by decide) ?_
        have tv468 : v468.toInt = (i461 : Int32).toInt + (1 : Int32).toInt := add_i ev468 (by omega) (by omega)
        exact ih_4 (i461 := v468) (i462 := v467) (hi_4 := by omega) (ls := ls) (hn_4 := by omega) (hl := lv_sub hl [0, 1, 2] rfl)
      · refine lv_if_eq (tgt := 22) hx hb dX5_kept_15 (by decide) (fun h => absurd h (by decide)) (fun _ => ?_)
        refine lv_iconst (v := 1) hx hb dX5_kept_18 (by decide) ?_
        refine lv_goto (tgt := 23) hx hb dX5_kept_19 (by decide) ?_
        refine lv_iadd hx hb dX5_kept_23 ?_
        refine lv_topi (fun v469 ev469 => ?_)
        refine lv_istore_n (lv' := [(1, .int v469), (2, .int i461), (0, .ref w)]) hx hb dX5_kept_24 rfl hl (by decide) rfl (fun ls hl => ?_)
        obtain ⟨v470, ev470⟩ : ∃ z : Int32, z = i461 + 1 := ⟨_, rfl⟩
        refine lv_iinc (v := v470) (lv' := [(2, .int v470), (1, .int v469), (0, .ref w)]) hx hb dX5_kept_25 hl (k := 1) rfl (by rw [ev470]; rfl) (by decide) rfl (fun ls hl => ?_)
        refine lv_goto (tgt := 4) hx hb dX5_kept_28 (by decide) ?_
        have tv470 : v470.toInt = (i461 : Int32).toInt + (1 : Int32).toInt := add_i ev470 (by omega) (by omega)
        exact ih_4 (i461 := v470) (i462 := v469) (hi_4 := by omega) (ls := ls) (hn_4 := by omega) (hl := lv_sub hl [0, 1, 2] rfl)
set_option maxRecDepth 40000 in
set_option maxHeartbeats 4000000 in
theorem c_X5_cut (l : Launch) (D : va_G) (K : Nat → ClassId) (p0 : Int64) (p1 : Int32) : RoL l D K yX5_cut cX5_cut 3  0 0 [.long p0, .int p1] [] (fun _ => True) := by
  refine rol_of (by decide) (Nat.le_of_ble_eq_true rfl) ?_
  intro p e s m below meth c hC hr hk hE hP ls hl
  replace hC : CallFix p m c cX5_cut 3 s [.long p0, .int p1].toArray wl RX5 := hC
  have hx := hC.1
  have hb := hC.2.1
  have hml := hC.2.2.1
  have hown := hC.2.2.2.1
  have hts := hC.2.2.2.2
  replace hl : lv_has ls 3 [(0, .long p0), (2, .int p1)] := hl
  have kc_0 : (0 : Int32).toInt = 0 := by decide
  have kc_1 : (1 : Int32).toInt = 1 := by decide
  have kc_2 : (2 : Int32).toInt = 2 := by decide
  refine lv_iload_n hx hb dX5_cut_0 rfl (lv_at hl 1 rfl) ?_
  by_cases c471 : p1 = 0
  · refine tc (y := 0) c471 ?_
    refine lv_tableIn (off := 27) (tgt := 28) hx hb dX5_cut_1 (by decide) (by decide) (by decide +kernel) (by decide) ?_
    refine lv_lload_n hx hb dX5_cut_28 rfl (lv_at hl 0 rfl) ?_
    refine lv_l2i hx hb dX5_cut_29 rfl ?_
    refine lv_topi (fun v472 ev472 => ?_)
    refine lv_i2b hx hb dX5_cut_30 rfl ?_
    refine lv_topi (fun v473 ev473 => ?_)
    refine lv_i2l hx hb dX5_cut_31 rfl ?_
    refine lv_topl (fun v474 ev474 => ?_)
    exact ro_lret hC hr hk dX5_cut_32 trivial
  · replace c471 := ne_i c471
    by_cases c475 : p1 = 1
    · refine tc (y := 1) c475 ?_
      refine lv_tableIn (off := 32) (tgt := 33) hx hb dX5_cut_1 (by decide) (by decide) (by decide +kernel) (by decide) ?_
      refine lv_lload_n hx hb dX5_cut_33 rfl (lv_at hl 0 rfl) ?_
      refine lv_l2i hx hb dX5_cut_34 rfl ?_
      refine lv_topi (fun v476 ev476 => ?_)
      refine lv_i2s hx hb dX5_cut_35 rfl ?_
      refine lv_topi (fun v477 ev477 => ?_)
      refine lv_i2l hx hb dX5_cut_36 rfl ?_
      refine lv_topl (fun v478 ev478 => ?_)
      exact ro_lret hC hr hk dX5_cut_37 trivial
    · replace c475 := ne_i c475
      by_cases c479 : p1 = 2
      · refine tc (y := 2) c479 ?_
        refine lv_tableIn (off := 37) (tgt := 38) hx hb dX5_cut_1 (by decide) (by decide) (by decide +kernel) (by decide) ?_
        refine lv_lload_n hx hb dX5_cut_38 rfl (lv_at hl 0 rfl) ?_
        refine lv_l2i hx hb dX5_cut_39 rfl ?_
        refine lv_topi (fun v480 ev480 => ?_)
        refine lv_i2l hx hb dX5_cut_40 rfl ?_
        refine lv_topl (fun v481 ev481 => ?_)
        exact ro_lret hC hr hk dX5_cut_41 trivial
      · replace c479 := ne_i c479
        refine lv_tableOut (tgt := 42) hx hb dX5_cut_1 (by omega) (by decide) ?_
        refine lv_lload_n hx hb dX5_cut_42 rfl (lv_at hl 0 rfl) ?_
        exact ro_lret hC hr hk dX5_cut_43 trivial
set_option maxRecDepth 40000 in
set_option maxHeartbeats 4000000 in
theorem c_X5_isWithin (l : Launch) (D : va_G) (K : Nat → ClassId) (w : Nat) (wa0 : Nat) (wa1 : Nat) (wa2 : Nat) (wf0 : Nat → Int64) (wf2 : Nat → Int32) (p0 : Int32) (p1 : Int32) (p2 : Int32) (hsz : ∀ j, j < 4 → -1 ≤ (wf2 j).toInt ∧ (wf2 j).toInt ≤ 60) : Ro l D K yX5_isWithin cX5_isWithin 6 (some .boolean) 3 62 [.ref w, .int p0, .int p1, .int p2] [(w, .inr (5, [.ref wa0, .ref wa1, .ref wa2])), (wa0, .inl (K 2, 240, .inr (.inl wf0))), (wa2, .inl (K 1, 4, .inl wf2))] (fun r => (r = 0) ∨ (r = 1)) := by
  refine ro_of (by decide) (Nat.le_of_ble_eq_true rfl) ?_
  intro p e s m below meth c hC hr hk hE hP ls hl
  replace hC : CallFix p m c cX5_isWithin 6 s [.ref w, .int p0, .int p1, .int p2].toArray wl RX5 := hC
  have hx := hC.1
  have hb := hC.2.1
  have hml := hC.2.2.1
  have hown := hC.2.2.2.1
  have hts := hC.2.2.2.2
  replace hl : lv_has ls 6 [(0, .ref w), (1, .int p0), (2, .int p1), (3, .int p2)] := hl
  have kc_0 : (0 : Int32).toInt = 0 := by decide
  have kc_60 : (60 : Int32).toInt = 60 := by decide
  refine lv_iload_n hx hb dX5_isWithin_0 rfl (lv_at hl 2 rfl) ?_
  refine lv_if_lt (tgt := 13) hx hb dX5_isWithin_1 (by decide) (fun c482 => ?_) (fun c482 => ?_)
  · replace c482 := lt_i c482
    refine lv_iconst (v := 0) hx hb dX5_isWithin_13 (by decide) ?_
    exact ro_zret hC hr hk dX5_isWithin_14 rfl (Or.inl rfl)
  · replace c482 := nlt_i c482
    refine lv_iload_n hx hb dX5_isWithin_4 rfl (lv_at hl 2 rfl) ?_
    refine lv_aload_n hx hb dX5_isWithin_5 rfl (lv_at hl 0 rfl) ?_
    refine lv_iload_n hx hb dX5_isWithin_6 rfl (lv_at hl 1 rfl) ?_
    refine ro_V (As := [.int p0]) (rest := [.int p1]) hC hE kV_X5_38 (c_X5_size l D K w wa0 wa1 wa2 wf2 p0 hsz) (hP.sub (ws' := [(w, .inr (5, [.ref wa0, .ref wa1, .ref wa2])), (wa2, .inl (K 1, 4, .inl wf2))]) [0, 2] rfl) 0 5 rfl rfl rfl hl.1 rfl (Nat.le_of_ble_eq_true rfl) (by decide) (by decide) dX5_isWithin_7 (fun r487 hq => ?_)
    rcases hq with rfl | ⟨h483, h484, h485, h486⟩
    · refine lv_icmp_lt (tgt := 15) hx hb dX5_isWithin_10 (by decide) (fun c488 => ?_) (fun c488 => ?_)
      · replace c488 := lt_i c488
        refine lv_aload_n hx hb dX5_isWithin_15 rfl (lv_at hl 0 rfl) ?_
        refine va_get (D := D) (ci := 5) (v := .ref wa0) (C := RX5) (T := TX5) (N := 3) hx hb hts in_X5 hown hE.1 hP 0 rfl rfl 0 (by decide) (hts _ w_113) (fun _ h9 => h9) rfl dX5_isWithin_16 ?_
        refine lv_iload_n hx hb dX5_isWithin_19 rfl (lv_at hl 1 rfl) ?_
        refine lv_bipush (v := 60) hx hb dX5_isWithin_20 (by decide) ?_
        refine lv_imul hx hb dX5_isWithin_22 ?_
        refine lv_topi (fun v489 ev489 => ?_)
        refine lv_iload_n hx hb dX5_isWithin_23 rfl (lv_at hl 2 rfl) ?_
        refine lv_iadd hx hb dX5_isWithin_24 ?_
        refine lv_topi (fun v490 ev490 => ?_)
        have tv489 : v489.toInt = p0.toInt * 60 := mul_i ev489 rfl (by decide) (by omega) (by omega)
        have tv490 : v490.toInt = (v489 : Int32).toInt + (p1 : Int32).toInt := add_i ev490 (by omega) (by omega)
        refine va_lald hx hb hE.1 hP 1 2 rfl rfl (vp_in_iff.mpr (by omega)) dX5_isWithin_25 ?_
        refine lv_topl (fun v491 ev491 => ?_)
        refine lv_lstore (lv' := [(4, .long v491), (0, .ref w), (1, .int p0), (2, .int p1), (3, .int p2)]) hx hb dX5_isWithin_26 hl (by decide) rfl (fun ls hl => ?_)
        refine lv_lload hx hb dX5_isWithin_28 (lv_at hl 0 rfl) ?_
        refine lv_lconst (v := 0) hx hb dX5_isWithin_30 (by decide) ?_
        refine W.lcmp hx hb dX5_isWithin_31 ?_
        refine lv_topi (fun v492 ev492 => ?_)
        refine lv_if_lt (tgt := 47) hx hb dX5_isWithin_32 (by decide) (fun c493 => ?_) (fun c493 => ?_)
        · replace c493 := lt_i c493
          refine lv_iconst (v := 0) hx hb dX5_isWithin_47 (by decide) ?_
          exact ro_zret hC hr hk dX5_isWithin_48 rfl (Or.inl rfl)
        · replace c493 := nlt_i c493
          refine lv_lload hx hb dX5_isWithin_35 (lv_at hl 0 rfl) ?_
          refine lv_iload_n hx hb dX5_isWithin_37 rfl (lv_at hl 4 rfl) ?_
          refine lv_i2l hx hb dX5_isWithin_38 rfl ?_
          refine lv_topl (fun v494 ev494 => ?_)
          refine W.lcmp hx hb dX5_isWithin_39 ?_
          refine lv_topi (fun v495 ev495 => ?_)
          refine lv_if_ge (tgt := 47) hx hb dX5_isWithin_40 (by decide) (fun c496 => ?_) (fun c496 => ?_)
          · replace c496 := le_i c496
            refine lv_iconst (v := 0) hx hb dX5_isWithin_47 (by decide) ?_
            exact ro_zret hC hr hk dX5_isWithin_48 rfl (Or.inl rfl)
          · replace c496 := nle_i c496
            refine lv_iconst (v := 1) hx hb dX5_isWithin_43 (by decide) ?_
            refine lv_goto (tgt := 48) hx hb dX5_isWithin_44 (by decide) ?_
            exact ro_zret hC hr hk dX5_isWithin_48 rfl (Or.inr rfl)
      · replace c488 := nlt_i c488
        refine lv_iconst (v := 0) hx hb dX5_isWithin_13 (by decide) ?_
        exact ro_zret hC hr hk dX5_isWithin_14 rfl (Or.inl rfl)
    · refine lv_icmp_lt (tgt := 15) hx hb dX5_isWithin_10 (by decide) (fun c497 => ?_) (fun c497 => ?_)
      · replace c497 := lt_i c497
        refine lv_aload_n hx hb dX5_isWithin_15 rfl (lv_at hl 0 rfl) ?_
        refine va_get (D := D) (ci := 5) (v := .ref wa0) (C := RX5) (T := TX5) (N := 3) hx hb hts in_X5 hown hE.1 hP 0 rfl rfl 0 (by decide) (hts _ w_113) (fun _ h9 => h9) rfl dX5_isWithin_16 ?_
        refine lv_iload_n hx hb dX5_isWithin_19 rfl (lv_at hl 1 rfl) ?_
        refine lv_bipush (v := 60) hx hb dX5_isWithin_20 (by decide) ?_
        refine lv_imul hx hb dX5_isWithin_22 ?_
        refine lv_topi (fun v498 ev498 => ?_)
        refine lv_iload_n hx hb dX5_isWithin_23 rfl (lv_at hl 2 rfl) ?_
        refine lv_iadd hx hb dX5_isWithin_24 ?_
        refine lv_topi (fun v499 ev499 => ?_)
        have tv498 : v498.toInt = p0.toInt * 60 := mul_i ev498 rfl (by decide) (by omega) (by omega)
        have tv499 : v499.toInt = (v498 : Int32).toInt + (p1 : Int32).toInt := add_i ev499 (by omega) (by omega)
        refine va_lald hx hb hE.1 hP 1 2 rfl rfl (vp_in_iff.mpr (by omega)) dX5_isWithin_25 ?_
        refine lv_topl (fun v500 ev500 => ?_)
        refine lv_lstore (lv' := [(4, .long v500), (0, .ref w), (1, .int p0), (2, .int p1), (3, .int p2)]) hx hb dX5_isWithin_26 hl (by decide) rfl (fun ls hl => ?_)
        refine lv_lload hx hb dX5_isWithin_28 (lv_at hl 0 rfl) ?_
        refine lv_lconst (v := 0) hx hb dX5_isWithin_30 (by decide) ?_
        refine W.lcmp hx hb dX5_isWithin_31 ?_
        refine lv_topi (fun v501 ev501 => ?_)
        refine lv_if_lt (tgt := 47) hx hb dX5_isWithin_32 (by decide) (fun c502 => ?_) (fun c502 => ?_)
        · replace c502 := lt_i c502
          refine lv_iconst (v := 0) hx hb dX5_isWithin_47 (by decide) ?_
          exact ro_zret hC hr hk dX5_isWithin_48 rfl (Or.inl rfl)
        · replace c502 := nlt_i c502
          refine lv_lload hx hb dX5_isWithin_35 (lv_at hl 0 rfl) ?_
          refine lv_iload_n hx hb dX5_isWithin_37 rfl (lv_at hl 4 rfl) ?_
          refine lv_i2l hx hb dX5_isWithin_38 rfl ?_
          refine lv_topl (fun v503 ev503 => ?_)
          refine W.lcmp hx hb dX5_isWithin_39 ?_
          refine lv_topi (fun v504 ev504 => ?_)
          refine lv_if_ge (tgt := 47) hx hb dX5_isWithin_40 (by decide) (fun c505 => ?_) (fun c505 => ?_)
          · replace c505 := le_i c505
            refine lv_iconst (v := 0) hx hb dX5_isWithin_47 (by decide) ?_
            exact ro_zret hC hr hk dX5_isWithin_48 rfl (Or.inl rfl)
          · replace c505 := nle_i c505
            refine lv_iconst (v := 1) hx hb dX5_isWithin_43 (by decide) ?_
            refine lv_goto (tgt := 48) hx hb dX5_isWithin_44 (by decide) ?_
            exact ro_zret hC hr hk dX5_isWithin_48 rfl (Or.inr rfl)
      · replace c497 := nlt_i c497
        refine lv_iconst (v := 0) hx hb dX5_isWithin_13 (by decide) ?_
        exact ro_zret hC hr hk dX5_isWithin_14 rfl (Or.inl rfl)
set_option maxRecDepth 40000 in
set_option maxHeartbeats 4000000 in
theorem c_X5_small (l : Launch) (D : va_G) (K : Nat → ClassId) (w : Nat) (wa0 : Nat) (wa1 : Nat) (wa2 : Nat) (wf0 : Nat → Int64) (wf2 : Nat → Int32) (p0 : Int32) (p1 : Int32) (hsz : ∀ j, j < 4 → -1 ≤ (wf2 j).toInt ∧ (wf2 j).toInt ≤ 60) : Ro l D K yX5_small cX5_small 3 (some .int) 3 62 [.ref w, .int p0, .int p1] [(w, .inr (5, [.ref wa0, .ref wa1, .ref wa2])), (wa0, .inl (K 2, 240, .inr (.inl wf0))), (wa2, .inl (K 1, 4, .inl wf2))] (fun _ => True) := by
  refine ro_of (by decide) (Nat.le_of_ble_eq_true rfl) ?_
  intro p e s m below meth c hC hr hk hE hP ls hl
  replace hC : CallFix p m c cX5_small 3 s [.ref w, .int p0, .int p1].toArray wl RX5 := hC
  have hx := hC.1
  have hb := hC.2.1
  have hml := hC.2.2.1
  have hown := hC.2.2.2.1
  have hts := hC.2.2.2.2
  replace hl : lv_has ls 3 [(0, .ref w), (1, .int p0), (2, .int p1)] := hl
  have kc_0 : (0 : Int32).toInt = 0 := by decide
  have kc_60 : (60 : Int32).toInt = 60 := by decide
  refine lv_iload_n hx hb dX5_small_0 rfl (lv_at hl 2 rfl) ?_
  refine lv_if_lt (tgt := 28) hx hb dX5_small_1 (by decide) (fun c506 => ?_) (fun c506 => ?_)
  · replace c506 := lt_i c506
    refine lv_iconst (v := 0) hx hb dX5_small_28 (by decide) ?_
    exact ro_ret hC hr hk dX5_small_29 trivial
  · replace c506 := nlt_i c506
    refine lv_iload_n hx hb dX5_small_4 rfl (lv_at hl 2 rfl) ?_
    refine lv_aload_n hx hb dX5_small_5 rfl (lv_at hl 0 rfl) ?_
    refine lv_iload_n hx hb dX5_small_6 rfl (lv_at hl 1 rfl) ?_
    refine ro_V (As := [.int p0]) (rest := [.int p1]) hC hE kV_X5_38 (c_X5_size l D K w wa0 wa1 wa2 wf2 p0 hsz) (hP.sub (ws' := [(w, .inr (5, [.ref wa0, .ref wa1, .ref wa2])), (wa2, .inl (K 1, 4, .inl wf2))]) [0, 2] rfl) 0 5 rfl rfl rfl hl.1 rfl (Nat.le_of_ble_eq_true rfl) (by decide) (by decide) dX5_small_7 (fun r511 hq => ?_)
    rcases hq with rfl | ⟨h507, h508, h509, h510⟩
    · refine lv_icmp_ge (tgt := 28) hx hb dX5_small_10 (by decide) (fun c512 => ?_) (fun c512 => ?_)
      · replace c512 := le_i c512
        refine lv_iconst (v := 0) hx hb dX5_small_28 (by decide) ?_
        exact ro_ret hC hr hk dX5_small_29 trivial
      · replace c512 := nle_i c512
        refine lv_aload_n hx hb dX5_small_13 rfl (lv_at hl 0 rfl) ?_
        refine va_get (D := D) (ci := 5) (v := .ref wa0) (C := RX5) (T := TX5) (N := 3) hx hb hts in_X5 hown hE.1 hP 0 rfl rfl 0 (by decide) (hts _ w_113) (fun _ h9 => h9) rfl dX5_small_14 ?_
        refine lv_iload_n hx hb dX5_small_17 rfl (lv_at hl 1 rfl) ?_
        refine lv_bipush (v := 60) hx hb dX5_small_18 (by decide) ?_
        refine lv_imul hx hb dX5_small_20 ?_
        refine lv_topi (fun v513 ev513 => ?_)
        refine lv_iload_n hx hb dX5_small_21 rfl (lv_at hl 2 rfl) ?_
        refine lv_iadd hx hb dX5_small_22 ?_
        refine lv_topi (fun v514 ev514 => ?_)
        have tv513 : v513.toInt = p0.toInt * 60 := mul_i ev513 rfl (by decide) (by omega) (by omega)
        have tv514 : v514.toInt = (v513 : Int32).toInt + (p1 : Int32).toInt := add_i ev514 (by omega) (by omega)
        refine va_lald hx hb hE.1 hP 1 2 rfl rfl (vp_in_iff.mpr (by omega)) dX5_small_23 ?_
        refine lv_topl (fun v515 ev515 => ?_)
        refine lv_l2i hx hb dX5_small_24 rfl ?_
        refine lv_topi (fun v516 ev516 => ?_)
        refine lv_goto (tgt := 29) hx hb dX5_small_25 (by decide) ?_
        exact ro_ret hC hr hk dX5_small_29 trivial
    · refine lv_icmp_ge (tgt := 28) hx hb dX5_small_10 (by decide) (fun c517 => ?_) (fun c517 => ?_)
      · replace c517 := le_i c517
        refine lv_iconst (v := 0) hx hb dX5_small_28 (by decide) ?_
        exact ro_ret hC hr hk dX5_small_29 trivial
      · replace c517 := nle_i c517
        refine lv_aload_n hx hb dX5_small_13 rfl (lv_at hl 0 rfl) ?_
        refine va_get (D := D) (ci := 5) (v := .ref wa0) (C := RX5) (T := TX5) (N := 3) hx hb hts in_X5 hown hE.1 hP 0 rfl rfl 0 (by decide) (hts _ w_113) (fun _ h9 => h9) rfl dX5_small_14 ?_
        refine lv_iload_n hx hb dX5_small_17 rfl (lv_at hl 1 rfl) ?_
        refine lv_bipush (v := 60) hx hb dX5_small_18 (by decide) ?_
        refine lv_imul hx hb dX5_small_20 ?_
        refine lv_topi (fun v518 ev518 => ?_)
        refine lv_iload_n hx hb dX5_small_21 rfl (lv_at hl 2 rfl) ?_
        refine lv_iadd hx hb dX5_small_22 ?_
        refine lv_topi (fun v519 ev519 => ?_)
        have tv518 : v518.toInt = p0.toInt * 60 := mul_i ev518 rfl (by decide) (by omega) (by omega)
        have tv519 : v519.toInt = (v518 : Int32).toInt + (p1 : Int32).toInt := add_i ev519 (by omega) (by omega)
        refine va_lald hx hb hE.1 hP 1 2 rfl rfl (vp_in_iff.mpr (by omega)) dX5_small_23 ?_
        refine lv_topl (fun v520 ev520 => ?_)
        refine lv_l2i hx hb dX5_small_24 rfl ?_
        refine lv_topi (fun v521 ev521 => ?_)
        refine lv_goto (tgt := 29) hx hb dX5_small_25 (by decide) ?_
        exact ro_ret hC hr hk dX5_small_29 trivial
set_option maxRecDepth 40000 in
set_option maxHeartbeats 4000000 in
theorem c_X5_put (l : Launch) (D : va_G) (K : Nat → ClassId) (w : Nat) (wa0 : Nat) (wa1 : Nat) (wa2 : Nat) (wf0 : Nat → Int64) (wf1 : Nat → Int32) (wf2 : Nat → Int32) (p0 : Int32) (p1 : Int32) (p2 : Int64) (hsz : ∀ j, j < 4 → -1 ≤ (wf2 j).toInt ∧ (wf2 j).toInt ≤ 60) : Cv (S := ((Nat → Int32) × (Nat → Nat → Int32) × (Nat → Nat → Int64))) l D K yX5_put cX5_put 5 3 62 0 0 [.ref w, .int p0, .int p1, .long p2] [(w, .inr (5, [.ref wa0, .ref wa1, .ref wa2])), (wa0, .inl (K 2, 240, .inr (.inl wf0))), (wa1, .inl (K 1, 4, .inl wf1)), (wa2, .inl (K 1, 4, .inl wf2))] (fun _ => True) (fun u => [(w, .inr (5, [.ref wa0, .ref wa1, .ref wa2])), (wa0, .inl (K 2, 240, .inr (.inl (u.2.2 0)))), (wa1, .inl (K 1, 4, .inl wf1)), (wa2, .inl (K 1, 4, .inl wf2))]) := by
  intro sz
  refine ch_of (y := yX5_put) (cc := cX5_put) (maxL := 5) (ret := none) (av := [.ref w, .int p0, .int p1, .long p2]) (ws := [(w, .inr (5, [.ref wa0, .ref wa1, .ref wa2])), (wa0, .inl (K 2, 240, .inr (.inl wf0))), (wa1, .inl (K 1, 4, .inl wf1)), (wa2, .inl (K 1, 4, .inl wf2))]) (D := D) (K := K) (Qc := fun A => va_Qv (S := ((Nat → Int32) × (Nat → Nat → Int32) × (Nat → Nat → Int64))) (fun _ => True) (chB D A (fun u => [(w, .inr (5, [.ref wa0, .ref wa1, .ref wa2])), (wa0, .inl (K 2, 240, .inr (.inl (u.2.2 0)))), (wa1, .inl (K 1, 4, .inl wf1)), (wa2, .inl (K 1, 4, .inl wf2))])) A) (by decide) (Nat.le_of_ble_eq_true rfl) ?_
  intro p e s m below meth c A hC hr hk hin hE hD hA H locs hP hS ls hl
  replace hC : CallFix p m c cX5_put 5 s [.ref w, .int p0, .int p1, .long p2].toArray wl RX5 := hC
  have hx := hC.1
  have hb := hC.2.1
  have hml := hC.2.2.1
  have hown := hC.2.2.2.1
  have hts := hC.2.2.2.2
  replace hl : lv_has ls 5 [(0, .ref w), (1, .int p0), (2, .int p1), (3, .long p2)] := hl
  have kc_0 : (0 : Int32).toInt = 0 := by decide
  have kc_60 : (60 : Int32).toInt = 60 := by decide
  refine lv_iload_n hx hb dX5_put_0 rfl (lv_at hl 2 rfl) ?_
  refine lv_if_lt (tgt := 33) hx hb dX5_put_1 (by decide) (fun c540 => ?_) (fun c540 => ?_)
  · replace c540 := lt_i c540
    refine W.widen (k := 0) (n := 0) (by decide) (by decide) ?_
    exact ch_vret hC hr hk hS dX5_put_33 ((fun k => [].getD k 0, fun k => [].getD k (fun _ => 0), fun k => [wf0].getD k (fun _ => 0)) : ((Nat → Int32) × (Nat → Nat → Int32) × (Nat → Nat → Int64))) trivial (hP.sub [0, 1, 2, 3] rfl) (hD.sub [0, 1, 2, 3] (by decide) rfl)
  · replace c540 := nlt_i c540
    refine lv_iload_n hx hb dX5_put_4 rfl (lv_at hl 2 rfl) ?_
    refine lv_aload_n hx hb dX5_put_5 rfl (lv_at hl 0 rfl) ?_
    refine lv_iload_n hx hb dX5_put_6 rfl (lv_at hl 1 rfl) ?_
    refine ro_V (As := [.int p0]) (rest := [.int p1]) hC hE kV_X5_38 (c_X5_size l D K w wa0 wa1 wa2 wf2 p0 hsz) (hP.sub (ws' := [(w, .inr (5, [.ref wa0, .ref wa1, .ref wa2])), (wa2, .inl (K 1, 4, .inl wf2))]) [0, 3] rfl) 0 5 rfl rfl rfl hl.1 rfl (Nat.le_of_ble_eq_true rfl) (by decide) (by decide) dX5_put_7 (fun r545 hq => ?_)
    rcases hq with rfl | ⟨h541, h542, h543, h544⟩
    · refine lv_icmp_ge (tgt := 33) hx hb dX5_put_10 (by decide) (fun c546 => ?_) (fun c546 => ?_)
      · replace c546 := le_i c546
        refine W.widen (k := 0) (n := 0) (by decide) (by decide) ?_
        exact ch_vret hC hr hk hS dX5_put_33 ((fun k => [].getD k 0, fun k => [].getD k (fun _ => 0), fun k => [wf0].getD k (fun _ => 0)) : ((Nat → Int32) × (Nat → Nat → Int32) × (Nat → Nat → Int64))) trivial (hP.sub [0, 1, 2, 3] rfl) (hD.sub [0, 1, 2, 3] (by decide) rfl)
      · replace c546 := nle_i c546
        refine lv_aload_n hx hb dX5_put_13 rfl (lv_at hl 0 rfl) ?_
        refine va_get (D := D) (ci := 5) (v := .ref wa0) (C := RX5) (T := TX5) (N := 3) hx hb hts in_X5 hown hE.1 hP 0 rfl rfl 0 (by decide) (hts _ w_113) (fun _ h9 => h9) rfl dX5_put_14 ?_
        refine lv_iload_n hx hb dX5_put_17 rfl (lv_at hl 1 rfl) ?_
        refine lv_bipush (v := 60) hx hb dX5_put_18 (by decide) ?_
        refine lv_imul hx hb dX5_put_20 ?_
        refine lv_topi (fun v547 ev547 => ?_)
        refine lv_iload_n hx hb dX5_put_21 rfl (lv_at hl 2 rfl) ?_
        refine lv_iadd hx hb dX5_put_22 ?_
        refine lv_topi (fun v548 ev548 => ?_)
        refine lv_lload_n hx hb dX5_put_23 rfl (lv_at hl 3 rfl) ?_
        refine lv_aload_n hx hb dX5_put_24 rfl (lv_at hl 0 rfl) ?_
        refine lv_iload_n hx hb dX5_put_25 rfl (lv_at hl 1 rfl) ?_
        refine ro_V (As := [.int p0]) (rest := [.long p2, .int v548, .ref wa0]) hC hE kV_X5_42 (c_X5_width l D K w wa0 wa1 wa2 wf1 p0) (hP.sub (ws' := [(w, .inr (5, [.ref wa0, .ref wa1, .ref wa2])), (wa1, .inl (K 1, 4, .inl wf1))]) [0, 2] rfl) 0 5 rfl rfl rfl hl.1 rfl (Nat.le_of_ble_eq_true rfl) (by decide) (by decide) dX5_put_26 (fun r549 _ => ?_)
        refine rol_S (As := [.long p2, .int r549]) (rest := [.int v548, .ref wa0]) hC hE kS_X5_45 (c_X5_cut l D K p2 r549) (hP.sub (ws' := []) [] rfl) rfl hl.1 rfl (Nat.le_of_ble_eq_true rfl) (by decide) (by decide) dX5_put_29 (fun r550 _ => ?_)
        have tv547 : v547.toInt = p0.toInt * 60 := mul_i ev547 rfl (by decide) (by omega) (by omega)
        have tv548 : v548.toInt = (v547 : Int32).toInt + (p1 : Int32).toInt := add_i ev548 (by omega) (by omega)
        refine stl hx hb hE.1 hP hD hS 1 2 rfl rfl (vp_in_iff.mpr (by omega)) dX5_put_32 (fun g551 eg551 H locs hP hD hS => ?_)
        replace hP : va_P D vwCl [(w, .inr (5, [.ref wa0, .ref wa1, .ref wa2])), (wa0, .inl (K 2, 240, .inr (.inl g551))), (wa1, .inl (K 1, 4, .inl wf1)), (wa2, .inl (K 1, 4, .inl wf2))] H := hP
        replace hD : va_D A [(w, .inr (5, [.ref wa0, .ref wa1, .ref wa2])), (wa0, .inl (K 2, 240, .inr (.inl g551))), (wa1, .inl (K 1, 4, .inl wf1)), (wa2, .inl (K 1, 4, .inl wf2))] := hD
        refine W.widen (k := 0) (n := 0) (by decide) (by decide) ?_
        exact ch_vret hC hr hk hS dX5_put_33 ((fun k => [].getD k 0, fun k => [].getD k (fun _ => 0), fun k => [g551].getD k (fun _ => 0)) : ((Nat → Int32) × (Nat → Nat → Int32) × (Nat → Nat → Int64))) trivial (hP.sub [0, 1, 2, 3] rfl) (hD.sub [0, 1, 2, 3] (by decide) rfl)
    · refine lv_icmp_ge (tgt := 33) hx hb dX5_put_10 (by decide) (fun c552 => ?_) (fun c552 => ?_)
      · replace c552 := le_i c552
        refine W.widen (k := 0) (n := 0) (by decide) (by decide) ?_
        exact ch_vret hC hr hk hS dX5_put_33 ((fun k => [].getD k 0, fun k => [].getD k (fun _ => 0), fun k => [wf0].getD k (fun _ => 0)) : ((Nat → Int32) × (Nat → Nat → Int32) × (Nat → Nat → Int64))) trivial (hP.sub [0, 1, 2, 3] rfl) (hD.sub [0, 1, 2, 3] (by decide) rfl)
      · replace c552 := nle_i c552
        refine lv_aload_n hx hb dX5_put_13 rfl (lv_at hl 0 rfl) ?_
        refine va_get (D := D) (ci := 5) (v := .ref wa0) (C := RX5) (T := TX5) (N := 3) hx hb hts in_X5 hown hE.1 hP 0 rfl rfl 0 (by decide) (hts _ w_113) (fun _ h9 => h9) rfl dX5_put_14 ?_
        refine lv_iload_n hx hb dX5_put_17 rfl (lv_at hl 1 rfl) ?_
        refine lv_bipush (v := 60) hx hb dX5_put_18 (by decide) ?_
        refine lv_imul hx hb dX5_put_20 ?_
        refine lv_topi (fun v553 ev553 => ?_)
        refine lv_iload_n hx hb dX5_put_21 rfl (lv_at hl 2 rfl) ?_
        refine lv_iadd hx hb dX5_put_22 ?_
        refine lv_topi (fun v554 ev554 => ?_)
        refine lv_lload_n hx hb dX5_put_23 rfl (lv_at hl 3 rfl) ?_
        refine lv_aload_n hx hb dX5_put_24 rfl (lv_at hl 0 rfl) ?_
        refine lv_iload_n hx hb dX5_put_25 rfl (lv_at hl 1 rfl) ?_
        refine ro_V (As := [.int p0]) (rest := [.long p2, .int v554, .ref wa0]) hC hE kV_X5_42 (c_X5_width l D K w wa0 wa1 wa2 wf1 p0) (hP.sub (ws' := [(w, .inr (5, [.ref wa0, .ref wa1, .ref wa2])), (wa1, .inl (K 1, 4, .inl wf1))]) [0, 2] rfl) 0 5 rfl rfl rfl hl.1 rfl (Nat.le_of_ble_eq_true rfl) (by decide) (by decide) dX5_put_26 (fun r555 _ => ?_)
        refine rol_S (As := [.long p2, .int r555]) (rest := [.int v554, .ref wa0]) hC hE kS_X5_45 (c_X5_cut l D K p2 r555) (hP.sub (ws' := []) [] rfl) rfl hl.1 rfl (Nat.le_of_ble_eq_true rfl) (by decide) (by decide) dX5_put_29 (fun r556 _ => ?_)
        have tv553 : v553.toInt = p0.toInt * 60 := mul_i ev553 rfl (by decide) (by omega) (by omega)
        have tv554 : v554.toInt = (v553 : Int32).toInt + (p1 : Int32).toInt := add_i ev554 (by omega) (by omega)
        refine stl hx hb hE.1 hP hD hS 1 2 rfl rfl (vp_in_iff.mpr (by omega)) dX5_put_32 (fun g557 eg557 H locs hP hD hS => ?_)
        replace hP : va_P D vwCl [(w, .inr (5, [.ref wa0, .ref wa1, .ref wa2])), (wa0, .inl (K 2, 240, .inr (.inl g557))), (wa1, .inl (K 1, 4, .inl wf1)), (wa2, .inl (K 1, 4, .inl wf2))] H := hP
        replace hD : va_D A [(w, .inr (5, [.ref wa0, .ref wa1, .ref wa2])), (wa0, .inl (K 2, 240, .inr (.inl g557))), (wa1, .inl (K 1, 4, .inl wf1)), (wa2, .inl (K 1, 4, .inl wf2))] := hD
        refine W.widen (k := 0) (n := 0) (by decide) (by decide) ?_
        exact ch_vret hC hr hk hS dX5_put_33 ((fun k => [].getD k 0, fun k => [].getD k (fun _ => 0), fun k => [g557].getD k (fun _ => 0)) : ((Nat → Int32) × (Nat → Nat → Int32) × (Nat → Nat → Int64))) trivial (hP.sub [0, 1, 2, 3] rfl) (hD.sub [0, 1, 2, 3] (by decide) rfl)
set_option maxRecDepth 40000 in
set_option maxHeartbeats 4000000 in
theorem c_X5_covers (l : Launch) (D : va_G) (K : Nat → ClassId) (w : Nat) (wa0 : Nat) (wa1 : Nat) (wa2 : Nat) (wf2 : Nat → Int32) (p0 : Int32) (p1 : Int32) (p2 : Int32) (hsz : ∀ j, j < 4 → -1 ≤ (wf2 j).toInt ∧ (wf2 j).toInt ≤ 60) : Ro l D K yX5_covers cX5_covers 4 (some .boolean) 3 62 [.ref w, .int p0, .int p1, .int p2] [(w, .inr (5, [.ref wa0, .ref wa1, .ref wa2])), (wa2, .inl (K 1, 4, .inl wf2))] (fun r => (r = 0) ∨ (r = 1 ∧ (0 ≤ p1.toInt) ∧ (0 ≤ p2.toInt) ∧ (p1.toInt + p2.toInt ≤ 60))) := by
  refine ro_of (by decide) (Nat.le_of_ble_eq_true rfl) ?_
  intro p e s m below meth c hC hr hk hE hP ls hl
  replace hC : CallFix p m c cX5_covers 4 s [.ref w, .int p0, .int p1, .int p2].toArray wl RX5 := hC
  have hx := hC.1
  have hb := hC.2.1
  have hml := hC.2.2.1
  have hown := hC.2.2.2.1
  have hts := hC.2.2.2.2
  replace hl : lv_has ls 4 [(0, .ref w), (1, .int p0), (2, .int p1), (3, .int p2)] := hl
  have kc_0 : (0 : Int32).toInt = 0 := by decide
  refine lv_iload_n hx hb dX5_covers_0 rfl (lv_at hl 2 rfl) ?_
  refine lv_if_lt (tgt := 32) hx hb dX5_covers_1 (by decide) (fun c558 => ?_) (fun c558 => ?_)
  · replace c558 := lt_i c558
    refine lv_iconst (v := 0) hx hb dX5_covers_32 (by decide) ?_
    exact ro_zret hC hr hk dX5_covers_33 rfl (Or.inl rfl)
  · replace c558 := nlt_i c558
    refine lv_iload_n hx hb dX5_covers_4 rfl (lv_at hl 3 rfl) ?_
    refine lv_if_lt (tgt := 32) hx hb dX5_covers_5 (by decide) (fun c559 => ?_) (fun c559 => ?_)
    · replace c559 := lt_i c559
      refine lv_iconst (v := 0) hx hb dX5_covers_32 (by decide) ?_
      exact ro_zret hC hr hk dX5_covers_33 rfl (Or.inl rfl)
    · replace c559 := nlt_i c559
      refine lv_iload_n hx hb dX5_covers_8 rfl (lv_at hl 2 rfl) ?_
      refine lv_aload_n hx hb dX5_covers_9 rfl (lv_at hl 0 rfl) ?_
      refine lv_iload_n hx hb dX5_covers_10 rfl (lv_at hl 1 rfl) ?_
      refine ro_V (As := [.int p0]) (rest := [.int p1]) hC hE kV_X5_38 (c_X5_size l D K w wa0 wa1 wa2 wf2 p0 hsz) (hP.sub (ws' := [(w, .inr (5, [.ref wa0, .ref wa1, .ref wa2])), (wa2, .inl (K 1, 4, .inl wf2))]) [0, 1] rfl) 0 5 rfl rfl rfl hl.1 rfl (Nat.le_of_ble_eq_true rfl) (by decide) (by decide) dX5_covers_11 (fun r564 hq => ?_)
      rcases hq with rfl | ⟨h560, h561, h562, h563⟩
      · refine lv_icmp_gt (tgt := 32) hx hb dX5_covers_14 (by decide) (fun c565 => ?_) (fun c565 => ?_)
        · replace c565 := lt_i c565
          refine lv_iconst (v := 0) hx hb dX5_covers_32 (by decide) ?_
          exact ro_zret hC hr hk dX5_covers_33 rfl (Or.inl rfl)
        · replace c565 := nlt_i c565
          refine lv_iload_n hx hb dX5_covers_17 rfl (lv_at hl 3 rfl) ?_
          refine lv_aload_n hx hb dX5_covers_18 rfl (lv_at hl 0 rfl) ?_
          refine lv_iload_n hx hb dX5_covers_19 rfl (lv_at hl 1 rfl) ?_
          refine ro_V (As := [.int p0]) (rest := [.int p2]) hC hE kV_X5_38 (c_X5_size l D K w wa0 wa1 wa2 wf2 p0 hsz) (hP.sub (ws' := [(w, .inr (5, [.ref wa0, .ref wa1, .ref wa2])), (wa2, .inl (K 1, 4, .inl wf2))]) [0, 1] rfl) 0 5 rfl rfl rfl hl.1 rfl (Nat.le_of_ble_eq_true rfl) (by decide) (by decide) dX5_covers_20 (fun r570 hq => ?_)
          rcases hq with rfl | ⟨h566, h567, h568, h569⟩
          · refine lv_iload_n hx hb dX5_covers_23 rfl (lv_at hl 2 rfl) ?_
            refine lv_isub hx hb dX5_covers_24 ?_
            refine lv_topi (fun v571 ev571 => ?_)
            have tv571 : v571.toInt = (0 : Int32).toInt - (p1 : Int32).toInt := sub_i ev571 (by omega) (by omega)
            refine lv_icmp_gt (tgt := 32) hx hb dX5_covers_25 (by decide) (fun c572 => ?_) (fun c572 => ?_)
            · replace c572 := lt_i c572
              refine lv_iconst (v := 0) hx hb dX5_covers_32 (by decide) ?_
              exact ro_zret hC hr hk dX5_covers_33 rfl (Or.inl rfl)
            · replace c572 := nlt_i c572
              refine lv_iconst (v := 1) hx hb dX5_covers_28 (by decide) ?_
              refine lv_goto (tgt := 33) hx hb dX5_covers_29 (by decide) ?_
              exact ro_zret hC hr hk dX5_covers_33 rfl (Or.inr ⟨rfl, (by omega), (by omega), (by omega)⟩)
          · refine lv_iload_n hx hb dX5_covers_23 rfl (lv_at hl 2 rfl) ?_
            refine lv_isub hx hb dX5_covers_24 ?_
            refine lv_topi (fun v573 ev573 => ?_)
            have tv573 : v573.toInt = (r570 : Int32).toInt - (p1 : Int32).toInt := sub_i ev573 (by omega) (by omega)
            refine lv_icmp_gt (tgt := 32) hx hb dX5_covers_25 (by decide) (fun c574 => ?_) (fun c574 => ?_)
            · replace c574 := lt_i c574
              refine lv_iconst (v := 0) hx hb dX5_covers_32 (by decide) ?_
              exact ro_zret hC hr hk dX5_covers_33 rfl (Or.inl rfl)
            · replace c574 := nlt_i c574
              refine lv_iconst (v := 1) hx hb dX5_covers_28 (by decide) ?_
              refine lv_goto (tgt := 33) hx hb dX5_covers_29 (by decide) ?_
              exact ro_zret hC hr hk dX5_covers_33 rfl (Or.inr ⟨rfl, (by omega), (by omega), (by omega)⟩)
      · refine lv_icmp_gt (tgt := 32) hx hb dX5_covers_14 (by decide) (fun c575 => ?_) (fun c575 => ?_)
        · replace c575 := lt_i c575
          refine lv_iconst (v := 0) hx hb dX5_covers_32 (by decide) ?_
          exact ro_zret hC hr hk dX5_covers_33 rfl (Or.inl rfl)
        · replace c575 := nlt_i c575
          refine lv_iload_n hx hb dX5_covers_17 rfl (lv_at hl 3 rfl) ?_
          refine lv_aload_n hx hb dX5_covers_18 rfl (lv_at hl 0 rfl) ?_
          refine lv_iload_n hx hb dX5_covers_19 rfl (lv_at hl 1 rfl) ?_
          refine ro_V (As := [.int p0]) (rest := [.int p2]) hC hE kV_X5_38 (c_X5_size l D K w wa0 wa1 wa2 wf2 p0 hsz) (hP.sub (ws' := [(w, .inr (5, [.ref wa0, .ref wa1, .ref wa2])), (wa2, .inl (K 1, 4, .inl wf2))]) [0, 1] rfl) 0 5 rfl rfl rfl hl.1 rfl (Nat.le_of_ble_eq_true rfl) (by decide) (by decide) dX5_covers_20 (fun r580 hq => ?_)
          rcases hq with rfl | ⟨h576, h577, h578, h579⟩
          · refine lv_iload_n hx hb dX5_covers_23 rfl (lv_at hl 2 rfl) ?_
            refine lv_isub hx hb dX5_covers_24 ?_
            refine lv_topi (fun v581 ev581 => ?_)
            have tv581 : v581.toInt = (0 : Int32).toInt - (p1 : Int32).toInt := sub_i ev581 (by omega) (by omega)
            refine lv_icmp_gt (tgt := 32) hx hb dX5_covers_25 (by decide) (fun c582 => ?_) (fun c582 => ?_)
            · replace c582 := lt_i c582
              refine lv_iconst (v := 0) hx hb dX5_covers_32 (by decide) ?_
              exact ro_zret hC hr hk dX5_covers_33 rfl (Or.inl rfl)
            · replace c582 := nlt_i c582
              refine lv_iconst (v := 1) hx hb dX5_covers_28 (by decide) ?_
              refine lv_goto (tgt := 33) hx hb dX5_covers_29 (by decide) ?_
              exact ro_zret hC hr hk dX5_covers_33 rfl (Or.inr ⟨rfl, (by omega), (by omega), (by omega)⟩)
          · refine lv_iload_n hx hb dX5_covers_23 rfl (lv_at hl 2 rfl) ?_
            refine lv_isub hx hb dX5_covers_24 ?_
            refine lv_topi (fun v583 ev583 => ?_)
            have tv583 : v583.toInt = (r580 : Int32).toInt - (p1 : Int32).toInt := sub_i ev583 (by omega) (by omega)
            refine lv_icmp_gt (tgt := 32) hx hb dX5_covers_25 (by decide) (fun c584 => ?_) (fun c584 => ?_)
            · replace c584 := lt_i c584
              refine lv_iconst (v := 0) hx hb dX5_covers_32 (by decide) ?_
              exact ro_zret hC hr hk dX5_covers_33 rfl (Or.inl rfl)
            · replace c584 := nlt_i c584
              refine lv_iconst (v := 1) hx hb dX5_covers_28 (by decide) ?_
              refine lv_goto (tgt := 33) hx hb dX5_covers_29 (by decide) ?_
              exact ro_zret hC hr hk dX5_covers_33 rfl (Or.inr ⟨rfl, (by omega), (by omega), (by omega)⟩)
set_option maxRecDepth 40000 in
set_option maxHeartbeats 4000000 in
theorem c_X5_move (l : Launch) (D : va_G) (K : Nat → ClassId) (w : Nat) (wa0 : Nat) (wa1 : Nat) (wa2 : Nat) (wf0 : Nat → Int64) (wf2 : Nat → Int32) (p0 : Int32) (p1 : Int32) (p2 : Int32) (p3 : Int32) (p4 : Int32) (hsz : ∀ j, j < 4 → -1 ≤ (wf2 j).toInt ∧ (wf2 j).toInt ≤ 60) : Cv (S := ((Nat → Int32) × (Nat → Nat → Int32) × (Nat → Nat → Int64))) l D K yX5_move cX5_move 6 4 85 0 0 [.ref w, .int p0, .int p1, .int p2, .int p3, .int p4] [(w, .inr (5, [.ref wa0, .ref wa1, .ref wa2])), (wa0, .inl (K 2, 240, .inr (.inl wf0))), (wa2, .inl (K 1, 4, .inl wf2))] (fun _ => True) (fun u => [(w, .inr (5, [.ref wa0, .ref wa1, .ref wa2])), (wa0, .inl (K 2, 240, .inr (.inl (u.2.2 0)))), (wa2, .inl (K 1, 4, .inl wf2))]) := by
  intro sz
  refine ch_of (y := yX5_move) (cc := cX5_move) (maxL := 6) (ret := none) (av := [.ref w, .int p0, .int p1, .int p2, .int p3, .int p4]) (ws := [(w, .inr (5, [.ref wa0, .ref wa1, .ref wa2])), (wa0, .inl (K 2, 240, .inr (.inl wf0))), (wa2, .inl (K 1, 4, .inl wf2))]) (D := D) (K := K) (Qc := fun A => va_Qv (S := ((Nat → Int32) × (Nat → Nat → Int32) × (Nat → Nat → Int64))) (fun _ => True) (chB D A (fun u => [(w, .inr (5, [.ref wa0, .ref wa1, .ref wa2])), (wa0, .inl (K 2, 240, .inr (.inl (u.2.2 0)))), (wa2, .inl (K 1, 4, .inl wf2))])) A) (by decide) (Nat.le_of_ble_eq_true rfl) ?_
  intro p e s m below meth c A hC hr hk hin hE hD hA H locs hP hS ls hl
  replace hC : CallFix p m c cX5_move 6 s [.ref w, .int p0, .int p1, .int p2, .int p3, .int p4].toArray wl RX5 := hC
  have hx := hC.1
  have hb := hC.2.1
  have hml := hC.2.2.1
  have hown := hC.2.2.2.1
  have hts := hC.2.2.2.2
  replace hl : lv_has ls 6 [(0, .ref w), (1, .int p0), (2, .int p1), (3, .int p2), (4, .int p3), (5, .int p4)] := hl
  have kc_60 : (60 : Int32).toInt = 60 := by decide
  refine lv_aload_n hx hb dX5_move_0 rfl (lv_at hl 0 rfl) ?_
  refine lv_iload_n hx hb dX5_move_1 rfl (lv_at hl 1 rfl) ?_
  refine lv_iload_n hx hb dX5_move_2 rfl (lv_at hl 2 rfl) ?_
  refine lv_iload hx hb dX5_move_3 (lv_at hl 5 rfl) ?_
  refine ro_V (As := [.int p0, .int p1, .int p4]) (rest := []) hC hE kV_X5_49 (c_X5_covers l D K w wa0 wa1 wa2 wf2 p0 p1 p4 hsz) (hP.sub (ws' := [(w, .inr (5, [.ref wa0, .ref wa1, .ref wa2])), (wa2, .inl (K 1, 4, .inl wf2))]) [0, 2] rfl) 0 5 rfl rfl rfl hl.1 rfl (Nat.le_of_ble_eq_true rfl) (by decide) (by decide) dX5_move_5 (fun r607 hq => ?_)
  rcases hq with rfl | ⟨rfl, h604, h605, h606⟩
  · refine lv_if_eq (tgt := 63) hx hb dX5_move_8 (by decide) (fun _ => ?_) (fun h => absurd h (by decide))
    refine W.widen (k := 0) (n := 0) (by decide) (by decide) ?_
    exact ch_vret hC hr hk hS dX5_move_63 ((fun k => [].getD k 0, fun k => [].getD k (fun _ => 0), fun k => [wf0].getD k (fun _ => 0)) : ((Nat → Int32) × (Nat → Nat → Int32) × (Nat → Nat → Int64))) trivial (hP.sub [0, 1, 2] rfl) (hD.sub [0, 1, 2] (by decide) rfl)
  · refine lv_if_eq (tgt := 63) hx hb dX5_move_8 (by decide) (fun h => absurd h (by decide)) (fun _ => ?_)
    refine lv_aload_n hx hb dX5_move_11 rfl (lv_at hl 0 rfl) ?_
    refine lv_iload_n hx hb dX5_move_12 rfl (lv_at hl 3 rfl) ?_
    refine lv_iload hx hb dX5_move_13 (lv_at hl 4 rfl) ?_
    refine lv_iload hx hb dX5_move_15 (lv_at hl 5 rfl) ?_
    refine ro_V (As := [.int p2, .int p3, .int p4]) (rest := []) hC hE kV_X5_49 (c_X5_covers l D K w wa0 wa1 wa2 wf2 p2 p3 p4 hsz) (hP.sub (ws' := [(w, .inr (5, [.ref wa0, .ref wa1, .ref wa2])), (wa2, .inl (K 1, 4, .inl wf2))]) [0, 2] rfl) 0 5 rfl rfl rfl hl.1 rfl (Nat.le_of_ble_eq_true rfl) (by decide) (by decide) dX5_move_17 (fun r611 hq => ?_)
    rcases hq with rfl | ⟨rfl, h608, h609, h610⟩
    · refine lv_if_eq (tgt := 63) hx hb dX5_move_20 (by decide) (fun _ => ?_) (fun h => absurd h (by decide))
      refine W.widen (k := 0) (n := 0) (by decide) (by decide) ?_
      exact ch_vret hC hr hk hS dX5_move_63 ((fun k => [].getD k 0, fun k => [].getD k (fun _ => 0), fun k => [wf0].getD k (fun _ => 0)) : ((Nat → Int32) × (Nat → Nat → Int32) × (Nat → Nat → Int64))) trivial (hP.sub [0, 1, 2] rfl) (hD.sub [0, 1, 2] (by decide) rfl)
    · refine lv_if_eq (tgt := 63) hx hb dX5_move_20 (by decide) (fun h => absurd h (by decide)) (fun _ => ?_)
      refine lv_iload_n hx hb dX5_move_23 rfl (lv_at hl 1 rfl) ?_
      refine ro_SN (As := [.int p0]) (rest := []) hC hE kSN_X5_28 (c_X11_isSlot l D K p0) (hP.sub (ws' := []) [] rfl) rfl hl.1 rfl (Nat.le_of_ble_eq_true rfl) (by decide) (by decide) dX5_move_24 (fun r614 hq => ?_)
      rcases hq with rfl | ⟨rfl, h612, h613⟩
      · refine lv_if_eq (tgt := 63) hx hb dX5_move_27 (by decide) (fun _ => ?_) (fun h => absurd h (by decide))
        refine W.widen (k := 0) (n := 0) (by decide) (by decide) ?_
        exact ch_vret hC hr hk hS dX5_move_63 ((fun k => [].getD k 0, fun k => [].getD k (fun _ => 0), fun k => [wf0].getD k (fun _ => 0)) : ((Nat → Int32) × (Nat → Nat → Int32) × (Nat → Nat → Int64))) trivial (hP.sub [0, 1, 2] rfl) (hD.sub [0, 1, 2] (by decide) rfl)
      · refine lv_if_eq (tgt := 63) hx hb dX5_move_27 (by decide) (fun h => absurd h (by decide)) (fun _ => ?_)
        refine lv_iload_n hx hb dX5_move_30 rfl (lv_at hl 3 rfl) ?_
        refine ro_SN (As := [.int p2]) (rest := []) hC hE kSN_X5_28 (c_X11_isSlot l D K p2) (hP.sub (ws' := []) [] rfl) rfl hl.1 rfl (Nat.le_of_ble_eq_true rfl) (by decide) (by decide) dX5_move_31 (fun r617 hq => ?_)
        rcases hq with rfl | ⟨rfl, h615, h616⟩
        · refine lv_if_eq (tgt := 63) hx hb dX5_move_34 (by decide) (fun _ => ?_) (fun h => absurd h (by decide))
          refine W.widen (k := 0) (n := 0) (by decide) (by decide) ?_
          exact ch_vret hC hr hk hS dX5_move_63 ((fun k => [].getD k 0, fun k => [].getD k (fun _ => 0), fun k => [wf0].getD k (fun _ => 0)) : ((Nat → Int32) × (Nat → Nat → Int32) × (Nat → Nat → Int64))) trivial (hP.sub [0, 1, 2] rfl) (hD.sub [0, 1, 2] (by decide) rfl)
        · refine lv_if_eq (tgt := 63) hx hb dX5_move_34 (by decide) (fun h => absurd h (by decide)) (fun _ => ?_)
          refine lv_aload_n hx hb dX5_move_37 rfl (lv_at hl 0 rfl) ?_
          refine va_get (D := D) (ci := 5) (v := .ref wa0) (C := RX5) (T := TX5) (N := 3) hx hb hts in_X5 hown hE.1 hP 0 rfl rfl 0 (by decide) (hts _ w_113) (fun _ h9 => h9) rfl dX5_move_38 ?_
          refine lv_iload_n hx hb dX5_move_41 rfl (lv_at hl 1 rfl) ?_
          refine lv_bipush (v := 60) hx hb dX5_move_42 (by decide) ?_
          refine lv_imul hx hb dX5_move_44 ?_
          refine lv_topi (fun v618 ev618 => ?_)
          refine lv_iload_n hx hb dX5_move_45 rfl (lv_at hl 2 rfl) ?_
          refine lv_iadd hx hb dX5_move_46 ?_
          refine lv_topi (fun v619 ev619 => ?_)
          refine lv_aload_n hx hb dX5_move_47 rfl (lv_at hl 0 rfl) ?_
          refine va_get (D := D) (ci := 5) (v := .ref wa0) (C := RX5) (T := TX5) (N := 3) hx hb hts in_X5 hown hE.1 hP 0 rfl rfl 0 (by decide) (hts _ w_113) (fun _ h9 => h9) rfl dX5_move_48 ?_
          refine lv_iload_n hx hb dX5_move_51 rfl (lv_at hl 3 rfl) ?_
          refine lv_bipush (v := 60) hx hb dX5_move_52 (by decide) ?_
          refine lv_imul hx hb dX5_move_54 ?_
          refine lv_topi (fun v620 ev620 => ?_)
          refine lv_iload hx hb dX5_move_55 (lv_at hl 4 rfl) ?_
          refine lv_iadd hx hb dX5_move_57 ?_
          refine lv_topi (fun v621 ev621 => ?_)
          refine lv_iload hx hb dX5_move_58 (lv_at hl 5 rfl) ?_
          have tv620 : v620.toInt = p2.toInt * 60 := mul_i ev620 rfl (by decide) (by omega) (by omega)
          have tv621 : v621.toInt = (v620 : Int32).toInt + (p3 : Int32).toInt := add_i ev621 (by omega) (by omega)
          have tv618 : v618.toInt = p0.toInt * 60 := mul_i ev618 rfl (by decide) (by omega) (by omega)
          have tv619 : v619.toInt = (v618 : Int32).toInt + (p1 : Int32).toInt := add_i ev619 (by omega) (by omega)
          refine cpl hC hE hl.1 w_121 w_81 w_82 w_83 hP hD hS 1 1 rfl rfl (nlt_z (by omega)) (nlt_z (by omega)) (nlt_z (by omega)) (cl_le (by omega) (by omega) (by omega)) (cl_le (by omega) (by omega) (by omega)) (by decide) (Nat.le_of_ble_eq_true rfl) dX5_move_60 (fun g622 H locs hP hD hS => ?_)
          replace hP : va_P D vwCl [(w, .inr (5, [.ref wa0, .ref wa1, .ref wa2])), (wa0, .inl (K 2, 240, .inr (.inl g622))), (wa2, .inl (K 1, 4, .inl wf2))] H := hP
          replace hD : va_D A [(w, .inr (5, [.ref wa0, .ref wa1, .ref wa2])), (wa0, .inl (K 2, 240, .inr (.inl g622))), (wa2, .inl (K 1, 4, .inl wf2))] := hD
          refine W.widen (k := 0) (n := 0) (by decide) (by decide) ?_
          exact ch_vret hC hr hk hS dX5_move_63 ((fun k => [].getD k 0, fun k => [].getD k (fun _ => 0), fun k => [g622].getD k (fun _ => 0)) : ((Nat → Int32) × (Nat → Nat → Int32) × (Nat → Nat → Int64))) trivial (hP.sub [0, 1, 2] rfl) (hD.sub [0, 1, 2] (by decide) rfl)
set_option maxRecDepth 40000 in
set_option maxHeartbeats 4000000 in
theorem c_J7_rangeCheck_23922 (l : Launch) (D : va_G) (K : Nat → ClassId) (p0 : Int32) (p1 : Int32) (p2 : Int32) (h1 : 0 ≤ p1.toInt) (h2 : p1.toInt ≤ p2.toInt) (h3 : p2.toInt ≤ p0.toInt) : Cv (S := ((Nat → Int32) × (Nat → Nat → Int32) × (Nat → Nat → Int64))) l D K yJ7_rangeCheck_23922 cJ7_rangeCheck_23922 3 0 0 0 0 [.int p0, .int p1, .int p2] [] (fun _ => True) (fun u => []) := by
  intro sz
  refine ch_of (y := yJ7_rangeCheck_23922) (cc := cJ7_rangeCheck_23922) (maxL := 3) (ret := none) (av := [.int p0, .int p1, .int p2]) (ws := []) (D := D) (K := K) (Qc := fun A => va_Qv (S := ((Nat → Int32) × (Nat → Nat → Int32) × (Nat → Nat → Int64))) (fun _ => True) (chB D A (fun u => [])) A) (by decide) (Nat.le_of_ble_eq_true rfl) ?_
  intro p e s m below meth c A hC hr hk hin hE hD hA H locs hP hS ls hl
  replace hC : CallFix p m c cJ7_rangeCheck_23922 3 s [.int p0, .int p1, .int p2].toArray wl RJ7 := hC
  have hx := hC.1
  have hb := hC.2.1
  have hml := hC.2.2.1
  have hown := hC.2.2.2.1
  have hts := hC.2.2.2.2
  replace hl : lv_has ls 3 [(0, .int p0), (1, .int p1), (2, .int p2)] := hl
  have kc_0 : (0 : Int32).toInt = 0 := by decide
  refine lv_iload_n hx hb dJ7_rangeCheck_23922_0 rfl (lv_at hl 1 rfl) ?_
  refine lv_iload_n hx hb dJ7_rangeCheck_23922_1 rfl (lv_at hl 2 rfl) ?_
  refine lv_icmp_le (tgt := 46) hx hb dJ7_rangeCheck_23922_2 (by decide) (fun _ => ?_) (fun h => absurd (Int32.le_iff_toInt_le.mpr (by omega)) h)
  refine lv_iload_n hx hb dJ7_rangeCheck_23922_46 rfl (lv_at hl 1 rfl) ?_
  refine lv_if_ge (tgt := 59) hx hb dJ7_rangeCheck_23922_47 (by decide) (fun _ => ?_) (fun h => absurd (Int32.le_iff_toInt_le.mpr (by omega)) h)
  refine lv_iload_n hx hb dJ7_rangeCheck_23922_59 rfl (lv_at hl 2 rfl) ?_
  refine lv_iload_n hx hb dJ7_rangeCheck_23922_60 rfl (lv_at hl 0 rfl) ?_
  refine lv_icmp_le (tgt := 73) hx hb dJ7_rangeCheck_23922_61 (by decide) (fun _ => ?_) (fun h => absurd (Int32.le_iff_toInt_le.mpr (by omega)) h)
  refine W.widen (k := 0) (n := 0) (by decide) (by decide) ?_
  exact ch_vret hC hr hk hS dJ7_rangeCheck_23922_73 ((fun k => [].getD k 0, fun k => [].getD k (fun _ => 0), fun k => [].getD k (fun _ => 0)) : ((Nat → Int32) × (Nat → Nat → Int32) × (Nat → Nat → Int64))) trivial (hP.sub [] rfl) (hD.sub [] (by decide) rfl)
set_option maxRecDepth 40000 in
set_option maxHeartbeats 4000000 in
theorem c_J7_fill_bad5a (l : Launch) (D : va_G) (K : Nat → ClassId) (a : Nat) (f : Nat → Int64) (p1 : Int32) (p2 : Int32) (p3 : Int64) (h1 : 0 ≤ p1.toInt) (h2 : p1.toInt ≤ p2.toInt) (h3 : p2.toInt ≤ 240) : Cv (S := ((Nat → Int32) × (Nat → Nat → Int32) × (Nat → Nat → Int64))) l D K yJ7_fill_bad5a cJ7_fill_bad5a 6 1 22 0 0 [.ref a, .int p1, .int p2, .long p3] [(a, .inl (K 2, 240, .inr (.inl f)))] (fun _ => True) (fun u => [(a, .inl (K 2, 240, .inr (.inl (u.2.2 0))))]) := by
  intro sz
  refine ch_of (y := yJ7_fill_bad5a) (cc := cJ7_fill_bad5a) (maxL := 6) (ret := none) (av := [.ref a, .int p1, .int p2, .long p3]) (ws := [(a, .inl (K 2, 240, .inr (.inl f)))]) (D := D) (K := K) (Qc := fun A => va_Qv (S := ((Nat → Int32) × (Nat → Nat → Int32) × (Nat → Nat → Int64))) (fun _ => True) (chB D A (fun u => [(a, .inl (K 2, 240, .inr (.inl (u.2.2 0))))])) A) (by decide) (Nat.le_of_ble_eq_true rfl) ?_
  intro p e s m below meth c A hC hr hk hin hE hD hA H locs hP hS ls hl
  replace hC : CallFix p m c cJ7_fill_bad5a 6 s [.ref a, .int p1, .int p2, .long p3].toArray wl RJ7 := hC
  have hx := hC.1
  have hb := hC.2.1
  have hml := hC.2.2.1
  have hown := hC.2.2.2.1
  have hts := hC.2.2.2.2
  replace hl : lv_has ls 6 [(0, .ref a), (1, .int p1), (2, .int p2), (3, .long p3)] := hl
  have kc_1 : (1 : Int32).toInt = 1 := by decide
  have kc_240 : (240 : Int32).toInt = 240 := by decide
  refine lv_aload_n hx hb dJ7_fill_bad5a_0 rfl (lv_at hl 0 rfl) ?_
  refine va_alen (v := 240) hx hb hE.1 hP 0 2 rfl rfl (show Int32.ofNat 240 = 240 by decide) dJ7_fill_bad5a_1 ?_
  refine lv_iload_n hx hb dJ7_fill_bad5a_2 rfl (lv_at hl 1 rfl) ?_
  refine lv_iload_n hx hb dJ7_fill_bad5a_3 rfl (lv_at hl 2 rfl) ?_
  refine cv_S (As := [.int 240, .int p1, .int p2]) (rest := []) (wc := []) (wr := [(a, .inl (K 2, 240, .inr (.inl f)))]) hC hE kS_J7_13 (c_J7_rangeCheck_23922 l D K 240 p1 p2 (by omega) (by omega) (by omega)) hP hD hS hA [] [0] rfl rfl rfl (by decide) (by decide) (by decide) rfl hl.1 rfl (Nat.le_of_ble_eq_true rfl) (by decide) (by decide) dJ7_fill_bad5a_4 (fun u629 H locs hw hP hD hS => ?_)
  replace hP : va_P D vwCl [(a, .inl (K 2, 240, .inr (.inl f)))] H := hP
  replace hD : va_D A [(a, .inl (K 2, 240, .inr (.inl f)))] := hD
  replace hP : va_P D vwCl [(a, .inl (K 2, 240, .inr (.inl f)))] H := hP.sub [0] rfl
  replace hD : va_D A [(a, .inl (K 2, 240, .inr (.inl f)))] := hD.sub [0] (by decide) rfl
  refine W.widen (k := 0) (n := 0) (by decide) (by decide) ?_
  refine lv_iload_n hx hb dJ7_fill_bad5a_7 rfl (lv_at hl 1 rfl) ?_
  refine lv_istore (lv' := [(5, .int p1), (0, .ref a), (1, .int p1), (2, .int p2), (3, .long p3)]) hx hb dJ7_fill_bad5a_8 hl (by decide) rfl (fun ls hl => ?_)
  have hl' := hl; have hP' := hP; have hD' := hD; clear hl hP hD
  obtain ⟨i635, g636, hi_10, hl, hP, hD⟩ : ∃ (i635 : Int32) (g636 : Nat → Int64), (p1.toInt ≤ i635.toInt) ∧ lv_has ls 6 [(5, .int i635), (0, .ref a), (1, .int p1), (2, .int p2), (3, .long p3)] ∧ va_P D vwCl [(a, .inl (K 2, 240, .inr (.inl g636)))] H ∧ va_D A [(a, .inl (K 2, 240, .inr (.inl g636)))] := ⟨_, _, by omega, hl', hP', hD'⟩
  clear hl' hP' hD'
  have hb_10 := i32_hi p2
  obtain ⟨n_10, hn_10⟩ : ∃ n : Nat, (p2.toInt - i635.toInt).toNat < n := ⟨_, Nat.lt_succ_self _⟩
  induction n_10 generalizing i635 g636 H locs ls with
  | zero => exact absurd hn_10 (Nat.not_lt_zero _)
  | succ n_10 ih_10 =>
    refine lv_iload hx hb dJ7_fill_bad5a_10 (lv_at hl 0 rfl) ?_
    refine lv_iload_n hx hb dJ7_fill_bad5a_12 rfl (lv_at hl 3 rfl) ?_
    refine lv_icmp_ge (tgt := 27) hx hb dJ7_fill_bad5a_13 (by decide) (fun c637 => ?_) (fun c637 => ?_)
    · replace c637 := le_i c637
      refine W.widen (k := 0) (n := 0) (by decide) (by decide) ?_
      exact ch_vret hC hr hk hS dJ7_fill_bad5a_27 ((fun k => [].getD k 0, fun k => [].getD k (fun _ => 0), fun k => [g636].getD k (fun _ => 0)) : ((Nat → Int32) × (Nat → Nat → Int32) × (Nat → Nat → Int64))) trivial (hP.sub [0] rfl) (hD.sub [0] (by decide) rfl)
    · replace c637 := nle_i c637
      refine lv_aload_n hx hb dJ7_fill_bad5a_16 rfl (lv_at hl 1 rfl) ?_
      refine lv_iload hx hb dJ7_fill_bad5a_17 (lv_at hl 0 rfl) ?_
      refine lv_lload_n hx hb dJ7_fill_bad5a_19 rfl (lv_at hl 4 rfl) ?_
      refine stl hx hb hE.1 hP hD hS 0 2 rfl rfl (vp_in_iff.mpr (by omega)) dJ7_fill_bad5a_20 (fun g638 eg638 H locs hP hD hS => ?_)
      replace hP : va_P D vwCl [(a, .inl (K 2, 240, .inr (.inl g638)))] H := hP
      replace hD : va_D A [(a, .inl (K 2, 240, .inr (.inl g638)))] := hD
      obtain ⟨v639, ev639⟩ : ∃ z : Int32, z = i635 + 1 := ⟨_, rfl⟩
      refine lv_iinc (v := v639) (lv' := [(5, .int v639), (0, .ref a), (1, .int p1), (2, .int p2), (3, .long p3)]) hx hb dJ7_fill_bad5a_21 hl (k := 0) rfl (by rw [ev639]; rfl) (by decide) rfl (fun ls hl => ?_)
      refine lv_goto (tgt := 10) hx hb dJ7_fill_bad5a_24 (by decide) ?_
      have tv639 : v639.toInt = (i635 : Int32).toInt + (1 : Int32).toInt := add_i ev639 (by omega) (by omega)
      exact ih_10 (i635 := v639) (g636 := g638) (hi_10 := by omega) (H := H) (locs := locs) (ls := ls) (hn_10 := by omega) (hP := hP) (hD := hD) (hS := hS) (hl := lv_sub hl [0, 1, 2, 3, 4] rfl)
set_option maxRecDepth 40000 in
set_option maxHeartbeats 4000000 in
theorem c_J7_fill_4 (l : Launch) (D : va_G) (K : Nat → ClassId) (a : Nat) (f : Nat → Int32) (p1 : Int32) : Cv (S := ((Nat → Int32) × (Nat → Nat → Int32) × (Nat → Nat → Int64))) l D K yJ7_fill_53178 cJ7_fill_53178 4 0 0 0 0 [.ref a, .int p1] [(a, .inl (K 1, 4, .inl f))] (fun _ => True) (fun u => [(a, .inl (K 1, 4, .inl (u.2.1 0)))]) := by
  intro sz
  refine ch_of (y := yJ7_fill_53178) (cc := cJ7_fill_53178) (maxL := 4) (ret := none) (av := [.ref a, .int p1]) (ws := [(a, .inl (K 1, 4, .inl f))]) (D := D) (K := K) (Qc := fun A => va_Qv (S := ((Nat → Int32) × (Nat → Nat → Int32) × (Nat → Nat → Int64))) (fun _ => True) (chB D A (fun u => [(a, .inl (K 1, 4, .inl (u.2.1 0)))])) A) (by decide) (Nat.le_of_ble_eq_true rfl) ?_
  intro p e s m below meth c A hC hr hk hin hE hD hA H locs hP hS ls hl
  replace hC : CallFix p m c cJ7_fill_53178 4 s [.ref a, .int p1].toArray wl RJ7 := hC
  have hx := hC.1
  have hb := hC.2.1
  have hml := hC.2.2.1
  have hown := hC.2.2.2.1
  have hts := hC.2.2.2.2
  replace hl : lv_has ls 4 [(0, .ref a), (1, .int p1)] := hl
  have kc_0 : (0 : Int32).toInt = 0 := by decide
  have kc_1 : (1 : Int32).toInt = 1 := by decide
  have kc_4 : (4 : Int32).toInt = 4 := by decide
  refine lv_iconst (v := 0) hx hb dJ7_fill_53178_0 (by decide) ?_
  refine lv_istore_n (lv' := [(2, .int 0), (0, .ref a), (1, .int p1)]) hx hb dJ7_fill_53178_1 rfl hl (by decide) rfl (fun ls hl => ?_)
  refine lv_aload_n hx hb dJ7_fill_53178_2 rfl (lv_at hl 1 rfl) ?_
  refine va_alen (v := 4) hx hb hE.1 hP 0 1 rfl rfl (show Int32.ofNat 4 = 4 by decide) dJ7_fill_53178_3 ?_
  refine lv_istore_n (lv' := [(3, .int 4), (2, .int 0), (0, .ref a), (1, .int p1)]) hx hb dJ7_fill_53178_4 rfl hl (by decide) rfl (fun ls hl => ?_)
  have hl' := hl; have hP' := hP; have hD' := hD; clear hl hP hD
  obtain ⟨i648, g649, hi_5, hl, hP, hD⟩ : ∃ (i648 : Int32) (g649 : Nat → Int32), ((0 : Int) ≤ i648.toInt) ∧ lv_has ls 4 [(3, .int 4), (2, .int i648), (0, .ref a), (1, .int p1)] ∧ va_P D vwCl [(a, .inl (K 1, 4, .inl g649))] H ∧ va_D A [(a, .inl (K 1, 4, .inl g649))] := ⟨_, _, by omega, hl', hP', hD'⟩
  clear hl' hP' hD'
  obtain ⟨n_5, hn_5⟩ : ∃ n : Nat, (4 - i648.toInt).toNat < n := ⟨_, Nat.lt_succ_self _⟩
  induction n_5 generalizing i648 g649 H locs ls with
  | zero => exact absurd hn_5 (Nat.not_lt_zero _)
  | succ n_5 ih_5 =>
    refine lv_iload_n hx hb dJ7_fill_53178_5 rfl (lv_at hl 1 rfl) ?_
    refine lv_iload_n hx hb dJ7_fill_53178_6 rfl (lv_at hl 0 rfl) ?_
    refine lv_icmp_ge (tgt := 20) hx hb dJ7_fill_53178_7 (by decide) (fun c650 => ?_) (fun c650 => ?_)
    · replace c650 := le_i c650
      refine W.widen (k := 0) (n := 0) (by decide) (by decide) ?_
      exact ch_vret hC hr hk hS dJ7_fill_53178_20 ((fun k => [].getD k 0, fun k => [g649].getD k (fun _ => 0), fun k => [].getD k (fun _ => 0)) : ((Nat → Int32) × (Nat → Nat → Int32) × (Nat → Nat → Int64))) trivial (hP.sub [0] rfl) (hD.sub [0] (by decide) rfl)
    · replace c650 := nle_i c650
      refine lv_aload_n hx hb dJ7_fill_53178_10 rfl (lv_at hl 2 rfl) ?_
      refine lv_iload_n hx hb dJ7_fill_53178_11 rfl (lv_at hl 1 rfl) ?_
      refine lv_iload_n hx hb dJ7_fill_53178_12 rfl (lv_at hl 3 rfl) ?_
      refine sti hx hb hE.1 hP hD hS 0 1 rfl rfl (vp_in_iff.mpr (by omega)) dJ7_fill_53178_13 (fun g651 eg651 H locs hP hD hS => ?_)
      replace hP : va_P D vwCl [(a, .inl (K 1, 4, .inl g651))] H := hP
      replace hD : va_D A [(a, .inl (K 1, 4, .inl g651))] := hD
      obtain ⟨v652, ev652⟩ : ∃ z : Int32, z = i648 + 1 := ⟨_, rfl⟩
      refine lv_iinc (v := v652) (lv' := [(2, .int v652), (3, .int 4), (0, .ref a), (1, .int p1)]) hx hb dJ7_fill_53178_14 hl (k := 1) rfl (by rw [ev652]; rfl) (by decide) rfl (fun ls hl => ?_)
      refine lv_goto (tgt := 5) hx hb dJ7_fill_53178_17 (by decide) ?_
      have tv652 : v652.toInt = (i648 : Int32).toInt + (1 : Int32).toInt := add_i ev652 (by omega) (by omega)
      exact ih_5 (i648 := v652) (g649 := g651) (hi_5 := by omega) (H := H) (locs := locs) (ls := ls) (hn_5 := by omega) (hP := hP) (hD := hD) (hS := hS) (hl := lv_sub hl [1, 0, 2, 3] rfl)
