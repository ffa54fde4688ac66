set_option maxRecDepth 40000 in
set_option maxHeartbeats 4000000 in
theorem c_X5_width (l : Launch) (D : va_G) (K : Nat → ClassId) (w : Nat) (wa0 : Nat) (wa1 : Nat) (wa2 : Nat) (wf1 : Nat → Int32) (p0 : Int32) : Ro l D K yX5_width cX5_width 2 (some .int) 1 20 [.ref w, .int p0] [(w, .inr (5, [.ref wa0, .ref wa1, .ref wa2])), (wa1, .inl (K 1, 4, .inl wf1))] (fun r => (r = (-1) ∧ (p0.toInt < 0 ∨ 3 < p0.toInt)) ∨ ((0 ≤ p0.toInt) ∧ (p0.toInt ≤ 3) ∧ (r.toInt = (wf1 p0.toNatClampNeg).toInt))) := by
  refine ro_of (by decide) (Nat.le_of_ble_eq_true rfl) ?_
  intro p e s m below meth c hC hr hk hE hP ls hl
  replace hC : CallFix p m c cX5_width 2 s [.ref w, .int p0].toArray wl RX5 := hC
  have hx := hC.1
  have hb := hC.2.1
  have hml := hC.2.2.1
  have hown := hC.2.2.2.1
  have hts := hC.2.2.2.2
  replace hl : lv_has ls 2 [(0, .ref w), (1, .int p0)] := hl
  refine lv_iload_n hx hb dX5_width_0 rfl (lv_at hl 1 rfl) ?_
  refine ro_SN (As := [.int p0]) (rest := []) hC hE kSN_X5_28 (c_X11_isSlot l D K p0) (hP.sub (ws' := []) [] rfl) rfl hl.1 rfl (Nat.le_of_ble_eq_true rfl) (by decide) (by decide) dX5_width_1 (fun r447 hq => ?_)
  rcases hq with ⟨rfl, h444⟩ | ⟨rfl, h445, h446⟩
  · refine lv_if_eq (tgt := 16) hx hb dX5_width_4 (by decide) (fun _ => ?_) (fun h => absurd h (by decide))
    refine lv_iconst (v := (-1)) hx hb dX5_width_16 (by decide) ?_
    exact ro_ret hC hr hk dX5_width_17 (Or.inl ⟨rfl, (by omega)⟩)
  · refine lv_if_eq (tgt := 16) hx hb dX5_width_4 (by decide) (fun h => absurd h (by decide)) (fun _ => ?_)
    refine lv_aload_n hx hb dX5_width_7 rfl (lv_at hl 0 rfl) ?_
    refine va_get (D := D) (ci := 5) (v := .ref wa1) (C := RX5) (T := TX5) (N := 3) hx hb hts in_X5 hown hE.1 hP 0 rfl rfl 1 (by decide) (hts _ w_103) (fun _ h9 => h9) rfl dX5_width_8 ?_
    refine lv_iload_n hx hb dX5_width_11 rfl (lv_at hl 1 rfl) ?_
    refine va_iald hx hb hE.1 hP 1 1 rfl rfl (vp_in_iff.mpr (by omega)) dX5_width_12 ?_
    refine lv_topi (fun v448 ev448 => ?_)
    have zv448 : v448.toInt = (wf1 p0.toNatClampNeg).toInt := by rw [ev448]
    refine lv_goto (tgt := 17) hx hb dX5_width_13 (by decide) ?_
    exact ro_ret hC hr hk dX5_width_17 (Or.inr ⟨(by omega), (by omega), (by omega)⟩)
set_option maxRecDepth 40000 in
set_option maxHeartbeats 4000000 in
theorem c_X5_size (l : Launch) (D : va_G) (K : Nat → ClassId) (w : Nat) (wa0 : Nat) (wa1 : Nat) (wa2 : Nat) (wf2 : Nat → Int32) (p0 : Int32) (hsz : ∀ j, j < 4 → -1 ≤ (wf2 j).toInt ∧ (wf2 j).toInt ≤ 60) : Ro l D K yX5_size cX5_size 2 (some .int) 2 41 [.ref w, .int p0] [(w, .inr (5, [.ref wa0, .ref wa1, .ref wa2])), (wa2, .inl (K 1, 4, .inl wf2))] (fun r => (r = 0 ∧ (p0.toInt < 0 ∨ 3 < p0.toInt ∨ (wf2 p0.toNatClampNeg).toInt = -1)) ∨ ((0 ≤ p0.toInt) ∧ (p0.toInt < 4) ∧ (0 ≤ r.toInt) ∧ (r.toInt ≤ 60) ∧ (r.toInt = (wf2 p0.toNatClampNeg).toInt))) := by
  refine ro_of (by decide) (Nat.le_of_ble_eq_true rfl) ?_
  intro p e s m below meth c hC hr hk hE hP ls hl
  replace hC : CallFix p m c cX5_size 2 s [.ref w, .int p0].toArray wl RX5 := hC
  have hx := hC.1
  have hb := hC.2.1
  have hml := hC.2.2.1
  have hown := hC.2.2.2.1
  have hts := hC.2.2.2.2
  replace hl : lv_has ls 2 [(0, .ref w), (1, .int p0)] := hl
  refine lv_aload_n hx hb dX5_size_0 rfl (lv_at hl 0 rfl) ?_
  refine lv_iload_n hx hb dX5_size_1 rfl (lv_at hl 1 rfl) ?_
  refine ro_V (As := [.int p0]) (rest := []) hC hE kV_X5_35 (c_X5_has l D K w wa0 wa1 wa2 wf2 p0 hsz) (hP.sub (ws' := [(w, .inr (5, [.ref wa0, .ref wa1, .ref wa2])), (wa2, .inl (K 1, 4, .inl wf2))]) [0, 1] rfl) 0 5 rfl rfl rfl hl.1 rfl (Nat.le_of_ble_eq_true rfl) (by decide) (by decide) dX5_size_2 (fun r453 hq => ?_)
  rcases hq with ⟨rfl, h449⟩ | ⟨rfl, h450, h451, h452⟩
  · refine lv_if_eq (tgt := 17) hx hb dX5_size_5 (by decide) (fun _ => ?_) (fun h => absurd h (by decide))
    refine lv_iconst (v := 0) hx hb dX5_size_17 (by decide) ?_
    exact ro_ret hC hr hk dX5_size_18 (Or.inl ⟨rfl, (by omega)⟩)
  · refine lv_if_eq (tgt := 17) hx hb dX5_size_5 (by decide) (fun h => absurd h (by decide)) (fun _ => ?_)
    refine lv_aload_n hx hb dX5_size_8 rfl (lv_at hl 0 rfl) ?_
    refine va_get (D := D) (ci := 5) (v := .ref wa2) (C := RX5) (T := TX5) (N := 3) hx hb hts in_X5 hown hE.1 hP 0 rfl rfl 2 (by decide) (hts _ w_102) (fun _ h9 => h9) rfl dX5_size_9 ?_
    refine lv_iload_n hx hb dX5_size_12 rfl (lv_at hl 1 rfl) ?_
    refine va_iald hx hb hE.1 hP 1 1 rfl rfl (vp_in_iff.mpr (by omega)) dX5_size_13 ?_
    refine lv_topi (fun v454 ev454 => ?_)
    have tv454 := hsz p0.toNatClampNeg (in_lt (i := p0) (vp_in_iff.mpr (by omega)))
    rw [← ev454] at tv454
    have zv454 : v454.toInt = (wf2 p0.toNatClampNeg).toInt := by rw [ev454]
    refine lv_goto (tgt := 18) hx hb dX5_size_14 (by decide) ?_
    exact ro_ret hC hr hk dX5_size_18 (Or.inr ⟨(by omega), (by omega), (by omega), (by omega), (by omega)⟩)
set_option maxRecDepth 40000 in
set_option maxHeartbeats 4000000 in
theorem c_X5_kept (l : Launch) (D : va_G) (K : Nat → ClassId) (w : Nat) (wa0 : Nat) (wa1 : Nat) (wa2 : Nat) (wf2 : Nat → Int32) (hsz : ∀ j, j < 4 → -1 ≤ (wf2 j).toInt ∧ (wf2 j).toInt ≤ 60) : Ro l D K yX5_kept cX5_kept 3 (some .int) 2 41 [.ref w] [(w, .inr (5, [.ref wa0, .ref wa1, .ref wa2])), (wa2, .inl (K 1, 4, .inl wf2))] (fun _ => True) := by
  refine ro_of (by decide) (Nat.le_of_ble_eq_true rfl) ?_
  intro p e s m below meth c hC hr hk hE hP ls hl
  replace hC : CallFix p m c cX5_kept 3 s [.ref w].toArray wl RX5 := hC
  have hx := hC.1
  have hb := hC.2.1
  have hml := hC.2.2.1
  have hown := hC.2.2.2.1
  have hts := hC.2.2.2.2
  replace hl : lv_has ls 3 [(0, .ref w)] := hl
  have kc_0 : (0 : Int32).toInt = 0 := by decide
  have kc_1 : (1 : Int32).toInt = 1 := by decide
  have kc_4 : (4 : Int32).toInt = 4 := by decide
  refine lv_iconst (v := 0) hx hb dX5_kept_0 (by decide) ?_
  refine lv_istore_n (lv' := [(1, .int 0), (0, .ref w)]) hx hb dX5_kept_1 rfl hl (by decide) rfl (fun ls hl => ?_)
  refine lv_iconst (v := 0) hx hb dX5_kept_2 (by decide) ?_
  refine lv_istore_n (lv' := [(2, .int 0), (1, .int 0), (0, .ref w)]) hx hb dX5_kept_3 rfl hl (by decide) rfl (fun ls hl => ?_)
  have hl' := hl; clear hl
  obtain ⟨i467, i468, hi_4, hl⟩ : ∃ (i467 : Int32) (i468 : Int32), ((0 : Int) ≤ i467.toInt) ∧ lv_has ls 3 [(2, .int i467), (1, .int i468), (0, .ref w)] := ⟨_, _, by omega, hl'⟩
  clear hl'
  obtain ⟨n_4, hn_4⟩ : ∃ n : Nat, (4 - i467.toInt).toNat < n := ⟨_, Nat.lt_succ_self _⟩
  induction n_4 generalizing i467 i468 ls with
  | zero => exact absurd hn_4 (Nat.not_lt_zero _)
  | succ n_4 ih_4 =>
    refine lv_iload_n hx hb dX5_kept_4 rfl (lv_at hl 0 rfl) ?_
    refine lv_iconst (v := 4) hx hb dX5_kept_5 (by decide) ?_
    refine lv_icmp_ge (tgt := 31) hx hb dX5_kept_6 (by decide) (fun c469 => ?_) (fun c469 => ?_)
    · replace c469 := le_i c469
      refine lv_iload_n hx hb dX5_kept_31 rfl (lv_at hl 1 rfl) ?_
      exact ro_ret hC hr hk dX5_kept_32 trivial
    · replace c469 := nle_i c469
      refine lv_iload_n hx hb dX5_kept_9 rfl (lv_at hl 1 rfl) ?_
      refine lv_aload_n hx hb dX5_kept_10 rfl (lv_at hl 2 rfl) ?_
      refine lv_iload_n hx hb dX5_kept_11 rfl (lv_at hl 0 rfl) ?_
      refine ro_V (As := [.int i467]) (rest := [.int i468]) hC hE kV_X5_35 (c_X5_has l D K w wa0 wa1 wa2 wf2 i467 hsz) (hP.sub (ws' := [(w, .inr (5, [.ref wa0, .ref wa1, .ref wa2])), (wa2, .inl (K 1, 4, .inl wf2))]) [0, 1] rfl) 0 5 rfl rfl rfl hl.1 rfl (Nat.le_of_ble_eq_true rfl) (by decide) (by decide) dX5_kept_12 (fun r474 hq => ?_)
      rcases hq with ⟨rfl, h470⟩ | ⟨rfl, h471, h472, h473⟩
      · refine lv_if_eq (tgt := 22) hx hb dX5_kept_15 (by decide) (fun _ => ?_) (fun h => absurd h (by decide))
        refine lv_iconst (v := 0) hx hb dX5_kept_22 (by decide) ?_
        refine lv_iadd hx hb dX5_kept_23 ?_
        refine lv_topi (fun v475 ev475 => ?_)
        refine lv_istore_n (lv' := [(1, .int v475), (2, .int i467), (0, .ref w)]) hx hb dX5_kept_24 rfl hl (by decide) rfl (fun ls hl => ?_)
        obtain ⟨v476, ev476⟩ : ∃ z : Int32, z = i467 + 1 := ⟨_, rfl⟩
        refine lv_iinc (v := v476) (lv' := [(2, .int v476), (1, .int v475), (0, .ref w)]) hx hb dX5_kept_25 hl (k := 1) rfl (by rw [ev476]; rfl) (by decide) rfl (fun ls hl => ?_)
        refine lv_goto (tgt := 4) hx hb dX5_kept_28 (by decide) ?_
        have tv476 : v476.toInt = (i467 : Int32).toInt + (1 : Int32).toInt := add_i ev476 (by omega) (by omega)
        exact ih_4 (i467 := v476) (i468 := v475) (hi_4 := by omega) (ls := ls) (hn_4 := by omega) (hl := lv_sub hl [0, 1, 2] rfl)
      · refine lv_if_eq (tgt := 22) hx hb dX5_kept_15 (by decide) (fun h => absurd h (by decide)) (fun _ => ?_)
        refine lv_iconst (v := 1) hx hb dX5_kept_18 (by decide) ?_
        refine lv_goto (tgt := 23) hx hb dX5_kept_19 (by decide) ?_
        refine lv_iadd hx hb dX5_kept_23 ?_
        refine lv_topi (fun v477 ev477 => ?_)
        refine lv_istore_n (lv' := [(1, .int v477), (2, .int i467), (0, .ref w)]) hx hb dX5_kept_24 rfl hl (by decide) rfl (fun ls hl => ?_)
        obtain ⟨v478, ev478⟩ : ∃ z : Int32, z = i467 + 1 := ⟨_, rfl⟩
        refine lv_iinc (v := v478) (lv' := [(2, .int v478), (1, .int v477), (0, .ref w)]) hx hb dX5_kept_25 hl (k := 1) rfl (by rw [ev478]; rfl) (by decide) rfl (fun ls hl => ?_)
        refine lv_goto (tgt := 4) hx hb dX5_kept_28 (by decide) ?_
        have tv478 : v478.toInt = (i467 : Int32).toInt + (1 : Int32).toInt := add_i ev478 (by omega) (by omega)
        exact ih_4 (i467 := v478) (i468 := v477) (hi_4 := by omega) (ls := ls) (hn_4 := by omega) (hl := lv_sub hl [0, 1, 2] rfl)
set_option maxRecDepth 40000 in
set_option maxHeartbeats 4000000 in
theorem c_X5_cut (l : Launch) (D : va_G) (K : Nat → ClassId) (p0 : Int64) (p1 : Int32) : RoL l D K yX5_cut cX5_cut 3  0 0 [.long p0, .int p1] [] (fun _ => True) := by
  refine rol_of (by decide) (Nat.le_of_ble_eq_true rfl) ?_
  intro p e s m below meth c hC hr hk hE hP ls hl
  replace hC : CallFix p m c cX5_cut 3 s [.long p0, .int p1].toArray wl RX5 := hC
  have hx := hC.1
  have hb := hC.2.1
  have hml := hC.2.2.1
  have hown := hC.2.2.2.1
  have hts := hC.2.2.2.2
  replace hl : lv_has ls 3 [(0, .long p0), (2, .int p1)] := hl
  have kc_0 : (0 : Int32).toInt = 0 := by decide
  have kc_1 : (1 : Int32).toInt = 1 := by decide
  have kc_2 : (2 : Int32).toInt = 2 := by decide
  refine lv_iload_n hx hb dX5_cut_0 rfl (lv_at hl 1 rfl) ?_
  by_cases c479 : p1 = 0
  · refine tc (y := 0) c479 ?_
    refine lv_tableIn (off := 27) (tgt := 28) hx hb dX5_cut_1 (by decide) (by decide) (by decide +kernel) (by decide) ?_
    refine lv_lload_n hx hb dX5_cut_28 rfl (lv_at hl 0 rfl) ?_
    refine lv_l2i hx hb dX5_cut_29 rfl ?_
    refine lv_topi (fun v480 ev480 => ?_)
    refine lv_i2b hx hb dX5_cut_30 rfl ?_
    refine lv_topi (fun v481 ev481 => ?_)
    refine lv_i2l hx hb dX5_cut_31 rfl ?_
    refine lv_topl (fun v482 ev482 => ?_)
    exact ro_lret hC hr hk dX5_cut_32 trivial
  · replace c479 := ne_i c479
    by_cases c483 : p1 = 1
    · refine tc (y := 1) c483 ?_
      refine lv_tableIn (off := 32) (tgt := 33) hx hb dX5_cut_1 (by decide) (by decide) (by decide +kernel) (by decide) ?_
      refine lv_lload_n hx hb dX5_cut_33 rfl (lv_at hl 0 rfl) ?_
      refine lv_l2i hx hb dX5_cut_34 rfl ?_
      refine lv_topi (fun v484 ev484 => ?_)
      refine lv_i2s hx hb dX5_cut_35 rfl ?_
      refine lv_topi (fun v485 ev485 => ?_)
      refine lv_i2l hx hb dX5_cut_36 rfl ?_
      refine lv_topl (fun v486 ev486 => ?_)
      exact ro_lret hC hr hk dX5_cut_37 trivial
    · replace c483 := ne_i c483
      by_cases c487 : p1 = 2
      · refine tc (y := 2) c487 ?_
        refine lv_tableIn (off := 37) (tgt := 38) hx hb dX5_cut_1 (by decide) (by decide) (by decide +kernel) (by decide) ?_
        refine lv_lload_n hx hb dX5_cut_38 rfl (lv_at hl 0 rfl) ?_
        refine lv_l2i hx hb dX5_cut_39 rfl ?_
        refine lv_topi (fun v488 ev488 => ?_)
        refine lv_i2l hx hb dX5_cut_40 rfl ?_
        refine lv_topl (fun v489 ev489 => ?_)
        exact ro_lret hC hr hk dX5_cut_41 trivial
      · replace c487 := ne_i c487
        refine lv_tableOut (tgt := 42) hx hb dX5_cut_1 (by omega) (by decide) ?_
        refine lv_lload_n hx hb dX5_cut_42 rfl (lv_at hl 0 rfl) ?_
        exact ro_lret hC hr hk dX5_cut_43 trivial
set_option maxRecDepth 40000 in
set_option maxHeartbeats 4000000 in
theorem c_X5_isWithin (l : Launch) (D : va_G) (K : Nat → ClassId) (w : Nat) (wa0 : Nat) (wa1 : Nat) (wa2 : Nat) (wf0 : Nat → Int64) (wf2 : Nat → Int32) (p0 : Int32) (p1 : Int32) (p2 : Int32) (hsz : ∀ j, j < 4 → -1 ≤ (wf2 j).toInt ∧ (wf2 j).toInt ≤ 60) : Ro l D K yX5_isWithin cX5_isWithin 6 (some .boolean) 3 62 [.ref w, .int p0, .int p1, .int p2] [(w, .inr (5, [.ref wa0, .ref wa1, .ref wa2])), (wa0, .inl (K 2, 240, .inr (.inl wf0))), (wa2, .inl (K 1, 4, .inl wf2))] (fun r => (r = 0) ∨ (r = 1)) := by
  refine ro_of (by decide) (Nat.le_of_ble_eq_true rfl) ?_
  intro p e s m below meth c hC hr hk hE hP ls hl
  replace hC : CallFix p m c cX5_isWithin 6 s [.ref w, .int p0, .int p1, .int p2].toArray wl RX5 := hC
  have hx := hC.1
  have hb := hC.2.1
  have hml := hC.2.2.1
  have hown := hC.2.2.2.1
  have hts := hC.2.2.2.2
  replace hl : lv_has ls 6 [(0, .ref w), (1, .int p0), (2, .int p1), (3, .int p2)] := hl
  have kc_0 : (0 : Int32).toInt = 0 := by decide
  have kc_60 : (60 : Int32).toInt = 60 := by decide
  refine lv_iload_n hx hb dX5_isWithin_0 rfl (lv_at hl 2 rfl) ?_
  refine lv_if_lt (tgt := 13) hx hb dX5_isWithin_1 (by decide) (fun c490 => ?_) (fun c490 => ?_)
  · replace c490 := lt_i c490
    refine lv_iconst (v := 0) hx hb dX5_isWithin_13 (by decide) ?_
    exact ro_zret hC hr hk dX5_isWithin_14 rfl (Or.inl rfl)
  · replace c490 := nlt_i c490
    refine lv_iload_n hx hb dX5_isWithin_4 rfl (lv_at hl 2 rfl) ?_
    refine lv_aload_n hx hb dX5_isWithin_5 rfl (lv_at hl 0 rfl) ?_
    refine lv_iload_n hx hb dX5_isWithin_6 rfl (lv_at hl 1 rfl) ?_
    refine ro_V (As := [.int p0]) (rest := [.int p1]) hC hE kV_X5_38 (c_X5_size l D K w wa0 wa1 wa2 wf2 p0 hsz) (hP.sub (ws' := [(w, .inr (5, [.ref wa0, .ref wa1, .ref wa2])), (wa2, .inl (K 1, 4, .inl wf2))]) [0, 2] rfl) 0 5 rfl rfl rfl hl.1 rfl (Nat.le_of_ble_eq_true rfl) (by decide) (by decide) dX5_isWithin_7 (fun r497 hq => ?_)
    rcases hq with ⟨rfl, h491⟩ | ⟨h492, h493, h494, h495, h496⟩
    · refine lv_icmp_lt (tgt := 15) hx hb dX5_isWithin_10 (by decide) (fun c498 => ?_) (fun c498 => ?_)
      · replace c498 := lt_i c498
        refine lv_aload_n hx hb dX5_isWithin_15 rfl (lv_at hl 0 rfl) ?_
        refine va_get (D := D) (ci := 5) (v := .ref wa0) (C := RX5) (T := TX5) (N := 3) hx hb hts in_X5 hown hE.1 hP 0 rfl rfl 0 (by decide) (hts _ w_113) (fun _ h9 => h9) rfl dX5_isWithin_16 ?_
        refine lv_iload_n hx hb dX5_isWithin_19 rfl (lv_at hl 1 rfl) ?_
        refine lv_bipush (v := 60) hx hb dX5_isWithin_20 (by decide) ?_
        refine lv_imul hx hb dX5_isWithin_22 ?_
        refine lv_topi (fun v499 ev499 => ?_)
        refine lv_iload_n hx hb dX5_isWithin_23 rfl (lv_at hl 2 rfl) ?_
        refine lv_iadd hx hb dX5_isWithin_24 ?_
        refine lv_topi (fun v500 ev500 => ?_)
        have tv499 : v499.toInt = p0.toInt * 60 := mul_i ev499 rfl (by decide) (by omega) (by omega)
        have tv500 : v500.toInt = (v499 : Int32).toInt + (p1 : Int32).toInt := add_i ev500 (by omega) (by omega)
        refine va_lald hx hb hE.1 hP 1 2 rfl rfl (vp_in_iff.mpr (by omega)) dX5_isWithin_25 ?_
        refine lv_topl (fun v501 ev501 => ?_)
        refine lv_lstore (lv' := [(4, .long v501), (0, .ref w), (1, .int p0), (2, .int p1), (3, .int p2)]) hx hb dX5_isWithin_26 hl (by decide) rfl (fun ls hl => ?_)
        refine lv_lload hx hb dX5_isWithin_28 (lv_at hl 0 rfl) ?_
        refine lv_lconst (v := 0) hx hb dX5_isWithin_30 (by decide) ?_
        refine W.lcmp hx hb dX5_isWithin_31 ?_
        refine lv_topi (fun v502 ev502 => ?_)
        refine lv_if_lt (tgt := 47) hx hb dX5_isWithin_32 (by decide) (fun c503 => ?_) (fun c503 => ?_)
        · replace c503 := lt_i c503
          refine lv_iconst (v := 0) hx hb dX5_isWithin_47 (by decide) ?_
          exact ro_zret hC hr hk dX5_isWithin_48 rfl (Or.inl rfl)
        · replace c503 := nlt_i c503
          refine lv_lload hx hb dX5_isWithin_35 (lv_at hl 0 rfl) ?_
          refine lv_iload_n hx hb dX5_isWithin_37 rfl (lv_at hl 4 rfl) ?_
          refine lv_i2l hx hb dX5_isWithin_38 rfl ?_
          refine lv_topl (fun v504 ev504 => ?_)
          refine W.lcmp hx hb dX5_isWithin_39 ?_
          refine lv_topi (fun v505 ev505 => ?_)
          refine lv_if_ge (tgt := 47) hx hb dX5_isWithin_40 (by decide) (fun c506 => ?_) (fun c506 => ?_)
          · replace c506 := le_i c506
            refine lv_iconst (v := 0) hx hb dX5_isWithin_47 (by decide) ?_
            exact ro_zret hC hr hk dX5_isWithin_48 rfl (Or.inl rfl)
          · replace c506 := nle_i c506
            refine lv_iconst (v := 1) hx hb dX5_isWithin_43 (by decide) ?_
            refine lv_goto (tgt := 48) hx hb dX5_isWithin_44 (by decide) ?_
            exact ro_zret hC hr hk dX5_isWithin_48 rfl (Or.inr rfl)
      · replace c498 := nlt_i c498
        refine lv_iconst (v := 0) hx hb dX5_isWithin_13 (by decide) ?_
        exact ro_zret hC hr hk dX5_isWithin_14 rfl (Or.inl rfl)
    · refine lv_icmp_lt (tgt := 15) hx hb dX5_isWithin_10 (by decide) (fun c507 => ?_) (fun c507 => ?_)
      · replace c507 := lt_i c507
        refine lv_aload_n hx hb dX5_isWithin_15 rfl (lv_at hl 0 rfl) ?_
        refine va_get (D := D) (ci := 5) (v := .ref wa0) (C := RX5) (T := TX5) (N := 3) hx hb hts in_X5 hown hE.1 hP 0 rfl rfl 0 (by decide) (hts _ w_113) (fun _ h9 => h9) rfl dX5_isWithin_16 ?_
        refine lv_iload_n hx hb dX5_isWithin_19 rfl (lv_at hl 1 rfl) ?_
        refine lv_bipush (v := 60) hx hb dX5_isWithin_20 (by decide) ?_
        refine lv_imul hx hb dX5_isWithin_22 ?_
        refine lv_topi (fun v508 ev508 => ?_)
        refine lv_iload_n hx hb dX5_isWithin_23 rfl (lv_at hl 2 rfl) ?_
        refine lv_iadd hx hb dX5_isWithin_24 ?_
        refine lv_topi (fun v509 ev509 => ?_)
        have tv508 : v508.toInt = p0.toInt * 60 := mul_i ev508 rfl (by decide) (by omega) (by omega)
        have tv509 : v509.toInt = (v508 : Int32).toInt + (p1 : Int32).toInt := add_i ev509 (by omega) (by omega)
        refine va_lald hx hb hE.1 hP 1 2 rfl rfl (vp_in_iff.mpr (by omega)) dX5_isWithin_25 ?_
        refine lv_topl (fun v510 ev510 => ?_)
        refine lv_lstore (lv' := [(4, .long v510), (0, .ref w), (1, .int p0), (2, .int p1), (3, .int p2)]) hx hb dX5_isWithin_26 hl (by decide) rfl (fun ls hl => ?_)
        refine lv_lload hx hb dX5_isWithin_28 (lv_at hl 0 rfl) ?_
        refine lv_lconst (v := 0) hx hb dX5_isWithin_30 (by decide) ?_
        refine W.lcmp hx hb dX5_isWithin_31 ?_
        refine lv_topi (fun v511 ev511 => ?_)
        refine lv_if_lt (tgt := 47) hx hb dX5_isWithin_32 (by decide) (fun c512 => ?_) (fun c512 => ?_)
        · replace c512 := lt_i c512
          refine lv_iconst (v := 0) hx hb dX5_isWithin_47 (by decide) ?_
          exact ro_zret hC hr hk dX5_isWithin_48 rfl (Or.inl rfl)
        · replace c512 := nlt_i c512
          refine lv_lload hx hb dX5_isWithin_35 (lv_at hl 0 rfl) ?_
          refine lv_iload_n hx hb dX5_isWithin_37 rfl (lv_at hl 4 rfl) ?_
          refine lv_i2l hx hb dX5_isWithin_38 rfl ?_
          refine lv_topl (fun v513 ev513 => ?_)
          refine W.lcmp hx hb dX5_isWithin_39 ?_
          refine lv_topi (fun v514 ev514 => ?_)
          refine lv_if_ge (tgt := 47) hx hb dX5_isWithin_40 (by decide) (fun c515 => ?_) (fun c515 => ?_)
          · replace c515 := le_i c515
            refine lv_iconst (v := 0) hx hb dX5_isWithin_47 (by decide) ?_
            exact ro_zret hC hr hk dX5_isWithin_48 rfl (Or.inl rfl)
          · replace c515 := nle_i c515
            refine lv_iconst (v := 1) hx hb dX5_isWithin_43 (by decide) ?_
            refine lv_goto (tgt := 48) hx hb dX5_isWithin_44 (by decide) ?_
            exact ro_zret hC hr hk dX5_isWithin_48 rfl (Or.inr rfl)
      · replace c507 := nlt_i c507
        refine lv_iconst (v := 0) hx hb dX5_isWithin_13 (by decide) ?_
        exact ro_zret hC hr hk dX5_isWithin_14 rfl (Or.inl rfl)
set_option maxRecDepth 40000 in
set_option maxHeartbeats 4000000 in
theorem c_X5_small (l : Launch) (D : va_G) (K : Nat → ClassId) (w : Nat) (wa0 : Nat) (wa1 : Nat) (wa2 : Nat) (wf0 : Nat → Int64) (wf2 : Nat → Int32) (p0 : Int32) (p1 : Int32) (hsz : ∀ j, j < 4 → -1 ≤ (wf2 j).toInt ∧ (wf2 j).toInt ≤ 60) : Ro l D K yX5_small cX5_small 3 (some .int) 3 62 [.ref w, .int p0, .int p1] [(w, .inr (5, [.ref wa0, .ref wa1, .ref wa2])), (wa0, .inl (K 2, 240, .inr (.inl wf0))), (wa2, .inl (K 1, 4, .inl wf2))] (fun _ => True) := by
  refine ro_of (by decide) (Nat.le_of_ble_eq_true rfl) ?_
  intro p e s m below meth c hC hr hk hE hP ls hl
  replace hC : CallFix p m c cX5_small 3 s [.ref w, .int p0, .int p1].toArray wl RX5 := hC
  have hx := hC.1
  have hb := hC.2.1
  have hml := hC.2.2.1
  have hown := hC.2.2.2.1
  have hts := hC.2.2.2.2
  replace hl : lv_has ls 3 [(0, .ref w), (1, .int p0), (2, .int p1)] := hl
  have kc_0 : (0 : Int32).toInt = 0 := by decide
  have kc_60 : (60 : Int32).toInt = 60 := by decide
  refine lv_iload_n hx hb dX5_small_0 rfl (lv_at hl 2 rfl) ?_
  refine lv_if_lt (tgt := 28) hx hb dX5_small_1 (by decide) (fun c516 => ?_) (fun c516 => ?_)
  · replace c516 := lt_i c516
    refine lv_iconst (v := 0) hx hb dX5_small_28 (by decide) ?_
    exact ro_ret hC hr hk dX5_small_29 trivial
  · replace c516 := nlt_i c516
    refine lv_iload_n hx hb dX5_small_4 rfl (lv_at hl 2 rfl) ?_
    refine lv_aload_n hx hb dX5_small_5 rfl (lv_at hl 0 rfl) ?_
    refine lv_iload_n hx hb dX5_small_6 rfl (lv_at hl 1 rfl) ?_
    refine ro_V (As := [.int p0]) (rest := [.int p1]) hC hE kV_X5_38 (c_X5_size l D K w wa0 wa1 wa2 wf2 p0 hsz) (hP.sub (ws' := [(w, .inr (5, [.ref wa0, .ref wa1, .ref wa2])), (wa2, .inl (K 1, 4, .inl wf2))]) [0, 2] rfl) 0 5 rfl rfl rfl hl.1 rfl (Nat.le_of_ble_eq_true rfl) (by decide) (by decide) dX5_small_7 (fun r523 hq => ?_)
    rcases hq with ⟨rfl, h517⟩ | ⟨h518, h519, h520, h521, h522⟩
    · refine lv_icmp_ge (tgt := 28) hx hb dX5_small_10 (by decide) (fun c524 => ?_) (fun c524 => ?_)
      · replace c524 := le_i c524
        refine lv_iconst (v := 0) hx hb dX5_small_28 (by decide) ?_
        exact ro_ret hC hr hk dX5_small_29 trivial
      · replace c524 := nle_i c524
        refine lv_aload_n hx hb dX5_small_13 rfl (lv_at hl 0 rfl) ?_
        refine va_get (D := D) (ci := 5) (v := .ref wa0) (C := RX5) (T := TX5) (N := 3) hx hb hts in_X5 hown hE.1 hP 0 rfl rfl 0 (by decide) (hts _ w_113) (fun _ h9 => h9) rfl dX5_small_14 ?_
        refine lv_iload_n hx hb dX5_small_17 rfl (lv_at hl 1 rfl) ?_
        refine lv_bipush (v := 60) hx hb dX5_small_18 (by decide) ?_
        refine lv_imul hx hb dX5_small_20 ?_
        refine lv_topi (fun v525 ev525 => ?_)
        refine lv_iload_n hx hb dX5_small_21 rfl (lv_at hl 2 rfl) ?_
        refine lv_iadd hx hb dX5_small_22 ?_
        refine lv_topi (fun v526 ev526 => ?_)
        have tv525 : v525.toInt = p0.toInt * 60 := mul_i ev525 rfl (by decide) (by omega) (by omega)
        have tv526 : v526.toInt = (v525 : Int32).toInt + (p1 : Int32).toInt := add_i ev526 (by omega) (by omega)
        refine va_lald hx hb hE.1 hP 1 2 rfl rfl (vp_in_iff.mpr (by omega)) dX5_small_23 ?_
        refine lv_topl (fun v527 ev527 => ?_)
        refine lv_l2i hx hb dX5_small_24 rfl ?_
        refine lv_topi (fun v528 ev528 => ?_)
        refine lv_goto (tgt := 29) hx hb dX5_small_25 (by decide) ?_
        exact ro_ret hC hr hk dX5_small_29 trivial
    · refine lv_icmp_ge (tgt := 28) hx hb dX5_small_10 (by decide) (fun c529 => ?_) (fun c529 => ?_)
      · replace c529 := le_i c529
        refine lv_iconst (v := 0) hx hb dX5_small_28 (by decide) ?_
        exact ro_ret hC hr hk dX5_small_29 trivial
      · replace c529 := nle_i c529
        refine lv_aload_n hx hb dX5_small_13 rfl (lv_at hl 0 rfl) ?_
        refine va_get (D := D) (ci := 5) (v := .ref wa0) (C := RX5) (T := TX5) (N := 3) hx hb hts in_X5 hown hE.1 hP 0 rfl rfl 0 (by decide) (hts _ w_113) (fun _ h9 => h9) rfl dX5_small_14 ?_
        refine lv_iload_n hx hb dX5_small_17 rfl (lv_at hl 1 rfl) ?_
        refine lv_bipush (v := 60) hx hb dX5_small_18 (by decide) ?_
        refine lv_imul hx hb dX5_small_20 ?_
        refine lv_topi (fun v530 ev530 => ?_)
        refine lv_iload_n hx hb dX5_small_21 rfl (lv_at hl 2 rfl) ?_
        refine lv_iadd hx hb dX5_small_22 ?_
        refine lv_topi (fun v531 ev531 => ?_)
        have tv530 : v530.toInt = p0.toInt * 60 := mul_i ev530 rfl (by decide) (by omega) (by omega)
        have tv531 : v531.toInt = (v530 : Int32).toInt + (p1 : Int32).toInt := add_i ev531 (by omega) (by omega)
        refine va_lald hx hb hE.1 hP 1 2 rfl rfl (vp_in_iff.mpr (by omega)) dX5_small_23 ?_
        refine lv_topl (fun v532 ev532 => ?_)
        refine lv_l2i hx hb dX5_small_24 rfl ?_
        refine lv_topi (fun v533 ev533 => ?_)
        refine lv_goto (tgt := 29) hx hb dX5_small_25 (by decide) ?_
        exact ro_ret hC hr hk dX5_small_29 trivial
set_option maxRecDepth 40000 in
set_option maxHeartbeats 4000000 in
theorem c_X5_put (l : Launch) (D : va_G) (K : Nat → ClassId) (w : Nat) (wa0 : Nat) (wa1 : Nat) (wa2 : Nat) (wf0 : Nat → Int64) (wf1 : Nat → Int32) (wf2 : Nat → Int32) (p0 : Int32) (p1 : Int32) (p2 : Int64) (hsz : ∀ j, j < 4 → -1 ≤ (wf2 j).toInt ∧ (wf2 j).toInt ≤ 60) : Cv (S := ((Nat → Int32) × (Nat → Nat → Int32) × (Nat → Nat → Int64))) l D K yX5_put cX5_put 5 3 62 0 0 [.ref w, .int p0, .int p1, .long p2] [(w, .inr (5, [.ref wa0, .ref wa1, .ref wa2])), (wa0, .inl (K 2, 240, .inr (.inl wf0))), (wa1, .inl (K 1, 4, .inl wf1)), (wa2, .inl (K 1, 4, .inl wf2))] (fun _ => True) (fun u => [(w, .inr (5, [.ref wa0, .ref wa1, .ref wa2])), (wa0, .inl (K 2, 240, .inr (.inl (u.2.2 0)))), (wa1, .inl (K 1, 4, .inl wf1)), (wa2, .inl (K 1, 4, .inl wf2))]) := by
  intro sz
  refine ch_of (y := yX5_put) (cc := cX5_put) (maxL := 5) (ret := none) (av := [.ref w, .int p0, .int p1, .long p2]) (ws := [(w, .inr (5, [.ref wa0, .ref wa1, .ref wa2])), (wa0, .inl (K 2, 240, .inr (.inl wf0))), (wa1, .inl (K 1, 4, .inl wf1)), (wa2, .inl (K 1, 4, .inl wf2))]) (D := D) (K := K) (Qc := fun A => va_Qv (S := ((Nat → Int32) × (Nat → Nat → Int32) × (Nat → Nat → Int64))) (fun _ => True) (chB D A (fun u => [(w, .inr (5, [.ref wa0, .ref wa1, .ref wa2])), (wa0, .inl (K 2, 240, .inr (.inl (u.2.2 0)))), (wa1, .inl (K 1, 4, .inl wf1)), (wa2, .inl (K 1, 4, .inl wf2))])) A) (by decide) (Nat.le_of_ble_eq_true rfl) ?_
  intro p e s m below meth c A hC hr hk hin hE hD hA H locs hP hS ls hl
  replace hC : CallFix p m c cX5_put 5 s [.ref w, .int p0, .int p1, .long p2].toArray wl RX5 := hC
  have hx := hC.1
  have hb := hC.2.1
  have hml := hC.2.2.1
  have hown := hC.2.2.2.1
  have hts := hC.2.2.2.2
  replace hl : lv_has ls 5 [(0, .ref w), (1, .int p0), (2, .int p1), (3, .long p2)] := hl
  have kc_0 : (0 : Int32).toInt = 0 := by decide
  have kc_60 : (60 : Int32).toInt = 60 := by decide
  refine lv_iload_n hx hb dX5_put_0 rfl (lv_at hl 2 rfl) ?_
  refine lv_if_lt (tgt := 33) hx hb dX5_put_1 (by decide) (fun c566 => ?_) (fun c566 => ?_)
  · replace c566 := lt_i c566
    refine W.widen (k := 0) (n := 0) (by decide) (by decide) ?_
    exact ch_vret hC hr hk hS dX5_put_33 ((fun k => [].getD k 0, fun k => [].getD k (fun _ => 0), fun k => [wf0].getD k (fun _ => 0)) : ((Nat → Int32) × (Nat → Nat → Int32) × (Nat → Nat → Int64))) trivial (hP.sub [0, 1, 2, 3] rfl) (hD.sub [0, 1, 2, 3] (by decide) rfl)
  · replace c566 := nlt_i c566
    refine lv_iload_n hx hb dX5_put_4 rfl (lv_at hl 2 rfl) ?_
    refine lv_aload_n hx hb dX5_put_5 rfl (lv_at hl 0 rfl) ?_
    refine lv_iload_n hx hb dX5_put_6 rfl (lv_at hl 1 rfl) ?_
    refine ro_V (As := [.int p0]) (rest := [.int p1]) hC hE kV_X5_38 (c_X5_size l D K w wa0 wa1 wa2 wf2 p0 hsz) (hP.sub (ws' := [(w, .inr (5, [.ref wa0, .ref wa1, .ref wa2])), (wa2, .inl (K 1, 4, .inl wf2))]) [0, 3] rfl) 0 5 rfl rfl rfl hl.1 rfl (Nat.le_of_ble_eq_true rfl) (by decide) (by decide) dX5_put_7 (fun r573 hq => ?_)
    rcases hq with ⟨rfl, h567⟩ | ⟨h568, h569, h570, h571, h572⟩
    · refine lv_icmp_ge (tgt := 33) hx hb dX5_put_10 (by decide) (fun c574 => ?_) (fun c574 => ?_)
      · replace c574 := le_i c574
        refine W.widen (k := 0) (n := 0) (by decide) (by decide) ?_
        exact ch_vret hC hr hk hS dX5_put_33 ((fun k => [].getD k 0, fun k => [].getD k (fun _ => 0), fun k => [wf0].getD k (fun _ => 0)) : ((Nat → Int32) × (Nat → Nat → Int32) × (Nat → Nat → Int64))) trivial (hP.sub [0, 1, 2, 3] rfl) (hD.sub [0, 1, 2, 3] (by decide) rfl)
      · replace c574 := nle_i c574
        refine lv_aload_n hx hb dX5_put_13 rfl (lv_at hl 0 rfl) ?_
        refine va_get (D := D) (ci := 5) (v := .ref wa0) (C := RX5) (T := TX5) (N := 3) hx hb hts in_X5 hown hE.1 hP 0 rfl rfl 0 (by decide) (hts _ w_113) (fun _ h9 => h9) rfl dX5_put_14 ?_
        refine lv_iload_n hx hb dX5_put_17 rfl (lv_at hl 1 rfl) ?_
        refine lv_bipush (v := 60) hx hb dX5_put_18 (by decide) ?_
        refine lv_imul hx hb dX5_put_20 ?_
        refine lv_topi (fun v575 ev575 => ?_)
        refine lv_iload_n hx hb dX5_put_21 rfl (lv_at hl 2 rfl) ?_
        refine lv_iadd hx hb dX5_put_22 ?_
        refine lv_topi (fun v576 ev576 => ?_)
        refine lv_lload_n hx hb dX5_put_23 rfl (lv_at hl 3 rfl) ?_
        refine lv_aload_n hx hb dX5_put_24 rfl (lv_at hl 0 rfl) ?_
        refine lv_iload_n hx hb dX5_put_25 rfl (lv_at hl 1 rfl) ?_
        refine ro_V (As := [.int p0]) (rest := [.long p2, .int v576, .ref wa0]) hC hE kV_X5_42 (c_X5_width l D K w wa0 wa1 wa2 wf1 p0) (hP.sub (ws' := [(w, .inr (5, [.ref wa0, .ref wa1, .ref wa2])), (wa1, .inl (K 1, 4, .inl wf1))]) [0, 2] rfl) 0 5 rfl rfl rfl hl.1 rfl (Nat.le_of_ble_eq_true rfl) (by decide) (by decide) dX5_put_26 (fun r581 hq => ?_)
        rcases hq with ⟨rfl, h577⟩ | ⟨h578, h579, h580⟩
        · refine rol_S (As := [.long p2, .int (-1)]) (rest := [.int v576, .ref wa0]) hC hE kS_X5_45 (c_X5_cut l D K p2 (-1)) (hP.sub (ws' := []) [] rfl) rfl hl.1 rfl (Nat.le_of_ble_eq_true rfl) (by decide) (by decide) dX5_put_29 (fun r582 _ => ?_)
          have tv575 : v575.toInt = p0.toInt * 60 := mul_i ev575 rfl (by decide) (by omega) (by omega)
          have tv576 : v576.toInt = (v575 : Int32).toInt + (p1 : Int32).toInt := add_i ev576 (by omega) (by omega)
          refine stl hx hb hE.1 hP hD hS 1 2 rfl rfl (vp_in_iff.mpr (by omega)) dX5_put_32 (fun g583 eg583 H locs hP hD hS => ?_)
          replace hP : va_P D vwCl [(w, .inr (5, [.ref wa0, .ref wa1, .ref wa2])), (wa0, .inl (K 2, 240, .inr (.inl g583))), (wa1, .inl (K 1, 4, .inl wf1)), (wa2, .inl (K 1, 4, .inl wf2))] H := hP
          replace hD : va_D A [(w, .inr (5, [.ref wa0, .ref wa1, .ref wa2])), (wa0, .inl (K 2, 240, .inr (.inl g583))), (wa1, .inl (K 1, 4, .inl wf1)), (wa2, .inl (K 1, 4, .inl wf2))] := hD
          refine W.widen (k := 0) (n := 0) (by decide) (by decide) ?_
          exact ch_vret hC hr hk hS dX5_put_33 ((fun k => [].getD k 0, fun k => [].getD k (fun _ => 0), fun k => [g583].getD k (fun _ => 0)) : ((Nat → Int32) × (Nat → Nat → Int32) × (Nat → Nat → Int64))) trivial (hP.sub [0, 1, 2, 3] rfl) (hD.sub [0, 1, 2, 3] (by decide) rfl)
        · refine rol_S (As := [.long p2, .int r581]) (rest := [.int v576, .ref wa0]) hC hE kS_X5_45 (c_X5_cut l D K p2 r581) (hP.sub (ws' := []) [] rfl) rfl hl.1 rfl (Nat.le_of_ble_eq_true rfl) (by decide) (by decide) dX5_put_29 (fun r584 _ => ?_)
          have tv575 : v575.toInt = p0.toInt * 60 := mul_i ev575 rfl (by decide) (by omega) (by omega)
          have tv576 : v576.toInt = (v575 : Int32).toInt + (p1 : Int32).toInt := add_i ev576 (by omega) (by omega)
          refine stl hx hb hE.1 hP hD hS 1 2 rfl rfl (vp_in_iff.mpr (by omega)) dX5_put_32 (fun g585 eg585 H locs hP hD hS => ?_)
          replace hP : va_P D vwCl [(w, .inr (5, [.ref wa0, .ref wa1, .ref wa2])), (wa0, .inl (K 2, 240, .inr (.inl g585))), (wa1, .inl (K 1, 4, .inl wf1)), (wa2, .inl (K 1, 4, .inl wf2))] H := hP
          replace hD : va_D A [(w, .inr (5, [.ref wa0, .ref wa1, .ref wa2])), (wa0, .inl (K 2, 240, .inr (.inl g585))), (wa1, .inl (K 1, 4, .inl wf1)), (wa2, .inl (K 1, 4, .inl wf2))] := hD
          refine W.widen (k := 0) (n := 0) (by decide) (by decide) ?_
          exact ch_vret hC hr hk hS dX5_put_33 ((fun k => [].getD k 0, fun k => [].getD k (fun _ => 0), fun k => [g585].getD k (fun _ => 0)) : ((Nat → Int32) × (Nat → Nat → Int32) × (Nat → Nat → Int64))) trivial (hP.sub [0, 1, 2, 3] rfl) (hD.sub [0, 1, 2, 3] (by decide) rfl)
    · refine lv_icmp_ge (tgt := 33) hx hb dX5_put_10 (by decide) (fun c586 => ?_) (fun c586 => ?_)
      · replace c586 := le_i c586
        refine W.widen (k := 0) (n := 0) (by decide) (by decide) ?_
        exact ch_vret hC hr hk hS dX5_put_33 ((fun k => [].getD k 0, fun k => [].getD k (fun _ => 0), fun k => [wf0].getD k (fun _ => 0)) : ((Nat → Int32) × (Nat → Nat → Int32) × (Nat → Nat → Int64))) trivial (hP.sub [0, 1, 2, 3] rfl) (hD.sub [0, 1, 2, 3] (by decide) rfl)
      · replace c586 := nle_i c586
        refine lv_aload_n hx hb dX5_put_13 rfl (lv_at hl 0 rfl) ?_
        refine va_get (D := D) (ci := 5) (v := .ref wa0) (C := RX5) (T := TX5) (N := 3) hx hb hts in_X5 hown hE.1 hP 0 rfl rfl 0 (by decide) (hts _ w_113) (fun _ h9 => h9) rfl dX5_put_14 ?_
        refine lv_iload_n hx hb dX5_put_17 rfl (lv_at hl 1 rfl) ?_
        refine lv_bipush (v := 60) hx hb dX5_put_18 (by decide) ?_
        refine lv_imul hx hb dX5_put_20 ?_
        refine lv_topi (fun v587 ev587 => ?_)
        refine lv_iload_n hx hb dX5_put_21 rfl (lv_at hl 2 rfl) ?_
        refine lv_iadd hx hb dX5_put_22 ?_
        refine lv_topi (fun v588 ev588 => ?_)
        refine lv_lload_n hx hb dX5_put_23 rfl (lv_at hl 3 rfl) ?_
        refine lv_aload_n hx hb dX5_put_24 rfl (lv_at hl 0 rfl) ?_
        refine lv_iload_n hx hb dX5_put_25 rfl (lv_at hl 1 rfl) ?_
        refine ro_V (As := [.int p0]) (rest := [.long p2, .int v588, .ref wa0]) hC hE kV_X5_42 (c_X5_width l D K w wa0 wa1 wa2 wf1 p0) (hP.sub (ws' := [(w, .inr (5, [.ref wa0, .ref wa1, .ref wa2])), (wa1, .inl (K 1, 4, .inl wf1))]) [0, 2] rfl) 0 5 rfl rfl rfl hl.1 rfl (Nat.le_of_ble_eq_true rfl) (by decide) (by decide) dX5_put_26 (fun r593 hq => ?_)
        rcases hq with ⟨rfl, h589⟩ | ⟨h590, h591, h592⟩
        · refine rol_S (As := [.long p2, .int (-1)]) (rest := [.int v588, .ref wa0]) hC hE kS_X5_45 (c_X5_cut l D K p2 (-1)) (hP.sub (ws' := []) [] rfl) rfl hl.1 rfl (Nat.le_of_ble_eq_true rfl) (by decide) (by decide) dX5_put_29 (fun r594 _ => ?_)
          have tv587 : v587.toInt = p0.toInt * 60 := mul_i ev587 rfl (by decide) (by omega) (by omega)
          have tv588 : v588.toInt = (v587 : Int32).toInt + (p1 : Int32).toInt := add_i ev588 (by omega) (by omega)
          refine stl hx hb hE.1 hP hD hS 1 2 rfl rfl (vp_in_iff.mpr (by omega)) dX5_put_32 (fun g595 eg595 H locs hP hD hS => ?_)
          replace hP : va_P D vwCl [(w, .inr (5, [.ref wa0, .ref wa1, .ref wa2])), (wa0, .inl (K 2, 240, .inr (.inl g595))), (wa1, .inl (K 1, 4, .inl wf1)), (wa2, .inl (K 1, 4, .inl wf2))] H := hP
          replace hD : va_D A [(w, .inr (5, [.ref wa0, .ref wa1, .ref wa2])), (wa0, .inl (K 2, 240, .inr (.inl g595))), (wa1, .inl (K 1, 4, .inl wf1)), (wa2, .inl (K 1, 4, .inl wf2))] := hD
          refine W.widen (k := 0) (n := 0) (by decide) (by decide) ?_
          exact ch_vret hC hr hk hS dX5_put_33 ((fun k => [].getD k 0, fun k => [].getD k (fun _ => 0), fun k => [g595].getD k (fun _ => 0)) : ((Nat → Int32) × (Nat → Nat → Int32) × (Nat → Nat → Int64))) trivial (hP.sub [0, 1, 2, 3] rfl) (hD.sub [0, 1, 2, 3] (by decide) rfl)
        · refine rol_S (As := [.long p2, .int r593]) (rest := [.int v588, .ref wa0]) hC hE kS_X5_45 (c_X5_cut l D K p2 r593) (hP.sub (ws' := []) [] rfl) rfl hl.1 rfl (Nat.le_of_ble_eq_true rfl) (by decide) (by decide) dX5_put_29 (fun r596 _ => ?_)
          have tv587 : v587.toInt = p0.toInt * 60 := mul_i ev587 rfl (by decide) (by omega) (by omega)
          have tv588 : v588.toInt = (v587 : Int32).toInt + (p1 : Int32).toInt := add_i ev588 (by omega) (by omega)
          refine stl hx hb hE.1 hP hD hS 1 2 rfl rfl (vp_in_iff.mpr (by omega)) dX5_put_32 (fun g597 eg597 H locs hP hD hS => ?_)
          replace hP : va_P D vwCl [(w, .inr (5, [.ref wa0, .ref wa1, .ref wa2])), (wa0, .inl (K 2, 240, .inr (.inl g597))), (wa1, .inl (K 1, 4, .inl wf1)), (wa2, .inl (K 1, 4, .inl wf2))] H := hP
          replace hD : va_D A [(w, .inr (5, [.ref wa0, .ref wa1, .ref wa2])), (wa0, .inl (K 2, 240, .inr (.inl g597))), (wa1, .inl (K 1, 4, .inl wf1)), (wa2, .inl (K 1, 4, .inl wf2))] := hD
          refine W.widen (k := 0) (n := 0) (by decide) (by decide) ?_
          exact ch_vret hC hr hk hS dX5_put_33 ((fun k => [].getD k 0, fun k => [].getD k (fun _ => 0), fun k => [g597].getD k (fun _ => 0)) : ((Nat → Int32) × (Nat → Nat → Int32) × (Nat → Nat → Int64))) trivial (hP.sub [0, 1, 2, 3] rfl) (hD.sub [0, 1, 2, 3] (by decide) rfl)
set_option maxRecDepth 40000 in
set_option maxHeartbeats 4000000 in
theorem c_X5_covers (l : Launch) (D : va_G) (K : Nat → ClassId) (w : Nat) (wa0 : Nat) (wa1 : Nat) (wa2 : Nat) (wf2 : Nat → Int32) (p0 : Int32) (p1 : Int32) (p2 : Int32) (hsz : ∀ j, j < 4 → -1 ≤ (wf2 j).toInt ∧ (wf2 j).toInt ≤ 60) : Ro l D K yX5_covers cX5_covers 4 (some .boolean) 3 62 [.ref w, .int p0, .int p1, .int p2] [(w, .inr (5, [.ref wa0, .ref wa1, .ref wa2])), (wa2, .inl (K 1, 4, .inl wf2))] (fun r => (r = 0 ∧ (p0.toInt < 0 ∨ 3 < p0.toInt ∨ (wf2 p0.toNatClampNeg).toInt = -1 ∨ p1.toInt < 0 ∨ p2.toInt < 0 ∨ (wf2 p0.toNatClampNeg).toInt < p1.toInt + p2.toInt)) ∨ (r = 1 ∧ (0 ≤ p1.toInt) ∧ (0 ≤ p2.toInt) ∧ (p1.toInt + p2.toInt ≤ 60) ∧ (p0.toInt < 0 ∨ 3 < p0.toInt ∨ (wf2 p0.toNatClampNeg).toInt = -1 ∨ p1.toInt + p2.toInt ≤ (wf2 p0.toNatClampNeg).toInt))) := by
  refine ro_of (by decide) (Nat.le_of_ble_eq_true rfl) ?_
  intro p e s m below meth c hC hr hk hE hP ls hl
  replace hC : CallFix p m c cX5_covers 4 s [.ref w, .int p0, .int p1, .int p2].toArray wl RX5 := hC
  have hx := hC.1
  have hb := hC.2.1
  have hml := hC.2.2.1
  have hown := hC.2.2.2.1
  have hts := hC.2.2.2.2
  replace hl : lv_has ls 4 [(0, .ref w), (1, .int p0), (2, .int p1), (3, .int p2)] := hl
  have kc_0 : (0 : Int32).toInt = 0 := by decide
  refine lv_iload_n hx hb dX5_covers_0 rfl (lv_at hl 2 rfl) ?_
  refine lv_if_lt (tgt := 32) hx hb dX5_covers_1 (by decide) (fun c598 => ?_) (fun c598 => ?_)
  · replace c598 := lt_i c598
    refine lv_iconst (v := 0) hx hb dX5_covers_32 (by decide) ?_
    exact ro_zret hC hr hk dX5_covers_33 rfl (Or.inl ⟨rfl, (by omega)⟩)
  · replace c598 := nlt_i c598
    refine lv_iload_n hx hb dX5_covers_4 rfl (lv_at hl 3 rfl) ?_
    refine lv_if_lt (tgt := 32) hx hb dX5_covers_5 (by decide) (fun c599 => ?_) (fun c599 => ?_)
    · replace c599 := lt_i c599
      refine lv_iconst (v := 0) hx hb dX5_covers_32 (by decide) ?_
      exact ro_zret hC hr hk dX5_covers_33 rfl (Or.inl ⟨rfl, (by omega)⟩)
    · replace c599 := nlt_i c599
      refine lv_iload_n hx hb dX5_covers_8 rfl (lv_at hl 2 rfl) ?_
      refine lv_aload_n hx hb dX5_covers_9 rfl (lv_at hl 0 rfl) ?_
      refine lv_iload_n hx hb dX5_covers_10 rfl (lv_at hl 1 rfl) ?_
      refine ro_V (As := [.int p0]) (rest := [.int p1]) hC hE kV_X5_38 (c_X5_size l D K w wa0 wa1 wa2 wf2 p0 hsz) (hP.sub (ws' := [(w, .inr (5, [.ref wa0, .ref wa1, .ref wa2])), (wa2, .inl (K 1, 4, .inl wf2))]) [0, 1] rfl) 0 5 rfl rfl rfl hl.1 rfl (Nat.le_of_ble_eq_true rfl) (by decide) (by decide) dX5_covers_11 (fun r606 hq => ?_)
      rcases hq with ⟨rfl, h600⟩ | ⟨h601, h602, h603, h604, h605⟩
      · refine lv_icmp_gt (tgt := 32) hx hb dX5_covers_14 (by decide) (fun c607 => ?_) (fun c607 => ?_)
        · replace c607 := lt_i c607
          refine lv_iconst (v := 0) hx hb dX5_covers_32 (by decide) ?_
          exact ro_zret hC hr hk dX5_covers_33 rfl (Or.inl ⟨rfl, (by omega)⟩)
        · replace c607 := nlt_i c607
          refine lv_iload_n hx hb dX5_covers_17 rfl (lv_at hl 3 rfl) ?_
          refine lv_aload_n hx hb dX5_covers_18 rfl (lv_at hl 0 rfl) ?_
          refine lv_iload_n hx hb dX5_covers_19 rfl (lv_at hl 1 rfl) ?_
          refine ro_V (As := [.int p0]) (rest := [.int p2]) hC hE kV_X5_38 (c_X5_size l D K w wa0 wa1 wa2 wf2 p0 hsz) (hP.sub (ws' := [(w, .inr (5, [.ref wa0, .ref wa1, .ref wa2])), (wa2, .inl (K 1, 4, .inl wf2))]) [0, 1] rfl) 0 5 rfl rfl rfl hl.1 rfl (Nat.le_of_ble_eq_true rfl) (by decide) (by decide) dX5_covers_20 (fun r614 hq => ?_)
          rcases hq with ⟨rfl, h608⟩ | ⟨h609, h610, h611, h612, h613⟩
          · refine lv_iload_n hx hb dX5_covers_23 rfl (lv_at hl 2 rfl) ?_
            refine lv_isub hx hb dX5_covers_24 ?_
            refine lv_topi (fun v615 ev615 => ?_)
            have tv615 : v615.toInt = (0 : Int32).toInt - (p1 : Int32).toInt := sub_i ev615 (by omega) (by omega)
            refine lv_icmp_gt (tgt := 32) hx hb dX5_covers_25 (by decide) (fun c616 => ?_) (fun c616 => ?_)
            · replace c616 := lt_i c616
              refine lv_iconst (v := 0) hx hb dX5_covers_32 (by decide) ?_
              exact ro_zret hC hr hk dX5_covers_33 rfl (Or.inl ⟨rfl, (by omega)⟩)
            · replace c616 := nlt_i c616
              refine lv_iconst (v := 1) hx hb dX5_covers_28 (by decide) ?_
              refine lv_goto (tgt := 33) hx hb dX5_covers_29 (by decide) ?_
              exact ro_zret hC hr hk dX5_covers_33 rfl (Or.inr ⟨rfl, (by omega), (by omega), (by omega), (by omega)⟩)
          · refine lv_iload_n hx hb dX5_covers_23 rfl (lv_at hl 2 rfl) ?_
            refine lv_isub hx hb dX5_covers_24 ?_
            refine lv_topi (fun v617 ev617 => ?_)
            have tv617 : v617.toInt = (r614 : Int32).toInt - (p1 : Int32).toInt := sub_i ev617 (by omega) (by omega)
            refine lv_icmp_gt (tgt := 32) hx hb dX5_covers_25 (by decide) (fun c618 => ?_) (fun c618 => ?_)
            · replace c618 := lt_i c618
              refine lv_iconst (v := 0) hx hb dX5_covers_32 (by decide) ?_
              exact ro_zret hC hr hk dX5_covers_33 rfl (Or.inl ⟨rfl, (by omega)⟩)
            · replace c618 := nlt_i c618
              refine lv_iconst (v := 1) hx hb dX5_covers_28 (by decide) ?_
              refine lv_goto (tgt := 33) hx hb dX5_covers_29 (by decide) ?_
              exact ro_zret hC hr hk dX5_covers_33 rfl (Or.inr ⟨rfl, (by omega), (by omega), (by omega), (by omega)⟩)
      · refine lv_icmp_gt (tgt := 32) hx hb dX5_covers_14 (by decide) (fun c619 => ?_) (fun c619 => ?_)
        · replace c619 := lt_i c619
          refine lv_iconst (v := 0) hx hb dX5_covers_32 (by decide) ?_
          exact ro_zret hC hr hk dX5_covers_33 rfl (Or.inl ⟨rfl, (by omega)⟩)
        · replace c619 := nlt_i c619
          refine lv_iload_n hx hb dX5_covers_17 rfl (lv_at hl 3 rfl) ?_
          refine lv_aload_n hx hb dX5_covers_18 rfl (lv_at hl 0 rfl) ?_
          refine lv_iload_n hx hb dX5_covers_19 rfl (lv_at hl 1 rfl) ?_
          refine ro_V (As := [.int p0]) (rest := [.int p2]) hC hE kV_X5_38 (c_X5_size l D K w wa0 wa1 wa2 wf2 p0 hsz) (hP.sub (ws' := [(w, .inr (5, [.ref wa0, .ref wa1, .ref wa2])), (wa2, .inl (K 1, 4, .inl wf2))]) [0, 1] rfl) 0 5 rfl rfl rfl hl.1 rfl (Nat.le_of_ble_eq_true rfl) (by decide) (by decide) dX5_covers_20 (fun r626 hq => ?_)
          rcases hq with ⟨rfl, h620⟩ | ⟨h621, h622, h623, h624, h625⟩
          · refine lv_iload_n hx hb dX5_covers_23 rfl (lv_at hl 2 rfl) ?_
            refine lv_isub hx hb dX5_covers_24 ?_
            refine lv_topi (fun v627 ev627 => ?_)
            have tv627 : v627.toInt = (0 : Int32).toInt - (p1 : Int32).toInt := sub_i ev627 (by omega) (by omega)
            refine lv_icmp_gt (tgt := 32) hx hb dX5_covers_25 (by decide) (fun c628 => ?_) (fun c628 => ?_)
            · replace c628 := lt_i c628
              refine lv_iconst (v := 0) hx hb dX5_covers_32 (by decide) ?_
              exact ro_zret hC hr hk dX5_covers_33 rfl (Or.inl ⟨rfl, (by omega)⟩)
            · replace c628 := nlt_i c628
              refine lv_iconst (v := 1) hx hb dX5_covers_28 (by decide) ?_
              refine lv_goto (tgt := 33) hx hb dX5_covers_29 (by decide) ?_
              exact ro_zret hC hr hk dX5_covers_33 rfl (Or.inr ⟨rfl, (by omega), (by omega), (by omega), (by omega)⟩)
          · refine lv_iload_n hx hb dX5_covers_23 rfl (lv_at hl 2 rfl) ?_
            refine lv_isub hx hb dX5_covers_24 ?_
            refine lv_topi (fun v629 ev629 => ?_)
            have tv629 : v629.toInt = (r626 : Int32).toInt - (p1 : Int32).toInt := sub_i ev629 (by omega) (by omega)
            refine lv_icmp_gt (tgt := 32) hx hb dX5_covers_25 (by decide) (fun c630 => ?_) (fun c630 => ?_)
            · replace c630 := lt_i c630
              refine lv_iconst (v := 0) hx hb dX5_covers_32 (by decide) ?_
              exact ro_zret hC hr hk dX5_covers_33 rfl (Or.inl ⟨rfl, (by omega)⟩)
            · replace c630 := nlt_i c630
              refine lv_iconst (v := 1) hx hb dX5_covers_28 (by decide) ?_
              refine lv_goto (tgt := 33) hx hb dX5_covers_29 (by decide) ?_
              exact ro_zret hC hr hk dX5_covers_33 rfl (Or.inr ⟨rfl, (by omega), (by omega), (by omega), (by omega)⟩)
set_option maxRecDepth 40000 in
set_option maxHeartbeats 4000000 in
theorem c_X5_move (l : Launch) (D : va_G) (K : Nat → ClassId) (w : Nat) (wa0 : Nat) (wa1 : Nat) (wa2 : Nat) (wf0 : Nat → Int64) (wf2 : Nat → Int32) (p0 : Int32) (p1 : Int32) (p2 : Int32) (p3 : Int32) (p4 : Int32) (hsz : ∀ j, j < 4 → -1 ≤ (wf2 j).toInt ∧ (wf2 j).toInt ≤ 60) : Cv (S := ((Nat → Int32) × (Nat → Nat → Int32) × (Nat → Nat → Int64))) l D K yX5_move cX5_move 6 4 85 0 0 [.ref w, .int p0, .int p1, .int p2, .int p3, .int p4] [(w, .inr (5, [.ref wa0, .ref wa1, .ref wa2])), (wa0, .inl (K 2, 240, .inr (.inl wf0))), (wa2, .inl (K 1, 4, .inl wf2))] (fun _ => True) (fun u => [(w, .inr (5, [.ref wa0, .ref wa1, .ref wa2])), (wa0, .inl (K 2, 240, .inr (.inl (u.2.2 0)))), (wa2, .inl (K 1, 4, .inl wf2))]) := by
  intro sz
  refine ch_of (y := yX5_move) (cc := cX5_move) (maxL := 6) (ret := none) (av := [.ref w, .int p0, .int p1, .int p2, .int p3, .int p4]) (ws := [(w, .inr (5, [.ref wa0, .ref wa1, .ref wa2])), (wa0, .inl (K 2, 240, .inr (.inl wf0))), (wa2, .inl (K 1, 4, .inl wf2))]) (D := D) (K := K) (Qc := fun A => va_Qv (S := ((Nat → Int32) × (Nat → Nat → Int32) × (Nat → Nat → Int64))) (fun _ => True) (chB D A (fun u => [(w, .inr (5, [.ref wa0, .ref wa1, .ref wa2])), (wa0, .inl (K 2, 240, .inr (.inl (u.2.2 0)))), (wa2, .inl (K 1, 4, .inl wf2))])) A) (by decide) (Nat.le_of_ble_eq_true rfl) ?_
  intro p e s m below meth c A hC hr hk hin hE hD hA H locs hP hS ls hl
  replace hC : CallFix p m c cX5_move 6 s [.ref w, .int p0, .int p1, .int p2, .int p3, .int p4].toArray wl RX5 := hC
  have hx := hC.1
  have hb := hC.2.1
  have hml := hC.2.2.1
  have hown := hC.2.2.2.1
  have hts := hC.2.2.2.2
  replace hl : lv_has ls 6 [(0, .ref w), (1, .int p0), (2, .int p1), (3, .int p2), (4, .int p3), (5, .int p4)] := hl
  have kc_60 : (60 : Int32).toInt = 60 := by decide
  refine lv_aload_n hx hb dX5_move_0 rfl (lv_at hl 0 rfl) ?_
  refine lv_iload_n hx hb dX5_move_1 rfl (lv_at hl 1 rfl) ?_
  refine lv_iload_n hx hb dX5_move_2 rfl (lv_at hl 2 rfl) ?_
  refine lv_iload hx hb dX5_move_3 (lv_at hl 5 rfl) ?_
  refine ro_V (As := [.int p0, .int p1, .int p4]) (rest := []) hC hE kV_X5_49 (c_X5_covers l D K w wa0 wa1 wa2 wf2 p0 p1 p4 hsz) (hP.sub (ws' := [(w, .inr (5, [.ref wa0, .ref wa1, .ref wa2])), (wa2, .inl (K 1, 4, .inl wf2))]) [0, 2] rfl) 0 5 rfl rfl rfl hl.1 rfl (Nat.le_of_ble_eq_true rfl) (by decide) (by decide) dX5_move_5 (fun r661 hq => ?_)
  rcases hq with ⟨rfl, h656⟩ | ⟨rfl, h657, h658, h659, h660⟩
  · refine lv_if_eq (tgt := 63) hx hb dX5_move_8 (by decide) (fun _ => ?_) (fun h => absurd h (by decide))
    refine W.widen (k := 0) (n := 0) (by decide) (by decide) ?_
    exact ch_vret hC hr hk hS dX5_move_63 ((fun k => [].getD k 0, fun k => [].getD k (fun _ => 0), fun k => [wf0].getD k (fun _ => 0)) : ((Nat → Int32) × (Nat → Nat → Int32) × (Nat → Nat → Int64))) trivial (hP.sub [0, 1, 2] rfl) (hD.sub [0, 1, 2] (by decide) rfl)
  · refine lv_if_eq (tgt := 63) hx hb dX5_move_8 (by decide) (fun h => absurd h (by decide)) (fun _ => ?_)
    refine lv_aload_n hx hb dX5_move_11 rfl (lv_at hl 0 rfl) ?_
    refine lv_iload_n hx hb dX5_move_12 rfl (lv_at hl 3 rfl) ?_
    refine lv_iload hx hb dX5_move_13 (lv_at hl 4 rfl) ?_
    refine lv_iload hx hb dX5_move_15 (lv_at hl 5 rfl) ?_
    refine ro_V (As := [.int p2, .int p3, .int p4]) (rest := []) hC hE kV_X5_49 (c_X5_covers l D K w wa0 wa1 wa2 wf2 p2 p3 p4 hsz) (hP.sub (ws' := [(w, .inr (5, [.ref wa0, .ref wa1, .ref wa2])), (wa2, .inl (K 1, 4, .inl wf2))]) [0, 2] rfl) 0 5 rfl rfl rfl hl.1 rfl (Nat.le_of_ble_eq_true rfl) (by decide) (by decide) dX5_move_17 (fun r667 hq => ?_)
    rcases hq with ⟨rfl, h662⟩ | ⟨rfl, h663, h664, h665, h666⟩
    · refine lv_if_eq (tgt := 63) hx hb dX5_move_20 (by decide) (fun _ => ?_) (fun h => absurd h (by decide))
      refine W.widen (k := 0) (n := 0) (by decide) (by decide) ?_
      exact ch_vret hC hr hk hS dX5_move_63 ((fun k => [].getD k 0, fun k => [].getD k (fun _ => 0), fun k => [wf0].getD k (fun _ => 0)) : ((Nat → Int32) × (Nat → Nat → Int32) × (Nat → Nat → Int64))) trivial (hP.sub [0, 1, 2] rfl) (hD.sub [0, 1, 2] (by decide) rfl)
    · refine lv_if_eq (tgt := 63) hx hb dX5_move_20 (by decide) (fun h => absurd h (by decide)) (fun _ => ?_)
      refine lv_iload_n hx hb dX5_move_23 rfl (lv_at hl 1 rfl) ?_
      refine ro_SN (As := [.int p0]) (rest := []) hC hE kSN_X5_28 (c_X11_isSlot l D K p0) (hP.sub (ws' := []) [] rfl) rfl hl.1 rfl (Nat.le_of_ble_eq_true rfl) (by decide) (by decide) dX5_move_24 (fun r671 hq => ?_)
      rcases hq with ⟨rfl, h668⟩ | ⟨rfl, h669, h670⟩
      · refine lv_if_eq (tgt := 63) hx hb dX5_move_27 (by decide) (fun _ => ?_) (fun h => absurd h (by decide))
        refine W.widen (k := 0) (n := 0) (by decide) (by decide) ?_
        exact ch_vret hC hr hk hS dX5_move_63 ((fun k => [].getD k 0, fun k => [].getD k (fun _ => 0), fun k => [wf0].getD k (fun _ => 0)) : ((Nat → Int32) × (Nat → Nat → Int32) × (Nat → Nat → Int64))) trivial (hP.sub [0, 1, 2] rfl) (hD.sub [0, 1, 2] (by decide) rfl)
      · refine lv_if_eq (tgt := 63) hx hb dX5_move_27 (by decide) (fun h => absurd h (by decide)) (fun _ => ?_)
        refine lv_iload_n hx hb dX5_move_30 rfl (lv_at hl 3 rfl) ?_
        refine ro_SN (As := [.int p2]) (rest := []) hC hE kSN_X5_28 (c_X11_isSlot l D K p2) (hP.sub (ws' := []) [] rfl) rfl hl.1 rfl (Nat.le_of_ble_eq_true rfl) (by decide) (by decide) dX5_move_31 (fun r675 hq => ?_)
        rcases hq with ⟨rfl, h672⟩ | ⟨rfl, h673, h674⟩
        · refine lv_if_eq (tgt := 63) hx hb dX5_move_34 (by decide) (fun _ => ?_) (fun h => absurd h (by decide))
          refine W.widen (k := 0) (n := 0) (by decide) (by decide) ?_
          exact ch_vret hC hr hk hS dX5_move_63 ((fun k => [].getD k 0, fun k => [].getD k (fun _ => 0), fun k => [wf0].getD k (fun _ => 0)) : ((Nat → Int32) × (Nat → Nat → Int32) × (Nat → Nat → Int64))) trivial (hP.sub [0, 1, 2] rfl) (hD.sub [0, 1, 2] (by decide) rfl)
        · refine lv_if_eq (tgt := 63) hx hb dX5_move_34 (by decide) (fun h => absurd h (by decide)) (fun _ => ?_)
          refine lv_aload_n hx hb dX5_move_37 rfl (lv_at hl 0 rfl) ?_
          refine va_get (D := D) (ci := 5) (v := .ref wa0) (C := RX5) (T := TX5) (N := 3) hx hb hts in_X5 hown hE.1 hP 0 rfl rfl 0 (by decide) (hts _ w_113) (fun _ h9 => h9) rfl dX5_move_38 ?_
          refine lv_iload_n hx hb dX5_move_41 rfl (lv_at hl 1 rfl) ?_
          refine lv_bipush (v := 60) hx hb dX5_move_42 (by decide) ?_
          refine lv_imul hx hb dX5_move_44 ?_
          refine lv_topi (fun v676 ev676 => ?_)
          refine lv_iload_n hx hb dX5_move_45 rfl (lv_at hl 2 rfl) ?_
          refine lv_iadd hx hb dX5_move_46 ?_
          refine lv_topi (fun v677 ev677 => ?_)
          refine lv_aload_n hx hb dX5_move_47 rfl (lv_at hl 0 rfl) ?_
          refine va_get (D := D) (ci := 5) (v := .ref wa0) (C := RX5) (T := TX5) (N := 3) hx hb hts in_X5 hown hE.1 hP 0 rfl rfl 0 (by decide) (hts _ w_113) (fun _ h9 => h9) rfl dX5_move_48 ?_
          refine lv_iload_n hx hb dX5_move_51 rfl (lv_at hl 3 rfl) ?_
          refine lv_bipush (v := 60) hx hb dX5_move_52 (by decide) ?_
          refine lv_imul hx hb dX5_move_54 ?_
          refine lv_topi (fun v678 ev678 => ?_)
          refine lv_iload hx hb dX5_move_55 (lv_at hl 4 rfl) ?_
          refine lv_iadd hx hb dX5_move_57 ?_
          refine lv_topi (fun v679 ev679 => ?_)
          refine lv_iload hx hb dX5_move_58 (lv_at hl 5 rfl) ?_
          have tv678 : v678.toInt = p2.toInt * 60 := mul_i ev678 rfl (by decide) (by omega) (by omega)
          have tv679 : v679.toInt = (v678 : Int32).toInt + (p3 : Int32).toInt := add_i ev679 (by omega) (by omega)
          have tv676 : v676.toInt = p0.toInt * 60 := mul_i ev676 rfl (by decide) (by omega) (by omega)
          have tv677 : v677.toInt = (v676 : Int32).toInt + (p1 : Int32).toInt := add_i ev677 (by omega) (by omega)
          refine cpl hC hE hl.1 w_121 w_81 w_82 w_83 hP hD hS 1 1 rfl rfl (nlt_z (by omega)) (nlt_z (by omega)) (nlt_z (by omega)) (cl_le (by omega) (by omega) (by omega)) (cl_le (by omega) (by omega) (by omega)) (by decide) (Nat.le_of_ble_eq_true rfl) dX5_move_60 (fun g680 H locs hP hD hS => ?_)
          replace hP : va_P D vwCl [(w, .inr (5, [.ref wa0, .ref wa1, .ref wa2])), (wa0, .inl (K 2, 240, .inr (.inl g680))), (wa2, .inl (K 1, 4, .inl wf2))] H := hP
          replace hD : va_D A [(w, .inr (5, [.ref wa0, .ref wa1, .ref wa2])), (wa0, .inl (K 2, 240, .inr (.inl g680))), (wa2, .inl (K 1, 4, .inl wf2))] := hD
          refine W.widen (k := 0) (n := 0) (by decide) (by decide) ?_
          exact ch_vret hC hr hk hS dX5_move_63 ((fun k => [].getD k 0, fun k => [].getD k (fun _ => 0), fun k => [g680].getD k (fun _ => 0)) : ((Nat → Int32) × (Nat → Nat → Int32) × (Nat → Nat → Int64))) trivial (hP.sub [0, 1, 2] rfl) (hD.sub [0, 1, 2] (by decide) rfl)
set_option maxRecDepth 40000 in
set_option maxHeartbeats 4000000 in
theorem c_J7_rangeCheck_23922 (l : Launch) (D : va_G) (K : Nat → ClassId) (p0 : Int32) (p1 : Int32) (p2 : Int32) (h1 : 0 ≤ p1.toInt) (h2 : p1.toInt ≤ p2.toInt) (h3 : p2.toInt ≤ p0.toInt) : Cv (S := ((Nat → Int32) × (Nat → Nat → Int32) × (Nat → Nat → Int64))) l D K yJ7_rangeCheck_23922 cJ7_rangeCheck_23922 3 0 0 0 0 [.int p0, .int p1, .int p2] [] (fun _ => True) (fun u => []) := by
  intro sz
  refine ch_of (y := yJ7_rangeCheck_23922) (cc := cJ7_rangeCheck_23922) (maxL := 3) (ret := none) (av := [.int p0, .int p1, .int p2]) (ws := []) (D := D) (K := K) (Qc := fun A => va_Qv (S := ((Nat → Int32) × (Nat → Nat → Int32) × (Nat → Nat → Int64))) (fun _ => True) (chB D A (fun u => [])) A) (by decide) (Nat.le_of_ble_eq_true rfl) ?_
  intro p e s m below meth c A hC hr hk hin hE hD hA H locs hP hS ls hl
  replace hC : CallFix p m c cJ7_rangeCheck_23922 3 s [.int p0, .int p1, .int p2].toArray wl RJ7 := hC
  have hx := hC.1
  have hb := hC.2.1
  have hml := hC.2.2.1
  have hown := hC.2.2.2.1
  have hts := hC.2.2.2.2
  replace hl : lv_has ls 3 [(0, .int p0), (1, .int p1), (2, .int p2)] := hl
  have kc_0 : (0 : Int32).toInt = 0 := by decide
  refine lv_iload_n hx hb dJ7_rangeCheck_23922_0 rfl (lv_at hl 1 rfl) ?_
  refine lv_iload_n hx hb dJ7_rangeCheck_23922_1 rfl (lv_at hl 2 rfl) ?_
  refine lv_icmp_le (tgt := 46) hx hb dJ7_rangeCheck_23922_2 (by decide) (fun _ => ?_) (fun h => absurd (Int32.le_iff_toInt_le.mpr (by omega)) h)
  refine lv_iload_n hx hb dJ7_rangeCheck_23922_46 rfl (lv_at hl 1 rfl) ?_
  refine lv_if_ge (tgt := 59) hx hb dJ7_rangeCheck_23922_47 (by decide) (fun _ => ?_) (fun h => absurd (Int32.le_iff_toInt_le.mpr (by omega)) h)
  refine lv_iload_n hx hb dJ7_rangeCheck_23922_59 rfl (lv_at hl 2 rfl) ?_
  refine lv_iload_n hx hb dJ7_rangeCheck_23922_60 rfl (lv_at hl 0 rfl) ?_
  refine lv_icmp_le (tgt := 73) hx hb dJ7_rangeCheck_23922_61 (by decide) (fun _ => ?_) (fun h => absurd (Int32.le_iff_toInt_le.mpr (by omega)) h)
  refine W.widen (k := 0) (n := 0) (by decide) (by decide) ?_
  exact ch_vret hC hr hk hS dJ7_rangeCheck_23922_73 ((fun k => [].getD k 0, fun k => [].getD k (fun _ => 0), fun k => [].getD k (fun _ => 0)) : ((Nat → Int32) × (Nat → Nat → Int32) × (Nat → Nat → Int64))) trivial (hP.sub [] rfl) (hD.sub [] (by decide) rfl)
set_option maxRecDepth 40000 in
set_option maxHeartbeats 4000000 in
theorem c_J7_fill_bad5a (l : Launch) (D : va_G) (K : Nat → ClassId) (a : Nat) (f : Nat → Int64) (p1 : Int32) (p2 : Int32) (p3 : Int64) (h1 : 0 ≤ p1.toInt) (h2 : p1.toInt ≤ p2.toInt) (h3 : p2.toInt ≤ 240) : Cv (S := ((Nat → Int32) × (Nat → Nat → Int32) × (Nat → Nat → Int64))) l D K yJ7_fill_bad5a cJ7_fill_bad5a 6 1 22 0 0 [.ref a, .int p1, .int p2, .long p3] [(a, .inl (K 2, 240, .inr (.inl f)))] (fun _ => True) (fun u => [(a, .inl (K 2, 240, .inr (.inl (u.2.2 0))))]) := by
  intro sz
  refine ch_of (y := yJ7_fill_bad5a) (cc := cJ7_fill_bad5a) (maxL := 6) (ret := none) (av := [.ref a, .int p1, .int p2, .long p3]) (ws := [(a, .inl (K 2, 240, .inr (.inl f)))]) (D := D) (K := K) (Qc := fun A => va_Qv (S := ((Nat → Int32) × (Nat → Nat → Int32) × (Nat → Nat → Int64))) (fun _ => True) (chB D A (fun u => [(a, .inl (K 2, 240, .inr (.inl (u.2.2 0))))])) A) (by decide) (Nat.le_of_ble_eq_true rfl) ?_
  intro p e s m below meth c A hC hr hk hin hE hD hA H locs hP hS ls hl
  replace hC : CallFix p m c cJ7_fill_bad5a 6 s [.ref a, .int p1, .int p2, .long p3].toArray wl RJ7 := hC
  have hx := hC.1
  have hb := hC.2.1
  have hml := hC.2.2.1
  have hown := hC.2.2.2.1
  have hts := hC.2.2.2.2
  replace hl : lv_has ls 6 [(0, .ref a), (1, .int p1), (2, .int p2), (3, .long p3)] := hl
  have kc_1 : (1 : Int32).toInt = 1 := by decide
  have kc_240 : (240 : Int32).toInt = 240 := by decide
  refine lv_aload_n hx hb dJ7_fill_bad5a_0 rfl (lv_at hl 0 rfl) ?_
  refine va_alen (v := 240) hx hb hE.1 hP 0 2 rfl rfl (show Int32.ofNat 240 = 240 by decide) dJ7_fill_bad5a_1 ?_
  refine lv_iload_n hx hb dJ7_fill_bad5a_2 rfl (lv_at hl 1 rfl) ?_
  refine lv_iload_n hx hb dJ7_fill_bad5a_3 rfl (lv_at hl 2 rfl) ?_
  refine cv_S (As := [.int 240, .int p1, .int p2]) (rest := []) (wc := []) (wr := [(a, .inl (K 2, 240, .inr (.inl f)))]) hC hE kS_J7_13 (c_J7_rangeCheck_23922 l D K 240 p1 p2 (by omega) (by omega) (by omega)) hP hD hS hA [] [0] rfl rfl rfl (by decide) (by decide) (by decide) rfl hl.1 rfl (Nat.le_of_ble_eq_true rfl) (by decide) (by decide) dJ7_fill_bad5a_4 (fun u687 H locs hw hP hD hS => ?_)
  replace hP : va_P D vwCl [(a, .inl (K 2, 240, .inr (.inl f)))] H := hP
  replace hD : va_D A [(a, .inl (K 2, 240, .inr (.inl f)))] := hD
  replace hP : va_P D vwCl [(a, .inl (K 2, 240, .inr (.inl f)))] H := hP.sub [0] rfl
  replace hD : va_D A [(a, .inl (K 2, 240, .inr (.inl f)))] := hD.sub [0] (by decide) rfl
  refine W.widen (k := 0) (n := 0) (by decide) (by decide) ?_
  refine lv_iload_n hx hb dJ7_fill_bad5a_7 rfl (lv_at hl 1 rfl) ?_
  refine lv_istore (lv' := [(5, .int p1), (0, .ref a), (1, .int p1), (2, .int p2), (3, .long p3)]) hx hb dJ7_fill_bad5a_8 hl (by decide) rfl (fun ls hl => ?_)
  have hl' := hl; have hP' := hP; have hD' := hD; clear hl hP hD
  obtain ⟨i693, g694, hi_10, hl, hP, hD⟩ : ∃ (i693 : Int32) (g694 : Nat → Int64), (p1.toInt ≤ i693.toInt) ∧ lv_has ls 6 [(5, .int i693), (0, .ref a), (1, .int p1), (2, .int p2), (3, .long p3)] ∧ va_P D vwCl [(a, .inl (K 2, 240, .inr (.inl g694)))] H ∧ va_D A [(a, .inl (K 2, 240, .inr (.inl g694)))] := ⟨_, _, by omega, hl', hP', hD'⟩
  clear hl' hP' hD'
  have hb_10 := i32_hi p2
  obtain ⟨n_10, hn_10⟩ : ∃ n : Nat, (p2.toInt - i693.toInt).toNat < n := ⟨_, Nat.lt_succ_self _⟩
  induction n_10 generalizing i693 g694 H locs ls with
  | zero => exact absurd hn_10 (Nat.not_lt_zero _)
  | succ n_10 ih_10 =>
    refine lv_iload hx hb dJ7_fill_bad5a_10 (lv_at hl 0 rfl) ?_
    refine lv_iload_n hx hb dJ7_fill_bad5a_12 rfl (lv_at hl 3 rfl) ?_
    refine lv_icmp_ge (tgt := 27) hx hb dJ7_fill_bad5a_13 (by decide) (fun c695 => ?_) (fun c695 => ?_)
    · replace c695 := le_i c695
      refine W.widen (k := 0) (n := 0) (by decide) (by decide) ?_
      exact ch_vret hC hr hk hS dJ7_fill_bad5a_27 ((fun k => [].getD k 0, fun k => [].getD k (fun _ => 0), fun k => [g694].getD k (fun _ => 0)) : ((Nat → Int32) × (Nat → Nat → Int32) × (Nat → Nat → Int64))) trivial (hP.sub [0] rfl) (hD.sub [0] (by decide) rfl)
    · replace c695 := nle_i c695
      refine lv_aload_n hx hb dJ7_fill_bad5a_16 rfl (lv_at hl 1 rfl) ?_
      refine lv_iload hx hb dJ7_fill_bad5a_17 (lv_at hl 0 rfl) ?_
      refine lv_lload_n hx hb dJ7_fill_bad5a_19 rfl (lv_at hl 4 rfl) ?_
      refine stl hx hb hE.1 hP hD hS 0 2 rfl rfl (vp_in_iff.mpr (by omega)) dJ7_fill_bad5a_20 (fun g696 eg696 H locs hP hD hS => ?_)
      replace hP : va_P D vwCl [(a, .inl (K 2, 240, .inr (.inl g696)))] H := hP
      replace hD : va_D A [(a, .inl (K 2, 240, .inr (.inl g696)))] := hD
      obtain ⟨v697, ev697⟩ : ∃ z : Int32, z = i693 + 1 := ⟨_, rfl⟩
      refine lv_iinc (v := v697) (lv' := [(5, .int v697), (0, .ref a), (1, .int p1), (2, .int p2), (3, .long p3)]) hx hb dJ7_fill_bad5a_21 hl (k := 0) rfl (by rw [ev697]; rfl) (by decide) rfl (fun ls hl => ?_)
      refine lv_goto (tgt := 10) hx hb dJ7_fill_bad5a_24 (by decide) ?_
      have tv697 : v697.toInt = (i693 : Int32).toInt + (1 : Int32).toInt := add_i ev697 (by omega) (by omega)
      exact ih_10 (i693 := v697) (g694 := g696) (hi_10 := by omega) (H := H) (locs := locs) (ls := ls) (hn_10 := by omega) (hP := hP) (hD := hD) (hS := hS) (hl := lv_sub hl [0, 1, 2, 3, 4] rfl)
set_option maxRecDepth 40000 in
set_option maxHeartbeats 4000000 in
theorem c_J7_fill_4 (l : Launch) (D : va_G) (K : Nat → ClassId) (a : Nat) (f : Nat → Int32) (p1 : Int32) : Cv (S := ((Nat → Int32) × (Nat → Nat → Int32) × (Nat → Nat → Int64))) l D K yJ7_fill_53178 cJ7_fill_53178 4 0 0 0 0 [.ref a, .int p1] [(a, .inl (K 1, 4, .inl f))] (fun _ => True) (fun u => [(a, .inl (K 1, 4, .inl (u.2.1 0)))]) := by
  intro sz
  refine ch_of (y := yJ7_fill_53178) (cc := cJ7_fill_53178) (maxL := 4) (ret := none) (av := [.ref a, .int p1]) (ws := [(a, .inl (K 1, 4, .inl f))]) (D := D) (K := K) (Qc := fun A => va_Qv (S := ((Nat → Int32) × (Nat → Nat → Int32) × (Nat → Nat → Int64))) (fun _ => True) (chB D A (fun u => [(a, .inl (K 1, 4, .inl (u.2.1 0)))])) A) (by decide) (Nat.le_of_ble_eq_true rfl) ?_
  intro p e s m below meth c A hC hr hk hin hE hD hA H locs hP hS ls hl
  replace hC : CallFix p m c cJ7_fill_53178 4 s [.ref a, .int p1].toArray wl RJ7 := hC
  have hx := hC.1
  have hb := hC.2.1
  have hml := hC.2.2.1
  have hown := hC.2.2.2.1
  have hts := hC.2.2.2.2
  replace hl : lv_has ls 4 [(0, .ref a), (1, .int p1)] := hl
  have kc_0 : (0 : Int32).toInt = 0 := by decide
  have kc_1 : (1 : Int32).toInt = 1 := by decide
  have kc_4 : (4 : Int32).toInt = 4 := by decide
  refine lv_iconst (v := 0) hx hb dJ7_fill_53178_0 (by decide) ?_
  refine lv_istore_n (lv' := [(2, .int 0), (0, .ref a), (1, .int p1)]) hx hb dJ7_fill_53178_1 rfl hl (by decide) rfl (fun ls hl => ?_)
  refine lv_aload_n hx hb dJ7_fill_53178_2 rfl (lv_at hl 1 rfl) ?_
  refine va_alen (v := 4) hx hb hE.1 hP 0 1 rfl rfl (show Int32.ofNat 4 = 4 by decide) dJ7_fill_53178_3 ?_
  refine lv_istore_n (lv' := [(3, .int 4), (2, .int 0), (0, .ref a), (1, .int p1)]) hx hb dJ7_fill_53178_4 rfl hl (by decide) rfl (fun ls hl => ?_)
  have hl' := hl; have hP' := hP; have hD' := hD; clear hl hP hD
  obtain ⟨i706, g707, hi_5, hl, hP, hD⟩ : ∃ (i706 : Int32) (g707 : Nat → Int32), ((0 : Int) ≤ i706.toInt) ∧ lv_has ls 4 [(3, .int 4), (2, .int i706), (0, .ref a), (1, .int p1)] ∧ va_P D vwCl [(a, .inl (K 1, 4, .inl g707))] H ∧ va_D A [(a, .inl (K 1, 4, .inl g707))] := ⟨_, _, by omega, hl', hP', hD'⟩
  clear hl' hP' hD'
  obtain ⟨n_5, hn_5⟩ : ∃ n : Nat, (4 - i706.toInt).toNat < n := ⟨_, Nat.lt_succ_self _⟩
  induction n_5 generalizing i706 g707 H locs ls with
  | zero => exact absurd hn_5 (Nat.not_lt_zero _)
  | succ n_5 ih_5 =>
    refine lv_iload_n hx hb dJ7_fill_53178_5 rfl (lv_at hl 1 rfl) ?_
    refine lv_iload_n hx hb dJ7_fill_53178_6 rfl (lv_at hl 0 rfl) ?_
    refine lv_icmp_ge (tgt := 20) hx hb dJ7_fill_53178_7 (by decide) (fun c708 => ?_) (fun c708 => ?_)
    · replace c708 := le_i c708
      refine W.widen (k := 0) (n := 0) (by decide) (by decide) ?_
      exact ch_vret hC hr hk hS dJ7_fill_53178_20 ((fun k => [].getD k 0, fun k => [g707].getD k (fun _ => 0), fun k => [].getD k (fun _ => 0)) : ((Nat → Int32) × (Nat → Nat → Int32) × (Nat → Nat → Int64))) trivial (hP.sub [0] rfl) (hD.sub [0] (by decide) rfl)
    · replace c708 := nle_i c708
      refine lv_aload_n hx hb dJ7_fill_53178_10 rfl (lv_at hl 2 rfl) ?_
      refine lv_iload_n hx hb dJ7_fill_53178_11 rfl (lv_at hl 1 rfl) ?_
      refine lv_iload_n hx hb dJ7_fill_53178_12 rfl (lv_at hl 3 rfl) ?_
      refine sti hx hb hE.1 hP hD hS 0 1 rfl rfl (vp_in_iff.mpr (by omega)) dJ7_fill_53178_13 (fun g709 eg709 H locs hP hD hS => ?_)
      replace hP : va_P D vwCl [(a, .inl (K 1, 4, .inl g709))] H := hP
      replace hD : va_D A [(a, .inl (K 1, 4, .inl g709))] := hD
      obtain ⟨v710, ev710⟩ : ∃ z : Int32, z = i706 + 1 := ⟨_, rfl⟩
      refine lv_iinc (v := v710) (lv' := [(2, .int v710), (3, .int 4), (0, .ref a), (1, .int p1)]) hx hb dJ7_fill_53178_14 hl (k := 1) rfl (by rw [ev710]; rfl) (by decide) rfl (fun ls hl => ?_)
      refine lv_goto (tgt := 5) hx hb dJ7_fill_53178_17 (by decide) ?_
      have tv710 : v710.toInt = (i706 : Int32).toInt + (1 : Int32).toInt := add_i ev710 (by omega) (by omega)
      exact ih_5 (i706 := v710) (g707 := g709) (hi_5 := by omega) (H := H) (locs := locs) (ls := ls) (hn_5 := by omega) (hP := hP) (hD := hD) (hS := hS) (hl := lv_sub hl [1, 0, 2, 3] rfl)
