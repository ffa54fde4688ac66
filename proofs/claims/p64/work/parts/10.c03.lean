set_option maxRecDepth 40000 in
set_option maxHeartbeats 4000000 in
theorem c_X5_width (l : Launch) (D : va_G) (K : Nat → ClassId) (w : Nat) (wa0 : Nat) (wa1 : Nat) (wa2 : Nat) (wf1 : Nat → Int32) (p0 : Int32) : Ro l D K yX5_width cX5_width 2 (some .int) 1 20 [.ref w, .int p0] [(w, .inr (5, [.ref wa0, .ref wa1, .ref wa2])), (wa1, .inl (K 1, 4, .inl wf1))] (fun _ => True) := by
  refine ro_of (by decide) (Nat.le_of_ble_eq_true rfl) ?_
  intro p e s m below meth c hC hr hk hE hP ls hl
  replace hC : CallFix p m c cX5_width 2 s [.ref w, .int p0].toArray wl RX5 := hC
  have hx := hC.1
  have hb := hC.2.1
  have hml := hC.2.2.1
  have hown := hC.2.2.2.1
  have hts := hC.2.2.2.2
  replace hl : lv_has ls 2 [(0, .ref w), (1, .int p0)] := hl
  refine lv_iload_n hx hb dX5_width_0 rfl (lv_at hl 1 rfl) ?_
  refine ro_SN (As := [.int p0]) (rest := []) hC hE kSN_X5_28 (c_X11_isSlot l D K p0) (hP.sub (ws' := []) [] rfl) rfl hl.1 rfl (Nat.le_of_ble_eq_true rfl) (by decide) (by decide) dX5_width_1 (fun r445 hq => ?_)
  rcases hq with rfl | ⟨rfl, h443, h444⟩
  · refine lv_if_eq (tgt := 16) hx hb dX5_width_4 (by decide) (fun _ => ?_) (fun h => absurd h (by decide))
    refine lv_iconst (v := (-1)) hx hb dX5_width_16 (by decide) ?_
    exact ro_ret hC hr hk dX5_width_17 trivial
  · refine lv_if_eq (tgt := 16) hx hb dX5_width_4 (by decide) (fun h => absurd h (by decide)) (fun _ => ?_)
    refine lv_aload_n hx hb dX5_width_7 rfl (lv_at hl 0 rfl) ?_
    refine va_get (D := D) (ci := 5) (v := .ref wa1) (C := RX5) (T := TX5) (N := 3) hx hb hts in_X5 hown hE.1 hP 0 rfl rfl 1 (by decide) (hts _ w_103) (fun _ h9 => h9) rfl dX5_width_8 ?_
    refine lv_iload_n hx hb dX5_width_11 rfl (lv_at hl 1 rfl) ?_
    refine va_iald hx hb hE.1 hP 1 1 rfl rfl (vp_in_iff.mpr (by omega)) dX5_width_12 ?_
    refine lv_topi (fun v446 ev446 => ?_)
    refine lv_goto (tgt := 17) hx hb dX5_width_13 (by decide) ?_
    exact ro_ret hC hr hk dX5_width_17 trivial
set_option maxRecDepth 40000 in
set_option maxHeartbeats 4000000 in
theorem c_X5_size (l : Launch) (D : va_G) (K : Nat → ClassId) (w : Nat) (wa0 : Nat) (wa1 : Nat) (wa2 : Nat) (wf2 : Nat → Int32) (p0 : Int32) (hsz : ∀ j, j < 4 → -1 ≤ (wf2 j).toInt ∧ (wf2 j).toInt ≤ 60) : Ro l D K yX5_size cX5_size 2 (some .int) 2 41 [.ref w, .int p0] [(w, .inr (5, [.ref wa0, .ref wa1, .ref wa2])), (wa2, .inl (K 1, 4, .inl wf2))] (fun r => ((0 ≤ r.toInt) ∧ (r.toInt ≤ 60))) := by
  refine ro_of (by decide) (Nat.le_of_ble_eq_true rfl) ?_
  intro p e s m below meth c hC hr hk hE hP ls hl
  replace hC : CallFix p m c cX5_size 2 s [.ref w, .int p0].toArray wl RX5 := hC
  have hx := hC.1
  have hb := hC.2.1
  have hml := hC.2.2.1
  have hown := hC.2.2.2.1
  have hts := hC.2.2.2.2
  replace hl : lv_has ls 2 [(0, .ref w), (1, .int p0)] := hl
  have kc_0 : (0 : Int32).toInt = 0 := by decide
  refine lv_aload_n hx hb dX5_size_0 rfl (lv_at hl 0 rfl) ?_
  refine lv_iload_n hx hb dX5_size_1 rfl (lv_at hl 1 rfl) ?_
  refine ro_V (As := [.int p0]) (rest := []) hC hE kV_X5_35 (c_X5_has l D K w wa0 wa1 wa2 wf2 p0) (hP.sub (ws' := [(w, .inr (5, [.ref wa0, .ref wa1, .ref wa2])), (wa2, .inl (K 1, 4, .inl wf2))]) [0, 1] rfl) 0 5 rfl rfl rfl hl.1 rfl (Nat.le_of_ble_eq_true rfl) (by decide) (by decide) dX5_size_2 (fun r449 hq => ?_)
  rcases hq with rfl | ⟨rfl, h447, h448⟩
  · refine lv_if_eq (tgt := 17) hx hb dX5_size_5 (by decide) (fun _ => ?_) (fun h => absurd h (by decide))
    refine lv_iconst (v := 0) hx hb dX5_size_17 (by decide) ?_
    exact ro_ret hC hr hk dX5_size_18 ⟨(by omega), (by omega)⟩
  · refine lv_if_eq (tgt := 17) hx hb dX5_size_5 (by decide) (fun h => absurd h (by decide)) (fun _ => ?_)
    refine lv_aload_n hx hb dX5_size_8 rfl (lv_at hl 0 rfl) ?_
    refine va_get (D := D) (ci := 5) (v := .ref wa2) (C := RX5) (T := TX5) (N := 3) hx hb hts in_X5 hown hE.1 hP 0 rfl rfl 2 (by decide) (hts _ w_102) (fun _ h9 => h9) rfl dX5_size_9 ?_
    refine lv_iload_n hx hb dX5_size_12 rfl (lv_at hl 1 rfl) ?_
    refine va_iald hx hb hE.1 hP 1 1 rfl rfl (vp_in_iff.mpr (by omega)) dX5_size_13 ?_
    refine lv_topi (fun v450 ev450 => ?_)
    have tv450 := hsz _ (in_lt (vp_in_iff.mpr (by omega)))
    rw [← ev450] at tv450
    refine lv_goto (tgt := 18) hx hb dX5_size_14 (by decide) ?_
    exact ro_ret hC hr hk dX5_size_18 ⟨(by omega), (by omega)⟩
set_option maxRecDepth 40000 in
set_option maxHeartbeats 4000000 in
theorem c_X5_kept (l : Launch) (D : va_G) (K : Nat → ClassId) (w : Nat) (wa0 : Nat) (wa1 : Nat) (wa2 : Nat) (wf2 : Nat → Int32) : Ro l D K yX5_kept cX5_kept 3 (some .int) 2 41 [.ref w] [(w, .inr (5, [.ref wa0, .ref wa1, .ref wa2])), (wa2, .inl (K 1, 4, .inl wf2))] (fun _ => True) := by
  refine ro_of (by decide) (Nat.le_of_ble_eq_true rfl) ?_
  intro p e s m below meth c hC hr hk hE hP ls hl
  replace hC : CallFix p m c cX5_kept 3 s [.ref w].toArray wl RX5 := hC
  have hx := hC.1
  have hb := hC.2.1
  have hml := hC.2.2.1
  have hown := hC.2.2.2.1
  have hts := hC.2.2.2.2
  replace hl : lv_has ls 3 [(0, .ref w)] := hl
  have kc_0 : (0 : Int32).toInt = 0 := by decide
  have kc_1 : (1 : Int32).toInt = 1 := by decide
  have kc_4 : (4 : Int32).toInt = 4 := by decide
  refine lv_iconst (v := 0) hx hb dX5_kept_0 (by decide) ?_
  refine lv_istore_n (lv' := [(1, .int 0), (0, .ref w)]) hx hb dX5_kept_1 rfl hl (by decide) rfl (fun ls hl => ?_)
  refine lv_iconst (v := 0) hx hb dX5_kept_2 (by decide) ?_
  refine lv_istore_n (lv' := [(2, .int 0), (1, .int 0), (0, .ref w)]) hx hb dX5_kept_3 rfl hl (by decide) rfl (fun ls hl => ?_)
  have hl' := hl; clear hl
  obtain ⟨i461, i462, hi_4, hl⟩ : ∃ (i461 : Int32) (i462 : Int32), ((0 : Int) ≤ i461.toInt) ∧ lv_has ls 3 [(2, .int i461), (1, .int i462), (0, .ref w)] := ⟨_, _, by omega, hl'⟩
  clear hl'
  obtain ⟨n_4, hn_4⟩ : ∃ n : Nat, (4 - i461.toInt).toNat < n := ⟨_, Nat.lt_succ_self _⟩
  induction n_4 generalizing i461 i462 ls with
  | zero => exact absurd hn_4 (Nat.not_lt_zero _)
  | succ n_4 ih_4 =>
    refine lv_iload_n hx hb dX5_kept_4 rfl (lv_at hl 0 rfl) ?_
    refine lv_iconst (v := 4) hx hb dX5_kept_5 (by decide) ?_
    refine lv_icmp_ge (tgt := 31) hx hb dX5_kept_6 (by decide) (fun c463 => ?_) (fun c463 => ?_)
    · replace c463 := le_i c463
      refine lv_iload_n hx hb dX5_kept_31 rfl (lv_at hl 1 rfl) ?_
      exact ro_ret hC hr hk dX5_kept_32 trivial
    · replace c463 := nle_i c463
      refine lv_iload_n hx hb dX5_kept_9 rfl (lv_at hl 1 rfl) ?_
      refine lv_aload_n hx hb dX5_kept_10 rfl (lv_at hl 2 rfl) ?_
      refine lv_iload_n hx hb dX5_kept_11 rfl (lv_at hl 0 rfl) ?_
      refine ro_V (As := [.int i461]) (rest := [.int i462]) hC hE kV_X5_35 (c_X5_has l D K w wa0 wa1 wa2 wf2 i461) (hP.sub (ws' := [(w, .inr (5, [.ref wa0, .ref wa1, .ref wa2])), (wa2, .inl (K 1, 4, .inl wf2))]) [0, 1] rfl) 0 5 rfl rfl rfl hl.1 rfl (Nat.le_of_ble_eq_true rfl) (by decide) (by decide) dX5_kept_12 (fun r466 hq => ?_)
      rcases hq with rfl | ⟨rfl, h464, h465⟩
      · refine lv_if_eq (tgt := 22) hx hb dX5_kept_15 (by decide) (fun _ => ?_) (fun h => absurd h (by decide))
        refine lv_iconst (v := 0) hx hb dX5_kept_22 (by decide) ?_
        refine lv_iadd hx hb dX5_kept_23 ?_
        refine lv_topi (fun v467 ev467 => ?_)
        refine lv_istore_n (lv' := [(1, .int v467), (2, .int i461), (0, .ref w)]) hx hb dX5_kept_24 rfl hl (by decide) rfl (fun ls hl => ?_)
        obtain ⟨v468, ev468⟩ : ∃ z : Int32, z = i461 + 1 := ⟨_, rfl⟩
        refine lv_iinc (v := v468) (lv' := [(2, .int v468), (1, .int v467), (0, .ref w)]) hx hb dX5_kept_25 hl (k := 1) rfl (by rw [ev468]; rfl) (by decide) rfl (fun ls hl => ?_)
        refine lv_goto (tgt := 4) hx hb dX5_kept_28 (by decide) ?_
        have tv468 : v468.toInt = (i461 : Int32).toInt + (1 : Int32).toInt := add_i ev468 (by omega) (by omega)
        exact ih_4 (i461 := v468) (i462 := v467) (hi_4 := by omega) (ls := ls) (hn_4 := by omega) (hl := lv_sub hl [0, 1, 2] rfl)
      · refine lv_if_eq (tgt := 22) hx hb dX5_kept_15 (by decide) (fun h => absurd h (by decide)) (fun _ => ?_)
        refine lv_iconst (v := 1) hx hb dX5_kept_18 (by decide) ?_
        refine lv_goto (tgt := 23) hx hb dX5_kept_19 (by decide) ?_
        refine lv_iadd hx hb dX5_kept_23 ?_
        refine lv_topi (fun v469 ev469 => ?_)
        refine lv_istore_n (lv' := [(1, .int v469), (2, .int i461), (0, .ref w)]) hx hb dX5_kept_24 rfl hl (by decide) rfl (fun ls hl => ?_)
        obtain ⟨v470, ev470⟩ : ∃ z : Int32, z = i461 + 1 := ⟨_, rfl⟩
        refine lv_iinc (v := v470) (lv' := [(2, .int v470), (1, .int v469), (0, .ref w)]) hx hb dX5_kept_25 hl (k := 1) rfl (by rw [ev470]; rfl) (by decide) rfl (fun ls hl => ?_)
        refine lv_goto (tgt := 4) hx hb dX5_kept_28 (by decide) ?_
        have tv470 : v470.toInt = (i461 : Int32).toInt + (1 : Int32).toInt := add_i ev470 (by omega) (by omega)
        exact ih_4 (i461 := v470) (i462 := v469) (hi_4 := by omega) (ls := ls) (hn_4 := by omega) (hl := lv_sub hl [0, 1, 2] rfl)
