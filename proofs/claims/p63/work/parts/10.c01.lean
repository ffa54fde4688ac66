set_option maxRecDepth 40000 in
set_option maxHeartbeats 4000000 in
theorem c_X10_hasSet (l : Launch) (D : va_G) (K : Nat → ClassId) (w : Nat) (wa0 : Nat) (wa1 : Nat) (wa2 : Nat) (wa3 : Nat) (wa4 : Nat) (wa5 : Nat) (wa6 : Nat) (wa7 : Nat) (wn8 : Int32) (wn9 : Int32) (wn10 : Int32) (wn11 : Int32) (p0 : Int32) : Ro l D K yX10_hasSet cX10_hasSet 2 (some .boolean) 1 20 [.ref w, .int p0] [(w, .inr (9, [.ref wa0, .ref wa1, .ref wa2, .ref wa3, .ref wa4, .ref wa5, .ref wa6, .ref wa7, .int wn8, .int wn9, .int wn10, .int wn11]))] (fun r => (r = 0) ∨ (r = 1)) := by
  refine ro_of (by decide) (Nat.le_of_ble_eq_true rfl) ?_
  intro p e s m below meth c hC hr hk hE hP ls hl
  replace hC : CallFix p m c cX10_hasSet 2 s [.ref w, .int p0].toArray wl RX10 := hC
  have hx := hC.1
  have hb := hC.2.1
  have hml := hC.2.2.1
  have hown := hC.2.2.2.1
  have hts := hC.2.2.2.2
  replace hl : lv_has ls 2 [(0, .ref w), (1, .int p0)] := hl
  have kc_1 : (1 : Int32).toInt = 1 := by decide
  refine lv_iload_n hx hb dX10_hasSet_0 rfl (lv_at hl 1 rfl) ?_
  refine lv_iconst (v := 1) hx hb dX10_hasSet_1 (by decide) ?_
  refine lv_icmp_lt (tgt := 17) hx hb dX10_hasSet_2 (by decide) (fun c106 => ?_) (fun c106 => ?_)
  · replace c106 := lt_i c106
    refine lv_iconst (v := 0) hx hb dX10_hasSet_17 (by decide) ?_
    exact ro_zret hC hr hk dX10_hasSet_18 rfl (Or.inl rfl)
  · replace c106 := nlt_i c106
    refine lv_iload_n hx hb dX10_hasSet_5 rfl (lv_at hl 1 rfl) ?_
    refine lv_aload_n hx hb dX10_hasSet_6 rfl (lv_at hl 0 rfl) ?_
    refine ro_V (As := []) (rest := [.int p0]) hC hE kV_X10_61 (c_X10_all l D K w wa0 wa1 wa2 wa3 wa4 wa5 wa6 wa7 wn8 wn9 wn10 wn11) (hP.sub (ws' := [(w, .inr (9, [.ref wa0, .ref wa1, .ref wa2, .ref wa3, .ref wa4, .ref wa5, .ref wa6, .ref wa7, .int wn8, .int wn9, .int wn10, .int wn11]))]) [0] rfl) 0 9 rfl rfl rfl hl.1 rfl (Nat.le_of_ble_eq_true rfl) (by decide) (by decide) dX10_hasSet_7 (fun r107 _ => ?_)
    refine lv_icmp_gt (tgt := 17) hx hb dX10_hasSet_10 (by decide) (fun c108 => ?_) (fun c108 => ?_)
    · replace c108 := lt_i c108
      refine lv_iconst (v := 0) hx hb dX10_hasSet_17 (by decide) ?_
      exact ro_zret hC hr hk dX10_hasSet_18 rfl (Or.inl rfl)
    · replace c108 := nlt_i c108
      refine lv_iconst (v := 1) hx hb dX10_hasSet_13 (by decide) ?_
      refine lv_goto (tgt := 18) hx hb dX10_hasSet_14 (by decide) ?_
      exact ro_zret hC hr hk dX10_hasSet_18 rfl (Or.inr rfl)
set_option maxRecDepth 40000 in
set_option maxHeartbeats 4000000 in
theorem c_X10_after (l : Launch) (D : va_G) (K : Nat → ClassId) (w : Nat) (wa0 : Nat) (wa1 : Nat) (wa2 : Nat) (wa3 : Nat) (wa4 : Nat) (wa5 : Nat) (wa6 : Nat) (wa7 : Nat) (wn8 : Int32) (wn9 : Int32) (wn10 : Int32) (wn11 : Int32) (wf0 : Nat → Int32) (p0 : Int32) (p1 : Int32) : Ro l D K yX10_after cX10_after 3 (some .int) 1 21 [.ref w, .int p0, .int p1] [(w, .inr (9, [.ref wa0, .ref wa1, .ref wa2, .ref wa3, .ref wa4, .ref wa5, .ref wa6, .ref wa7, .int wn8, .int wn9, .int wn10, .int wn11])), (wa0, .inl (K 1, 40, .inl wf0))] (fun _ => True) := by
  refine ro_of (by decide) (Nat.le_of_ble_eq_true rfl) ?_
  intro p e s m below meth c hC hr hk hE hP ls hl
  replace hC : CallFix p m c cX10_after 3 s [.ref w, .int p0, .int p1].toArray wl RX10 := hC
  have hx := hC.1
  have hb := hC.2.1
  have hml := hC.2.2.1
  have hown := hC.2.2.2.1
  have hts := hC.2.2.2.2
  replace hl : lv_has ls 3 [(0, .ref w), (1, .int p0), (2, .int p1)] := hl
  have kc_4 : (4 : Int32).toInt = 4 := by decide
  refine lv_aload_n hx hb dX10_after_0 rfl (lv_at hl 0 rfl) ?_
  refine lv_iload_n hx hb dX10_after_1 rfl (lv_at hl 1 rfl) ?_
  refine ro_V (As := [.int p0]) (rest := []) hC hE kV_X10_65 (c_X10_hasPlace l D K w wa0 wa1 wa2 wa3 wa4 wa5 wa6 wa7 wn8 wn9 wn10 wn11 p0) (hP.sub (ws' := [(w, .inr (9, [.ref wa0, .ref wa1, .ref wa2, .ref wa3, .ref wa4, .ref wa5, .ref wa6, .ref wa7, .int wn8, .int wn9, .int wn10, .int wn11]))]) [0] rfl) 0 9 rfl rfl rfl hl.1 rfl (Nat.le_of_ble_eq_true rfl) (by decide) (by decide) dX10_after_2 (fun r111 hq => ?_)
  rcases hq with rfl | ⟨rfl, h109, h110⟩
  · refine lv_if_eq (tgt := 28) hx hb dX10_after_5 (by decide) (fun _ => ?_) (fun h => absurd h (by decide))
    refine lv_iload_n hx hb dX10_after_28 rfl (lv_at hl 1 rfl) ?_
    exact ro_ret hC hr hk dX10_after_29 trivial
  · refine lv_if_eq (tgt := 28) hx hb dX10_after_5 (by decide) (fun h => absurd h (by decide)) (fun _ => ?_)
    refine lv_iload_n hx hb dX10_after_8 rfl (lv_at hl 2 rfl) ?_
    refine ro_SN (As := [.int p1]) (rest := []) hC hE kSN_X10_69 (c_X11_isWind l D K p1) (hP.sub (ws' := []) [] rfl) rfl hl.1 rfl (Nat.le_of_ble_eq_true rfl) (by decide) (by decide) dX10_after_9 (fun r114 hq => ?_)
    rcases hq with rfl | ⟨rfl, h112, h113⟩
    · refine lv_if_eq (tgt := 28) hx hb dX10_after_12 (by decide) (fun _ => ?_) (fun h => absurd h (by decide))
      refine lv_iload_n hx hb dX10_after_28 rfl (lv_at hl 1 rfl) ?_
      exact ro_ret hC hr hk dX10_after_29 trivial
    · refine lv_if_eq (tgt := 28) hx hb dX10_after_12 (by decide) (fun h => absurd h (by decide)) (fun _ => ?_)
      refine lv_aload_n hx hb dX10_after_15 rfl (lv_at hl 0 rfl) ?_
      refine va_get (D := D) (ci := 9) (v := .ref wa0) (C := RX10) (T := TX10) (N := 12) hx hb hts in_X10 hown hE.1 hP 0 rfl rfl 0 (by decide) (hts _ w_36) (fun _ h9 => h9) rfl dX10_after_16 ?_
      refine lv_iload_n hx hb dX10_after_19 rfl (lv_at hl 1 rfl) ?_
      refine lv_iconst (v := 4) hx hb dX10_after_20 (by decide) ?_
      refine lv_imul hx hb dX10_after_21 ?_
      refine lv_topi (fun v115 ev115 => ?_)
      refine lv_iload_n hx hb dX10_after_22 rfl (lv_at hl 2 rfl) ?_
      refine lv_iadd hx hb dX10_after_23 ?_
      refine lv_topi (fun v116 ev116 => ?_)
      have tv115 : v115.toInt = p0.toInt * 4 := mul_i ev115 rfl (by decide) (by omega) (by omega)
      have tv116 : v116.toInt = (v115 : Int32).toInt + (p1 : Int32).toInt := add_i ev116 (by omega) (by omega)
      refine va_iald hx hb hE.1 hP 1 1 rfl rfl (vp_in_iff.mpr (by omega)) dX10_after_24 ?_
      refine lv_topi (fun v117 ev117 => ?_)
      refine lv_goto (tgt := 29) hx hb dX10_after_25 (by decide) ?_
      exact ro_ret hC hr hk dX10_after_29 trivial
set_option maxRecDepth 40000 in
set_option maxHeartbeats 4000000 in
theorem c_X10_sign (l : Launch) (D : va_G) (K : Nat → ClassId) (w : Nat) (wa0 : Nat) (wa1 : Nat) (wa2 : Nat) (wa3 : Nat) (wa4 : Nat) (wa5 : Nat) (wa6 : Nat) (wa7 : Nat) (wn8 : Int32) (wn9 : Int32) (wn10 : Int32) (wn11 : Int32) (wf1 : Nat → Int32) (p0 : Int32) : Ro l D K yX10_sign cX10_sign 2 (some .int) 1 21 [.ref w, .int p0] [(w, .inr (9, [.ref wa0, .ref wa1, .ref wa2, .ref wa3, .ref wa4, .ref wa5, .ref wa6, .ref wa7, .int wn8, .int wn9, .int wn10, .int wn11])), (wa1, .inl (K 1, 10, .inl wf1))] (fun _ => True) := by
  refine ro_of (by decide) (Nat.le_of_ble_eq_true rfl) ?_
  intro p e s m below meth c hC hr hk hE hP ls hl
  replace hC : CallFix p m c cX10_sign 2 s [.ref w, .int p0].toArray wl RX10 := hC
  have hx := hC.1
  have hb := hC.2.1
  have hml := hC.2.2.1
  have hown := hC.2.2.2.1
  have hts := hC.2.2.2.2
  replace hl : lv_has ls 2 [(0, .ref w), (1, .int p0)] := hl
  refine lv_aload_n hx hb dX10_sign_0 rfl (lv_at hl 0 rfl) ?_
  refine lv_iload_n hx hb dX10_sign_1 rfl (lv_at hl 1 rfl) ?_
  refine ro_V (As := [.int p0]) (rest := []) hC hE kV_X10_65 (c_X10_hasPlace l D K w wa0 wa1 wa2 wa3 wa4 wa5 wa6 wa7 wn8 wn9 wn10 wn11 p0) (hP.sub (ws' := [(w, .inr (9, [.ref wa0, .ref wa1, .ref wa2, .ref wa3, .ref wa4, .ref wa5, .ref wa6, .ref wa7, .int wn8, .int wn9, .int wn10, .int wn11]))]) [0] rfl) 0 9 rfl rfl rfl hl.1 rfl (Nat.le_of_ble_eq_true rfl) (by decide) (by decide) dX10_sign_2 (fun r120 hq => ?_)
  rcases hq with rfl | ⟨rfl, h118, h119⟩
  · refine lv_if_eq (tgt := 17) hx hb dX10_sign_5 (by decide) (fun _ => ?_) (fun h => absurd h (by decide))
    refine lv_iconst (v := 0) hx hb dX10_sign_17 (by decide) ?_
    exact ro_ret hC hr hk dX10_sign_18 trivial
  · refine lv_if_eq (tgt := 17) hx hb dX10_sign_5 (by decide) (fun h => absurd h (by decide)) (fun _ => ?_)
    refine lv_aload_n hx hb dX10_sign_8 rfl (lv_at hl 0 rfl) ?_
    refine va_get (D := D) (ci := 9) (v := .ref wa1) (C := RX10) (T := TX10) (N := 12) hx hb hts in_X10 hown hE.1 hP 0 rfl rfl 1 (by decide) (hts _ w_37) (fun _ h9 => h9) rfl dX10_sign_9 ?_
    refine lv_iload_n hx hb dX10_sign_12 rfl (lv_at hl 1 rfl) ?_
    refine va_iald hx hb hE.1 hP 1 1 rfl rfl (vp_in_iff.mpr (by omega)) dX10_sign_13 ?_
    refine lv_topi (fun v121 ev121 => ?_)
    refine lv_goto (tgt := 18) hx hb dX10_sign_14 (by decide) ?_
    exact ro_ret hC hr hk dX10_sign_18 trivial
set_option maxRecDepth 40000 in
set_option maxHeartbeats 4000000 in
theorem c_X10_spread (l : Launch) (D : va_G) (K : Nat → ClassId) (w : Nat) (wa0 : Nat) (wa1 : Nat) (wa2 : Nat) (wa3 : Nat) (wa4 : Nat) (wa5 : Nat) (wa6 : Nat) (wa7 : Nat) (wn8 : Int32) (wn9 : Int32) (wn10 : Int32) (wn11 : Int32) (wf0 : Nat → Int32) (p0 : Int32) (p1 : Int32) : Ro l D K yX10_spread cX10_spread 5 (some .int) 1 20 [.ref w, .int p0, .int p1] [(w, .inr (9, [.ref wa0, .ref wa1, .ref wa2, .ref wa3, .ref wa4, .ref wa5, .ref wa6, .ref wa7, .int wn8, .int wn9, .int wn10, .int wn11])), (wa0, .inl (K 1, 40, .inl wf0))] (fun _ => True) := by
  refine ro_of (by decide) (Nat.le_of_ble_eq_true rfl) ?_
  intro p e s m below meth c hC hr hk hE hP ls hl
  replace hC : CallFix p m c cX10_spread 5 s [.ref w, .int p0, .int p1].toArray wl RX10 := hC
  have hx := hC.1
  have hb := hC.2.1
  have hml := hC.2.2.1
  have hown := hC.2.2.2.1
  have hts := hC.2.2.2.2
  replace hl : lv_has ls 5 [(0, .ref w), (1, .int p0), (2, .int p1)] := hl
  have kc_0 : (0 : Int32).toInt = 0 := by decide
  have kc_1 : (1 : Int32).toInt = 1 := by decide
  have kc_4 : (4 : Int32).toInt = 4 := by decide
  have kc_10 : (10 : Int32).toInt = 10 := by decide
  refine lv_iload_n hx hb dX10_spread_0 rfl (lv_at hl 2 rfl) ?_
  refine ro_SN (As := [.int p1]) (rest := []) hC hE kSN_X10_69 (c_X11_isWind l D K p1) (hP.sub (ws' := []) [] rfl) rfl hl.1 rfl (Nat.le_of_ble_eq_true rfl) (by decide) (by decide) dX10_spread_1 (fun r124 hq => ?_)
  rcases hq with rfl | ⟨rfl, h122, h123⟩
  · refine lv_if_ne (tgt := 9) hx hb dX10_spread_4 (by decide) (fun h => absurd h (by decide)) (fun _ => ?_)
    refine lv_iload_n hx hb dX10_spread_7 rfl (lv_at hl 1 rfl) ?_
    exact ro_ret hC hr hk dX10_spread_8 trivial
  · refine lv_if_ne (tgt := 9) hx hb dX10_spread_4 (by decide) (fun _ => ?_) (fun h => absurd h (by decide))
    refine lv_iconst (v := 0) hx hb dX10_spread_9 (by decide) ?_
    refine lv_istore_n (lv' := [(3, .int 0), (0, .ref w), (1, .int p0), (2, .int p1)]) hx hb dX10_spread_10 rfl hl (by decide) rfl (fun ls hl => ?_)
    refine lv_iconst (v := 0) hx hb dX10_spread_11 (by decide) ?_
    refine lv_istore (lv' := [(4, .int 0), (3, .int 0), (0, .ref w), (1, .int p0), (2, .int p1)]) hx hb dX10_spread_12 hl (by decide) rfl (fun ls hl => ?_)
    have hl' := hl; clear hl
    obtain ⟨i139, i140, hi_14, hl⟩ : ∃ (i139 : Int32) (i140 : Int32), ((0 : Int) ≤ i139.toInt) ∧ lv_has ls 5 [(4, .int i139), (3, .int i140), (0, .ref w), (1, .int p0), (2, .int p1)] := ⟨_, _, by omega, hl'⟩
    clear hl'
    obtain ⟨n_14, hn_14⟩ : ∃ n : Nat, (10 - i139.toInt).toNat < n := ⟨_, Nat.lt_succ_self _⟩
    induction n_14 generalizing i139 i140 ls with
    | zero => exact absurd hn_14 (Nat.not_lt_zero _)
    | succ n_14 ih_14 =>
      refine lv_iload hx hb dX10_spread_14 (lv_at hl 0 rfl) ?_
      refine lv_aload_n hx hb dX10_spread_16 rfl (lv_at hl 2 rfl) ?_
      refine va_get (D := D) (ci := 9) (v := .int wn8) (C := RX10) (T := TX10) (N := 12) hx hb hts in_X10 hown hE.1 hP 0 rfl rfl 8 (by decide) (hts _ w_21) (fun _ h9 => h9) rfl dX10_spread_17 ?_
      refine lv_icmp_ge (tgt := 61) hx hb dX10_spread_20 (by decide) (fun c141 => ?_) (fun c141 => ?_)
      · replace c141 := le_i c141
        refine lv_iload_n hx hb dX10_spread_61 rfl (lv_at hl 1 rfl) ?_
        exact ro_ret hC hr hk dX10_spread_62 trivial
      · replace c141 := nle_i c141
        refine lv_iload hx hb dX10_spread_23 (lv_at hl 0 rfl) ?_
        refine lv_bipush (v := 10) hx hb dX10_spread_25 (by decide) ?_
        refine lv_icmp_ge (tgt := 61) hx hb dX10_spread_27 (by decide) (fun c142 => ?_) (fun c142 => ?_)
        · replace c142 := le_i c142
          refine lv_iload_n hx hb dX10_spread_61 rfl (lv_at hl 1 rfl) ?_
          exact ro_ret hC hr hk dX10_spread_62 trivial
        · replace c142 := nle_i c142
          refine lv_iload_n hx hb dX10_spread_30 rfl (lv_at hl 3 rfl) ?_
          refine lv_iload hx hb dX10_spread_31 (lv_at hl 0 rfl) ?_
          refine lv_ishr hx hb dX10_spread_33 ?_
          refine lv_topi (fun v143 ev143 => ?_)
          refine lv_iconst (v := 1) hx hb dX10_spread_34 (by decide) ?_
          refine lv_iand hx hb dX10_spread_35 ?_
          refine lv_topi (fun v144 ev144 => ?_)
          have tv144 : 0 ≤ v144.toInt ∧ v144.toInt ≤ 1 := and_i2 ev144 (by decide) (by decide)
          refine lv_if_eq (tgt := 55) hx hb dX10_spread_36 (by decide) (fun c145 => ?_) (fun c145 => ?_)
          · replace c145 := eq_i c145
            obtain ⟨v146, ev146⟩ : ∃ z : Int32, z = i139 + 1 := ⟨_, rfl⟩
            refine lv_iinc (v := v146) (lv' := [(4, .int v146), (3, .int i140), (0, .ref w), (1, .int p0), (2, .int p1)]) hx hb dX10_spread_55 hl (k := 0) rfl (by rw [ev146]; rfl) (by decide) rfl (fun ls hl => ?_)
            refine lv_goto (tgt := 14) hx hb dX10_spread_58 (by decide) ?_
            have tv146 : v146.toInt = (i139 : Int32).toInt + (1 : Int32).toInt := add_i ev146 (by omega) (by omega)
            exact ih_14 (i139 := v146) (i140 := i140) (hi_14 := by omega) (ls := ls) (hn_14 := by omega) (hl := lv_sub hl [0, 1, 2, 3, 4] rfl)
          · replace c145 := ne_i c145
            refine lv_iload_n hx hb dX10_spread_39 rfl (lv_at hl 1 rfl) ?_
            refine lv_iconst (v := 1) hx hb dX10_spread_40 (by decide) ?_
            refine lv_aload_n hx hb dX10_spread_41 rfl (lv_at hl 2 rfl) ?_
            refine va_get (D := D) (ci := 9) (v := .ref wa0) (C := RX10) (T := TX10) (N := 12) hx hb hts in_X10 hown hE.1 hP 0 rfl rfl 0 (by decide) (hts _ w_36) (fun _ h9 => h9) rfl dX10_spread_42 ?_
            refine lv_iload hx hb dX10_spread_45 (lv_at hl 0 rfl) ?_
            refine lv_iconst (v := 4) hx hb dX10_spread_47 (by decide) ?_
            refine lv_imul hx hb dX10_spread_48 ?_
            refine lv_topi (fun v147 ev147 => ?_)
            refine lv_iload_n hx hb dX10_spread_49 rfl (lv_at hl 4 rfl) ?_
            refine lv_iadd hx hb dX10_spread_50 ?_
            refine lv_topi (fun v148 ev148 => ?_)
            have tv147 : v147.toInt = i139.toInt * 4 := mul_i ev147 rfl (by decide) (by omega) (by omega)
            have tv148 : v148.toInt = (v147 : Int32).toInt + (p1 : Int32).toInt := add_i ev148 (by omega) (by omega)
            refine va_iald hx hb hE.1 hP 1 1 rfl rfl (vp_in_iff.mpr (by omega)) dX10_spread_51 ?_
            refine lv_topi (fun v149 ev149 => ?_)
            refine lv_ishl hx hb dX10_spread_52 ?_
            refine lv_topi (fun v150 ev150 => ?_)
            refine lv_ior hx hb dX10_spread_53 ?_
            refine lv_topi (fun v151 ev151 => ?_)
            refine lv_istore_n (lv' := [(3, .int v151), (4, .int i139), (0, .ref w), (1, .int p0), (2, .int p1)]) hx hb dX10_spread_54 rfl hl (by decide) rfl (fun ls hl => ?_)
            obtain ⟨v152, ev152⟩ : ∃ z : Int32, z = i139 + 1 := ⟨_, rfl⟩
            refine lv_iinc (v := v152) (lv' := [(4, .int v152), (3, .int v151), (0, .ref w), (1, .int p0), (2, .int p1)]) hx hb dX10_spread_55 hl (k := 1) rfl (by rw [ev152]; rfl) (by decide) rfl (fun ls hl => ?_)
            refine lv_goto (tgt := 14) hx hb dX10_spread_58 (by decide) ?_
            have tv152 : v152.toInt = (i139 : Int32).toInt + (1 : Int32).toInt := add_i ev152 (by omega) (by omega)
            exact ih_14 (i139 := v152) (i140 := v151) (hi_14 := by omega) (ls := ls) (hn_14 := by omega) (hl := lv_sub hl [0, 1, 2, 3, 4] rfl)
set_option maxRecDepth 40000 in
set_option maxHeartbeats 4000000 in
theorem c_X10_spreadAnyhow (l : Launch) (D : va_G) (K : Nat → ClassId) (w : Nat) (wa0 : Nat) (wa1 : Nat) (wa2 : Nat) (wa3 : Nat) (wa4 : Nat) (wa5 : Nat) (wa6 : Nat) (wa7 : Nat) (wn8 : Int32) (wn9 : Int32) (wn10 : Int32) (wn11 : Int32) (wf0 : Nat → Int32) (p0 : Int32) : Ro l D K yX10_spreadAnyhow cX10_spreadAnyhow 4 (some .int) 2 44 [.ref w, .int p0] [(w, .inr (9, [.ref wa0, .ref wa1, .ref wa2, .ref wa3, .ref wa4, .ref wa5, .ref wa6, .ref wa7, .int wn8, .int wn9, .int wn10, .int wn11])), (wa0, .inl (K 1, 40, .inl wf0))] (fun _ => True) := by
  refine ro_of (by decide) (Nat.le_of_ble_eq_true rfl) ?_
  intro p e s m below meth c hC hr hk hE hP ls hl
  replace hC : CallFix p m c cX10_spreadAnyhow 4 s [.ref w, .int p0].toArray wl RX10 := hC
  have hx := hC.1
  have hb := hC.2.1
  have hml := hC.2.2.1
  have hown := hC.2.2.2.1
  have hts := hC.2.2.2.2
  replace hl : lv_has ls 4 [(0, .ref w), (1, .int p0)] := hl
  have kc_0 : (0 : Int32).toInt = 0 := by decide
  have kc_1 : (1 : Int32).toInt = 1 := by decide
  have kc_4 : (4 : Int32).toInt = 4 := by decide
  refine lv_iconst (v := 0) hx hb dX10_spreadAnyhow_0 (by decide) ?_
  refine lv_istore_n (lv' := [(2, .int 0), (0, .ref w), (1, .int p0)]) hx hb dX10_spreadAnyhow_1 rfl hl (by decide) rfl (fun ls hl => ?_)
  refine lv_iconst (v := 0) hx hb dX10_spreadAnyhow_2 (by decide) ?_
  refine lv_istore_n (lv' := [(3, .int 0), (2, .int 0), (0, .ref w), (1, .int p0)]) hx hb dX10_spreadAnyhow_3 rfl hl (by decide) rfl (fun ls hl => ?_)
  have hl' := hl; clear hl
  obtain ⟨i159, i160, hi_4, hl⟩ : ∃ (i159 : Int32) (i160 : Int32), ((0 : Int) ≤ i159.toInt) ∧ lv_has ls 4 [(3, .int i159), (2, .int i160), (0, .ref w), (1, .int p0)] := ⟨_, _, by omega, hl'⟩
  clear hl'
  obtain ⟨n_4, hn_4⟩ : ∃ n : Nat, (4 - i159.toInt).toNat < n := ⟨_, Nat.lt_succ_self _⟩
  induction n_4 generalizing i159 i160 ls with
  | zero => exact absurd hn_4 (Nat.not_lt_zero _)
  | succ n_4 ih_4 =>
    refine lv_iload_n hx hb dX10_spreadAnyhow_4 rfl (lv_at hl 0 rfl) ?_
    refine lv_iconst (v := 4) hx hb dX10_spreadAnyhow_5 (by decide) ?_
    refine lv_icmp_ge (tgt := 24) hx hb dX10_spreadAnyhow_6 (by decide) (fun c161 => ?_) (fun c161 => ?_)
    · replace c161 := le_i c161
      refine lv_iload_n hx hb dX10_spreadAnyhow_24 rfl (lv_at hl 1 rfl) ?_
      exact ro_ret hC hr hk dX10_spreadAnyhow_25 trivial
    · replace c161 := nle_i c161
      refine lv_iload_n hx hb dX10_spreadAnyhow_9 rfl (lv_at hl 1 rfl) ?_
      refine lv_aload_n hx hb dX10_spreadAnyhow_10 rfl (lv_at hl 2 rfl) ?_
      refine lv_iload_n hx hb dX10_spreadAnyhow_11 rfl (lv_at hl 3 rfl) ?_
      refine lv_iload_n hx hb dX10_spreadAnyhow_12 rfl (lv_at hl 0 rfl) ?_
      refine ro_V (As := [.int p0, .int i159]) (rest := [.int i160]) hC hE kV_X10_72 (c_X10_spread l D K w wa0 wa1 wa2 wa3 wa4 wa5 wa6 wa7 wn8 wn9 wn10 wn11 wf0 p0 i159) (hP.sub (ws' := [(w, .inr (9, [.ref wa0, .ref wa1, .ref wa2, .ref wa3, .ref wa4, .ref wa5, .ref wa6, .ref wa7, .int wn8, .int wn9, .int wn10, .int wn11])), (wa0, .inl (K 1, 40, .inl wf0))]) [0, 1] rfl) 0 9 rfl rfl rfl hl.1 rfl (Nat.le_of_ble_eq_true rfl) (by decide) (by decide) dX10_spreadAnyhow_13 (fun r162 _ => ?_)
      refine lv_ior hx hb dX10_spreadAnyhow_16 ?_
      refine lv_topi (fun v163 ev163 => ?_)
      refine lv_istore_n (lv' := [(2, .int v163), (3, .int i159), (0, .ref w), (1, .int p0)]) hx hb dX10_spreadAnyhow_17 rfl hl (by decide) rfl (fun ls hl => ?_)
      obtain ⟨v164, ev164⟩ : ∃ z : Int32, z = i159 + 1 := ⟨_, rfl⟩
      refine lv_iinc (v := v164) (lv' := [(3, .int v164), (2, .int v163), (0, .ref w), (1, .int p0)]) hx hb dX10_spreadAnyhow_18 hl (k := 1) rfl (by rw [ev164]; rfl) (by decide) rfl (fun ls hl => ?_)
      refine lv_goto (tgt := 4) hx hb dX10_spreadAnyhow_21 (by decide) ?_
      have tv164 : v164.toInt = (i159 : Int32).toInt + (1 : Int32).toInt := add_i ev164 (by omega) (by omega)
      exact ih_4 (i159 := v164) (i160 := v163) (hi_4 := by omega) (ls := ls) (hn_4 := by omega) (hl := lv_sub hl [0, 1, 2, 3] rfl)
set_option maxRecDepth 40000 in
set_option maxHeartbeats 4000000 in
theorem c_X10_showing (l : Launch) (D : va_G) (K : Nat → ClassId) (w : Nat) (wa0 : Nat) (wa1 : Nat) (wa2 : Nat) (wa3 : Nat) (wa4 : Nat) (wa5 : Nat) (wa6 : Nat) (wa7 : Nat) (wn8 : Int32) (wn9 : Int32) (wn10 : Int32) (wn11 : Int32) (wf1 : Nat → Int32) (p0 : Int32) (p1 : Int32) : Ro l D K yX10_showing cX10_showing 5 (some .int) 0 0 [.ref w, .int p0, .int p1] [(w, .inr (9, [.ref wa0, .ref wa1, .ref wa2, .ref wa3, .ref wa4, .ref wa5, .ref wa6, .ref wa7, .int wn8, .int wn9, .int wn10, .int wn11])), (wa1, .inl (K 1, 10, .inl wf1))] (fun _ => True) := by
  refine ro_of (by decide) (Nat.le_of_ble_eq_true rfl) ?_
  intro p e s m below meth c hC hr hk hE hP ls hl
  replace hC : CallFix p m c cX10_showing 5 s [.ref w, .int p0, .int p1].toArray wl RX10 := hC
  have hx := hC.1
  have hb := hC.2.1
  have hml := hC.2.2.1
  have hown := hC.2.2.2.1
  have hts := hC.2.2.2.2
  replace hl : lv_has ls 5 [(0, .ref w), (1, .int p0), (2, .int p1)] := hl
  have kc_0 : (0 : Int32).toInt = 0 := by decide
  have kc_1 : (1 : Int32).toInt = 1 := by decide
  have kc_10 : (10 : Int32).toInt = 10 := by decide
  refine lv_iconst (v := 0) hx hb dX10_showing_0 (by decide) ?_
  refine lv_istore_n (lv' := [(3, .int 0), (0, .ref w), (1, .int p0), (2, .int p1)]) hx hb dX10_showing_1 rfl hl (by decide) rfl (fun ls hl => ?_)
  refine lv_iconst (v := 0) hx hb dX10_showing_2 (by decide) ?_
  refine lv_istore (lv' := [(4, .int 0), (3, .int 0), (0, .ref w), (1, .int p0), (2, .int p1)]) hx hb dX10_showing_3 hl (by decide) rfl (fun ls hl => ?_)
  have hl' := hl; clear hl
  obtain ⟨i179, i180, hi_5, hl⟩ : ∃ (i179 : Int32) (i180 : Int32), ((0 : Int) ≤ i179.toInt) ∧ lv_has ls 5 [(4, .int i179), (3, .int i180), (0, .ref w), (1, .int p0), (2, .int p1)] := ⟨_, _, by omega, hl'⟩
  clear hl'
  obtain ⟨n_5, hn_5⟩ : ∃ n : Nat, (10 - i179.toInt).toNat < n := ⟨_, Nat.lt_succ_self _⟩
  induction n_5 generalizing i179 i180 ls with
  | zero => exact absurd hn_5 (Nat.not_lt_zero _)
  | succ n_5 ih_5 =>
    refine lv_iload hx hb dX10_showing_5 (lv_at hl 0 rfl) ?_
    refine lv_aload_n hx hb dX10_showing_7 rfl (lv_at hl 2 rfl) ?_
    refine va_get (D := D) (ci := 9) (v := .int wn8) (C := RX10) (T := TX10) (N := 12) hx hb hts in_X10 hown hE.1 hP 0 rfl rfl 8 (by decide) (hts _ w_21) (fun _ h9 => h9) rfl dX10_showing_8 ?_
    refine lv_icmp_ge (tgt := 54) hx hb dX10_showing_11 (by decide) (fun c181 => ?_) (fun c181 => ?_)
    · replace c181 := le_i c181
      refine lv_iload_n hx hb dX10_showing_54 rfl (lv_at hl 1 rfl) ?_
      exact ro_ret hC hr hk dX10_showing_55 trivial
    · replace c181 := nle_i c181
      refine lv_iload hx hb dX10_showing_14 (lv_at hl 0 rfl) ?_
      refine lv_bipush (v := 10) hx hb dX10_showing_16 (by decide) ?_
      refine lv_icmp_ge (tgt := 54) hx hb dX10_showing_18 (by decide) (fun c182 => ?_) (fun c182 => ?_)
      · replace c182 := le_i c182
        refine lv_iload_n hx hb dX10_showing_54 rfl (lv_at hl 1 rfl) ?_
        exact ro_ret hC hr hk dX10_showing_55 trivial
      · replace c182 := nle_i c182
        refine lv_iload_n hx hb dX10_showing_21 rfl (lv_at hl 3 rfl) ?_
        refine lv_iload hx hb dX10_showing_22 (lv_at hl 0 rfl) ?_
        refine lv_ishr hx hb dX10_showing_24 ?_
        refine lv_topi (fun v183 ev183 => ?_)
        refine lv_iconst (v := 1) hx hb dX10_showing_25 (by decide) ?_
        refine lv_iand hx hb dX10_showing_26 ?_
        refine lv_topi (fun v184 ev184 => ?_)
        have tv184 : 0 ≤ v184.toInt ∧ v184.toInt ≤ 1 := and_i2 ev184 (by decide) (by decide)
        refine lv_if_eq (tgt := 48) hx hb dX10_showing_27 (by decide) (fun c185 => ?_) (fun c185 => ?_)
        · replace c185 := eq_i c185
          obtain ⟨v186, ev186⟩ : ∃ z : Int32, z = i179 + 1 := ⟨_, rfl⟩
          refine lv_iinc (v := v186) (lv' := [(4, .int v186), (3, .int i180), (0, .ref w), (1, .int p0), (2, .int p1)]) hx hb dX10_showing_48 hl (k := 0) rfl (by rw [ev186]; rfl) (by decide) rfl (fun ls hl => ?_)
          refine lv_goto (tgt := 5) hx hb dX10_showing_51 (by decide) ?_
          have tv186 : v186.toInt = (i179 : Int32).toInt + (1 : Int32).toInt := add_i ev186 (by omega) (by omega)
          exact ih_5 (i179 := v186) (i180 := i180) (hi_5 := by omega) (ls := ls) (hn_5 := by omega) (hl := lv_sub hl [0, 1, 2, 3, 4] rfl)
        · replace c185 := ne_i c185
          refine lv_aload_n hx hb dX10_showing_30 rfl (lv_at hl 2 rfl) ?_
          refine va_get (D := D) (ci := 9) (v := .ref wa1) (C := RX10) (T := TX10) (N := 12) hx hb hts in_X10 hown hE.1 hP 0 rfl rfl 1 (by decide) (hts _ w_37) (fun _ h9 => h9) rfl dX10_showing_31 ?_
          refine lv_iload hx hb dX10_showing_34 (lv_at hl 0 rfl) ?_
          refine va_iald hx hb hE.1 hP 1 1 rfl rfl (vp_in_iff.mpr (by omega)) dX10_showing_36 ?_
          refine lv_topi (fun v187 ev187 => ?_)
          refine lv_iload_n hx hb dX10_showing_37 rfl (lv_at hl 4 rfl) ?_
          refine lv_icmp_ne (tgt := 48) hx hb dX10_showing_38 (by decide) (fun c188 => ?_) (fun c188 => ?_)
          · replace c188 := ne_i c188
            obtain ⟨v189, ev189⟩ : ∃ z : Int32, z = i179 + 1 := ⟨_, rfl⟩
            refine lv_iinc (v := v189) (lv' := [(4, .int v189), (3, .int i180), (0, .ref w), (1, .int p0), (2, .int p1)]) hx hb dX10_showing_48 hl (k := 0) rfl (by rw [ev189]; rfl) (by decide) rfl (fun ls hl => ?_)
            refine lv_goto (tgt := 5) hx hb dX10_showing_51 (by decide) ?_
            have tv189 : v189.toInt = (i179 : Int32).toInt + (1 : Int32).toInt := add_i ev189 (by omega) (by omega)
            exact ih_5 (i179 := v189) (i180 := i180) (hi_5 := by omega) (ls := ls) (hn_5 := by omega) (hl := lv_sub hl [0, 1, 2, 3, 4] rfl)
          · replace c188 := eq_i c188
            refine lv_iload_n hx hb dX10_showing_41 rfl (lv_at hl 1 rfl) ?_
            refine lv_iconst (v := 1) hx hb dX10_showing_42 (by decide) ?_
            refine lv_iload hx hb dX10_showing_43 (lv_at hl 0 rfl) ?_
            refine lv_ishl hx hb dX10_showing_45 ?_
            refine lv_topi (fun v190 ev190 => ?_)
            refine lv_ior hx hb dX10_showing_46 ?_
            refine lv_topi (fun v191 ev191 => ?_)
            refine lv_istore_n (lv' := [(3, .int v191), (4, .int i179), (0, .ref w), (1, .int p0), (2, .int p1)]) hx hb dX10_showing_47 rfl hl (by decide) rfl (fun ls hl => ?_)
            obtain ⟨v192, ev192⟩ : ∃ z : Int32, z = i179 + 1 := ⟨_, rfl⟩
            refine lv_iinc (v := v192) (lv' := [(4, .int v192), (3, .int v191), (0, .ref w), (1, .int p0), (2, .int p1)]) hx hb dX10_showing_48 hl (k := 1) rfl (by rw [ev192]; rfl) (by decide) rfl (fun ls hl => ?_)
            refine lv_goto (tgt := 5) hx hb dX10_showing_51 (by decide) ?_
            have tv192 : v192.toInt = (i179 : Int32).toInt + (1 : Int32).toInt := add_i ev192 (by omega) (by omega)
            exact ih_5 (i179 := v192) (i180 := v191) (hi_5 := by omega) (ls := ls) (hn_5 := by omega) (hl := lv_sub hl [0, 1, 2, 3, 4] rfl)
set_option maxRecDepth 40000 in
set_option maxHeartbeats 4000000 in
theorem c_X10_marked (l : Launch) (D : va_G) (K : Nat → ClassId) (w : Nat) (wa0 : Nat) (wa1 : Nat) (wa2 : Nat) (wa3 : Nat) (wa4 : Nat) (wa5 : Nat) (wa6 : Nat) (wa7 : Nat) (wn8 : Int32) (wn9 : Int32) (wn10 : Int32) (wn11 : Int32) (wf1 : Nat → Int32) : Ro l D K yX10_marked cX10_marked 1 (some .int) 1 24 [.ref w] [(w, .inr (9, [.ref wa0, .ref wa1, .ref wa2, .ref wa3, .ref wa4, .ref wa5, .ref wa6, .ref wa7, .int wn8, .int wn9, .int wn10, .int wn11])), (wa1, .inl (K 1, 10, .inl wf1))] (fun _ => True) := by
  refine ro_of (by decide) (Nat.le_of_ble_eq_true rfl) ?_
  intro p e s m below meth c hC hr hk hE hP ls hl
  replace hC : CallFix p m c cX10_marked 1 s [.ref w].toArray wl RX10 := hC
  have hx := hC.1
  have hb := hC.2.1
  have hml := hC.2.2.1
  have hown := hC.2.2.2.1
  have hts := hC.2.2.2.2
  replace hl : lv_has ls 1 [(0, .ref w)] := hl
  refine lv_aload_n hx hb dX10_marked_0 rfl (lv_at hl 0 rfl) ?_
  refine ro_V (As := []) (rest := []) hC hE kV_X10_61 (c_X10_all l D K w wa0 wa1 wa2 wa3 wa4 wa5 wa6 wa7 wn8 wn9 wn10 wn11) (hP.sub (ws' := [(w, .inr (9, [.ref wa0, .ref wa1, .ref wa2, .ref wa3, .ref wa4, .ref wa5, .ref wa6, .ref wa7, .int wn8, .int wn9, .int wn10, .int wn11]))]) [0] rfl) 0 9 rfl rfl rfl hl.1 rfl (Nat.le_of_ble_eq_true rfl) (by decide) (by decide) dX10_marked_1 (fun r193 _ => ?_)
  refine lv_aload_n hx hb dX10_marked_4 rfl (lv_at hl 0 rfl) ?_
  refine lv_aload_n hx hb dX10_marked_5 rfl (lv_at hl 0 rfl) ?_
  refine ro_V (As := []) (rest := [.ref w, .int r193]) hC hE kV_X10_61 (c_X10_all l D K w wa0 wa1 wa2 wa3 wa4 wa5 wa6 wa7 wn8 wn9 wn10 wn11) (hP.sub (ws' := [(w, .inr (9, [.ref wa0, .ref wa1, .ref wa2, .ref wa3, .ref wa4, .ref wa5, .ref wa6, .ref wa7, .int wn8, .int wn9, .int wn10, .int wn11]))]) [0] rfl) 0 9 rfl rfl rfl hl.1 rfl (Nat.le_of_ble_eq_true rfl) (by decide) (by decide) dX10_marked_6 (fun r194 _ => ?_)
  refine lv_iconst (v := 0) hx hb dX10_marked_9 (by decide) ?_
  refine ro_V (As := [.int r194, .int 0]) (rest := [.int r193]) hC hE kV_X10_76 (c_X10_showing l D K w wa0 wa1 wa2 wa3 wa4 wa5 wa6 wa7 wn8 wn9 wn10 wn11 wf1 r194 0) (hP.sub (ws' := [(w, .inr (9, [.ref wa0, .ref wa1, .ref wa2, .ref wa3, .ref wa4, .ref wa5, .ref wa6, .ref wa7, .int wn8, .int wn9, .int wn10, .int wn11])), (wa1, .inl (K 1, 10, .inl wf1))]) [0, 1] rfl) 0 9 rfl rfl rfl hl.1 rfl (Nat.le_of_ble_eq_true rfl) (by decide) (by decide) dX10_marked_10 (fun r195 _ => ?_)
  refine lv_iconst (v := (-1)) hx hb dX10_marked_13 (by decide) ?_
  refine lv_ixor hx hb dX10_marked_14 ?_
  refine lv_topi (fun v196 ev196 => ?_)
  refine lv_iand hx hb dX10_marked_15 ?_
  refine lv_topi (fun v197 ev197 => ?_)
  exact ro_ret hC hr hk dX10_marked_16 trivial
set_option maxRecDepth 40000 in
set_option maxHeartbeats 4000000 in
theorem c_X10_waysElsewhere (l : Launch) (D : va_G) (K : Nat → ClassId) (w : Nat) (wa0 : Nat) (wa1 : Nat) (wa2 : Nat) (wa3 : Nat) (wa4 : Nat) (wa5 : Nat) (wa6 : Nat) (wa7 : Nat) (wn8 : Int32) (wn9 : Int32) (wn10 : Int32) (wn11 : Int32) (wf0 : Nat → Int32) : Ro l D K yX10_waysElsewhere cX10_waysElsewhere 4 (some .int) 2 43 [.ref w] [(w, .inr (9, [.ref wa0, .ref wa1, .ref wa2, .ref wa3, .ref wa4, .ref wa5, .ref wa6, .ref wa7, .int wn8, .int wn9, .int wn10, .int wn11])), (wa0, .inl (K 1, 40, .inl wf0))] (fun _ => True) := by
  refine ro_of (by decide) (Nat.le_of_ble_eq_true rfl) ?_
  intro p e s m below meth c hC hr hk hE hP ls hl
  replace hC : CallFix p m c cX10_waysElsewhere 4 s [.ref w].toArray wl RX10 := hC
  have hx := hC.1
  have hb := hC.2.1
  have hml := hC.2.2.1
  have hown := hC.2.2.2.1
  have hts := hC.2.2.2.2
  replace hl : lv_has ls 4 [(0, .ref w)] := hl
  have kc_0 : (0 : Int32).toInt = 0 := by decide
  have kc_1 : (1 : Int32).toInt = 1 := by decide
  have kc_4 : (4 : Int32).toInt = 4 := by decide
  refine lv_iconst (v := 0) hx hb dX10_waysElsewhere_0 (by decide) ?_
  refine lv_istore_n (lv' := [(1, .int 0), (0, .ref w)]) hx hb dX10_waysElsewhere_1 rfl hl (by decide) rfl (fun ls hl => ?_)
  refine lv_iconst (v := 0) hx hb dX10_waysElsewhere_2 (by decide) ?_
  refine lv_istore_n (lv' := [(2, .int 0), (1, .int 0), (0, .ref w)]) hx hb dX10_waysElsewhere_3 rfl hl (by decide) rfl (fun ls hl => ?_)
  have hl' := hl; clear hl
  obtain ⟨i211, i212, hi_4, hl⟩ : ∃ (i211 : Int32) (i212 : Int32), ((0 : Int) ≤ i211.toInt) ∧ lv_has ls 4 [(2, .int i211), (1, .int i212), (0, .ref w)] := ⟨_, _, by omega, hl'⟩
  clear hl'
  have hb_4 := i32_hi wn8
  obtain ⟨n_4, hn_4⟩ : ∃ n : Nat, (wn8.toInt - i211.toInt).toNat < n := ⟨_, Nat.lt_succ_self _⟩
  induction n_4 generalizing i211 i212 ls with
  | zero => exact absurd hn_4 (Nat.not_lt_zero _)
  | succ n_4 ih_4 =>
    refine lv_iload_n hx hb dX10_waysElsewhere_4 rfl (lv_at hl 0 rfl) ?_
    refine lv_aload_n hx hb dX10_waysElsewhere_5 rfl (lv_at hl 2 rfl) ?_
    refine va_get (D := D) (ci := 9) (v := .int wn8) (C := RX10) (T := TX10) (N := 12) hx hb hts in_X10 hown hE.1 hP 0 rfl rfl 8 (by decide) (hts _ w_21) (fun _ h9 => h9) rfl dX10_waysElsewhere_6 ?_
    refine lv_icmp_ge (tgt := 49) hx hb dX10_waysElsewhere_9 (by decide) (fun c213 => ?_) (fun c213 => ?_)
    · replace c213 := le_i c213
      refine lv_iload_n hx hb dX10_waysElsewhere_49 rfl (lv_at hl 1 rfl) ?_
      exact ro_ret hC hr hk dX10_waysElsewhere_50 trivial
    · replace c213 := nle_i c213
      refine lv_iconst (v := 0) hx hb dX10_waysElsewhere_12 (by decide) ?_
      refine lv_istore_n (lv' := [(3, .int 0), (2, .int i211), (1, .int i212), (0, .ref w)]) hx hb dX10_waysElsewhere_13 rfl hl (by decide) rfl (fun ls hl => ?_)
      have hl' := hl; clear hl
      obtain ⟨i223, i224, hi_14, hl⟩ : ∃ (i223 : Int32) (i224 : Int32), ((0 : Int) ≤ i223.toInt) ∧ lv_has ls 4 [(3, .int i223), (2, .int i211), (1, .int i224), (0, .ref w)] := ⟨_, _, by omega, hl'⟩
      clear hl'
      obtain ⟨n_14, hn_14⟩ : ∃ n : Nat, (4 - i223.toInt).toNat < n := ⟨_, Nat.lt_succ_self _⟩
      induction n_14 generalizing i223 i224 ls with
      | zero => exact absurd hn_14 (Nat.not_lt_zero _)
      | succ n_14 ih_14 =>
        refine lv_iload_n hx hb dX10_waysElsewhere_14 rfl (lv_at hl 0 rfl) ?_
        refine lv_iconst (v := 4) hx hb dX10_waysElsewhere_15 (by decide) ?_
        refine lv_icmp_ge (tgt := 43) hx hb dX10_waysElsewhere_16 (by decide) (fun c225 => ?_) (fun c225 => ?_)
        · replace c225 := le_i c225
          obtain ⟨v226, ev226⟩ : ∃ z : Int32, z = i211 + 1 := ⟨_, rfl⟩
          refine lv_iinc (v := v226) (lv' := [(2, .int v226), (3, .int i223), (1, .int i224), (0, .ref w)]) hx hb dX10_waysElsewhere_43 hl (k := 1) rfl (by rw [ev226]; rfl) (by decide) rfl (fun ls hl => ?_)
          refine lv_goto (tgt := 4) hx hb dX10_waysElsewhere_46 (by decide) ?_
          have tv226 : v226.toInt = (i211 : Int32).toInt + (1 : Int32).toInt := add_i ev226 (by omega) (by omega)
          exact ih_4 (i211 := v226) (i212 := i224) (hi_4 := by omega) (ls := ls) (hn_4 := by omega) (hl := lv_sub hl [0, 2, 3] rfl)
        · replace c225 := nle_i c225
          refine lv_iload_n hx hb dX10_waysElsewhere_19 rfl (lv_at hl 2 rfl) ?_
          refine lv_aload_n hx hb dX10_waysElsewhere_20 rfl (lv_at hl 3 rfl) ?_
          refine lv_iload_n hx hb dX10_waysElsewhere_21 rfl (lv_at hl 1 rfl) ?_
          refine lv_iload_n hx hb dX10_waysElsewhere_22 rfl (lv_at hl 0 rfl) ?_
          refine ro_V (As := [.int i211, .int i223]) (rest := [.int i224]) hC hE kV_X10_79 (c_X10_after l D K w wa0 wa1 wa2 wa3 wa4 wa5 wa6 wa7 wn8 wn9 wn10 wn11 wf0 i211 i223) (hP.sub (ws' := [(w, .inr (9, [.ref wa0, .ref wa1, .ref wa2, .ref wa3, .ref wa4, .ref wa5, .ref wa6, .ref wa7, .int wn8, .int wn9, .int wn10, .int wn11])), (wa0, .inl (K 1, 40, .inl wf0))]) [0, 1] rfl) 0 9 rfl rfl rfl hl.1 rfl (Nat.le_of_ble_eq_true rfl) (by decide) (by decide) dX10_waysElsewhere_23 (fun r227 _ => ?_)
          refine lv_iload_n hx hb dX10_waysElsewhere_26 rfl (lv_at hl 1 rfl) ?_
          refine lv_icmp_eq (tgt := 34) hx hb dX10_waysElsewhere_27 (by decide) (fun c228 => ?_) (fun c228 => ?_)
          · replace c228 := eq_i c228
            refine lv_iconst (v := 0) hx hb dX10_waysElsewhere_34 (by decide) ?_
            refine lv_iadd hx hb dX10_waysElsewhere_35 ?_
            refine lv_topi (fun v229 ev229 => ?_)
            refine lv_istore_n (lv' := [(1, .int v229), (3, .int i223), (2, .int i211), (0, .ref w)]) hx hb dX10_waysElsewhere_36 rfl hl (by decide) rfl (fun ls hl => ?_)
            obtain ⟨v230, ev230⟩ : ∃ z : Int32, z = i223 + 1 := ⟨_, rfl⟩
            refine lv_iinc (v := v230) (lv' := [(3, .int v230), (1, .int v229), (2, .int i211), (0, .ref w)]) hx hb dX10_waysElsewhere_37 hl (k := 1) rfl (by rw [ev230]; rfl) (by decide) rfl (fun ls hl => ?_)
            refine lv_goto (tgt := 14) hx hb dX10_waysElsewhere_40 (by decide) ?_
            have tv230 : v230.toInt = (i223 : Int32).toInt + (1 : Int32).toInt := add_i ev230 (by omega) (by omega)
            exact ih_14 (i223 := v230) (i224 := v229) (hi_14 := by omega) (ls := ls) (hn_14 := by omega) (hl := lv_sub hl [0, 2, 1, 3] rfl)
          · replace c228 := ne_i c228
            refine lv_iconst (v := 1) hx hb dX10_waysElsewhere_30 (by decide) ?_
            refine lv_goto (tgt := 35) hx hb dX10_waysElsewhere_31 (by decide) ?_
            refine lv_iadd hx hb dX10_waysElsewhere_35 ?_
            refine lv_topi (fun v231 ev231 => ?_)
            refine lv_istore_n (lv' := [(1, .int v231), (3, .int i223), (2, .int i211), (0, .ref w)]) hx hb dX10_waysElsewhere_36 rfl hl (by decide) rfl (fun ls hl => ?_)
            obtain ⟨v232, ev232⟩ : ∃ z : Int32, z = i223 + 1 := ⟨_, rfl⟩
            refine lv_iinc (v := v232) (lv' := [(3, .int v232), (1, .int v231), (2, .int i211), (0, .ref w)]) hx hb dX10_waysElsewhere_37 hl (k := 1) rfl (by rw [ev232]; rfl) (by decide) rfl (fun ls hl => ?_)
            refine lv_goto (tgt := 14) hx hb dX10_waysElsewhere_40 (by decide) ?_
            have tv232 : v232.toInt = (i223 : Int32).toInt + (1 : Int32).toInt := add_i ev232 (by omega) (by omega)
            exact ih_14 (i223 := v232) (i224 := v231) (hi_14 := by omega) (ls := ls) (hn_14 := by omega) (hl := lv_sub hl [0, 2, 1, 3] rfl)
set_option maxRecDepth 40000 in
set_option maxHeartbeats 4000000 in
theorem c_X9_doubt (l : Launch) (D : va_G) (K : Nat → ClassId) (w : Nat) (wn0 : Int32) (wn1 : Int32) (wn2 : Int32) : Ro l D K yX9_doubt cX9_doubt 1 (some .int) 1 20 [.ref w] [(w, .inr (8, [.int wn0, .int wn1, .int wn2]))] (fun _ => True) := by
  refine ro_of (by decide) (Nat.le_of_ble_eq_true rfl) ?_
  intro p e s m below meth c hC hr hk hE hP ls hl
  replace hC : CallFix p m c cX9_doubt 1 s [.ref w].toArray wl RX9 := hC
  have hx := hC.1
  have hb := hC.2.1
  have hml := hC.2.2.1
  have hown := hC.2.2.2.1
  have hts := hC.2.2.2.2
  replace hl : lv_has ls 1 [(0, .ref w)] := hl
  refine lv_aload_n hx hb dX9_doubt_0 rfl (lv_at hl 0 rfl) ?_
  refine va_get (D := D) (ci := 8) (v := .int wn1) (C := RX9) (T := TX9) (N := 3) hx hb hts in_X9 hown hE.1 hP 0 rfl rfl 1 (by decide) (hts _ w_53) (fun _ h9 => h9) rfl dX9_doubt_1 ?_
  refine ro_S (As := [.int wn1]) (rest := []) hC hE kS_X9_41 (c_J6_bitCount_0f7a4 l D K wn1) (hP.sub (ws' := []) [] rfl) rfl hl.1 rfl (Nat.le_of_ble_eq_true rfl) (by decide) (by decide) dX9_doubt_4 (fun r233 _ => ?_)
  exact ro_ret hC hr hk dX9_doubt_7 trivial
set_option maxRecDepth 40000 in
set_option maxHeartbeats 4000000 in
theorem c_X9_isSure (l : Launch) (D : va_G) (K : Nat → ClassId) (w : Nat) (wn0 : Int32) (wn1 : Int32) (wn2 : Int32) : Ro l D K yX9_isSure cX9_isSure 1 (some .boolean) 0 0 [.ref w] [(w, .inr (8, [.int wn0, .int wn1, .int wn2]))] (fun r => (r = 0) ∨ (r = 1)) := by
  refine ro_of (by decide) (Nat.le_of_ble_eq_true rfl) ?_
  intro p e s m below meth c hC hr hk hE hP ls hl
  replace hC : CallFix p m c cX9_isSure 1 s [.ref w].toArray wl RX9 := hC
  have hx := hC.1
  have hb := hC.2.1
  have hml := hC.2.2.1
  have hown := hC.2.2.2.1
  have hts := hC.2.2.2.2
  replace hl : lv_has ls 1 [(0, .ref w)] := hl
  refine lv_aload_n hx hb dX9_isSure_0 rfl (lv_at hl 0 rfl) ?_
  refine va_get (D := D) (ci := 8) (v := .int wn1) (C := RX9) (T := TX9) (N := 3) hx hb hts in_X9 hown hE.1 hP 0 rfl rfl 1 (by decide) (hts _ w_53) (fun _ h9 => h9) rfl dX9_isSure_1 ?_
  refine lv_iconst (v := 1) hx hb dX9_isSure_4 (by decide) ?_
  refine lv_aload_n hx hb dX9_isSure_5 rfl (lv_at hl 0 rfl) ?_
  refine va_get (D := D) (ci := 8) (v := .int wn0) (C := RX9) (T := TX9) (N := 3) hx hb hts in_X9 hown hE.1 hP 0 rfl rfl 0 (by decide) (hts _ w_57) (fun _ h9 => h9) rfl dX9_isSure_6 ?_
  refine lv_ishl hx hb dX9_isSure_9 ?_
  refine lv_topi (fun v234 ev234 => ?_)
  refine lv_icmp_ne (tgt := 17) hx hb dX9_isSure_10 (by decide) (fun c235 => ?_) (fun c235 => ?_)
  · replace c235 := ne_i c235
    refine lv_iconst (v := 0) hx hb dX9_isSure_17 (by decide) ?_
    exact ro_zret hC hr hk dX9_isSure_18 rfl (Or.inl rfl)
  · replace c235 := eq_i c235
    refine lv_iconst (v := 1) hx hb dX9_isSure_13 (by decide) ?_
    refine lv_goto (tgt := 18) hx hb dX9_isSure_14 (by decide) ?_
    exact ro_zret hC hr hk dX9_isSure_18 rfl (Or.inr rfl)
set_option maxRecDepth 40000 in
set_option maxHeartbeats 4000000 in
theorem c_X9_isAstray (l : Launch) (D : va_G) (K : Nat → ClassId) (w : Nat) (wn0 : Int32) (wn1 : Int32) (wn2 : Int32) : Ro l D K yX9_isAstray cX9_isAstray 1 (some .boolean) 0 0 [.ref w] [(w, .inr (8, [.int wn0, .int wn1, .int wn2]))] (fun r => (r = 0) ∨ (r = 1)) := by
  refine ro_of (by decide) (Nat.le_of_ble_eq_true rfl) ?_
  intro p e s m below meth c hC hr hk hE hP ls hl
  replace hC : CallFix p m c cX9_isAstray 1 s [.ref w].toArray wl RX9 := hC
  have hx := hC.1
  have hb := hC.2.1
  have hml := hC.2.2.1
  have hown := hC.2.2.2.1
  have hts := hC.2.2.2.2
  replace hl : lv_has ls 1 [(0, .ref w)] := hl
  have kc_0 : (0 : Int32).toInt = 0 := by decide
  have kc_1 : (1 : Int32).toInt = 1 := by decide
  refine lv_aload_n hx hb dX9_isAstray_0 rfl (lv_at hl 0 rfl) ?_
  refine va_get (D := D) (ci := 8) (v := .int wn1) (C := RX9) (T := TX9) (N := 3) hx hb hts in_X9 hown hE.1 hP 0 rfl rfl 1 (by decide) (hts _ w_53) (fun _ h9 => h9) rfl dX9_isAstray_1 ?_
  refine lv_aload_n hx hb dX9_isAstray_4 rfl (lv_at hl 0 rfl) ?_
  refine va_get (D := D) (ci := 8) (v := .int wn0) (C := RX9) (T := TX9) (N := 3) hx hb hts in_X9 hown hE.1 hP 0 rfl rfl 0 (by decide) (hts _ w_57) (fun _ h9 => h9) rfl dX9_isAstray_5 ?_
  refine lv_ishr hx hb dX9_isAstray_8 ?_
  refine lv_topi (fun v236 ev236 => ?_)
  refine lv_iconst (v := 1) hx hb dX9_isAstray_9 (by decide) ?_
  refine lv_iand hx hb dX9_isAstray_10 ?_
  refine lv_topi (fun v237 ev237 => ?_)
  have tv237 : 0 ≤ v237.toInt ∧ v237.toInt ≤ 1 := and_i2 ev237 (by decide) (by decide)
  refine lv_if_ne (tgt := 18) hx hb dX9_isAstray_11 (by decide) (fun c238 => ?_) (fun c238 => ?_)
  · replace c238 := ne_i c238
    refine lv_iconst (v := 0) hx hb dX9_isAstray_18 (by decide) ?_
    exact ro_zret hC hr hk dX9_isAstray_19 rfl (Or.inl rfl)
  · replace c238 := eq_i c238
    refine lv_iconst (v := 1) hx hb dX9_isAstray_14 (by decide) ?_
    refine lv_goto (tgt := 19) hx hb dX9_isAstray_15 (by decide) ?_
    exact ro_zret hC hr hk dX9_isAstray_19 rfl (Or.inr rfl)
set_option maxRecDepth 40000 in
set_option maxHeartbeats 4000000 in
theorem c_X9_place (l : Launch) (D : va_G) (K : Nat → ClassId) (w : Nat) (wn0 : Int32) (wn1 : Int32) (wn2 : Int32) (p0 : Int32) (p1 : Int32) (p2 : Int32) : Cv (S := ((Nat → Int32) × (Nat → Nat → Int32) × (Nat → Nat → Int64))) l D K yX9_place cX9_place 4 0 0 0 0 [.ref w, .int p0, .int p1, .int p2] [(w, .inr (8, [.int wn0, .int wn1, .int wn2]))] (fun _ => True) (fun u => [(w, .inr (8, [.int (u.1 0), .int (u.1 1), .int (u.1 2)]))]) := by
  intro sz
  refine ch_of (y := yX9_place) (cc := cX9_place) (maxL := 4) (ret := none) (av := [.ref w, .int p0, .int p1, .int p2]) (ws := [(w, .inr (8, [.int wn0, .int wn1, .int wn2]))]) (D := D) (K := K) (Qc := fun A => va_Qv (S := ((Nat → Int32) × (Nat → Nat → Int32) × (Nat → Nat → Int64))) (fun _ => True) (chB D A (fun u => [(w, .inr (8, [.int (u.1 0), .int (u.1 1), .int (u.1 2)]))])) A) (by decide) (Nat.le_of_ble_eq_true rfl) ?_
  intro p e s m below meth c A hC hr hk hin hE hD hA H locs hP hS ls hl
  replace hC : CallFix p m c cX9_place 4 s [.ref w, .int p0, .int p1, .int p2].toArray wl RX9 := hC
  have hx := hC.1
  have hb := hC.2.1
  have hml := hC.2.2.1
  have hown := hC.2.2.2.1
  have hts := hC.2.2.2.2
  replace hl : lv_has ls 4 [(0, .ref w), (1, .int p0), (2, .int p1), (3, .int p2)] := hl
  refine lv_aload_n hx hb dX9_place_0 rfl (lv_at hl 0 rfl) ?_
  refine lv_iload_n hx hb dX9_place_1 rfl (lv_at hl 1 rfl) ?_
  refine va_put (D := D) (ci := 8) (v := .int p0) (ty := .int) (C := RX9) (T := TX9) (N := 3) hx hb hts in_X9 tyX9 tyX9_ok nmX9 hown hE.1 hP hD hS 0 rfl rfl 0 (by decide) (hts _ w_57) (fun _ h9 => h9) rfl (by decide +kernel) rfl rfl (Nat.le_of_ble_eq_true rfl) dX9_place_2 (fun H locs hP hD hS => ?_)
  replace hP : va_P D vwCl [(w, .inr (8, [.int p0, .int wn1, .int wn2]))] H := hP
  replace hD : va_D A [(w, .inr (8, [.int p0, .int wn1, .int wn2]))] := hD
  refine lv_aload_n hx hb dX9_place_5 rfl (lv_at hl 0 rfl) ?_
  refine lv_iload_n hx hb dX9_place_6 rfl (lv_at hl 2 rfl) ?_
  refine va_put (D := D) (ci := 8) (v := .int p1) (ty := .int) (C := RX9) (T := TX9) (N := 3) hx hb hts in_X9 tyX9 tyX9_ok nmX9 hown hE.1 hP hD hS 0 rfl rfl 1 (by decide) (hts _ w_53) (fun _ h9 => h9) rfl (by decide +kernel) rfl rfl (Nat.le_of_ble_eq_true rfl) dX9_place_7 (fun H locs hP hD hS => ?_)
  replace hP : va_P D vwCl [(w, .inr (8, [.int p0, .int p1, .int wn2]))] H := hP
  replace hD : va_D A [(w, .inr (8, [.int p0, .int p1, .int wn2]))] := hD
  refine lv_aload_n hx hb dX9_place_10 rfl (lv_at hl 0 rfl) ?_
  refine lv_iload_n hx hb dX9_place_11 rfl (lv_at hl 3 rfl) ?_
  refine va_put (D := D) (ci := 8) (v := .int p2) (ty := .int) (C := RX9) (T := TX9) (N := 3) hx hb hts in_X9 tyX9 tyX9_ok nmX9 hown hE.1 hP hD hS 0 rfl rfl 2 (by decide) (hts _ w_58) (fun _ h9 => h9) rfl (by decide +kernel) rfl rfl (Nat.le_of_ble_eq_true rfl) dX9_place_12 (fun H locs hP hD hS => ?_)
  replace hP : va_P D vwCl [(w, .inr (8, [.int p0, .int p1, .int p2]))] H := hP
  replace hD : va_D A [(w, .inr (8, [.int p0, .int p1, .int p2]))] := hD
  refine W.widen (k := 0) (n := 0) (by decide) (by decide) ?_
  exact ch_vret hC hr hk hS dX9_place_15 ((fun k => [p0, p1, p2].getD k 0, fun k => [].getD k (fun _ => 0), fun k => [].getD k (fun _ => 0)) : ((Nat → Int32) × (Nat → Nat → Int32) × (Nat → Nat → Int64))) trivial (hP.sub [0] rfl) (hD.sub [0] (by decide) rfl)
