set_option maxRecDepth 40000 in
set_option maxHeartbeats 4000000 in
theorem c_X11_isWind (l : Launch) (D : va_G) (K : Nat → ClassId) (p0 : Int32) : Ro l D K yX11_isWind cX11_isWind 1 (some .boolean) 0 0 [.int p0] [] (fun r => (r = 0) ∨ (r = 1 ∧ (0 ≤ p0.toInt) ∧ (p0.toInt < 4))) := by
  refine ro_of (by decide) (Nat.le_of_ble_eq_true rfl) ?_
  intro p e s m below meth c hC hr hk hE hP ls hl
  replace hC : CallFix p m c cX11_isWind 1 s [.int p0].toArray wl RX11 := hC
  have hx := hC.1
  have hb := hC.2.1
  have hml := hC.2.2.1
  have hown := hC.2.2.2.1
  have hts := hC.2.2.2.2
  replace hl : lv_has ls 1 [(0, .int p0)] := hl
  have kc_0 : (0 : Int32).toInt = 0 := by decide
  have kc_4 : (4 : Int32).toInt = 4 := by decide
  refine lv_iload_n hx hb dX11_isWind_0 rfl (lv_at hl 0 rfl) ?_
  refine lv_if_lt (tgt := 13) hx hb dX11_isWind_1 (by decide) (fun c1 => ?_) (fun c1 => ?_)
  · replace c1 := lt_i c1
    refine lv_iconst (v := 0) hx hb dX11_isWind_13 (by decide) ?_
    exact ro_zret hC hr hk dX11_isWind_14 rfl (Or.inl rfl)
  · replace c1 := nlt_i c1
    refine lv_iload_n hx hb dX11_isWind_4 rfl (lv_at hl 0 rfl) ?_
    refine lv_iconst (v := 4) hx hb dX11_isWind_5 (by decide) ?_
    refine lv_icmp_ge (tgt := 13) hx hb dX11_isWind_6 (by decide) (fun c2 => ?_) (fun c2 => ?_)
    · replace c2 := le_i c2
      refine lv_iconst (v := 0) hx hb dX11_isWind_13 (by decide) ?_
      exact ro_zret hC hr hk dX11_isWind_14 rfl (Or.inl rfl)
    · replace c2 := nle_i c2
      refine lv_iconst (v := 1) hx hb dX11_isWind_9 (by decide) ?_
      refine lv_goto (tgt := 14) hx hb dX11_isWind_10 (by decide) ?_
      exact ro_zret hC hr hk dX11_isWind_14 rfl (Or.inr ⟨rfl, (by omega), (by omega)⟩)
set_option maxRecDepth 40000 in
set_option maxHeartbeats 4000000 in
theorem c_X11_isMark (l : Launch) (D : va_G) (K : Nat → ClassId) (p0 : Int32) : Ro l D K yX11_isMark cX11_isMark 1 (some .boolean) 0 0 [.int p0] [] (fun r => (r = 0) ∨ (r = 1 ∧ (0 ≤ p0.toInt) ∧ (p0.toInt < 10))) := by
  refine ro_of (by decide) (Nat.le_of_ble_eq_true rfl) ?_
  intro p e s m below meth c hC hr hk hE hP ls hl
  replace hC : CallFix p m c cX11_isMark 1 s [.int p0].toArray wl RX11 := hC
  have hx := hC.1
  have hb := hC.2.1
  have hml := hC.2.2.1
  have hown := hC.2.2.2.1
  have hts := hC.2.2.2.2
  replace hl : lv_has ls 1 [(0, .int p0)] := hl
  have kc_0 : (0 : Int32).toInt = 0 := by decide
  have kc_10 : (10 : Int32).toInt = 10 := by decide
  refine lv_iload_n hx hb dX11_isMark_0 rfl (lv_at hl 0 rfl) ?_
  refine lv_if_lt (tgt := 14) hx hb dX11_isMark_1 (by decide) (fun c3 => ?_) (fun c3 => ?_)
  · replace c3 := lt_i c3
    refine lv_iconst (v := 0) hx hb dX11_isMark_14 (by decide) ?_
    exact ro_zret hC hr hk dX11_isMark_15 rfl (Or.inl rfl)
  · replace c3 := nlt_i c3
    refine lv_iload_n hx hb dX11_isMark_4 rfl (lv_at hl 0 rfl) ?_
    refine lv_bipush (v := 10) hx hb dX11_isMark_5 (by decide) ?_
    refine lv_icmp_ge (tgt := 14) hx hb dX11_isMark_7 (by decide) (fun c4 => ?_) (fun c4 => ?_)
    · replace c4 := le_i c4
      refine lv_iconst (v := 0) hx hb dX11_isMark_14 (by decide) ?_
      exact ro_zret hC hr hk dX11_isMark_15 rfl (Or.inl rfl)
    · replace c4 := nle_i c4
      refine lv_iconst (v := 1) hx hb dX11_isMark_10 (by decide) ?_
      refine lv_goto (tgt := 15) hx hb dX11_isMark_11 (by decide) ?_
      exact ro_zret hC hr hk dX11_isMark_15 rfl (Or.inr ⟨rfl, (by omega), (by omega)⟩)
set_option maxRecDepth 40000 in
set_option maxHeartbeats 4000000 in
theorem c_X11_isSlot (l : Launch) (D : va_G) (K : Nat → ClassId) (p0 : Int32) : Ro l D K yX11_isSlot cX11_isSlot 1 (some .boolean) 0 0 [.int p0] [] (fun r => (r = 0 ∧ (p0.toInt < 0 ∨ 3 < p0.toInt)) ∨ (r = 1 ∧ (0 ≤ p0.toInt) ∧ (p0.toInt < 4))) := by
  refine ro_of (by decide) (Nat.le_of_ble_eq_true rfl) ?_
  intro p e s m below meth c hC hr hk hE hP ls hl
  replace hC : CallFix p m c cX11_isSlot 1 s [.int p0].toArray wl RX11 := hC
  have hx := hC.1
  have hb := hC.2.1
  have hml := hC.2.2.1
  have hown := hC.2.2.2.1
  have hts := hC.2.2.2.2
  replace hl : lv_has ls 1 [(0, .int p0)] := hl
  have kc_0 : (0 : Int32).toInt = 0 := by decide
  have kc_4 : (4 : Int32).toInt = 4 := by decide
  refine lv_iload_n hx hb dX11_isSlot_0 rfl (lv_at hl 0 rfl) ?_
  refine lv_if_lt (tgt := 13) hx hb dX11_isSlot_1 (by decide) (fun c5 => ?_) (fun c5 => ?_)
  · replace c5 := lt_i c5
    refine lv_iconst (v := 0) hx hb dX11_isSlot_13 (by decide) ?_
    exact ro_zret hC hr hk dX11_isSlot_14 rfl (Or.inl ⟨rfl, (by omega)⟩)
  · replace c5 := nlt_i c5
    refine lv_iload_n hx hb dX11_isSlot_4 rfl (lv_at hl 0 rfl) ?_
    refine lv_iconst (v := 4) hx hb dX11_isSlot_5 (by decide) ?_
    refine lv_icmp_ge (tgt := 13) hx hb dX11_isSlot_6 (by decide) (fun c6 => ?_) (fun c6 => ?_)
    · replace c6 := le_i c6
      refine lv_iconst (v := 0) hx hb dX11_isSlot_13 (by decide) ?_
      exact ro_zret hC hr hk dX11_isSlot_14 rfl (Or.inl ⟨rfl, (by omega)⟩)
    · replace c6 := nle_i c6
      refine lv_iconst (v := 1) hx hb dX11_isSlot_9 (by decide) ?_
      refine lv_goto (tgt := 14) hx hb dX11_isSlot_10 (by decide) ?_
      exact ro_zret hC hr hk dX11_isSlot_14 rfl (Or.inr ⟨rfl, (by omega), (by omega)⟩)
set_option maxRecDepth 40000 in
set_option maxHeartbeats 4000000 in
theorem c_X11_isFogLength (l : Launch) (D : va_G) (K : Nat → ClassId) (p0 : Int32) : Ro l D K yX11_isFogLength cX11_isFogLength 1 (some .boolean) 0 0 [.int p0] [] (fun r => (r = 0) ∨ (r = 1 ∧ (0 ≤ p0.toInt) ∧ (p0.toInt < 16))) := by
  refine ro_of (by decide) (Nat.le_of_ble_eq_true rfl) ?_
  intro p e s m below meth c hC hr hk hE hP ls hl
  replace hC : CallFix p m c cX11_isFogLength 1 s [.int p0].toArray wl RX11 := hC
  have hx := hC.1
  have hb := hC.2.1
  have hml := hC.2.2.1
  have hown := hC.2.2.2.1
  have hts := hC.2.2.2.2
  replace hl : lv_has ls 1 [(0, .int p0)] := hl
  have kc_0 : (0 : Int32).toInt = 0 := by decide
  have kc_15 : (15 : Int32).toInt = 15 := by decide
  refine lv_iload_n hx hb dX11_isFogLength_0 rfl (lv_at hl 0 rfl) ?_
  refine lv_if_lt (tgt := 14) hx hb dX11_isFogLength_1 (by decide) (fun c7 => ?_) (fun c7 => ?_)
  · replace c7 := lt_i c7
    refine lv_iconst (v := 0) hx hb dX11_isFogLength_14 (by decide) ?_
    exact ro_zret hC hr hk dX11_isFogLength_15 rfl (Or.inl rfl)
  · replace c7 := nlt_i c7
    refine lv_iload_n hx hb dX11_isFogLength_4 rfl (lv_at hl 0 rfl) ?_
    refine lv_bipush (v := 15) hx hb dX11_isFogLength_5 (by decide) ?_
    refine lv_icmp_gt (tgt := 14) hx hb dX11_isFogLength_7 (by decide) (fun c8 => ?_) (fun c8 => ?_)
    · replace c8 := lt_i c8
      refine lv_iconst (v := 0) hx hb dX11_isFogLength_14 (by decide) ?_
      exact ro_zret hC hr hk dX11_isFogLength_15 rfl (Or.inl rfl)
    · replace c8 := nlt_i c8
      refine lv_iconst (v := 1) hx hb dX11_isFogLength_10 (by decide) ?_
      refine lv_goto (tgt := 15) hx hb dX11_isFogLength_11 (by decide) ?_
      exact ro_zret hC hr hk dX11_isFogLength_15 rfl (Or.inr ⟨rfl, (by omega), (by omega)⟩)
set_option maxRecDepth 40000 in
set_option maxHeartbeats 4000000 in
theorem c_X11_isDraw (l : Launch) (D : va_G) (K : Nat → ClassId) (p0 : Int32) (p1 : Int32) : Ro l D K yX11_isDraw cX11_isDraw 2 (some .boolean) 0 0 [.int p0, .int p1] [] (fun r => (r = 0) ∨ (r = 1 ∧ (0 ≤ p0.toInt) ∧ (p0.toInt < 2000000001) ∧ (0 ≤ p1.toInt) ∧ (p1.toInt < 41))) := by
  refine ro_of (by decide) (Nat.le_of_ble_eq_true rfl) ?_
  intro p e s m below meth c hC hr hk hE hP ls hl
  replace hC : CallFix p m c cX11_isDraw 2 s [.int p0, .int p1].toArray wl RX11 := hC
  have hx := hC.1
  have hb := hC.2.1
  have hml := hC.2.2.1
  have hown := hC.2.2.2.1
  have hts := hC.2.2.2.2
  replace hl : lv_has ls 2 [(0, .int p0), (1, .int p1)] := hl
  have kc_0 : (0 : Int32).toInt = 0 := by decide
  have kc_40 : (40 : Int32).toInt = 40 := by decide
  have kc_2000000000 : (2000000000 : Int32).toInt = 2000000000 := by decide
  refine lv_iload_n hx hb dX11_isDraw_0 rfl (lv_at hl 0 rfl) ?_
  refine lv_if_lt (tgt := 25) hx hb dX11_isDraw_1 (by decide) (fun c9 => ?_) (fun c9 => ?_)
  · replace c9 := lt_i c9
    refine lv_iconst (v := 0) hx hb dX11_isDraw_25 (by decide) ?_
    exact ro_zret hC hr hk dX11_isDraw_26 rfl (Or.inl rfl)
  · replace c9 := nlt_i c9
    refine lv_iload_n hx hb dX11_isDraw_4 rfl (lv_at hl 0 rfl) ?_
    refine lv_ldcw (v := 2000000000) hx hb hown (hts _ w_0) dX11_isDraw_5 ?_
    refine lv_icmp_gt (tgt := 25) hx hb dX11_isDraw_8 (by decide) (fun c10 => ?_) (fun c10 => ?_)
    · replace c10 := lt_i c10
      refine lv_iconst (v := 0) hx hb dX11_isDraw_25 (by decide) ?_
      exact ro_zret hC hr hk dX11_isDraw_26 rfl (Or.inl rfl)
    · replace c10 := nlt_i c10
      refine lv_iload_n hx hb dX11_isDraw_11 rfl (lv_at hl 1 rfl) ?_
      refine lv_if_lt (tgt := 25) hx hb dX11_isDraw_12 (by decide) (fun c11 => ?_) (fun c11 => ?_)
      · replace c11 := lt_i c11
        refine lv_iconst (v := 0) hx hb dX11_isDraw_25 (by decide) ?_
        exact ro_zret hC hr hk dX11_isDraw_26 rfl (Or.inl rfl)
      · replace c11 := nlt_i c11
        refine lv_iload_n hx hb dX11_isDraw_15 rfl (lv_at hl 1 rfl) ?_
        refine lv_bipush (v := 40) hx hb dX11_isDraw_16 (by decide) ?_
        refine lv_icmp_gt (tgt := 25) hx hb dX11_isDraw_18 (by decide) (fun c12 => ?_) (fun c12 => ?_)
        · replace c12 := lt_i c12
          refine lv_iconst (v := 0) hx hb dX11_isDraw_25 (by decide) ?_
          exact ro_zret hC hr hk dX11_isDraw_26 rfl (Or.inl rfl)
        · replace c12 := nlt_i c12
          refine lv_iconst (v := 1) hx hb dX11_isDraw_21 (by decide) ?_
          refine lv_goto (tgt := 26) hx hb dX11_isDraw_22 (by decide) ?_
          exact ro_zret hC hr hk dX11_isDraw_26 rfl (Or.inr ⟨rfl, (by omega), (by omega), (by omega), (by omega)⟩)
set_option maxRecDepth 40000 in
set_option maxHeartbeats 4000000 in
theorem c_J6_bitCount_0f7a4 (l : Launch) (D : va_G) (K : Nat → ClassId) (p0 : Int32) : Ro l D K yJ6_bitCount_0f7a4 cJ6_bitCount_0f7a4 1 (some .int) 0 0 [.int p0] [] (fun _ => True) := by
  refine ro_of (by decide) (Nat.le_of_ble_eq_true rfl) ?_
  intro p e s m below meth c hC hr hk hE hP ls hl
  replace hC : CallFix p m c cJ6_bitCount_0f7a4 1 s [.int p0].toArray wl RJ6 := hC
  have hx := hC.1
  have hb := hC.2.1
  have hml := hC.2.2.1
  have hown := hC.2.2.2.1
  have hts := hC.2.2.2.2
  replace hl : lv_has ls 1 [(0, .int p0)] := hl
  refine lv_iload_n hx hb dJ6_bitCount_0f7a4_0 rfl (lv_at hl 0 rfl) ?_
  refine lv_iload_n hx hb dJ6_bitCount_0f7a4_1 rfl (lv_at hl 0 rfl) ?_
  refine lv_iconst (v := 1) hx hb dJ6_bitCount_0f7a4_2 (by decide) ?_
  refine lv_iushr hx hb dJ6_bitCount_0f7a4_3 rfl ?_
  refine lv_topi (fun v13 ev13 => ?_)
  refine lv_ldcw (v := 1431655765) hx hb hown (hts _ w_1) dJ6_bitCount_0f7a4_4 ?_
  refine lv_iand hx hb dJ6_bitCount_0f7a4_7 ?_
  refine lv_topi (fun v14 ev14 => ?_)
  refine lv_isub hx hb dJ6_bitCount_0f7a4_8 ?_
  refine lv_topi (fun v15 ev15 => ?_)
  refine lv_istore_n (lv' := [(0, .int v15)]) hx hb dJ6_bitCount_0f7a4_9 rfl hl (by decide) rfl (fun ls hl => ?_)
  refine lv_iload_n hx hb dJ6_bitCount_0f7a4_10 rfl (lv_at hl 0 rfl) ?_
  refine lv_ldcw (v := 858993459) hx hb hown (hts _ w_2) dJ6_bitCount_0f7a4_11 ?_
  refine lv_iand hx hb dJ6_bitCount_0f7a4_14 ?_
  refine lv_topi (fun v16 ev16 => ?_)
  refine lv_iload_n hx hb dJ6_bitCount_0f7a4_15 rfl (lv_at hl 0 rfl) ?_
  refine lv_iconst (v := 2) hx hb dJ6_bitCount_0f7a4_16 (by decide) ?_
  refine lv_iushr hx hb dJ6_bitCount_0f7a4_17 rfl ?_
  refine lv_topi (fun v17 ev17 => ?_)
  refine lv_ldcw (v := 858993459) hx hb hown (hts _ w_2) dJ6_bitCount_0f7a4_18 ?_
  refine lv_iand hx hb dJ6_bitCount_0f7a4_21 ?_
  refine lv_topi (fun v18 ev18 => ?_)
  refine lv_iadd hx hb dJ6_bitCount_0f7a4_22 ?_
  refine lv_topi (fun v19 ev19 => ?_)
  refine lv_istore_n (lv' := [(0, .int v19)]) hx hb dJ6_bitCount_0f7a4_23 rfl hl (by decide) rfl (fun ls hl => ?_)
  refine lv_iload_n hx hb dJ6_bitCount_0f7a4_24 rfl (lv_at hl 0 rfl) ?_
  refine lv_iload_n hx hb dJ6_bitCount_0f7a4_25 rfl (lv_at hl 0 rfl) ?_
  refine lv_iconst (v := 4) hx hb dJ6_bitCount_0f7a4_26 (by decide) ?_
  refine lv_iushr hx hb dJ6_bitCount_0f7a4_27 rfl ?_
  refine lv_topi (fun v20 ev20 => ?_)
  refine lv_iadd hx hb dJ6_bitCount_0f7a4_28 ?_
  refine lv_topi (fun v21 ev21 => ?_)
  refine lv_ldcw (v := 252645135) hx hb hown (hts _ w_3) dJ6_bitCount_0f7a4_29 ?_
  refine lv_iand hx hb dJ6_bitCount_0f7a4_32 ?_
  refine lv_topi (fun v22 ev22 => ?_)
  refine lv_istore_n (lv' := [(0, .int v22)]) hx hb dJ6_bitCount_0f7a4_33 rfl hl (by decide) rfl (fun ls hl => ?_)
  refine lv_iload_n hx hb dJ6_bitCount_0f7a4_34 rfl (lv_at hl 0 rfl) ?_
  refine lv_iload_n hx hb dJ6_bitCount_0f7a4_35 rfl (lv_at hl 0 rfl) ?_
  refine lv_bipush (v := 8) hx hb dJ6_bitCount_0f7a4_36 (by decide) ?_
  refine lv_iushr hx hb dJ6_bitCount_0f7a4_38 rfl ?_
  refine lv_topi (fun v23 ev23 => ?_)
  refine lv_iadd hx hb dJ6_bitCount_0f7a4_39 ?_
  refine lv_topi (fun v24 ev24 => ?_)
  refine lv_istore_n (lv' := [(0, .int v24)]) hx hb dJ6_bitCount_0f7a4_40 rfl hl (by decide) rfl (fun ls hl => ?_)
  refine lv_iload_n hx hb dJ6_bitCount_0f7a4_41 rfl (lv_at hl 0 rfl) ?_
  refine lv_iload_n hx hb dJ6_bitCount_0f7a4_42 rfl (lv_at hl 0 rfl) ?_
  refine lv_bipush (v := 16) hx hb dJ6_bitCount_0f7a4_43 (by decide) ?_
  refine lv_iushr hx hb dJ6_bitCount_0f7a4_45 rfl ?_
  refine lv_topi (fun v25 ev25 => ?_)
  refine lv_iadd hx hb dJ6_bitCount_0f7a4_46 ?_
  refine lv_topi (fun v26 ev26 => ?_)
  refine lv_istore_n (lv' := [(0, .int v26)]) hx hb dJ6_bitCount_0f7a4_47 rfl hl (by decide) rfl (fun ls hl => ?_)
  refine lv_iload_n hx hb dJ6_bitCount_0f7a4_48 rfl (lv_at hl 0 rfl) ?_
  refine lv_bipush (v := 63) hx hb dJ6_bitCount_0f7a4_49 (by decide) ?_
  refine lv_iand hx hb dJ6_bitCount_0f7a4_51 ?_
  refine lv_topi (fun v27 ev27 => ?_)
  exact ro_ret hC hr hk dJ6_bitCount_0f7a4_52 trivial
set_option maxRecDepth 40000 in
set_option maxHeartbeats 4000000 in
theorem c_J6_numberOfTrailingZeros_0f7a4 (l : Launch) (D : va_G) (K : Nat → ClassId) (p0 : Int32) : Ro l D K yJ6_numberOfTrailingZeros_0f7a4 cJ6_numberOfTrailingZeros_0f7a4 2 (some .int) 0 0 [.int p0] [] (fun _ => True) := by
  refine ro_of (by decide) (Nat.le_of_ble_eq_true rfl) ?_
  intro p e s m below meth c hC hr hk hE hP ls hl
  replace hC : CallFix p m c cJ6_numberOfTrailingZeros_0f7a4 2 s [.int p0].toArray wl RJ6 := hC
  have hx := hC.1
  have hb := hC.2.1
  have hml := hC.2.2.1
  have hown := hC.2.2.2.1
  have hts := hC.2.2.2.2
  replace hl : lv_has ls 2 [(0, .int p0)] := hl
  have kc_0 : (0 : Int32).toInt = 0 := by decide
  have kc_4 : (4 : Int32).toInt = 4 := by decide
  have kc_16 : (16 : Int32).toInt = 16 := by decide
  have kc_256 : (256 : Int32).toInt = 256 := by decide
  have kc_65536 : (65536 : Int32).toInt = 65536 := by decide
  refine lv_iload_n hx hb dJ6_numberOfTrailingZeros_0f7a4_0 rfl (lv_at hl 0 rfl) ?_
  refine lv_iconst (v := (-1)) hx hb dJ6_numberOfTrailingZeros_0f7a4_1 (by decide) ?_
  refine lv_ixor hx hb dJ6_numberOfTrailingZeros_0f7a4_2 ?_
  refine lv_topi (fun v28 ev28 => ?_)
  refine lv_iload_n hx hb dJ6_numberOfTrailingZeros_0f7a4_3 rfl (lv_at hl 0 rfl) ?_
  refine lv_iconst (v := 1) hx hb dJ6_numberOfTrailingZeros_0f7a4_4 (by decide) ?_
  refine lv_isub hx hb dJ6_numberOfTrailingZeros_0f7a4_5 ?_
  refine lv_topi (fun v29 ev29 => ?_)
  refine lv_iand hx hb dJ6_numberOfTrailingZeros_0f7a4_6 ?_
  refine lv_topi (fun v30 ev30 => ?_)
  refine lv_istore_n (lv' := [(0, .int v30)]) hx hb dJ6_numberOfTrailingZeros_0f7a4_7 rfl hl (by decide) rfl (fun ls hl => ?_)
  refine lv_iload_n hx hb dJ6_numberOfTrailingZeros_0f7a4_8 rfl (lv_at hl 0 rfl) ?_
  refine lv_if_gt (tgt := 17) hx hb dJ6_numberOfTrailingZeros_0f7a4_9 (by decide) (fun c31 => ?_) (fun c31 => ?_)
  · replace c31 := lt_i c31
    refine lv_iconst (v := 1) hx hb dJ6_numberOfTrailingZeros_0f7a4_17 (by decide) ?_
    refine lv_istore_n (lv' := [(1, .int 1), (0, .int v30)]) hx hb dJ6_numberOfTrailingZeros_0f7a4_18 rfl hl (by decide) rfl (fun ls hl => ?_)
    refine lv_iload_n hx hb dJ6_numberOfTrailingZeros_0f7a4_19 rfl (lv_at hl 1 rfl) ?_
    refine lv_ldcw (v := 65536) hx hb hown (hts _ w_4) dJ6_numberOfTrailingZeros_0f7a4_20 ?_
    refine lv_icmp_le (tgt := 34) hx hb dJ6_numberOfTrailingZeros_0f7a4_23 (by decide) (fun c32 => ?_) (fun c32 => ?_)
    · replace c32 := le_i c32
      refine lv_iload_n hx hb dJ6_numberOfTrailingZeros_0f7a4_34 rfl (lv_at hl 1 rfl) ?_
      refine lv_sipush (v := 256) hx hb dJ6_numberOfTrailingZeros_0f7a4_35 (by decide) ?_
      refine lv_icmp_le (tgt := 49) hx hb dJ6_numberOfTrailingZeros_0f7a4_38 (by decide) (fun c33 => ?_) (fun c33 => ?_)
      · replace c33 := le_i c33
        refine lv_iload_n hx hb dJ6_numberOfTrailingZeros_0f7a4_49 rfl (lv_at hl 1 rfl) ?_
        refine lv_bipush (v := 16) hx hb dJ6_numberOfTrailingZeros_0f7a4_50 (by decide) ?_
        refine lv_icmp_le (tgt := 62) hx hb dJ6_numberOfTrailingZeros_0f7a4_52 (by decide) (fun c34 => ?_) (fun c34 => ?_)
        · replace c34 := le_i c34
          refine lv_iload_n hx hb dJ6_numberOfTrailingZeros_0f7a4_62 rfl (lv_at hl 1 rfl) ?_
          refine lv_iconst (v := 4) hx hb dJ6_numberOfTrailingZeros_0f7a4_63 (by decide) ?_
          refine lv_icmp_le (tgt := 74) hx hb dJ6_numberOfTrailingZeros_0f7a4_64 (by decide) (fun c35 => ?_) (fun c35 => ?_)
          · replace c35 := le_i c35
            refine lv_iload_n hx hb dJ6_numberOfTrailingZeros_0f7a4_74 rfl (lv_at hl 0 rfl) ?_
            refine lv_iload_n hx hb dJ6_numberOfTrailingZeros_0f7a4_75 rfl (lv_at hl 1 rfl) ?_
            refine lv_iconst (v := 1) hx hb dJ6_numberOfTrailingZeros_0f7a4_76 (by decide) ?_
            refine lv_iushr hx hb dJ6_numberOfTrailingZeros_0f7a4_77 rfl ?_
            refine lv_topi (fun v36 ev36 => ?_)
            refine lv_iadd hx hb dJ6_numberOfTrailingZeros_0f7a4_78 ?_
            refine lv_topi (fun v37 ev37 => ?_)
            exact ro_ret hC hr hk dJ6_numberOfTrailingZeros_0f7a4_79 trivial
          · replace c35 := nle_i c35
            refine lv_iinc (v := 3) (lv' := [(1, .int 3), (0, .int v30)]) hx hb dJ6_numberOfTrailingZeros_0f7a4_67 hl (k := 0) rfl (by decide) (by decide) rfl (fun ls hl => ?_)
            refine lv_iload_n hx hb dJ6_numberOfTrailingZeros_0f7a4_70 rfl (lv_at hl 1 rfl) ?_
            refine lv_iconst (v := 2) hx hb dJ6_numberOfTrailingZeros_0f7a4_71 (by decide) ?_
            refine lv_iushr hx hb dJ6_numberOfTrailingZeros_0f7a4_72 rfl ?_
            refine lv_topi (fun v38 ev38 => ?_)
            refine lv_istore_n (lv' := [(0, .int v38), (1, .int 3)]) hx hb dJ6_numberOfTrailingZeros_0f7a4_73 rfl hl (by decide) rfl (fun ls hl => ?_)
            refine lv_iload_n hx hb dJ6_numberOfTrailingZeros_0f7a4_74 rfl (lv_at hl 1 rfl) ?_
            refine lv_iload_n hx hb dJ6_numberOfTrailingZeros_0f7a4_75 rfl (lv_at hl 0 rfl) ?_
            refine lv_iconst (v := 1) hx hb dJ6_numberOfTrailingZeros_0f7a4_76 (by decide) ?_
            refine lv_iushr hx hb dJ6_numberOfTrailingZeros_0f7a4_77 rfl ?_
            refine lv_topi (fun v39 ev39 => ?_)
            refine lv_iadd hx hb dJ6_numberOfTrailingZeros_0f7a4_78 ?_
            refine lv_topi (fun v40 ev40 => ?_)
            exact ro_ret hC hr hk dJ6_numberOfTrailingZeros_0f7a4_79 trivial
        · replace c34 := nle_i c34
          refine lv_iinc (v := 5) (lv' := [(1, .int 5), (0, .int v30)]) hx hb dJ6_numberOfTrailingZeros_0f7a4_55 hl (k := 0) rfl (by decide) (by decide) rfl (fun ls hl => ?_)
          refine lv_iload_n hx hb dJ6_numberOfTrailingZeros_0f7a4_58 rfl (lv_at hl 1 rfl) ?_
          refine lv_iconst (v := 4) hx hb dJ6_numberOfTrailingZeros_0f7a4_59 (by decide) ?_
          refine lv_iushr hx hb dJ6_numberOfTrailingZeros_0f7a4_60 rfl ?_
          refine lv_topi (fun v41 ev41 => ?_)
          refine lv_istore_n (lv' := [(0, .int v41), (1, .int 5)]) hx hb dJ6_numberOfTrailingZeros_0f7a4_61 rfl hl (by decide) rfl (fun ls hl => ?_)
          refine lv_iload_n hx hb dJ6_numberOfTrailingZeros_0f7a4_62 rfl (lv_at hl 0 rfl) ?_
          refine lv_iconst (v := 4) hx hb dJ6_numberOfTrailingZeros_0f7a4_63 (by decide) ?_
          refine lv_icmp_le (tgt := 74) hx hb dJ6_numberOfTrailingZeros_0f7a4_64 (by decide) (fun c42 => ?_) (fun c42 => ?_)
          · replace c42 := le_i c42
            refine lv_iload_n hx hb dJ6_numberOfTrailingZeros_0f7a4_74 rfl (lv_at hl 1 rfl) ?_
            refine lv_iload_n hx hb dJ6_numberOfTrailingZeros_0f7a4_75 rfl (lv_at hl 0 rfl) ?_
            refine lv_iconst (v := 1) hx hb dJ6_numberOfTrailingZeros_0f7a4_76 (by decide) ?_
            refine lv_iushr hx hb dJ6_numberOfTrailingZeros_0f7a4_77 rfl ?_
            refine lv_topi (fun v43 ev43 => ?_)
            refine lv_iadd hx hb dJ6_numberOfTrailingZeros_0f7a4_78 ?_
            refine lv_topi (fun v44 ev44 => ?_)
            exact ro_ret hC hr hk dJ6_numberOfTrailingZeros_0f7a4_79 trivial
          · replace c42 := nle_i c42
            refine lv_iinc (v := 7) (lv' := [(1, .int 7), (0, .int v41)]) hx hb dJ6_numberOfTrailingZeros_0f7a4_67 hl (k := 1) rfl (by decide) (by decide) rfl (fun ls hl => ?_)
            refine lv_iload_n hx hb dJ6_numberOfTrailingZeros_0f7a4_70 rfl (lv_at hl 1 rfl) ?_
            refine lv_iconst (v := 2) hx hb dJ6_numberOfTrailingZeros_0f7a4_71 (by decide) ?_
            refine lv_iushr hx hb dJ6_numberOfTrailingZeros_0f7a4_72 rfl ?_
            refine lv_topi (fun v45 ev45 => ?_)
            refine lv_istore_n (lv' := [(0, .int v45), (1, .int 7)]) hx hb dJ6_numberOfTrailingZeros_0f7a4_73 rfl hl (by decide) rfl (fun ls hl => ?_)
            refine lv_iload_n hx hb dJ6_numberOfTrailingZeros_0f7a4_74 rfl (lv_at hl 1 rfl) ?_
            refine lv_iload_n hx hb dJ6_numberOfTrailingZeros_0f7a4_75 rfl (lv_at hl 0 rfl) ?_
            refine lv_iconst (v := 1) hx hb dJ6_numberOfTrailingZeros_0f7a4_76 (by decide) ?_
            refine lv_iushr hx hb dJ6_numberOfTrailingZeros_0f7a4_77 rfl ?_
            refine lv_topi (fun v46 ev46 => ?_)
            refine lv_iadd hx hb dJ6_numberOfTrailingZeros_0f7a4_78 ?_
            refine lv_topi (fun v47 ev47 => ?_)
            exact ro_ret hC hr hk dJ6_numberOfTrailingZeros_0f7a4_79 trivial
      · replace c33 := nle_i c33
        refine lv_iinc (v := 9) (lv' := [(1, .int 9), (0, .int v30)]) hx hb dJ6_numberOfTrailingZeros_0f7a4_41 hl (k := 0) rfl (by decide) (by decide) rfl (fun ls hl => ?_)
        refine lv_iload_n hx hb dJ6_numberOfTrailingZeros_0f7a4_44 rfl (lv_at hl 1 rfl) ?_
        refine lv_bipush (v := 8) hx hb dJ6_numberOfTrailingZeros_0f7a4_45 (by decide) ?_
        refine lv_iushr hx hb dJ6_numberOfTrailingZeros_0f7a4_47 rfl ?_
        refine lv_topi (fun v48 ev48 => ?_)
        refine lv_istore_n (lv' := [(0, .int v48), (1, .int 9)]) hx hb dJ6_numberOfTrailingZeros_0f7a4_48 rfl hl (by decide) rfl (fun ls hl => ?_)
        refine lv_iload_n hx hb dJ6_numberOfTrailingZeros_0f7a4_49 rfl (lv_at hl 0 rfl) ?_
        refine lv_bipush (v := 16) hx hb dJ6_numberOfTrailingZeros_0f7a4_50 (by decide) ?_
        refine lv_icmp_le (tgt := 62) hx hb dJ6_numberOfTrailingZeros_0f7a4_52 (by decide) (fun c49 => ?_) (fun c49 => ?_)
        · replace c49 := le_i c49
          refine lv_iload_n hx hb dJ6_numberOfTrailingZeros_0f7a4_62 rfl (lv_at hl 0 rfl) ?_
          refine lv_iconst (v := 4) hx hb dJ6_numberOfTrailingZeros_0f7a4_63 (by decide) ?_
          refine lv_icmp_le (tgt := 74) hx hb dJ6_numberOfTrailingZeros_0f7a4_64 (by decide) (fun c50 => ?_) (fun c50 => ?_)
          · replace c50 := le_i c50
            refine lv_iload_n hx hb dJ6_numberOfTrailingZeros_0f7a4_74 rfl (lv_at hl 1 rfl) ?_
            refine lv_iload_n hx hb dJ6_numberOfTrailingZeros_0f7a4_75 rfl (lv_at hl 0 rfl) ?_
            refine lv_iconst (v := 1) hx hb dJ6_numberOfTrailingZeros_0f7a4_76 (by decide) ?_
            refine lv_iushr hx hb dJ6_numberOfTrailingZeros_0f7a4_77 rfl ?_
            refine lv_topi (fun v51 ev51 => ?_)
            refine lv_iadd hx hb dJ6_numberOfTrailingZeros_0f7a4_78 ?_
            refine lv_topi (fun v52 ev52 => ?_)
            exact ro_ret hC hr hk dJ6_numberOfTrailingZeros_0f7a4_79 trivial
          · replace c50 := nle_i c50
            refine lv_iinc (v := 11) (lv' := [(1, .int 11), (0, .int v48)]) hx hb dJ6_numberOfTrailingZeros_0f7a4_67 hl (k := 1) rfl (by decide) (by decide) rfl (fun ls hl => ?_)
            refine lv_iload_n hx hb dJ6_numberOfTrailingZeros_0f7a4_70 rfl (lv_at hl 1 rfl) ?_
            refine lv_iconst (v := 2) hx hb dJ6_numberOfTrailingZeros_0f7a4_71 (by decide) ?_
            refine lv_iushr hx hb dJ6_numberOfTrailingZeros_0f7a4_72 rfl ?_
            refine lv_topi (fun v53 ev53 => ?_)
            refine lv_istore_n (lv' := [(0, .int v53), (1, .int 11)]) hx hb dJ6_numberOfTrailingZeros_0f7a4_73 rfl hl (by decide) rfl (fun ls hl => ?_)
            refine lv_iload_n hx hb dJ6_numberOfTrailingZeros_0f7a4_74 rfl (lv_at hl 1 rfl) ?_
            refine lv_iload_n hx hb dJ6_numberOfTrailingZeros_0f7a4_75 rfl (lv_at hl 0 rfl) ?_
            refine lv_iconst (v := 1) hx hb dJ6_numberOfTrailingZeros_0f7a4_76 (by decide) ?_
            refine lv_iushr hx hb dJ6_numberOfTrailingZeros_0f7a4_77 rfl ?_
            refine lv_topi (fun v54 ev54 => ?_)
            refine lv_iadd hx hb dJ6_numberOfTrailingZeros_0f7a4_78 ?_
            refine lv_topi (fun v55 ev55 => ?_)
            exact ro_ret hC hr hk dJ6_numberOfTrailingZeros_0f7a4_79 trivial
        · replace c49 := nle_i c49
          refine lv_iinc (v := 13) (lv' := [(1, .int 13), (0, .int v48)]) hx hb dJ6_numberOfTrailingZeros_0f7a4_55 hl (k := 1) rfl (by decide) (by decide) rfl (fun ls hl => ?_)
          refine lv_iload_n hx hb dJ6_numberOfTrailingZeros_0f7a4_58 rfl (lv_at hl 1 rfl) ?_
          refine lv_iconst (v := 4) hx hb dJ6_numberOfTrailingZeros_0f7a4_59 (by decide) ?_
          refine lv_iushr hx hb dJ6_numberOfTrailingZeros_0f7a4_60 rfl ?_
          refine lv_topi (fun v56 ev56 => ?_)
          refine lv_istore_n (lv' := [(0, .int v56), (1, .int 13)]) hx hb dJ6_numberOfTrailingZeros_0f7a4_61 rfl hl (by decide) rfl (fun ls hl => ?_)
          refine lv_iload_n hx hb dJ6_numberOfTrailingZeros_0f7a4_62 rfl (lv_at hl 0 rfl) ?_
          refine lv_iconst (v := 4) hx hb dJ6_numberOfTrailingZeros_0f7a4_63 (by decide) ?_
          refine lv_icmp_le (tgt := 74) hx hb dJ6_numberOfTrailingZeros_0f7a4_64 (by decide) (fun c57 => ?_) (fun c57 => ?_)
          · replace c57 := le_i c57
            refine lv_iload_n hx hb dJ6_numberOfTrailingZeros_0f7a4_74 rfl (lv_at hl 1 rfl) ?_
            refine lv_iload_n hx hb dJ6_numberOfTrailingZeros_0f7a4_75 rfl (lv_at hl 0 rfl) ?_
            refine lv_iconst (v := 1) hx hb dJ6_numberOfTrailingZeros_0f7a4_76 (by decide) ?_
            refine lv_iushr hx hb dJ6_numberOfTrailingZeros_0f7a4_77 rfl ?_
            refine lv_topi (fun v58 ev58 => ?_)
            refine lv_iadd hx hb dJ6_numberOfTrailingZeros_0f7a4_78 ?_
            refine lv_topi (fun v59 ev59 => ?_)
            exact ro_ret hC hr hk dJ6_numberOfTrailingZeros_0f7a4_79 trivial
          · replace c57 := nle_i c57
            refine lv_iinc (v := 15) (lv' := [(1, .int 15), (0, .int v56)]) hx hb dJ6_numberOfTrailingZeros_0f7a4_67 hl (k := 1) rfl (by decide) (by decide) rfl (fun ls hl => ?_)
            refine lv_iload_n hx hb dJ6_numberOfTrailingZeros_0f7a4_70 rfl (lv_at hl 1 rfl) ?_
            refine lv_iconst (v := 2) hx hb dJ6_numberOfTrailingZeros_0f7a4_71 (by decide) ?_
            refine lv_iushr hx hb dJ6_numberOfTrailingZeros_0f7a4_72 rfl ?_
            refine lv_topi (fun v60 ev60 => ?_)
            refine lv_istore_n (lv' := [(0, .int v60), (1, .int 15)]) hx hb dJ6_numberOfTrailingZeros_0f7a4_73 rfl hl (by decide) rfl (fun ls hl => ?_)
            refine lv_iload_n hx hb dJ6_numberOfTrailingZeros_0f7a4_74 rfl (lv_at hl 1 rfl) ?_
            refine lv_iload_n hx hb dJ6_numberOfTrailingZeros_0f7a4_75 rfl (lv_at hl 0 rfl) ?_
            refine lv_iconst (v := 1) hx hb dJ6_numberOfTrailingZeros_0f7a4_76 (by decide) ?_
            refine lv_iushr hx hb dJ6_numberOfTrailingZeros_0f7a4_77 rfl ?_
            refine lv_topi (fun v61 ev61 => ?_)
            refine lv_iadd hx hb dJ6_numberOfTrailingZeros_0f7a4_78 ?_
            refine lv_topi (fun v62 ev62 => ?_)
            exact ro_ret hC hr hk dJ6_numberOfTrailingZeros_0f7a4_79 trivial
    · replace c32 := nle_i c32
      refine lv_iinc (v := 17) (lv' := [(1, .int 17), (0, .int v30)]) hx hb dJ6_numberOfTrailingZeros_0f7a4_26 hl (k := 0) rfl (by decide) (by decide) rfl (fun ls hl => ?_)
      refine lv_iload_n hx hb dJ6_numberOfTrailingZeros_0f7a4_29 rfl (lv_at hl 1 rfl) ?_
      refine lv_bipush (v := 16) hx hb dJ6_numberOfTrailingZeros_0f7a4_30 (by decide) ?_
      refine lv_iushr hx hb dJ6_numberOfTrailingZeros_0f7a4_32 rfl ?_
      refine lv_topi (fun v63 ev63 => ?_)
      refine lv_istore_n (lv' := [(0, .int v63), (1, .int 17)]) hx hb dJ6_numberOfTrailingZeros_0f7a4_33 rfl hl (by decide) rfl (fun ls hl => ?_)
      refine lv_iload_n hx hb dJ6_numberOfTrailingZeros_0f7a4_34 rfl (lv_at hl 0 rfl) ?_
      refine lv_sipush (v := 256) hx hb dJ6_numberOfTrailingZeros_0f7a4_35 (by decide) ?_
      refine lv_icmp_le (tgt := 49) hx hb dJ6_numberOfTrailingZeros_0f7a4_38 (by decide) (fun c64 => ?_) (fun c64 => ?_)
      · replace c64 := le_i c64
        refine lv_iload_n hx hb dJ6_numberOfTrailingZeros_0f7a4_49 rfl (lv_at hl 0 rfl) ?_
        refine lv_bipush (v := 16) hx hb dJ6_numberOfTrailingZeros_0f7a4_50 (by decide) ?_
        refine lv_icmp_le (tgt := 62) hx hb dJ6_numberOfTrailingZeros_0f7a4_52 (by decide) (fun c65 => ?_) (fun c65 => ?_)
        · replace c65 := le_i c65
          refine lv_iload_n hx hb dJ6_numberOfTrailingZeros_0f7a4_62 rfl (lv_at hl 0 rfl) ?_
          refine lv_iconst (v := 4) hx hb dJ6_numberOfTrailingZeros_0f7a4_63 (by decide) ?_
          refine lv_icmp_le (tgt := 74) hx hb dJ6_numberOfTrailingZeros_0f7a4_64 (by decide) (fun c66 => ?_) (fun c66 => ?_)
          · replace c66 := le_i c66
            refine lv_iload_n hx hb dJ6_numberOfTrailingZeros_0f7a4_74 rfl (lv_at hl 1 rfl) ?_
            refine lv_iload_n hx hb dJ6_numberOfTrailingZeros_0f7a4_75 rfl (lv_at hl 0 rfl) ?_
            refine lv_iconst (v := 1) hx hb dJ6_numberOfTrailingZeros_0f7a4_76 (by decide) ?_
            refine lv_iushr hx hb dJ6_numberOfTrailingZeros_0f7a4_77 rfl ?_
            refine lv_topi (fun v67 ev67 => ?_)
            refine lv_iadd hx hb dJ6_numberOfTrailingZeros_0f7a4_78 ?_
            refine lv_topi (fun v68 ev68 => ?_)
            exact ro_ret hC hr hk dJ6_numberOfTrailingZeros_0f7a4_79 trivial
          · replace c66 := nle_i c66
            refine lv_iinc (v := 19) (lv' := [(1, .int 19), (0, .int v63)]) hx hb dJ6_numberOfTrailingZeros_0f7a4_67 hl (k := 1) rfl (by decide) (by decide) rfl (fun ls hl => ?_)
            refine lv_iload_n hx hb dJ6_numberOfTrailingZeros_0f7a4_70 rfl (lv_at hl 1 rfl) ?_
            refine lv_iconst (v := 2) hx hb dJ6_numberOfTrailingZeros_0f7a4_71 (by decide) ?_
            refine lv_iushr hx hb dJ6_numberOfTrailingZeros_0f7a4_72 rfl ?_
            refine lv_topi (fun v69 ev69 => ?_)
            refine lv_istore_n (lv' := [(0, .int v69), (1, .int 19)]) hx hb dJ6_numberOfTrailingZeros_0f7a4_73 rfl hl (by decide) rfl (fun ls hl => ?_)
            refine lv_iload_n hx hb dJ6_numberOfTrailingZeros_0f7a4_74 rfl (lv_at hl 1 rfl) ?_
            refine lv_iload_n hx hb dJ6_numberOfTrailingZeros_0f7a4_75 rfl (lv_at hl 0 rfl) ?_
            refine lv_iconst (v := 1) hx hb dJ6_numberOfTrailingZeros_0f7a4_76 (by decide) ?_
            refine lv_iushr hx hb dJ6_numberOfTrailingZeros_0f7a4_77 rfl ?_
            refine lv_topi (fun v70 ev70 => ?_)
            refine lv_iadd hx hb dJ6_numberOfTrailingZeros_0f7a4_78 ?_
            refine lv_topi (fun v71 ev71 => ?_)
            exact ro_ret hC hr hk dJ6_numberOfTrailingZeros_0f7a4_79 trivial
        · replace c65 := nle_i c65
          refine lv_iinc (v := 21) (lv' := [(1, .int 21), (0, .int v63)]) hx hb dJ6_numberOfTrailingZeros_0f7a4_55 hl (k := 1) rfl (by decide) (by decide) rfl (fun ls hl => ?_)
          refine lv_iload_n hx hb dJ6_numberOfTrailingZeros_0f7a4_58 rfl (lv_at hl 1 rfl) ?_
          refine lv_iconst (v := 4) hx hb dJ6_numberOfTrailingZeros_0f7a4_59 (by decide) ?_
          refine lv_iushr hx hb dJ6_numberOfTrailingZeros_0f7a4_60 rfl ?_
          refine lv_topi (fun v72 ev72 => ?_)
          refine lv_istore_n (lv' := [(0, .int v72), (1, .int 21)]) hx hb dJ6_numberOfTrailingZeros_0f7a4_61 rfl hl (by decide) rfl (fun ls hl => ?_)
          refine lv_iload_n hx hb dJ6_numberOfTrailingZeros_0f7a4_62 rfl (lv_at hl 0 rfl) ?_
          refine lv_iconst (v := 4) hx hb dJ6_numberOfTrailingZeros_0f7a4_63 (by decide) ?_
          refine lv_icmp_le (tgt := 74) hx hb dJ6_numberOfTrailingZeros_0f7a4_64 (by decide) (fun c73 => ?_) (fun c73 => ?_)
          · replace c73 := le_i c73
            refine lv_iload_n hx hb dJ6_numberOfTrailingZeros_0f7a4_74 rfl (lv_at hl 1 rfl) ?_
            refine lv_iload_n hx hb dJ6_numberOfTrailingZeros_0f7a4_75 rfl (lv_at hl 0 rfl) ?_
            refine lv_iconst (v := 1) hx hb dJ6_numberOfTrailingZeros_0f7a4_76 (by decide) ?_
            refine lv_iushr hx hb dJ6_numberOfTrailingZeros_0f7a4_77 rfl ?_
            refine lv_topi (fun v74 ev74 => ?_)
            refine lv_iadd hx hb dJ6_numberOfTrailingZeros_0f7a4_78 ?_
            refine lv_topi (fun v75 ev75 => ?_)
            exact ro_ret hC hr hk dJ6_numberOfTrailingZeros_0f7a4_79 trivial
          · replace c73 := nle_i c73
            refine lv_iinc (v := 23) (lv' := [(1, .int 23), (0, .int v72)]) hx hb dJ6_numberOfTrailingZeros_0f7a4_67 hl (k := 1) rfl (by decide) (by decide) rfl (fun ls hl => ?_)
            refine lv_iload_n hx hb dJ6_numberOfTrailingZeros_0f7a4_70 rfl (lv_at hl 1 rfl) ?_
            refine lv_iconst (v := 2) hx hb dJ6_numberOfTrailingZeros_0f7a4_71 (by decide) ?_
            refine lv_iushr hx hb dJ6_numberOfTrailingZeros_0f7a4_72 rfl ?_
            refine lv_topi (fun v76 ev76 => ?_)
            refine lv_istore_n (lv' := [(0, .int v76), (1, .int 23)]) hx hb dJ6_numberOfTrailingZeros_0f7a4_73 rfl hl (by decide) rfl (fun ls hl => ?_)
            refine lv_iload_n hx hb dJ6_numberOfTrailingZeros_0f7a4_74 rfl (lv_at hl 1 rfl) ?_
            refine lv_iload_n hx hb dJ6_numberOfTrailingZeros_0f7a4_75 rfl (lv_at hl 0 rfl) ?_
            refine lv_iconst (v := 1) hx hb dJ6_numberOfTrailingZeros_0f7a4_76 (by decide) ?_
            refine lv_iushr hx hb dJ6_numberOfTrailingZeros_0f7a4_77 rfl ?_
            refine lv_topi (fun v77 ev77 => ?_)
            refine lv_iadd hx hb dJ6_numberOfTrailingZeros_0f7a4_78 ?_
            refine lv_topi (fun v78 ev78 => ?_)
            exact ro_ret hC hr hk dJ6_numberOfTrailingZeros_0f7a4_79 trivial
      · replace c64 := nle_i c64
        refine lv_iinc (v := 25) (lv' := [(1, .int 25), (0, .int v63)]) hx hb dJ6_numberOfTrailingZeros_0f7a4_41 hl (k := 1) rfl (by decide) (by decide) rfl (fun ls hl => ?_)
        refine lv_iload_n hx hb dJ6_numberOfTrailingZeros_0f7a4_44 rfl (lv_at hl 1 rfl) ?_
        refine lv_bipush (v := 8) hx hb dJ6_numberOfTrailingZeros_0f7a4_45 (by decide) ?_
        refine lv_iushr hx hb dJ6_numberOfTrailingZeros_0f7a4_47 rfl ?_
        refine lv_topi (fun v79 ev79 => ?_)
        refine lv_istore_n (lv' := [(0, .int v79), (1, .int 25)]) hx hb dJ6_numberOfTrailingZeros_0f7a4_48 rfl hl (by decide) rfl (fun ls hl => ?_)
        refine lv_iload_n hx hb dJ6_numberOfTrailingZeros_0f7a4_49 rfl (lv_at hl 0 rfl) ?_
        refine lv_bipush (v := 16) hx hb dJ6_numberOfTrailingZeros_0f7a4_50 (by decide) ?_
        refine lv_icmp_le (tgt := 62) hx hb dJ6_numberOfTrailingZeros_0f7a4_52 (by decide) (fun c80 => ?_) (fun c80 => ?_)
        · replace c80 := le_i c80
          refine lv_iload_n hx hb dJ6_numberOfTrailingZeros_0f7a4_62 rfl (lv_at hl 0 rfl) ?_
          refine lv_iconst (v := 4) hx hb dJ6_numberOfTrailingZeros_0f7a4_63 (by decide) ?_
          refine lv_icmp_le (tgt := 74) hx hb dJ6_numberOfTrailingZeros_0f7a4_64 (by decide) (fun c81 => ?_) (fun c81 => ?_)
          · replace c81 := le_i c81
            refine lv_iload_n hx hb dJ6_numberOfTrailingZeros_0f7a4_74 rfl (lv_at hl 1 rfl) ?_
            refine lv_iload_n hx hb dJ6_numberOfTrailingZeros_0f7a4_75 rfl (lv_at hl 0 rfl) ?_
            refine lv_iconst (v := 1) hx hb dJ6_numberOfTrailingZeros_0f7a4_76 (by decide) ?_
            refine lv_iushr hx hb dJ6_numberOfTrailingZeros_0f7a4_77 rfl ?_
            refine lv_topi (fun v82 ev82 => ?_)
            refine lv_iadd hx hb dJ6_numberOfTrailingZeros_0f7a4_78 ?_
            refine lv_topi (fun v83 ev83 => ?_)
            exact ro_ret hC hr hk dJ6_numberOfTrailingZeros_0f7a4_79 trivial
          · replace c81 := nle_i c81
            refine lv_iinc (v := 27) (lv' := [(1, .int 27), (0, .int v79)]) hx hb dJ6_numberOfTrailingZeros_0f7a4_67 hl (k := 1) rfl (by decide) (by decide) rfl (fun ls hl => ?_)
            refine lv_iload_n hx hb dJ6_numberOfTrailingZeros_0f7a4_70 rfl (lv_at hl 1 rfl) ?_
            refine lv_iconst (v := 2) hx hb dJ6_numberOfTrailingZeros_0f7a4_71 (by decide) ?_
            refine lv_iushr hx hb dJ6_numberOfTrailingZeros_0f7a4_72 rfl ?_
            refine lv_topi (fun v84 ev84 => ?_)
            refine lv_istore_n (lv' := [(0, .int v84), (1, .int 27)]) hx hb dJ6_numberOfTrailingZeros_0f7a4_73 rfl hl (by decide) rfl (fun ls hl => ?_)
            refine lv_iload_n hx hb dJ6_numberOfTrailingZeros_0f7a4_74 rfl (lv_at hl 1 rfl) ?_
            refine lv_iload_n hx hb dJ6_numberOfTrailingZeros_0f7a4_75 rfl (lv_at hl 0 rfl) ?_
            refine lv_iconst (v := 1) hx hb dJ6_numberOfTrailingZeros_0f7a4_76 (by decide) ?_
            refine lv_iushr hx hb dJ6_numberOfTrailingZeros_0f7a4_77 rfl ?_
            refine lv_topi (fun v85 ev85 => ?_)
            refine lv_iadd hx hb dJ6_numberOfTrailingZeros_0f7a4_78 ?_
            refine lv_topi (fun v86 ev86 => ?_)
            exact ro_ret hC hr hk dJ6_numberOfTrailingZeros_0f7a4_79 trivial
        · replace c80 := nle_i c80
          refine lv_iinc (v := 29) (lv' := [(1, .int 29), (0, .int v79)]) hx hb dJ6_numberOfTrailingZeros_0f7a4_55 hl (k := 1) rfl (by decide) (by decide) rfl (fun ls hl => ?_)
          refine lv_iload_n hx hb dJ6_numberOfTrailingZeros_0f7a4_58 rfl (lv_at hl 1 rfl) ?_
          refine lv_iconst (v := 4) hx hb dJ6_numberOfTrailingZeros_0f7a4_59 (by decide) ?_
          refine lv_iushr hx hb dJ6_numberOfTrailingZeros_0f7a4_60 rfl ?_
          refine lv_topi (fun v87 ev87 => ?_)
          refine lv_istore_n (lv' := [(0, .int v87), (1, .int 29)]) hx hb dJ6_numberOfTrailingZeros_0f7a4_61 rfl hl (by decide) rfl (fun ls hl => ?_)
          refine lv_iload_n hx hb dJ6_numberOfTrailingZeros_0f7a4_62 rfl (lv_at hl 0 rfl) ?_
          refine lv_iconst (v := 4) hx hb dJ6_numberOfTrailingZeros_0f7a4_63 (by decide) ?_
          refine lv_icmp_le (tgt := 74) hx hb dJ6_numberOfTrailingZeros_0f7a4_64 (by decide) (fun c88 => ?_) (fun c88 => ?_)
          · replace c88 := le_i c88
            refine lv_iload_n hx hb dJ6_numberOfTrailingZeros_0f7a4_74 rfl (lv_at hl 1 rfl) ?_
            refine lv_iload_n hx hb dJ6_numberOfTrailingZeros_0f7a4_75 rfl (lv_at hl 0 rfl) ?_
            refine lv_iconst (v := 1) hx hb dJ6_numberOfTrailingZeros_0f7a4_76 (by decide) ?_
            refine lv_iushr hx hb dJ6_numberOfTrailingZeros_0f7a4_77 rfl ?_
            refine lv_topi (fun v89 ev89 => ?_)
            refine lv_iadd hx hb dJ6_numberOfTrailingZeros_0f7a4_78 ?_
            refine lv_topi (fun v90 ev90 => ?_)
            exact ro_ret hC hr hk dJ6_numberOfTrailingZeros_0f7a4_79 trivial
          · replace c88 := nle_i c88
            refine lv_iinc (v := 31) (lv' := [(1, .int 31), (0, .int v87)]) hx hb dJ6_numberOfTrailingZeros_0f7a4_67 hl (k := 1) rfl (by decide) (by decide) rfl (fun ls hl => ?_)
            refine lv_iload_n hx hb dJ6_numberOfTrailingZeros_0f7a4_70 rfl (lv_at hl 1 rfl) ?_
            refine lv_iconst (v := 2) hx hb dJ6_numberOfTrailingZeros_0f7a4_71 (by decide) ?_
            refine lv_iushr hx hb dJ6_numberOfTrailingZeros_0f7a4_72 rfl ?_
            refine lv_topi (fun v91 ev91 => ?_)
            refine lv_istore_n (lv' := [(0, .int v91), (1, .int 31)]) hx hb dJ6_numberOfTrailingZeros_0f7a4_73 rfl hl (by decide) rfl (fun ls hl => ?_)
            refine lv_iload_n hx hb dJ6_numberOfTrailingZeros_0f7a4_74 rfl (lv_at hl 1 rfl) ?_
            refine lv_iload_n hx hb dJ6_numberOfTrailingZeros_0f7a4_75 rfl (lv_at hl 0 rfl) ?_
            refine lv_iconst (v := 1) hx hb dJ6_numberOfTrailingZeros_0f7a4_76 (by decide) ?_
            refine lv_iushr hx hb dJ6_numberOfTrailingZeros_0f7a4_77 rfl ?_
            refine lv_topi (fun v92 ev92 => ?_)
            refine lv_iadd hx hb dJ6_numberOfTrailingZeros_0f7a4_78 ?_
            refine lv_topi (fun v93 ev93 => ?_)
            exact ro_ret hC hr hk dJ6_numberOfTrailingZeros_0f7a4_79 trivial
  · replace c31 := nlt_i c31
    refine lv_iload_n hx hb dJ6_numberOfTrailingZeros_0f7a4_12 rfl (lv_at hl 0 rfl) ?_
    refine lv_bipush (v := 32) hx hb dJ6_numberOfTrailingZeros_0f7a4_13 (by decide) ?_
    refine lv_iand hx hb dJ6_numberOfTrailingZeros_0f7a4_15 ?_
    refine lv_topi (fun v94 ev94 => ?_)
    exact ro_ret hC hr hk dJ6_numberOfTrailingZeros_0f7a4_16 trivial
set_option maxRecDepth 40000 in
set_option maxHeartbeats 4000000 in
theorem c_X11_lowest (l : Launch) (D : va_G) (K : Nat → ClassId) (p0 : Int32) : Ro l D K yX11_lowest cX11_lowest 1 (some .int) 1 21 [.int p0] [] (fun _ => True) := by
  refine ro_of (by decide) (Nat.le_of_ble_eq_true rfl) ?_
  intro p e s m below meth c hC hr hk hE hP ls hl
  replace hC : CallFix p m c cX11_lowest 1 s [.int p0].toArray wl RX11 := hC
  have hx := hC.1
  have hb := hC.2.1
  have hml := hC.2.2.1
  have hown := hC.2.2.2.1
  have hts := hC.2.2.2.2
  replace hl : lv_has ls 1 [(0, .int p0)] := hl
  have kc_0 : (0 : Int32).toInt = 0 := by decide
  refine lv_iload_n hx hb dX11_lowest_0 rfl (lv_at hl 0 rfl) ?_
  refine lv_if_ne (tgt := 8) hx hb dX11_lowest_1 (by decide) (fun c95 => ?_) (fun c95 => ?_)
  · replace c95 := ne_i c95
    refine lv_iload_n hx hb dX11_lowest_8 rfl (lv_at hl 0 rfl) ?_
    refine ro_S (As := [.int p0]) (rest := []) hC hE kS_X11_314 (c_J6_numberOfTrailingZeros_0f7a4 l D K p0) (hP.sub (ws' := []) [] rfl) rfl hl.1 rfl (Nat.le_of_ble_eq_true rfl) (by decide) (by decide) dX11_lowest_9 (fun r96 _ => ?_)
    exact ro_ret hC hr hk dX11_lowest_12 trivial
  · replace c95 := eq_i c95
    refine lv_iconst (v := (-1)) hx hb dX11_lowest_4 (by decide) ?_
    refine lv_goto (tgt := 12) hx hb dX11_lowest_5 (by decide) ?_
    exact ro_ret hC hr hk dX11_lowest_12 trivial
set_option maxRecDepth 40000 in
set_option maxHeartbeats 4000000 in
theorem c_X10_hasPlace (l : Launch) (D : va_G) (K : Nat → ClassId) (w : Nat) (wa0 : Nat) (wa1 : Nat) (wa2 : Nat) (wa3 : Nat) (wa4 : Nat) (wa5 : Nat) (wa6 : Nat) (wa7 : Nat) (wn8 : Int32) (wn9 : Int32) (wn10 : Int32) (wn11 : Int32) (p0 : Int32) : Ro l D K yX10_hasPlace cX10_hasPlace 2 (some .boolean) 0 0 [.ref w, .int p0] [(w, .inr (9, [.ref wa0, .ref wa1, .ref wa2, .ref wa3, .ref wa4, .ref wa5, .ref wa6, .ref wa7, .int wn8, .int wn9, .int wn10, .int wn11]))] (fun r => (r = 0) ∨ (r = 1 ∧ (0 ≤ p0.toInt) ∧ (p0.toInt < 10))) := by
  refine ro_of (by decide) (Nat.le_of_ble_eq_true rfl) ?_
  intro p e s m below meth c hC hr hk hE hP ls hl
  replace hC : CallFix p m c cX10_hasPlace 2 s [.ref w, .int p0].toArray wl RX10 := hC
  have hx := hC.1
  have hb := hC.2.1
  have hml := hC.2.2.1
  have hown := hC.2.2.2.1
  have hts := hC.2.2.2.2
  replace hl : lv_has ls 2 [(0, .ref w), (1, .int p0)] := hl
  have kc_0 : (0 : Int32).toInt = 0 := by decide
  have kc_10 : (10 : Int32).toInt = 10 := by decide
  refine lv_iload_n hx hb dX10_hasPlace_0 rfl (lv_at hl 1 rfl) ?_
  refine lv_if_lt (tgt := 22) hx hb dX10_hasPlace_1 (by decide) (fun c97 => ?_) (fun c97 => ?_)
  · replace c97 := lt_i c97
    refine lv_iconst (v := 0) hx hb dX10_hasPlace_22 (by decide) ?_
    exact ro_zret hC hr hk dX10_hasPlace_23 rfl (Or.inl rfl)
  · replace c97 := nlt_i c97
    refine lv_iload_n hx hb dX10_hasPlace_4 rfl (lv_at hl 1 rfl) ?_
    refine lv_aload_n hx hb dX10_hasPlace_5 rfl (lv_at hl 0 rfl) ?_
    refine va_get (D := D) (ci := 9) (v := .int wn8) (C := RX10) (T := TX10) (N := 12) hx hb hts in_X10 hown hE.1 hP 0 rfl rfl 8 (by decide) (hts _ w_21) (fun _ h9 => h9) rfl dX10_hasPlace_6 ?_
    refine lv_icmp_ge (tgt := 22) hx hb dX10_hasPlace_9 (by decide) (fun c98 => ?_) (fun c98 => ?_)
    · replace c98 := le_i c98
      refine lv_iconst (v := 0) hx hb dX10_hasPlace_22 (by decide) ?_
      exact ro_zret hC hr hk dX10_hasPlace_23 rfl (Or.inl rfl)
    · replace c98 := nle_i c98
      refine lv_iload_n hx hb dX10_hasPlace_12 rfl (lv_at hl 1 rfl) ?_
      refine lv_bipush (v := 10) hx hb dX10_hasPlace_13 (by decide) ?_
      refine lv_icmp_ge (tgt := 22) hx hb dX10_hasPlace_15 (by decide) (fun c99 => ?_) (fun c99 => ?_)
      · replace c99 := le_i c99
        refine lv_iconst (v := 0) hx hb dX10_hasPlace_22 (by decide) ?_
        exact ro_zret hC hr hk dX10_hasPlace_23 rfl (Or.inl rfl)
      · replace c99 := nle_i c99
        refine lv_iconst (v := 1) hx hb dX10_hasPlace_18 (by decide) ?_
        refine lv_goto (tgt := 23) hx hb dX10_hasPlace_19 (by decide) ?_
        exact ro_zret hC hr hk dX10_hasPlace_23 rfl (Or.inr ⟨rfl, (by omega), (by omega)⟩)
set_option maxRecDepth 40000 in
set_option maxHeartbeats 4000000 in
theorem c_X10_hasPupil (l : Launch) (D : va_G) (K : Nat → ClassId) (w : Nat) (wa0 : Nat) (wa1 : Nat) (wa2 : Nat) (wa3 : Nat) (wa4 : Nat) (wa5 : Nat) (wa6 : Nat) (wa7 : Nat) (wn8 : Int32) (wn9 : Int32) (wn10 : Int32) (wn11 : Int32) (p0 : Int32) : Ro l D K yX10_hasPupil cX10_hasPupil 2 (some .boolean) 0 0 [.ref w, .int p0] [(w, .inr (9, [.ref wa0, .ref wa1, .ref wa2, .ref wa3, .ref wa4, .ref wa5, .ref wa6, .ref wa7, .int wn8, .int wn9, .int wn10, .int wn11]))] (fun r => (r = 0) ∨ (r = 1 ∧ (0 ≤ p0.toInt) ∧ (p0.toInt < 4))) := by
  refine ro_of (by decide) (Nat.le_of_ble_eq_true rfl) ?_
  intro p e s m below meth c hC hr hk hE hP ls hl
  replace hC : CallFix p m c cX10_hasPupil 2 s [.ref w, .int p0].toArray wl RX10 := hC
  have hx := hC.1
  have hb := hC.2.1
  have hml := hC.2.2.1
  have hown := hC.2.2.2.1
  have hts := hC.2.2.2.2
  replace hl : lv_has ls 2 [(0, .ref w), (1, .int p0)] := hl
  have kc_0 : (0 : Int32).toInt = 0 := by decide
  have kc_4 : (4 : Int32).toInt = 4 := by decide
  refine lv_iload_n hx hb dX10_hasPupil_0 rfl (lv_at hl 1 rfl) ?_
  refine lv_if_lt (tgt := 21) hx hb dX10_hasPupil_1 (by decide) (fun c100 => ?_) (fun c100 => ?_)
  · replace c100 := lt_i c100
    refine lv_iconst (v := 0) hx hb dX10_hasPupil_21 (by decide) ?_
    exact ro_zret hC hr hk dX10_hasPupil_22 rfl (Or.inl rfl)
  · replace c100 := nlt_i c100
    refine lv_iload_n hx hb dX10_hasPupil_4 rfl (lv_at hl 1 rfl) ?_
    refine lv_aload_n hx hb dX10_hasPupil_5 rfl (lv_at hl 0 rfl) ?_
    refine va_get (D := D) (ci := 9) (v := .int wn9) (C := RX10) (T := TX10) (N := 12) hx hb hts in_X10 hown hE.1 hP 0 rfl rfl 9 (by decide) (hts _ w_22) (fun _ h9 => h9) rfl dX10_hasPupil_6 ?_
    refine lv_icmp_ge (tgt := 21) hx hb dX10_hasPupil_9 (by decide) (fun c101 => ?_) (fun c101 => ?_)
    · replace c101 := le_i c101
      refine lv_iconst (v := 0) hx hb dX10_hasPupil_21 (by decide) ?_
      exact ro_zret hC hr hk dX10_hasPupil_22 rfl (Or.inl rfl)
    · replace c101 := nle_i c101
      refine lv_iload_n hx hb dX10_hasPupil_12 rfl (lv_at hl 1 rfl) ?_
      refine lv_iconst (v := 4) hx hb dX10_hasPupil_13 (by decide) ?_
      refine lv_icmp_ge (tgt := 21) hx hb dX10_hasPupil_14 (by decide) (fun c102 => ?_) (fun c102 => ?_)
      · replace c102 := le_i c102
        refine lv_iconst (v := 0) hx hb dX10_hasPupil_21 (by decide) ?_
        exact ro_zret hC hr hk dX10_hasPupil_22 rfl (Or.inl rfl)
      · replace c102 := nle_i c102
        refine lv_iconst (v := 1) hx hb dX10_hasPupil_17 (by decide) ?_
        refine lv_goto (tgt := 22) hx hb dX10_hasPupil_18 (by decide) ?_
        exact ro_zret hC hr hk dX10_hasPupil_22 rfl (Or.inr ⟨rfl, (by omega), (by omega)⟩)
set_option maxRecDepth 40000 in
set_option maxHeartbeats 4000000 in
theorem c_X10_stands (l : Launch) (D : va_G) (K : Nat → ClassId) (w : Nat) (wa0 : Nat) (wa1 : Nat) (wa2 : Nat) (wa3 : Nat) (wa4 : Nat) (wa5 : Nat) (wa6 : Nat) (wa7 : Nat) (wn8 : Int32) (wn9 : Int32) (wn10 : Int32) (wn11 : Int32) : Ro l D K yX10_stands cX10_stands 1 (some .boolean) 0 0 [.ref w] [(w, .inr (9, [.ref wa0, .ref wa1, .ref wa2, .ref wa3, .ref wa4, .ref wa5, .ref wa6, .ref wa7, .int wn8, .int wn9, .int wn10, .int wn11]))] (fun r => (r = 0) ∨ (r = 1)) := by
  refine ro_of (by decide) (Nat.le_of_ble_eq_true rfl) ?_
  intro p e s m below meth c hC hr hk hE hP ls hl
  replace hC : CallFix p m c cX10_stands 1 s [.ref w].toArray wl RX10 := hC
  have hx := hC.1
  have hb := hC.2.1
  have hml := hC.2.2.1
  have hown := hC.2.2.2.1
  have hts := hC.2.2.2.2
  replace hl : lv_has ls 1 [(0, .ref w)] := hl
  have kc_0 : (0 : Int32).toInt = 0 := by decide
  refine lv_aload_n hx hb dX10_stands_0 rfl (lv_at hl 0 rfl) ?_
  refine va_get (D := D) (ci := 9) (v := .int wn11) (C := RX10) (T := TX10) (N := 12) hx hb hts in_X10 hown hE.1 hP 0 rfl rfl 11 (by decide) (hts _ w_23) (fun _ h9 => h9) rfl dX10_stands_1 ?_
  refine lv_if_le (tgt := 11) hx hb dX10_stands_4 (by decide) (fun c103 => ?_) (fun c103 => ?_)
  · replace c103 := le_i c103
    refine lv_iconst (v := 0) hx hb dX10_stands_11 (by decide) ?_
    exact ro_zret hC hr hk dX10_stands_12 rfl (Or.inl rfl)
  · replace c103 := nle_i c103
    refine lv_iconst (v := 1) hx hb dX10_stands_7 (by decide) ?_
    refine lv_goto (tgt := 12) hx hb dX10_stands_8 (by decide) ?_
    exact ro_zret hC hr hk dX10_stands_12 rfl (Or.inr rfl)
set_option maxRecDepth 40000 in
set_option maxHeartbeats 4000000 in
theorem c_X10_all (l : Launch) (D : va_G) (K : Nat → ClassId) (w : Nat) (wa0 : Nat) (wa1 : Nat) (wa2 : Nat) (wa3 : Nat) (wa4 : Nat) (wa5 : Nat) (wa6 : Nat) (wa7 : Nat) (wn8 : Int32) (wn9 : Int32) (wn10 : Int32) (wn11 : Int32) : Ro l D K yX10_all cX10_all 1 (some .int) 0 0 [.ref w] [(w, .inr (9, [.ref wa0, .ref wa1, .ref wa2, .ref wa3, .ref wa4, .ref wa5, .ref wa6, .ref wa7, .int wn8, .int wn9, .int wn10, .int wn11]))] (fun _ => True) := by
  refine ro_of (by decide) (Nat.le_of_ble_eq_true rfl) ?_
  intro p e s m below meth c hC hr hk hE hP ls hl
  replace hC : CallFix p m c cX10_all 1 s [.ref w].toArray wl RX10 := hC
  have hx := hC.1
  have hb := hC.2.1
  have hml := hC.2.2.1
  have hown := hC.2.2.2.1
  have hts := hC.2.2.2.2
  replace hl : lv_has ls 1 [(0, .ref w)] := hl
  refine lv_iconst (v := 1) hx hb dX10_all_0 (by decide) ?_
  refine lv_aload_n hx hb dX10_all_1 rfl (lv_at hl 0 rfl) ?_
  refine va_get (D := D) (ci := 9) (v := .int wn8) (C := RX10) (T := TX10) (N := 12) hx hb hts in_X10 hown hE.1 hP 0 rfl rfl 8 (by decide) (hts _ w_21) (fun _ h9 => h9) rfl dX10_all_2 ?_
  refine lv_ishl hx hb dX10_all_5 ?_
  refine lv_topi (fun v104 ev104 => ?_)
  refine lv_iconst (v := 1) hx hb dX10_all_6 (by decide) ?_
  refine lv_isub hx hb dX10_all_7 ?_
  refine lv_topi (fun v105 ev105 => ?_)
  exact ro_ret hC hr hk dX10_all_8 trivial
