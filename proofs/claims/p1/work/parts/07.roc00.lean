set_option maxRecDepth 20000 in
theorem c_X11_isWind (l : Launch) (D : va_G) (K : Nat → ClassId) (p0 : Int32) : Ro l D K yX11_isWind cX11_isWind 1 (some .boolean) 0 0 [.int p0] [] (fun _ => True) := by
  refine ro_of (by decide) (Nat.le_of_ble_eq_true rfl) ?_
  intro p e s m below meth c hC hr hk hE hP ls hl
  have hC : CallFix p m c cX11_isWind 1 s [.int p0].toArray wl RX11 := hC
  have hx := hC.1
  have hb := hC.2.1
  have hml := hC.2.2.1
  have hown := hC.2.2.2.1
  have hts := hC.2.2.2.2
  have hl : lv_has ls 1 [(0, .int p0)] := hl
  refine lv_iload_n hx hb dX11_isWind_0 rfl (lv_at hl 0 rfl) ?_
  refine lv_if_lt (tgt := 13) hx hb dX11_isWind_1 (by decide) (fun c1 => ?_) (fun c1 => ?_)
  · refine lv_iconst (v := 0) hx hb dX11_isWind_13 (by decide) ?_
    exact ro_zret hC hr hk dX11_isWind_14 rfl trivial
  · refine lv_iload_n hx hb dX11_isWind_4 rfl (lv_at hl 0 rfl) ?_
    refine lv_iconst (v := 4) hx hb dX11_isWind_5 (by decide) ?_
    refine lv_icmp_ge (tgt := 13) hx hb dX11_isWind_6 (by decide) (fun c2 => ?_) (fun c2 => ?_)
    · refine lv_iconst (v := 0) hx hb dX11_isWind_13 (by decide) ?_
      exact ro_zret hC hr hk dX11_isWind_14 rfl trivial
    · refine lv_iconst (v := 1) hx hb dX11_isWind_9 (by decide) ?_
      refine lv_goto (tgt := 14) hx hb dX11_isWind_10 (by decide) ?_
      exact ro_zret hC hr hk dX11_isWind_14 rfl trivial
set_option maxRecDepth 20000 in
theorem c_X11_isMark (l : Launch) (D : va_G) (K : Nat → ClassId) (p0 : Int32) : Ro l D K yX11_isMark cX11_isMark 1 (some .boolean) 0 0 [.int p0] [] (fun _ => True) := by
  refine ro_of (by decide) (Nat.le_of_ble_eq_true rfl) ?_
  intro p e s m below meth c hC hr hk hE hP ls hl
  have hC : CallFix p m c cX11_isMark 1 s [.int p0].toArray wl RX11 := hC
  have hx := hC.1
  have hb := hC.2.1
  have hml := hC.2.2.1
  have hown := hC.2.2.2.1
  have hts := hC.2.2.2.2
  have hl : lv_has ls 1 [(0, .int p0)] := hl
  refine lv_iload_n hx hb dX11_isMark_0 rfl (lv_at hl 0 rfl) ?_
  refine lv_if_lt (tgt := 14) hx hb dX11_isMark_1 (by decide) (fun c3 => ?_) (fun c3 => ?_)
  · refine lv_iconst (v := 0) hx hb dX11_isMark_14 (by decide) ?_
    exact ro_zret hC hr hk dX11_isMark_15 rfl trivial
  · refine lv_iload_n hx hb dX11_isMark_4 rfl (lv_at hl 0 rfl) ?_
    refine lv_bipush (v := 10) hx hb dX11_isMark_5 (by decide) ?_
    refine lv_icmp_ge (tgt := 14) hx hb dX11_isMark_7 (by decide) (fun c4 => ?_) (fun c4 => ?_)
    · refine lv_iconst (v := 0) hx hb dX11_isMark_14 (by decide) ?_
      exact ro_zret hC hr hk dX11_isMark_15 rfl trivial
    · refine lv_iconst (v := 1) hx hb dX11_isMark_10 (by decide) ?_
      refine lv_goto (tgt := 15) hx hb dX11_isMark_11 (by decide) ?_
      exact ro_zret hC hr hk dX11_isMark_15 rfl trivial
set_option maxRecDepth 20000 in
theorem c_X11_isFogLength (l : Launch) (D : va_G) (K : Nat → ClassId) (p0 : Int32) : Ro l D K yX11_isFogLength cX11_isFogLength 1 (some .boolean) 0 0 [.int p0] [] (fun _ => True) := by
  refine ro_of (by decide) (Nat.le_of_ble_eq_true rfl) ?_
  intro p e s m below meth c hC hr hk hE hP ls hl
  have hC : CallFix p m c cX11_isFogLength 1 s [.int p0].toArray wl RX11 := hC
  have hx := hC.1
  have hb := hC.2.1
  have hml := hC.2.2.1
  have hown := hC.2.2.2.1
  have hts := hC.2.2.2.2
  have hl : lv_has ls 1 [(0, .int p0)] := hl
  refine lv_iload_n hx hb dX11_isFogLength_0 rfl (lv_at hl 0 rfl) ?_
  refine lv_if_lt (tgt := 14) hx hb dX11_isFogLength_1 (by decide) (fun c5 => ?_) (fun c5 => ?_)
  · refine lv_iconst (v := 0) hx hb dX11_isFogLength_14 (by decide) ?_
    exact ro_zret hC hr hk dX11_isFogLength_15 rfl trivial
  · refine lv_iload_n hx hb dX11_isFogLength_4 rfl (lv_at hl 0 rfl) ?_
    refine lv_bipush (v := 15) hx hb dX11_isFogLength_5 (by decide) ?_
    refine lv_icmp_gt (tgt := 14) hx hb dX11_isFogLength_7 (by decide) (fun c6 => ?_) (fun c6 => ?_)
    · refine lv_iconst (v := 0) hx hb dX11_isFogLength_14 (by decide) ?_
      exact ro_zret hC hr hk dX11_isFogLength_15 rfl trivial
    · refine lv_iconst (v := 1) hx hb dX11_isFogLength_10 (by decide) ?_
      refine lv_goto (tgt := 15) hx hb dX11_isFogLength_11 (by decide) ?_
      exact ro_zret hC hr hk dX11_isFogLength_15 rfl trivial
set_option maxRecDepth 20000 in
theorem c_X11_isDraw (l : Launch) (D : va_G) (K : Nat → ClassId) (p0 : Int32) (p1 : Int32) : Ro l D K yX11_isDraw cX11_isDraw 2 (some .boolean) 0 0 [.int p0, .int p1] [] (fun _ => True) := by
  refine ro_of (by decide) (Nat.le_of_ble_eq_true rfl) ?_
  intro p e s m below meth c hC hr hk hE hP ls hl
  have hC : CallFix p m c cX11_isDraw 2 s [.int p0, .int p1].toArray wl RX11 := hC
  have hx := hC.1
  have hb := hC.2.1
  have hml := hC.2.2.1
  have hown := hC.2.2.2.1
  have hts := hC.2.2.2.2
  have hl : lv_has ls 2 [(0, .int p0), (1, .int p1)] := hl
  refine lv_iload_n hx hb dX11_isDraw_0 rfl (lv_at hl 0 rfl) ?_
  refine lv_if_lt (tgt := 25) hx hb dX11_isDraw_1 (by decide) (fun c7 => ?_) (fun c7 => ?_)
  · refine lv_iconst (v := 0) hx hb dX11_isDraw_25 (by decide) ?_
    exact ro_zret hC hr hk dX11_isDraw_26 rfl trivial
  · refine lv_iload_n hx hb dX11_isDraw_4 rfl (lv_at hl 0 rfl) ?_
    refine lv_ldcw (v := 2000000000) hx hb hown (hts _ w_0) dX11_isDraw_5 ?_
    refine lv_icmp_gt (tgt := 25) hx hb dX11_isDraw_8 (by decide) (fun c8 => ?_) (fun c8 => ?_)
    · refine lv_iconst (v := 0) hx hb dX11_isDraw_25 (by decide) ?_
      exact ro_zret hC hr hk dX11_isDraw_26 rfl trivial
    · refine lv_iload_n hx hb dX11_isDraw_11 rfl (lv_at hl 1 rfl) ?_
      refine lv_if_lt (tgt := 25) hx hb dX11_isDraw_12 (by decide) (fun c9 => ?_) (fun c9 => ?_)
      · refine lv_iconst (v := 0) hx hb dX11_isDraw_25 (by decide) ?_
        exact ro_zret hC hr hk dX11_isDraw_26 rfl trivial
      · refine lv_iload_n hx hb dX11_isDraw_15 rfl (lv_at hl 1 rfl) ?_
        refine lv_bipush (v := 40) hx hb dX11_isDraw_16 (by decide) ?_
        refine lv_icmp_gt (tgt := 25) hx hb dX11_isDraw_18 (by decide) (fun c10 => ?_) (fun c10 => ?_)
        · refine lv_iconst (v := 0) hx hb dX11_isDraw_25 (by decide) ?_
          exact ro_zret hC hr hk dX11_isDraw_26 rfl trivial
        · refine lv_iconst (v := 1) hx hb dX11_isDraw_21 (by decide) ?_
          refine lv_goto (tgt := 26) hx hb dX11_isDraw_22 (by decide) ?_
          exact ro_zret hC hr hk dX11_isDraw_26 rfl trivial
set_option maxRecDepth 20000 in
theorem c_X11_isSlot (l : Launch) (D : va_G) (K : Nat → ClassId) (p0 : Int32) : Ro l D K yX11_isSlot cX11_isSlot 1 (some .boolean) 0 0 [.int p0] [] (fun r => (vp_in p0 4 ∧ r = 1) ∨ (¬ vp_in p0 4 ∧ r = 0)) := by
  refine ro_of (by decide) (Nat.le_of_ble_eq_true rfl) ?_
  intro p e s m below meth c hC hr hk hE hP ls hl
  have hC : CallFix p m c cX11_isSlot 1 s [.int p0].toArray wl RX11 := hC
  have hx := hC.1
  have hb := hC.2.1
  have hml := hC.2.2.1
  have hown := hC.2.2.2.1
  have hts := hC.2.2.2.2
  have hl : lv_has ls 1 [(0, .int p0)] := hl
  refine lv_iload_n hx hb dX11_isSlot_0 rfl (lv_at hl 0 rfl) ?_
  refine lv_if_lt (tgt := 13) hx hb dX11_isSlot_1 (by decide) (fun c11 => ?_) (fun c11 => ?_)
  · refine lv_iconst (v := 0) hx hb dX11_isSlot_13 (by decide) ?_
    exact ro_zret hC hr hk dX11_isSlot_14 rfl (Or.inr (⟨(no1 c11), rfl⟩))
  · refine lv_iload_n hx hb dX11_isSlot_4 rfl (lv_at hl 0 rfl) ?_
    refine lv_iconst (v := 4) hx hb dX11_isSlot_5 (by decide) ?_
    refine lv_icmp_ge (tgt := 13) hx hb dX11_isSlot_6 (by decide) (fun c12 => ?_) (fun c12 => ?_)
    · refine lv_iconst (v := 0) hx hb dX11_isSlot_13 (by decide) ?_
      exact ro_zret hC hr hk dX11_isSlot_14 rfl (Or.inr (⟨(no2 (k := 4) (by decide) c12), rfl⟩))
    · refine lv_iconst (v := 1) hx hb dX11_isSlot_9 (by decide) ?_
      refine lv_goto (tgt := 14) hx hb dX11_isSlot_10 (by decide) ?_
      exact ro_zret hC hr hk dX11_isSlot_14 rfl (Or.inl ⟨(yes2 (k := 4) (by decide) c11 c12), rfl⟩)
set_option maxRecDepth 20000 in
theorem c_J6_bitCount_0f7a4 (l : Launch) (D : va_G) (K : Nat → ClassId) : Ro l D K yJ6_bitCount_0f7a4 cJ6_bitCount_0f7a4 1 (some .int) 0 0 [.int 0] [] (fun r => r = 0) := by
  refine ro_of (by decide) (Nat.le_of_ble_eq_true rfl) ?_
  intro p e s m below meth c hC hr hk hE hP ls hl
  have hC : CallFix p m c cJ6_bitCount_0f7a4 1 s [.int 0].toArray wl RJ6 := hC
  have hx := hC.1
  have hb := hC.2.1
  have hml := hC.2.2.1
  have hown := hC.2.2.2.1
  have hts := hC.2.2.2.2
  have hl : lv_has ls 1 [(0, .int 0)] := hl
  refine lv_iload_n hx hb dJ6_bitCount_0f7a4_0 rfl (lv_at hl 0 rfl) ?_
  refine lv_iload_n hx hb dJ6_bitCount_0f7a4_1 rfl (lv_at hl 0 rfl) ?_
  refine lv_iconst (v := 1) hx hb dJ6_bitCount_0f7a4_2 (by decide) ?_
  refine lv_iushr (v := 0) hx hb dJ6_bitCount_0f7a4_3 (by decide) ?_
  refine lv_ldcw (v := 1431655765) hx hb hown (hts _ w_1) dJ6_bitCount_0f7a4_4 ?_
  refine lv_iand hx hb dJ6_bitCount_0f7a4_7 ?_
  refine tc (y := 0) (by decide) ?_
  refine lv_isub hx hb dJ6_bitCount_0f7a4_8 ?_
  refine tc (y := 0) (by decide) ?_
  refine lv_istore_n (lv' := [(0, .int 0)]) hx hb dJ6_bitCount_0f7a4_9 rfl hl (by decide) rfl (fun ls hl => ?_)
  refine lv_iload_n hx hb dJ6_bitCount_0f7a4_10 rfl (lv_at hl 0 rfl) ?_
  refine lv_ldcw (v := 858993459) hx hb hown (hts _ w_2) dJ6_bitCount_0f7a4_11 ?_
  refine lv_iand hx hb dJ6_bitCount_0f7a4_14 ?_
  refine tc (y := 0) (by decide) ?_
  refine lv_iload_n hx hb dJ6_bitCount_0f7a4_15 rfl (lv_at hl 0 rfl) ?_
  refine lv_iconst (v := 2) hx hb dJ6_bitCount_0f7a4_16 (by decide) ?_
  refine lv_iushr (v := 0) hx hb dJ6_bitCount_0f7a4_17 (by decide) ?_
  refine lv_ldcw (v := 858993459) hx hb hown (hts _ w_2) dJ6_bitCount_0f7a4_18 ?_
  refine lv_iand hx hb dJ6_bitCount_0f7a4_21 ?_
  refine tc (y := 0) (by decide) ?_
  refine lv_iadd hx hb dJ6_bitCount_0f7a4_22 ?_
  refine tc (y := 0) (by decide) ?_
  refine lv_istore_n (lv' := [(0, .int 0)]) hx hb dJ6_bitCount_0f7a4_23 rfl hl (by decide) rfl (fun ls hl => ?_)
  refine lv_iload_n hx hb dJ6_bitCount_0f7a4_24 rfl (lv_at hl 0 rfl) ?_
  refine lv_iload_n hx hb dJ6_bitCount_0f7a4_25 rfl (lv_at hl 0 rfl) ?_
  refine lv_iconst (v := 4) hx hb dJ6_bitCount_0f7a4_26 (by decide) ?_
  refine lv_iushr (v := 0) hx hb dJ6_bitCount_0f7a4_27 (by decide) ?_
  refine lv_iadd hx hb dJ6_bitCount_0f7a4_28 ?_
  refine tc (y := 0) (by decide) ?_
  refine lv_ldcw (v := 252645135) hx hb hown (hts _ w_3) dJ6_bitCount_0f7a4_29 ?_
  refine lv_iand hx hb dJ6_bitCount_0f7a4_32 ?_
  refine tc (y := 0) (by decide) ?_
  refine lv_istore_n (lv' := [(0, .int 0)]) hx hb dJ6_bitCount_0f7a4_33 rfl hl (by decide) rfl (fun ls hl => ?_)
  refine lv_iload_n hx hb dJ6_bitCount_0f7a4_34 rfl (lv_at hl 0 rfl) ?_
  refine lv_iload_n hx hb dJ6_bitCount_0f7a4_35 rfl (lv_at hl 0 rfl) ?_
  refine lv_bipush (v := 8) hx hb dJ6_bitCount_0f7a4_36 (by decide) ?_
  refine lv_iushr (v := 0) hx hb dJ6_bitCount_0f7a4_38 (by decide) ?_
  refine lv_iadd hx hb dJ6_bitCount_0f7a4_39 ?_
  refine tc (y := 0) (by decide) ?_
  refine lv_istore_n (lv' := [(0, .int 0)]) hx hb dJ6_bitCount_0f7a4_40 rfl hl (by decide) rfl (fun ls hl => ?_)
  refine lv_iload_n hx hb dJ6_bitCount_0f7a4_41 rfl (lv_at hl 0 rfl) ?_
  refine lv_iload_n hx hb dJ6_bitCount_0f7a4_42 rfl (lv_at hl 0 rfl) ?_
  refine lv_bipush (v := 16) hx hb dJ6_bitCount_0f7a4_43 (by decide) ?_
  refine lv_iushr (v := 0) hx hb dJ6_bitCount_0f7a4_45 (by decide) ?_
  refine lv_iadd hx hb dJ6_bitCount_0f7a4_46 ?_
  refine tc (y := 0) (by decide) ?_
  refine lv_istore_n (lv' := [(0, .int 0)]) hx hb dJ6_bitCount_0f7a4_47 rfl hl (by decide) rfl (fun ls hl => ?_)
  refine lv_iload_n hx hb dJ6_bitCount_0f7a4_48 rfl (lv_at hl 0 rfl) ?_
  refine lv_bipush (v := 63) hx hb dJ6_bitCount_0f7a4_49 (by decide) ?_
  refine lv_iand hx hb dJ6_bitCount_0f7a4_51 ?_
  refine tc (y := 0) (by decide) ?_
  exact ro_ret hC hr hk dJ6_bitCount_0f7a4_52 rfl
set_option maxRecDepth 20000 in
theorem c_X10_hasPlace (l : Launch) (D : va_G) (K : Nat → ClassId) (w : Nat) (a : Nat → Nat) (p0 : Int32) : Ro l D K yX10_hasPlace cX10_hasPlace 2 (some .boolean) 0 0 [.ref w, .int p0] [(w, .inr (9, [.ref (a 0), .ref (a 1), .ref (a 2), .ref (a 3), .ref (a 4), .ref (a 5), .ref (a 6), .ref (a 7), .int 0, .int 0, .int 0, .int 0]))] (fun r => r = 0) := by
  refine ro_of (by decide) (Nat.le_of_ble_eq_true rfl) ?_
  intro p e s m below meth c hC hr hk hE hP ls hl
  have hC : CallFix p m c cX10_hasPlace 2 s [.ref w, .int p0].toArray wl RX10 := hC
  have hx := hC.1
  have hb := hC.2.1
  have hml := hC.2.2.1
  have hown := hC.2.2.2.1
  have hts := hC.2.2.2.2
  have hl : lv_has ls 2 [(0, .ref w), (1, .int p0)] := hl
  refine lv_iload_n hx hb dX10_hasPlace_0 rfl (lv_at hl 1 rfl) ?_
  refine lv_if_lt (tgt := 22) hx hb dX10_hasPlace_1 (by decide) (fun c13 => ?_) (fun c13 => ?_)
  · refine lv_iconst (v := 0) hx hb dX10_hasPlace_22 (by decide) ?_
    exact ro_zret hC hr hk dX10_hasPlace_23 rfl rfl
  · refine lv_iload_n hx hb dX10_hasPlace_4 rfl (lv_at hl 1 rfl) ?_
    refine lv_aload_n hx hb dX10_hasPlace_5 rfl (lv_at hl 0 rfl) ?_
    refine va_get (D := D) (ci := 9) (v := .int 0) (C := RX10) (T := TX10) (N := 12) hx hb hts in_X10 hown hE.1 hP 0 rfl rfl 8 (by decide) (hts _ w_16) (fun _ h9 => h9) rfl dX10_hasPlace_6 ?_
    refine lv_icmp_ge (tgt := 22) hx hb dX10_hasPlace_9 (by decide) (fun _ => ?_) (fun h => absurd (nlt0 c13) h)
    refine lv_iconst (v := 0) hx hb dX10_hasPlace_22 (by decide) ?_
    exact ro_zret hC hr hk dX10_hasPlace_23 rfl rfl
set_option maxRecDepth 20000 in
theorem c_X10_hasPupil (l : Launch) (D : va_G) (K : Nat → ClassId) (w : Nat) (a : Nat → Nat) (p0 : Int32) : Ro l D K yX10_hasPupil cX10_hasPupil 2 (some .boolean) 0 0 [.ref w, .int p0] [(w, .inr (9, [.ref (a 0), .ref (a 1), .ref (a 2), .ref (a 3), .ref (a 4), .ref (a 5), .ref (a 6), .ref (a 7), .int 0, .int 0, .int 0, .int 0]))] (fun r => r = 0) := by
  refine ro_of (by decide) (Nat.le_of_ble_eq_true rfl) ?_
  intro p e s m below meth c hC hr hk hE hP ls hl
  have hC : CallFix p m c cX10_hasPupil 2 s [.ref w, .int p0].toArray wl RX10 := hC
  have hx := hC.1
  have hb := hC.2.1
  have hml := hC.2.2.1
  have hown := hC.2.2.2.1
  have hts := hC.2.2.2.2
  have hl : lv_has ls 2 [(0, .ref w), (1, .int p0)] := hl
  refine lv_iload_n hx hb dX10_hasPupil_0 rfl (lv_at hl 1 rfl) ?_
  refine lv_if_lt (tgt := 21) hx hb dX10_hasPupil_1 (by decide) (fun c14 => ?_) (fun c14 => ?_)
  · refine lv_iconst (v := 0) hx hb dX10_hasPupil_21 (by decide) ?_
    exact ro_zret hC hr hk dX10_hasPupil_22 rfl rfl
  · refine lv_iload_n hx hb dX10_hasPupil_4 rfl (lv_at hl 1 rfl) ?_
    refine lv_aload_n hx hb dX10_hasPupil_5 rfl (lv_at hl 0 rfl) ?_
    refine va_get (D := D) (ci := 9) (v := .int 0) (C := RX10) (T := TX10) (N := 12) hx hb hts in_X10 hown hE.1 hP 0 rfl rfl 9 (by decide) (hts _ w_17) (fun _ h9 => h9) rfl dX10_hasPupil_6 ?_
    refine lv_icmp_ge (tgt := 21) hx hb dX10_hasPupil_9 (by decide) (fun _ => ?_) (fun h => absurd (nlt0 c14) h)
    refine lv_iconst (v := 0) hx hb dX10_hasPupil_21 (by decide) ?_
    exact ro_zret hC hr hk dX10_hasPupil_22 rfl rfl
set_option maxRecDepth 20000 in
theorem c_X10_stands (l : Launch) (D : va_G) (K : Nat → ClassId) (w : Nat) (a : Nat → Nat) : Ro l D K yX10_stands cX10_stands 1 (some .boolean) 0 0 [.ref w] [(w, .inr (9, [.ref (a 0), .ref (a 1), .ref (a 2), .ref (a 3), .ref (a 4), .ref (a 5), .ref (a 6), .ref (a 7), .int 0, .int 0, .int 0, .int 0]))] (fun r => r = 0) := by
  refine ro_of (by decide) (Nat.le_of_ble_eq_true rfl) ?_
  intro p e s m below meth c hC hr hk hE hP ls hl
  have hC : CallFix p m c cX10_stands 1 s [.ref w].toArray wl RX10 := hC
  have hx := hC.1
  have hb := hC.2.1
  have hml := hC.2.2.1
  have hown := hC.2.2.2.1
  have hts := hC.2.2.2.2
  have hl : lv_has ls 1 [(0, .ref w)] := hl
  refine lv_aload_n hx hb dX10_stands_0 rfl (lv_at hl 0 rfl) ?_
  refine va_get (D := D) (ci := 9) (v := .int 0) (C := RX10) (T := TX10) (N := 12) hx hb hts in_X10 hown hE.1 hP 0 rfl rfl 11 (by decide) (hts _ w_18) (fun _ h9 => h9) rfl dX10_stands_1 ?_
  refine lv_if_le (tgt := 11) hx hb dX10_stands_4 (by decide) (fun _ => ?_) (fun h => absurd h (by decide))
  refine lv_iconst (v := 0) hx hb dX10_stands_11 (by decide) ?_
  exact ro_zret hC hr hk dX10_stands_12 rfl rfl
set_option maxRecDepth 20000 in
theorem c_X10_all (l : Launch) (D : va_G) (K : Nat → ClassId) (w : Nat) (a : Nat → Nat) : Ro l D K yX10_all cX10_all 1 (some .int) 0 0 [.ref w] [(w, .inr (9, [.ref (a 0), .ref (a 1), .ref (a 2), .ref (a 3), .ref (a 4), .ref (a 5), .ref (a 6), .ref (a 7), .int 0, .int 0, .int 0, .int 0]))] (fun r => r = 0) := by
  refine ro_of (by decide) (Nat.le_of_ble_eq_true rfl) ?_
  intro p e s m below meth c hC hr hk hE hP ls hl
  have hC : CallFix p m c cX10_all 1 s [.ref w].toArray wl RX10 := hC
  have hx := hC.1
  have hb := hC.2.1
  have hml := hC.2.2.1
  have hown := hC.2.2.2.1
  have hts := hC.2.2.2.2
  have hl : lv_has ls 1 [(0, .ref w)] := hl
  refine lv_iconst (v := 1) hx hb dX10_all_0 (by decide) ?_
  refine lv_aload_n hx hb dX10_all_1 rfl (lv_at hl 0 rfl) ?_
  refine va_get (D := D) (ci := 9) (v := .int 0) (C := RX10) (T := TX10) (N := 12) hx hb hts in_X10 hown hE.1 hP 0 rfl rfl 8 (by decide) (hts _ w_16) (fun _ h9 => h9) rfl dX10_all_2 ?_
  refine lv_ishl hx hb dX10_all_5 ?_
  refine tc (y := 1) (by decide) ?_
  refine lv_iconst (v := 1) hx hb dX10_all_6 (by decide) ?_
  refine lv_isub hx hb dX10_all_7 ?_
  refine tc (y := 0) (by decide) ?_
  exact ro_ret hC hr hk dX10_all_8 rfl
set_option maxRecDepth 20000 in
theorem c_X10_hasSet (l : Launch) (D : va_G) (K : Nat → ClassId) (w : Nat) (a : Nat → Nat) (p0 : Int32) : Ro l D K yX10_hasSet cX10_hasSet 2 (some .boolean) 1 20 [.ref w, .int p0] [(w, .inr (9, [.ref (a 0), .ref (a 1), .ref (a 2), .ref (a 3), .ref (a 4), .ref (a 5), .ref (a 6), .ref (a 7), .int 0, .int 0, .int 0, .int 0]))] (fun r => r = 0) := by
  refine ro_of (by decide) (Nat.le_of_ble_eq_true rfl) ?_
  intro p e s m below meth c hC hr hk hE hP ls hl
  have hC : CallFix p m c cX10_hasSet 2 s [.ref w, .int p0].toArray wl RX10 := hC
  have hx := hC.1
  have hb := hC.2.1
  have hml := hC.2.2.1
  have hown := hC.2.2.2.1
  have hts := hC.2.2.2.2
  have hl : lv_has ls 2 [(0, .ref w), (1, .int p0)] := hl
  refine lv_iload_n hx hb dX10_hasSet_0 rfl (lv_at hl 1 rfl) ?_
  refine lv_iconst (v := 1) hx hb dX10_hasSet_1 (by decide) ?_
  refine lv_icmp_lt (tgt := 17) hx hb dX10_hasSet_2 (by decide) (fun c15 => ?_) (fun c15 => ?_)
  · refine lv_iconst (v := 0) hx hb dX10_hasSet_17 (by decide) ?_
    exact ro_zret hC hr hk dX10_hasSet_18 rfl rfl
  · refine lv_iload_n hx hb dX10_hasSet_5 rfl (lv_at hl 1 rfl) ?_
    refine lv_aload_n hx hb dX10_hasSet_6 rfl (lv_at hl 0 rfl) ?_
    refine ro_V (As := []) (rest := [.int p0]) hC hE kV_X10_61 (c_X10_all l D K w a) hP 0 9 rfl rfl rfl hl.1 rfl (Nat.le_of_ble_eq_true rfl) (by decide) (by decide) dX10_hasSet_7 (fun r hq => ?_)
    subst hq
    refine lv_icmp_gt (tgt := 17) hx hb dX10_hasSet_10 (by decide) (fun _ => ?_) (fun h => absurd (nlt1 c15) h)
    refine lv_iconst (v := 0) hx hb dX10_hasSet_17 (by decide) ?_
    exact ro_zret hC hr hk dX10_hasSet_18 rfl rfl
set_option maxRecDepth 20000 in
theorem c_X10_showing (l : Launch) (D : va_G) (K : Nat → ClassId) (w : Nat) (a : Nat → Nat) (p0 : Int32) (p1 : Int32) : Ro l D K yX10_showing cX10_showing 5 (some .int) 0 0 [.ref w, .int p0, .int p1] [(w, .inr (9, [.ref (a 0), .ref (a 1), .ref (a 2), .ref (a 3), .ref (a 4), .ref (a 5), .ref (a 6), .ref (a 7), .int 0, .int 0, .int 0, .int 0]))] (fun r => r = 0) := by
  refine ro_of (by decide) (Nat.le_of_ble_eq_true rfl) ?_
  intro p e s m below meth c hC hr hk hE hP ls hl
  have hC : CallFix p m c cX10_showing 5 s [.ref w, .int p0, .int p1].toArray wl RX10 := hC
  have hx := hC.1
  have hb := hC.2.1
  have hml := hC.2.2.1
  have hown := hC.2.2.2.1
  have hts := hC.2.2.2.2
  have hl : lv_has ls 5 [(0, .ref w), (1, .int p0), (2, .int p1)] := hl
  refine lv_iconst (v := 0) hx hb dX10_showing_0 (by decide) ?_
  refine lv_istore_n (lv' := [(3, .int 0), (0, .ref w), (1, .int p0), (2, .int p1)]) hx hb dX10_showing_1 rfl hl (by decide) rfl (fun ls hl => ?_)
  refine lv_iconst (v := 0) hx hb dX10_showing_2 (by decide) ?_
  refine lv_istore (lv' := [(4, .int 0), (3, .int 0), (0, .ref w), (1, .int p0), (2, .int p1)]) hx hb dX10_showing_3 hl (by decide) rfl (fun ls hl => ?_)
  refine lv_iload hx hb dX10_showing_5 (lv_at hl 0 rfl) ?_
  refine lv_aload_n hx hb dX10_showing_7 rfl (lv_at hl 2 rfl) ?_
  refine va_get (D := D) (ci := 9) (v := .int 0) (C := RX10) (T := TX10) (N := 12) hx hb hts in_X10 hown hE.1 hP 0 rfl rfl 8 (by decide) (hts _ w_16) (fun _ h9 => h9) rfl dX10_showing_8 ?_
  refine lv_icmp_ge (tgt := 54) hx hb dX10_showing_11 (by decide) (fun _ => ?_) (fun h => absurd h (by decide))
  refine lv_iload_n hx hb dX10_showing_54 rfl (lv_at hl 1 rfl) ?_
  exact ro_ret hC hr hk dX10_showing_55 rfl
set_option maxRecDepth 20000 in
theorem c_X10_marked (l : Launch) (D : va_G) (K : Nat → ClassId) (w : Nat) (a : Nat → Nat) : Ro l D K yX10_marked cX10_marked 1 (some .int) 1 24 [.ref w] [(w, .inr (9, [.ref (a 0), .ref (a 1), .ref (a 2), .ref (a 3), .ref (a 4), .ref (a 5), .ref (a 6), .ref (a 7), .int 0, .int 0, .int 0, .int 0]))] (fun r => r = 0) := by
  refine ro_of (by decide) (Nat.le_of_ble_eq_true rfl) ?_
  intro p e s m below meth c hC hr hk hE hP ls hl
  have hC : CallFix p m c cX10_marked 1 s [.ref w].toArray wl RX10 := hC
  have hx := hC.1
  have hb := hC.2.1
  have hml := hC.2.2.1
  have hown := hC.2.2.2.1
  have hts := hC.2.2.2.2
  have hl : lv_has ls 1 [(0, .ref w)] := hl
  refine lv_aload_n hx hb dX10_marked_0 rfl (lv_at hl 0 rfl) ?_
  refine ro_V (As := []) (rest := []) hC hE kV_X10_61 (c_X10_all l D K w a) hP 0 9 rfl rfl rfl hl.1 rfl (Nat.le_of_ble_eq_true rfl) (by decide) (by decide) dX10_marked_1 (fun r hq => ?_)
  subst hq
  refine lv_aload_n hx hb dX10_marked_4 rfl (lv_at hl 0 rfl) ?_
  refine lv_aload_n hx hb dX10_marked_5 rfl (lv_at hl 0 rfl) ?_
  refine ro_V (As := []) (rest := [.ref w, .int 0]) hC hE kV_X10_61 (c_X10_all l D K w a) hP 0 9 rfl rfl rfl hl.1 rfl (Nat.le_of_ble_eq_true rfl) (by decide) (by decide) dX10_marked_6 (fun r hq => ?_)
  subst hq
  refine lv_iconst (v := 0) hx hb dX10_marked_9 (by decide) ?_
  refine ro_V (As := [.int 0, .int 0]) (rest := [.int 0]) hC hE kV_X10_76 (c_X10_showing l D K w a 0 0) hP 0 9 rfl rfl rfl hl.1 rfl (Nat.le_of_ble_eq_true rfl) (by decide) (by decide) dX10_marked_10 (fun r hq => ?_)
  subst hq
  refine lv_iconst (v := (-1)) hx hb dX10_marked_13 (by decide) ?_
  refine lv_ixor hx hb dX10_marked_14 ?_
  refine tc (y := (-1)) (by decide) ?_
  refine lv_iand hx hb dX10_marked_15 ?_
  refine tc (y := 0) (by decide) ?_
  exact ro_ret hC hr hk dX10_marked_16 rfl
set_option maxRecDepth 20000 in
theorem c_X10_waysElsewhere (l : Launch) (D : va_G) (K : Nat → ClassId) (w : Nat) (a : Nat → Nat) : Ro l D K yX10_waysElsewhere cX10_waysElsewhere 4 (some .int) 0 0 [.ref w] [(w, .inr (9, [.ref (a 0), .ref (a 1), .ref (a 2), .ref (a 3), .ref (a 4), .ref (a 5), .ref (a 6), .ref (a 7), .int 0, .int 0, .int 0, .int 0]))] (fun r => r = 0) := by
  refine ro_of (by decide) (Nat.le_of_ble_eq_true rfl) ?_
  intro p e s m below meth c hC hr hk hE hP ls hl
  have hC : CallFix p m c cX10_waysElsewhere 4 s [.ref w].toArray wl RX10 := hC
  have hx := hC.1
  have hb := hC.2.1
  have hml := hC.2.2.1
  have hown := hC.2.2.2.1
  have hts := hC.2.2.2.2
  have hl : lv_has ls 4 [(0, .ref w)] := hl
  refine lv_iconst (v := 0) hx hb dX10_waysElsewhere_0 (by decide) ?_
  refine lv_istore_n (lv' := [(1, .int 0), (0, .ref w)]) hx hb dX10_waysElsewhere_1 rfl hl (by decide) rfl (fun ls hl => ?_)
  refine lv_iconst (v := 0) hx hb dX10_waysElsewhere_2 (by decide) ?_
  refine lv_istore_n (lv' := [(2, .int 0), (1, .int 0), (0, .ref w)]) hx hb dX10_waysElsewhere_3 rfl hl (by decide) rfl (fun ls hl => ?_)
  refine lv_iload_n hx hb dX10_waysElsewhere_4 rfl (lv_at hl 0 rfl) ?_
  refine lv_aload_n hx hb dX10_waysElsewhere_5 rfl (lv_at hl 2 rfl) ?_
  refine va_get (D := D) (ci := 9) (v := .int 0) (C := RX10) (T := TX10) (N := 12) hx hb hts in_X10 hown hE.1 hP 0 rfl rfl 8 (by decide) (hts _ w_16) (fun _ h9 => h9) rfl dX10_waysElsewhere_6 ?_
  refine lv_icmp_ge (tgt := 49) hx hb dX10_waysElsewhere_9 (by decide) (fun _ => ?_) (fun h => absurd h (by decide))
  refine lv_iload_n hx hb dX10_waysElsewhere_49 rfl (lv_at hl 1 rfl) ?_
  exact ro_ret hC hr hk dX10_waysElsewhere_50 rfl
set_option maxRecDepth 20000 in
theorem c_X5_has (l : Launch) (D : va_G) (K : Nat → ClassId) (w : Nat) (a : Nat → Nat) (fs : Nat → Int32) (hfs : ∀ j, j < 4 → fs j = -1) (p0 : Int32) : Ro l D K yX5_has cX5_has 2 (some .boolean) 1 20 [.ref w, .int p0] [(w, .inr (5, [.ref (a 0), .ref (a 1), .ref (a 2)])), (a 2, .inl (K 1, 4, .inl fs))] (fun r => r = 0) := by
  refine ro_of (by decide) (Nat.le_of_ble_eq_true rfl) ?_
  intro p e s m below meth c hC hr hk hE hP ls hl
  have hC : CallFix p m c cX5_has 2 s [.ref w, .int p0].toArray wl RX5 := hC
  have hx := hC.1
  have hb := hC.2.1
  have hml := hC.2.2.1
  have hown := hC.2.2.2.1
  have hts := hC.2.2.2.2
  have hl : lv_has ls 2 [(0, .ref w), (1, .int p0)] := hl
  refine lv_iload_n hx hb dX5_has_0 rfl (lv_at hl 1 rfl) ?_
  refine ro_SN (As := [.int p0]) (rest := []) hC hE kSN_X5_28 (c_X11_isSlot l D K p0) (hP.sub (ws' := []) [] rfl) rfl hl.1 rfl (Nat.le_of_ble_eq_true rfl) (by decide) (by decide) dX5_has_1 (fun r hq => ?_)
  rcases hq with ⟨h16, rfl⟩ | ⟨h17, rfl⟩
  · refine lv_if_eq (tgt := 21) hx hb dX5_has_4 (by decide) (fun h => absurd h (by decide)) (fun _ => ?_)
    refine lv_aload_n hx hb dX5_has_7 rfl (lv_at hl 0 rfl) ?_
    refine va_get (D := D) (ci := 5) (v := .ref (a 2)) (C := RX5) (T := TX5) (N := 3) hx hb hts in_X5 hown hE.1 hP 0 rfl rfl 2 (by decide) (hts _ w_34) (fun _ h9 => h9) rfl dX5_has_8 ?_
    refine lv_iload_n hx hb dX5_has_11 rfl (lv_at hl 1 rfl) ?_
    refine va_iald hx hb hE.1 hP 1 1 rfl rfl h16 dX5_has_12 ?_
    refine tc (y := (-1)) (hfs _ (in_lt h16)) ?_
    refine lv_iconst (v := (-1)) hx hb dX5_has_13 (by decide) ?_
    refine lv_icmp_eq (tgt := 21) hx hb dX5_has_14 (by decide) (fun _ => ?_) (fun h => absurd h (by decide))
    refine lv_iconst (v := 0) hx hb dX5_has_21 (by decide) ?_
    exact ro_zret hC hr hk dX5_has_22 rfl rfl
  · refine lv_if_eq (tgt := 21) hx hb dX5_has_4 (by decide) (fun _ => ?_) (fun h => absurd h (by decide))
    refine lv_iconst (v := 0) hx hb dX5_has_21 (by decide) ?_
    exact ro_zret hC hr hk dX5_has_22 rfl rfl
set_option maxRecDepth 20000 in
theorem c_X5_kept (l : Launch) (D : va_G) (K : Nat → ClassId) (w : Nat) (a : Nat → Nat) (fs : Nat → Int32) (hfs : ∀ j, j < 4 → fs j = -1) : Ro l D K yX5_kept cX5_kept 3 (some .int) 2 41 [.ref w] [(w, .inr (5, [.ref (a 0), .ref (a 1), .ref (a 2)])), (a 2, .inl (K 1, 4, .inl fs))] (fun r => r = 0) := by
  refine ro_of (by decide) (Nat.le_of_ble_eq_true rfl) ?_
  intro p e s m below meth c hC hr hk hE hP ls hl
  have hC : CallFix p m c cX5_kept 3 s [.ref w].toArray wl RX5 := hC
  have hx := hC.1
  have hb := hC.2.1
  have hml := hC.2.2.1
  have hown := hC.2.2.2.1
  have hts := hC.2.2.2.2
  have hl : lv_has ls 3 [(0, .ref w)] := hl
  refine lv_iconst (v := 0) hx hb dX5_kept_0 (by decide) ?_
  refine lv_istore_n (lv' := [(1, .int 0), (0, .ref w)]) hx hb dX5_kept_1 rfl hl (by decide) rfl (fun ls hl => ?_)
  refine lv_iconst (v := 0) hx hb dX5_kept_2 (by decide) ?_
  refine lv_istore_n (lv' := [(2, .int 0), (1, .int 0), (0, .ref w)]) hx hb dX5_kept_3 rfl hl (by decide) rfl (fun ls hl => ?_)
  refine lv_iload_n hx hb dX5_kept_4 rfl (lv_at hl 0 rfl) ?_
  refine lv_iconst (v := 4) hx hb dX5_kept_5 (by decide) ?_
  refine lv_icmp_ge (tgt := 31) hx hb dX5_kept_6 (by decide) (fun h => absurd h (by decide)) (fun _ => ?_)
  refine lv_iload_n hx hb dX5_kept_9 rfl (lv_at hl 1 rfl) ?_
  refine lv_aload_n hx hb dX5_kept_10 rfl (lv_at hl 2 rfl) ?_
  refine lv_iload_n hx hb dX5_kept_11 rfl (lv_at hl 0 rfl) ?_
  refine ro_V (As := [.int 0]) (rest := [.int 0]) hC hE kV_X5_35 (c_X5_has l D K w a fs hfs 0) hP 0 5 rfl rfl rfl hl.1 rfl (Nat.le_of_ble_eq_true rfl) (by decide) (by decide) dX5_kept_12 (fun r hq => ?_)
  subst hq
  refine lv_if_eq (tgt := 22) hx hb dX5_kept_15 (by decide) (fun _ => ?_) (fun h => absurd h (by decide))
  refine lv_iconst (v := 0) hx hb dX5_kept_22 (by decide) ?_
  refine lv_iadd hx hb dX5_kept_23 ?_
  refine tc (y := 0) (by decide) ?_
  refine lv_istore_n (lv' := [(1, .int 0), (2, .int 0), (0, .ref w)]) hx hb dX5_kept_24 rfl hl (by decide) rfl (fun ls hl => ?_)
  refine lv_iinc (v := 1) (lv' := [(2, .int 1), (1, .int 0), (0, .ref w)]) hx hb dX5_kept_25 hl (k := 1) rfl (by decide) (by decide) rfl (fun ls hl => ?_)
  refine lv_goto (tgt := 4) hx hb dX5_kept_28 (by decide) ?_
  refine lv_iload_n hx hb dX5_kept_4 rfl (lv_at hl 0 rfl) ?_
  refine lv_iconst (v := 4) hx hb dX5_kept_5 (by decide) ?_
  refine lv_icmp_ge (tgt := 31) hx hb dX5_kept_6 (by decide) (fun h => absurd h (by decide)) (fun _ => ?_)
  refine lv_iload_n hx hb dX5_kept_9 rfl (lv_at hl 1 rfl) ?_
  refine lv_aload_n hx hb dX5_kept_10 rfl (lv_at hl 2 rfl) ?_
  refine lv_iload_n hx hb dX5_kept_11 rfl (lv_at hl 0 rfl) ?_
  refine ro_V (As := [.int 1]) (rest := [.int 0]) hC hE kV_X5_35 (c_X5_has l D K w a fs hfs 1) hP 0 5 rfl rfl rfl hl.1 rfl (Nat.le_of_ble_eq_true rfl) (by decide) (by decide) dX5_kept_12 (fun r hq => ?_)
  subst hq
  refine lv_if_eq (tgt := 22) hx hb dX5_kept_15 (by decide) (fun _ => ?_) (fun h => absurd h (by decide))
  refine lv_iconst (v := 0) hx hb dX5_kept_22 (by decide) ?_
  refine lv_iadd hx hb dX5_kept_23 ?_
  refine tc (y := 0) (by decide) ?_
  refine lv_istore_n (lv' := [(1, .int 0), (2, .int 1), (0, .ref w)]) hx hb dX5_kept_24 rfl hl (by decide) rfl (fun ls hl => ?_)
  refine lv_iinc (v := 2) (lv' := [(2, .int 2), (1, .int 0), (0, .ref w)]) hx hb dX5_kept_25 hl (k := 1) rfl (by decide) (by decide) rfl (fun ls hl => ?_)
  refine lv_goto (tgt := 4) hx hb dX5_kept_28 (by decide) ?_
  refine lv_iload_n hx hb dX5_kept_4 rfl (lv_at hl 0 rfl) ?_
  refine lv_iconst (v := 4) hx hb dX5_kept_5 (by decide) ?_
  refine lv_icmp_ge (tgt := 31) hx hb dX5_kept_6 (by decide) (fun h => absurd h (by decide)) (fun _ => ?_)
  refine lv_iload_n hx hb dX5_kept_9 rfl (lv_at hl 1 rfl) ?_
  refine lv_aload_n hx hb dX5_kept_10 rfl (lv_at hl 2 rfl) ?_
  refine lv_iload_n hx hb dX5_kept_11 rfl (lv_at hl 0 rfl) ?_
  refine ro_V (As := [.int 2]) (rest := [.int 0]) hC hE kV_X5_35 (c_X5_has l D K w a fs hfs 2) hP 0 5 rfl rfl rfl hl.1 rfl (Nat.le_of_ble_eq_true rfl) (by decide) (by decide) dX5_kept_12 (fun r hq => ?_)
  subst hq
  refine lv_if_eq (tgt := 22) hx hb dX5_kept_15 (by decide) (fun _ => ?_) (fun h => absurd h (by decide))
  refine lv_iconst (v := 0) hx hb dX5_kept_22 (by decide) ?_
  refine lv_iadd hx hb dX5_kept_23 ?_
  refine tc (y := 0) (by decide) ?_
  refine lv_istore_n (lv' := [(1, .int 0), (2, .int 2), (0, .ref w)]) hx hb dX5_kept_24 rfl hl (by decide) rfl (fun ls hl => ?_)
  refine lv_iinc (v := 3) (lv' := [(2, .int 3), (1, .int 0), (0, .ref w)]) hx hb dX5_kept_25 hl (k := 1) rfl (by decide) (by decide) rfl (fun ls hl => ?_)
  refine lv_goto (tgt := 4) hx hb dX5_kept_28 (by decide) ?_
  refine lv_iload_n hx hb dX5_kept_4 rfl (lv_at hl 0 rfl) ?_
  refine lv_iconst (v := 4) hx hb dX5_kept_5 (by decide) ?_
  refine lv_icmp_ge (tgt := 31) hx hb dX5_kept_6 (by decide) (fun h => absurd h (by decide)) (fun _ => ?_)
  refine lv_iload_n hx hb dX5_kept_9 rfl (lv_at hl 1 rfl) ?_
  refine lv_aload_n hx hb dX5_kept_10 rfl (lv_at hl 2 rfl) ?_
  refine lv_iload_n hx hb dX5_kept_11 rfl (lv_at hl 0 rfl) ?_
  refine ro_V (As := [.int 3]) (rest := [.int 0]) hC hE kV_X5_35 (c_X5_has l D K w a fs hfs 3) hP 0 5 rfl rfl rfl hl.1 rfl (Nat.le_of_ble_eq_true rfl) (by decide) (by decide) dX5_kept_12 (fun r hq => ?_)
  subst hq
  refine lv_if_eq (tgt := 22) hx hb dX5_kept_15 (by decide) (fun _ => ?_) (fun h => absurd h (by decide))
  refine lv_iconst (v := 0) hx hb dX5_kept_22 (by decide) ?_
  refine lv_iadd hx hb dX5_kept_23 ?_
  refine tc (y := 0) (by decide) ?_
  refine lv_istore_n (lv' := [(1, .int 0), (2, .int 3), (0, .ref w)]) hx hb dX5_kept_24 rfl hl (by decide) rfl (fun ls hl => ?_)
  refine lv_iinc (v := 4) (lv' := [(2, .int 4), (1, .int 0), (0, .ref w)]) hx hb dX5_kept_25 hl (k := 1) rfl (by decide) (by decide) rfl (fun ls hl => ?_)
  refine lv_goto (tgt := 4) hx hb dX5_kept_28 (by decide) ?_
  refine lv_iload_n hx hb dX5_kept_4 rfl (lv_at hl 0 rfl) ?_
  refine lv_iconst (v := 4) hx hb dX5_kept_5 (by decide) ?_
  refine lv_icmp_ge (tgt := 31) hx hb dX5_kept_6 (by decide) (fun _ => ?_) (fun h => absurd h (by decide))
  refine lv_iload_n hx hb dX5_kept_31 rfl (lv_at hl 1 rfl) ?_
  exact ro_ret hC hr hk dX5_kept_32 rfl
set_option maxRecDepth 20000 in
theorem c_X11_arePlaces (l : Launch) (D : va_G) (K : Nat → ClassId) (x : Nat → Nat) (fs : Nat → Int32) (hfs : ∀ j, j < 4 → fs j = -1) (p0 : Int32) (p1 : Int32) : Ro l D K yX11_arePlaces cX11_arePlaces 3 (some .boolean) 1 21 [.ref (x 0), .int p0, .int p1] (fxL K x fs) (fun r => r = 0) := by
  refine ro_of (by decide) (Nat.le_of_ble_eq_true rfl) ?_
  intro p e s m below meth c hC hr hk hE hP ls hl
  have hC : CallFix p m c cX11_arePlaces 3 s [.ref (x 0), .int p0, .int p1].toArray wl RX11 := hC
  have hx := hC.1
  have hb := hC.2.1
  have hml := hC.2.2.1
  have hown := hC.2.2.2.1
  have hts := hC.2.2.2.2
  have hl : lv_has ls 3 [(0, .ref (x 0)), (1, .int p0), (2, .int p1)] := hl
  refine lv_aload_n hx hb dX11_arePlaces_0 rfl (lv_at hl 0 rfl) ?_
  refine va_get (D := D) (ci := 10) (v := .ref (x 2)) (C := RX11) (T := TX11) (N := 12) hx hb hts in_X11 hown hE.1 hP 0 rfl rfl 1 (by decide) (hts _ w_52) (fun _ h9 => h9) rfl dX11_arePlaces_1 ?_
  refine lv_iload_n hx hb dX11_arePlaces_4 rfl (lv_at hl 1 rfl) ?_
  refine ro_V (As := [.int p0]) (rest := []) hC hE kV_X11_126 (c_X10_hasPlace l D K (x 2) (fun k => x (10 + k)) p0) (hP.sub (ws' := [(x 2, .inr (9, [.ref (x 10), .ref (x 11), .ref (x 12), .ref (x 13), .ref (x 14), .ref (x 15), .ref (x 16), .ref (x 17), .int 0, .int 0, .int 0, .int 0]))]) [2] rfl) 0 9 rfl rfl rfl hl.1 rfl (Nat.le_of_ble_eq_true rfl) (by decide) (by decide) dX11_arePlaces_5 (fun r hq => ?_)
  subst hq
  refine lv_if_eq (tgt := 26) hx hb dX11_arePlaces_8 (by decide) (fun _ => ?_) (fun h => absurd h (by decide))
  refine lv_iconst (v := 0) hx hb dX11_arePlaces_26 (by decide) ?_
  exact ro_zret hC hr hk dX11_arePlaces_27 rfl rfl
set_option maxRecDepth 20000 in
theorem c_X11_stand (l : Launch) (D : va_G) (K : Nat → ClassId) (x : Nat → Nat) (fs : Nat → Int32) (hfs : ∀ j, j < 4 → fs j = -1) (p0 : Int32) : Ro l D K yX11_stand cX11_stand 2 (some .boolean) 1 21 [.ref (x 0), .int p0] (fxL K x fs) (fun r => r = 0) := by
  refine ro_of (by decide) (Nat.le_of_ble_eq_true rfl) ?_
  intro p e s m below meth c hC hr hk hE hP ls hl
  have hC : CallFix p m c cX11_stand 2 s [.ref (x 0), .int p0].toArray wl RX11 := hC
  have hx := hC.1
  have hb := hC.2.1
  have hml := hC.2.2.1
  have hown := hC.2.2.2.1
  have hts := hC.2.2.2.2
  have hl : lv_has ls 2 [(0, .ref (x 0)), (1, .int p0)] := hl
  refine lv_aload_n hx hb dX11_stand_0 rfl (lv_at hl 0 rfl) ?_
  refine va_get (D := D) (ci := 10) (v := .ref (x 2)) (C := RX11) (T := TX11) (N := 12) hx hb hts in_X11 hown hE.1 hP 0 rfl rfl 1 (by decide) (hts _ w_52) (fun _ h9 => h9) rfl dX11_stand_1 ?_
  refine lv_iload_n hx hb dX11_stand_4 rfl (lv_at hl 1 rfl) ?_
  refine ro_V (As := [.int p0]) (rest := []) hC hE kV_X11_334 (c_X10_hasPupil l D K (x 2) (fun k => x (10 + k)) p0) (hP.sub (ws' := [(x 2, .inr (9, [.ref (x 10), .ref (x 11), .ref (x 12), .ref (x 13), .ref (x 14), .ref (x 15), .ref (x 16), .ref (x 17), .int 0, .int 0, .int 0, .int 0]))]) [2] rfl) 0 9 rfl rfl rfl hl.1 rfl (Nat.le_of_ble_eq_true rfl) (by decide) (by decide) dX11_stand_5 (fun r hq => ?_)
  subst hq
  refine lv_if_ne (tgt := 13) hx hb dX11_stand_8 (by decide) (fun h => absurd h (by decide)) (fun _ => ?_)
  refine lv_iconst (v := 0) hx hb dX11_stand_11 (by decide) ?_
  exact ro_zret hC hr hk dX11_stand_12 rfl rfl
set_option maxRecDepth 20000 in
theorem c_X11_refuseWalk (l : Launch) (D : va_G) (K : Nat → ClassId) (x : Nat → Nat) (fs : Nat → Int32) (hfs : ∀ j, j < 4 → fs j = -1) (p0 : Int32) (p1 : Int32) : Ro l D K yX11_refuseWalk cX11_refuseWalk 4 (some .int) 2 42 [.ref (x 0), .int p0, .int p1] (fxL K x fs) (fun r => r = (-2)) := by
  refine ro_of (by decide) (Nat.le_of_ble_eq_true rfl) ?_
  intro p e s m below meth c hC hr hk hE hP ls hl
  have hC : CallFix p m c cX11_refuseWalk 4 s [.ref (x 0), .int p0, .int p1].toArray wl RX11 := hC
  have hx := hC.1
  have hb := hC.2.1
  have hml := hC.2.2.1
  have hown := hC.2.2.2.1
  have hts := hC.2.2.2.2
  have hl : lv_has ls 4 [(0, .ref (x 0)), (1, .int p0), (2, .int p1)] := hl
  refine lv_iload_n hx hb dX11_refuseWalk_0 rfl (lv_at hl 1 rfl) ?_
  refine ro_S (As := [.int p0]) (rest := []) hC hE kS_X11_352 (c_X11_isSlot l D K p0) (hP.sub (ws' := []) [] rfl) rfl hl.1 rfl (Nat.le_of_ble_eq_true rfl) (by decide) (by decide) dX11_refuseWalk_1 (fun r hq => ?_)
  rcases hq with ⟨h18, rfl⟩ | ⟨h19, rfl⟩
  · refine lv_if_eq (tgt := 15) hx hb dX11_refuseWalk_4 (by decide) (fun h => absurd h (by decide)) (fun _ => ?_)
    refine lv_aload_n hx hb dX11_refuseWalk_7 rfl (lv_at hl 0 rfl) ?_
    refine lv_iload_n hx hb dX11_refuseWalk_8 rfl (lv_at hl 2 rfl) ?_
    refine ro_V (As := [.int p1]) (rest := []) hC hE kV_X11_152 (c_X11_stand l D K x fs hfs p1) hP 0 10 rfl rfl rfl hl.1 rfl (Nat.le_of_ble_eq_true rfl) (by decide) (by decide) dX11_refuseWalk_9 (fun r hq => ?_)
    subst hq
    refine lv_if_ne (tgt := 18) hx hb dX11_refuseWalk_12 (by decide) (fun h => absurd h (by decide)) (fun _ => ?_)
    refine lv_bipush (v := (-2)) hx hb dX11_refuseWalk_15 (by decide) ?_
    exact ro_ret hC hr hk dX11_refuseWalk_17 rfl
  · refine lv_if_eq (tgt := 15) hx hb dX11_refuseWalk_4 (by decide) (fun _ => ?_) (fun h => absurd h (by decide))
    refine lv_bipush (v := (-2)) hx hb dX11_refuseWalk_15 (by decide) ?_
    exact ro_ret hC hr hk dX11_refuseWalk_17 rfl
set_option maxRecDepth 20000 in
theorem c_X11_refuseReading (l : Launch) (D : va_G) (K : Nat → ClassId) (x : Nat → Nat) (fs : Nat → Int32) (hfs : ∀ j, j < 4 → fs j = -1) (p0 : Int32) : Ro l D K yX11_refuseReading cX11_refuseReading 3 (some .int) 1 20 [.ref (x 0), .int p0] (fxL K x fs) (fun r => r = (-2)) := by
  refine ro_of (by decide) (Nat.le_of_ble_eq_true rfl) ?_
  intro p e s m below meth c hC hr hk hE hP ls hl
  have hC : CallFix p m c cX11_refuseReading 3 s [.ref (x 0), .int p0].toArray wl RX11 := hC
  have hx := hC.1
  have hb := hC.2.1
  have hml := hC.2.2.1
  have hown := hC.2.2.2.1
  have hts := hC.2.2.2.2
  have hl : lv_has ls 3 [(0, .ref (x 0)), (1, .int p0)] := hl
  refine lv_iload_n hx hb dX11_refuseReading_0 rfl (lv_at hl 1 rfl) ?_
  refine ro_S (As := [.int p0]) (rest := []) hC hE kS_X11_352 (c_X11_isSlot l D K p0) (hP.sub (ws' := []) [] rfl) rfl hl.1 rfl (Nat.le_of_ble_eq_true rfl) (by decide) (by decide) dX11_refuseReading_1 (fun r hq => ?_)
  rcases hq with ⟨h20, rfl⟩ | ⟨h21, rfl⟩
  · refine lv_if_eq (tgt := 17) hx hb dX11_refuseReading_4 (by decide) (fun h => absurd h (by decide)) (fun _ => ?_)
    refine lv_aload_n hx hb dX11_refuseReading_7 rfl (lv_at hl 0 rfl) ?_
    refine va_get (D := D) (ci := 10) (v := .ref (x 2)) (C := RX11) (T := TX11) (N := 12) hx hb hts in_X11 hown hE.1 hP 0 rfl rfl 1 (by decide) (hts _ w_52) (fun _ h9 => h9) rfl dX11_refuseReading_8 ?_
    refine ro_V (As := []) (rest := []) hC hE kV_X11_185 (c_X10_stands l D K (x 2) (fun k => x (10 + k))) (hP.sub (ws' := [(x 2, .inr (9, [.ref (x 10), .ref (x 11), .ref (x 12), .ref (x 13), .ref (x 14), .ref (x 15), .ref (x 16), .ref (x 17), .int 0, .int 0, .int 0, .int 0]))]) [2] rfl) 0 9 rfl rfl rfl hl.1 rfl (Nat.le_of_ble_eq_true rfl) (by decide) (by decide) dX11_refuseReading_11 (fun r hq => ?_)
    subst hq
    refine lv_if_ne (tgt := 20) hx hb dX11_refuseReading_14 (by decide) (fun h => absurd h (by decide)) (fun _ => ?_)
    refine lv_bipush (v := (-2)) hx hb dX11_refuseReading_17 (by decide) ?_
    exact ro_ret hC hr hk dX11_refuseReading_19 rfl
  · refine lv_if_eq (tgt := 17) hx hb dX11_refuseReading_4 (by decide) (fun _ => ?_) (fun h => absurd h (by decide))
    refine lv_bipush (v := (-2)) hx hb dX11_refuseReading_17 (by decide) ?_
    exact ro_ret hC hr hk dX11_refuseReading_19 rfl
set_option maxRecDepth 20000 in
theorem c_X11_seek (l : Launch) (D : va_G) (K : Nat → ClassId) (x : Nat → Nat) (fs : Nat → Int32) (hfs : ∀ j, j < 4 → fs j = -1) (p0 : Int32) (p1 : Int32) (p2 : Int32) : Ro l D K yX11_seek cX11_seek 4 (some .boolean) 2 42 [.ref (x 0), .int p0, .int p1, .int p2] (fxL K x fs) (fun r => r = 0) := by
  refine ro_of (by decide) (Nat.le_of_ble_eq_true rfl) ?_
  intro p e s m below meth c hC hr hk hE hP ls hl
  have hC : CallFix p m c cX11_seek 4 s [.ref (x 0), .int p0, .int p1, .int p2].toArray wl RX11 := hC
  have hx := hC.1
  have hb := hC.2.1
  have hml := hC.2.2.1
  have hown := hC.2.2.2.1
  have hts := hC.2.2.2.2
  have hl : lv_has ls 4 [(0, .ref (x 0)), (1, .int p0), (2, .int p1), (3, .int p2)] := hl
  refine lv_aload_n hx hb dX11_seek_0 rfl (lv_at hl 0 rfl) ?_
  refine lv_iload_n hx hb dX11_seek_1 rfl (lv_at hl 1 rfl) ?_
  refine ro_V (As := [.int p0]) (rest := []) hC hE kV_X11_152 (c_X11_stand l D K x fs hfs p0) hP 0 10 rfl rfl rfl hl.1 rfl (Nat.le_of_ble_eq_true rfl) (by decide) (by decide) dX11_seek_2 (fun r hq => ?_)
  subst hq
  refine lv_if_ne (tgt := 10) hx hb dX11_seek_5 (by decide) (fun h => absurd h (by decide)) (fun _ => ?_)
  refine lv_iconst (v := 0) hx hb dX11_seek_8 (by decide) ?_
  exact ro_zret hC hr hk dX11_seek_9 rfl rfl
set_option maxRecDepth 20000 in
theorem c_X11_leads (l : Launch) (D : va_G) (K : Nat → ClassId) (x : Nat → Nat) (fs : Nat → Int32) (hfs : ∀ j, j < 4 → fs j = -1) (p0 : Int32) (p1 : Int32) : Ro l D K yX11_leads cX11_leads 3 (some .int) 1 21 [.ref (x 0), .int p0, .int p1] (fxL K x fs) (fun r => r = (-2)) := by
  refine ro_of (by decide) (Nat.le_of_ble_eq_true rfl) ?_
  intro p e s m below meth c hC hr hk hE hP ls hl
  have hC : CallFix p m c cX11_leads 3 s [.ref (x 0), .int p0, .int p1].toArray wl RX11 := hC
  have hx := hC.1
  have hb := hC.2.1
  have hml := hC.2.2.1
  have hown := hC.2.2.2.1
  have hts := hC.2.2.2.2
  have hl : lv_has ls 3 [(0, .ref (x 0)), (1, .int p0), (2, .int p1)] := hl
  refine lv_aload_n hx hb dX11_leads_0 rfl (lv_at hl 0 rfl) ?_
  refine va_get (D := D) (ci := 10) (v := .ref (x 2)) (C := RX11) (T := TX11) (N := 12) hx hb hts in_X11 hown hE.1 hP 0 rfl rfl 1 (by decide) (hts _ w_52) (fun _ h9 => h9) rfl dX11_leads_1 ?_
  refine lv_iload_n hx hb dX11_leads_4 rfl (lv_at hl 1 rfl) ?_
  refine ro_V (As := [.int p0]) (rest := []) hC hE kV_X11_126 (c_X10_hasPlace l D K (x 2) (fun k => x (10 + k)) p0) (hP.sub (ws' := [(x 2, .inr (9, [.ref (x 10), .ref (x 11), .ref (x 12), .ref (x 13), .ref (x 14), .ref (x 15), .ref (x 16), .ref (x 17), .int 0, .int 0, .int 0, .int 0]))]) [2] rfl) 0 9 rfl rfl rfl hl.1 rfl (Nat.le_of_ble_eq_true rfl) (by decide) (by decide) dX11_leads_5 (fun r hq => ?_)
  subst hq
  refine lv_if_eq (tgt := 18) hx hb dX11_leads_8 (by decide) (fun _ => ?_) (fun h => absurd h (by decide))
  refine lv_bipush (v := (-2)) hx hb dX11_leads_18 (by decide) ?_
  exact ro_ret hC hr hk dX11_leads_20 rfl
set_option maxRecDepth 20000 in
theorem c_X11_mark (l : Launch) (D : va_G) (K : Nat → ClassId) (x : Nat → Nat) (fs : Nat → Int32) (hfs : ∀ j, j < 4 → fs j = -1) (p0 : Int32) : Ro l D K yX11_mark cX11_mark 2 (some .int) 1 21 [.ref (x 0), .int p0] (fxL K x fs) (fun r => r = (-2)) := by
  refine ro_of (by decide) (Nat.le_of_ble_eq_true rfl) ?_
  intro p e s m below meth c hC hr hk hE hP ls hl
  have hC : CallFix p m c cX11_mark 2 s [.ref (x 0), .int p0].toArray wl RX11 := hC
  have hx := hC.1
  have hb := hC.2.1
  have hml := hC.2.2.1
  have hown := hC.2.2.2.1
  have hts := hC.2.2.2.2
  have hl : lv_has ls 2 [(0, .ref (x 0)), (1, .int p0)] := hl
  refine lv_aload_n hx hb dX11_mark_0 rfl (lv_at hl 0 rfl) ?_
  refine va_get (D := D) (ci := 10) (v := .ref (x 2)) (C := RX11) (T := TX11) (N := 12) hx hb hts in_X11 hown hE.1 hP 0 rfl rfl 1 (by decide) (hts _ w_52) (fun _ h9 => h9) rfl dX11_mark_1 ?_
  refine lv_iload_n hx hb dX11_mark_4 rfl (lv_at hl 1 rfl) ?_
  refine ro_V (As := [.int p0]) (rest := []) hC hE kV_X11_126 (c_X10_hasPlace l D K (x 2) (fun k => x (10 + k)) p0) (hP.sub (ws' := [(x 2, .inr (9, [.ref (x 10), .ref (x 11), .ref (x 12), .ref (x 13), .ref (x 14), .ref (x 15), .ref (x 16), .ref (x 17), .int 0, .int 0, .int 0, .int 0]))]) [2] rfl) 0 9 rfl rfl rfl hl.1 rfl (Nat.le_of_ble_eq_true rfl) (by decide) (by decide) dX11_mark_5 (fun r hq => ?_)
  subst hq
  refine lv_if_eq (tgt := 22) hx hb dX11_mark_8 (by decide) (fun _ => ?_) (fun h => absurd h (by decide))
  refine lv_bipush (v := (-2)) hx hb dX11_mark_22 (by decide) ?_
  exact ro_ret hC hr hk dX11_mark_24 rfl
set_option maxRecDepth 20000 in
theorem c_X11_becomes (l : Launch) (D : va_G) (K : Nat → ClassId) (x : Nat → Nat) (fs : Nat → Int32) (hfs : ∀ j, j < 4 → fs j = -1) (p0 : Int32) (p1 : Int32) : Ro l D K yX11_becomes cX11_becomes 3 (some .int) 2 41 [.ref (x 0), .int p0, .int p1] (fxL K x fs) (fun r => r = (-2)) := by
  refine ro_of (by decide) (Nat.le_of_ble_eq_true rfl) ?_
  intro p e s m below meth c hC hr hk hE hP ls hl
  have hC : CallFix p m c cX11_becomes 3 s [.ref (x 0), .int p0, .int p1].toArray wl RX11 := hC
  have hx := hC.1
  have hb := hC.2.1
  have hml := hC.2.2.1
  have hown := hC.2.2.2.1
  have hts := hC.2.2.2.2
  have hl : lv_has ls 3 [(0, .ref (x 0)), (1, .int p0), (2, .int p1)] := hl
  refine lv_aload_n hx hb dX11_becomes_0 rfl (lv_at hl 0 rfl) ?_
  refine va_get (D := D) (ci := 10) (v := .ref (x 2)) (C := RX11) (T := TX11) (N := 12) hx hb hts in_X11 hown hE.1 hP 0 rfl rfl 1 (by decide) (hts _ w_52) (fun _ h9 => h9) rfl dX11_becomes_1 ?_
  refine lv_iload_n hx hb dX11_becomes_4 rfl (lv_at hl 1 rfl) ?_
  refine ro_V (As := [.int p0]) (rest := []) hC hE kV_X11_140 (c_X10_hasSet l D K (x 2) (fun k => x (10 + k)) p0) (hP.sub (ws' := [(x 2, .inr (9, [.ref (x 10), .ref (x 11), .ref (x 12), .ref (x 13), .ref (x 14), .ref (x 15), .ref (x 16), .ref (x 17), .int 0, .int 0, .int 0, .int 0]))]) [2] rfl) 0 9 rfl rfl rfl hl.1 rfl (Nat.le_of_ble_eq_true rfl) (by decide) (by decide) dX11_becomes_5 (fun r hq => ?_)
  subst hq
  refine lv_if_eq (tgt := 18) hx hb dX11_becomes_8 (by decide) (fun _ => ?_) (fun h => absurd h (by decide))
  refine lv_bipush (v := (-2)) hx hb dX11_becomes_18 (by decide) ?_
  exact ro_ret hC hr hk dX11_becomes_20 rfl
set_option maxRecDepth 20000 in
theorem c_X11_seen (l : Launch) (D : va_G) (K : Nat → ClassId) (x : Nat → Nat) (fs : Nat → Int32) (hfs : ∀ j, j < 4 → fs j = -1) (p0 : Int32) (p1 : Int32) : Ro l D K yX11_seen cX11_seen 3 (some .int) 2 41 [.ref (x 0), .int p0, .int p1] (fxL K x fs) (fun r => r = (-2)) := by
  refine ro_of (by decide) (Nat.le_of_ble_eq_true rfl) ?_
  intro p e s m below meth c hC hr hk hE hP ls hl
  have hC : CallFix p m c cX11_seen 3 s [.ref (x 0), .int p0, .int p1].toArray wl RX11 := hC
  have hx := hC.1
  have hb := hC.2.1
  have hml := hC.2.2.1
  have hown := hC.2.2.2.1
  have hts := hC.2.2.2.2
  have hl : lv_has ls 3 [(0, .ref (x 0)), (1, .int p0), (2, .int p1)] := hl
  refine lv_aload_n hx hb dX11_seen_0 rfl (lv_at hl 0 rfl) ?_
  refine va_get (D := D) (ci := 10) (v := .ref (x 2)) (C := RX11) (T := TX11) (N := 12) hx hb hts in_X11 hown hE.1 hP 0 rfl rfl 1 (by decide) (hts _ w_52) (fun _ h9 => h9) rfl dX11_seen_1 ?_
  refine lv_iload_n hx hb dX11_seen_4 rfl (lv_at hl 1 rfl) ?_
  refine ro_V (As := [.int p0]) (rest := []) hC hE kV_X11_140 (c_X10_hasSet l D K (x 2) (fun k => x (10 + k)) p0) (hP.sub (ws' := [(x 2, .inr (9, [.ref (x 10), .ref (x 11), .ref (x 12), .ref (x 13), .ref (x 14), .ref (x 15), .ref (x 16), .ref (x 17), .int 0, .int 0, .int 0, .int 0]))]) [2] rfl) 0 9 rfl rfl rfl hl.1 rfl (Nat.le_of_ble_eq_true rfl) (by decide) (by decide) dX11_seen_5 (fun r hq => ?_)
  subst hq
  refine lv_if_eq (tgt := 18) hx hb dX11_seen_8 (by decide) (fun _ => ?_) (fun h => absurd h (by decide))
  refine lv_bipush (v := (-2)) hx hb dX11_seen_18 (by decide) ?_
  exact ro_ret hC hr hk dX11_seen_20 rfl
set_option maxRecDepth 20000 in
theorem c_X11_where (l : Launch) (D : va_G) (K : Nat → ClassId) (x : Nat → Nat) (fs : Nat → Int32) (hfs : ∀ j, j < 4 → fs j = -1) (p0 : Int32) : Ro l D K yX11_where cX11_where 2 (some .int) 2 42 [.ref (x 0), .int p0] (fxL K x fs) (fun r => r = (-2)) := by
  refine ro_of (by decide) (Nat.le_of_ble_eq_true rfl) ?_
  intro p e s m below meth c hC hr hk hE hP ls hl
  have hC : CallFix p m c cX11_where 2 s [.ref (x 0), .int p0].toArray wl RX11 := hC
  have hx := hC.1
  have hb := hC.2.1
  have hml := hC.2.2.1
  have hown := hC.2.2.2.1
  have hts := hC.2.2.2.2
  have hl : lv_has ls 2 [(0, .ref (x 0)), (1, .int p0)] := hl
  refine lv_aload_n hx hb dX11_where_0 rfl (lv_at hl 0 rfl) ?_
  refine lv_iload_n hx hb dX11_where_1 rfl (lv_at hl 1 rfl) ?_
  refine ro_V (As := [.int p0]) (rest := []) hC hE kV_X11_152 (c_X11_stand l D K x fs hfs p0) hP 0 10 rfl rfl rfl hl.1 rfl (Nat.le_of_ble_eq_true rfl) (by decide) (by decide) dX11_where_2 (fun r hq => ?_)
  subst hq
  refine lv_if_eq (tgt := 18) hx hb dX11_where_5 (by decide) (fun _ => ?_) (fun h => absurd h (by decide))
  refine lv_bipush (v := (-2)) hx hb dX11_where_18 (by decide) ?_
  exact ro_ret hC hr hk dX11_where_20 rfl
set_option maxRecDepth 20000 in
theorem c_X11_thinks (l : Launch) (D : va_G) (K : Nat → ClassId) (x : Nat → Nat) (fs : Nat → Int32) (hfs : ∀ j, j < 4 → fs j = -1) (p0 : Int32) : Ro l D K yX11_thinks cX11_thinks 2 (some .int) 2 42 [.ref (x 0), .int p0] (fxL K x fs) (fun r => r = (-2)) := by
  refine ro_of (by decide) (Nat.le_of_ble_eq_true rfl) ?_
  intro p e s m below meth c hC hr hk hE hP ls hl
  have hC : CallFix p m c cX11_thinks 2 s [.ref (x 0), .int p0].toArray wl RX11 := hC
  have hx := hC.1
  have hb := hC.2.1
  have hml := hC.2.2.1
  have hown := hC.2.2.2.1
  have hts := hC.2.2.2.2
  have hl : lv_has ls 2 [(0, .ref (x 0)), (1, .int p0)] := hl
  refine lv_aload_n hx hb dX11_thinks_0 rfl (lv_at hl 0 rfl) ?_
  refine lv_iload_n hx hb dX11_thinks_1 rfl (lv_at hl 1 rfl) ?_
  refine ro_V (As := [.int p0]) (rest := []) hC hE kV_X11_152 (c_X11_stand l D K x fs hfs p0) hP 0 10 rfl rfl rfl hl.1 rfl (Nat.le_of_ble_eq_true rfl) (by decide) (by decide) dX11_thinks_2 (fun r hq => ?_)
  subst hq
  refine lv_if_eq (tgt := 18) hx hb dX11_thinks_5 (by decide) (fun _ => ?_) (fun h => absurd h (by decide))
  refine lv_bipush (v := (-2)) hx hb dX11_thinks_18 (by decide) ?_
  exact ro_ret hC hr hk dX11_thinks_20 rfl
set_option maxRecDepth 20000 in
theorem c_X11_pupil (l : Launch) (D : va_G) (K : Nat → ClassId) (x : Nat → Nat) (fs : Nat → Int32) (hfs : ∀ j, j < 4 → fs j = -1) (p0 : Int32) (p1 : Int32) : Ro l D K yX11_pupil cX11_pupil 3 (some .int) 2 42 [.ref (x 0), .int p0, .int p1] (fxL K x fs) (fun r => r = (-2)) := by
  refine ro_of (by decide) (Nat.le_of_ble_eq_true rfl) ?_
  intro p e s m below meth c hC hr hk hE hP ls hl
  have hC : CallFix p m c cX11_pupil 3 s [.ref (x 0), .int p0, .int p1].toArray wl RX11 := hC
  have hx := hC.1
  have hb := hC.2.1
  have hml := hC.2.2.1
  have hown := hC.2.2.2.1
  have hts := hC.2.2.2.2
  have hl : lv_has ls 3 [(0, .ref (x 0)), (1, .int p0), (2, .int p1)] := hl
  refine lv_aload_n hx hb dX11_pupil_0 rfl (lv_at hl 0 rfl) ?_
  refine lv_iload_n hx hb dX11_pupil_1 rfl (lv_at hl 1 rfl) ?_
  refine ro_V (As := [.int p0]) (rest := []) hC hE kV_X11_152 (c_X11_stand l D K x fs hfs p0) hP 0 10 rfl rfl rfl hl.1 rfl (Nat.le_of_ble_eq_true rfl) (by decide) (by decide) dX11_pupil_2 (fun r hq => ?_)
  subst hq
  refine lv_if_ne (tgt := 11) hx hb dX11_pupil_5 (by decide) (fun h => absurd h (by decide)) (fun _ => ?_)
  refine lv_bipush (v := (-2)) hx hb dX11_pupil_8 (by decide) ?_
  exact ro_ret hC hr hk dX11_pupil_10 rfl
set_option maxRecDepth 20000 in
theorem c_X11_goes (l : Launch) (D : va_G) (K : Nat → ClassId) (x : Nat → Nat) (fs : Nat → Int32) (hfs : ∀ j, j < 4 → fs j = -1) (p0 : Int32) (p1 : Int32) : Ro l D K yX11_goes cX11_goes 3 (some .int) 2 42 [.ref (x 0), .int p0, .int p1] (fxL K x fs) (fun r => r = (-2)) := by
  refine ro_of (by decide) (Nat.le_of_ble_eq_true rfl) ?_
  intro p e s m below meth c hC hr hk hE hP ls hl
  have hC : CallFix p m c cX11_goes 3 s [.ref (x 0), .int p0, .int p1].toArray wl RX11 := hC
  have hx := hC.1
  have hb := hC.2.1
  have hml := hC.2.2.1
  have hown := hC.2.2.2.1
  have hts := hC.2.2.2.2
  have hl : lv_has ls 3 [(0, .ref (x 0)), (1, .int p0), (2, .int p1)] := hl
  refine lv_iload_n hx hb dX11_goes_0 rfl (lv_at hl 2 rfl) ?_
  refine ro_S (As := [.int p1]) (rest := []) hC hE kS_X11_129 (c_X11_isWind l D K p1) (hP.sub (ws' := []) [] rfl) rfl hl.1 rfl (Nat.le_of_ble_eq_true rfl) (by decide) (by decide) dX11_goes_1 (fun r22 _ => ?_)
  refine lv_if_eq (tgt := 15) hx hb dX11_goes_4 (by decide) (fun c23 => ?_) (fun c23 => ?_)
  · refine lv_bipush (v := (-2)) hx hb dX11_goes_15 (by decide) ?_
    exact ro_ret hC hr hk dX11_goes_17 rfl
  · refine lv_aload_n hx hb dX11_goes_7 rfl (lv_at hl 0 rfl) ?_
    refine lv_iload_n hx hb dX11_goes_8 rfl (lv_at hl 1 rfl) ?_
    refine ro_V (As := [.int p0]) (rest := []) hC hE kV_X11_152 (c_X11_stand l D K x fs hfs p0) hP 0 10 rfl rfl rfl hl.1 rfl (Nat.le_of_ble_eq_true rfl) (by decide) (by decide) dX11_goes_9 (fun r hq => ?_)
    subst hq
    refine lv_if_ne (tgt := 18) hx hb dX11_goes_12 (by decide) (fun h => absurd h (by decide)) (fun _ => ?_)
    refine lv_bipush (v := (-2)) hx hb dX11_goes_15 (by decide) ?_
    exact ro_ret hC hr hk dX11_goes_17 rfl
set_option maxRecDepth 20000 in
theorem c_X11_most (l : Launch) (D : va_G) (K : Nat → ClassId) (x : Nat → Nat) (fs : Nat → Int32) (hfs : ∀ j, j < 4 → fs j = -1) : Ro l D K yX11_most cX11_most 5 (some .int) 1 20 [.ref (x 0)] (fxL K x fs) (fun r => r = (-2)) := by
  refine ro_of (by decide) (Nat.le_of_ble_eq_true rfl) ?_
  intro p e s m below meth c hC hr hk hE hP ls hl
  have hC : CallFix p m c cX11_most 5 s [.ref (x 0)].toArray wl RX11 := hC
  have hx := hC.1
  have hb := hC.2.1
  have hml := hC.2.2.1
  have hown := hC.2.2.2.1
  have hts := hC.2.2.2.2
  have hl : lv_has ls 5 [(0, .ref (x 0))] := hl
  refine lv_aload_n hx hb dX11_most_0 rfl (lv_at hl 0 rfl) ?_
  refine va_get (D := D) (ci := 10) (v := .ref (x 2)) (C := RX11) (T := TX11) (N := 12) hx hb hts in_X11 hown hE.1 hP 0 rfl rfl 1 (by decide) (hts _ w_52) (fun _ h9 => h9) rfl dX11_most_1 ?_
  refine ro_V (As := []) (rest := []) hC hE kV_X11_185 (c_X10_stands l D K (x 2) (fun k => x (10 + k))) (hP.sub (ws' := [(x 2, .inr (9, [.ref (x 10), .ref (x 11), .ref (x 12), .ref (x 13), .ref (x 14), .ref (x 15), .ref (x 16), .ref (x 17), .int 0, .int 0, .int 0, .int 0]))]) [2] rfl) 0 9 rfl rfl rfl hl.1 rfl (Nat.le_of_ble_eq_true rfl) (by decide) (by decide) dX11_most_4 (fun r hq => ?_)
  subst hq
  refine lv_if_ne (tgt := 13) hx hb dX11_most_7 (by decide) (fun h => absurd h (by decide)) (fun _ => ?_)
  refine lv_bipush (v := (-2)) hx hb dX11_most_10 (by decide) ?_
  exact ro_ret hC hr hk dX11_most_12 rfl
set_option maxRecDepth 20000 in
theorem c_X11_who (l : Launch) (D : va_G) (K : Nat → ClassId) (x : Nat → Nat) (fs : Nat → Int32) (hfs : ∀ j, j < 4 → fs j = -1) (p0 : Int32) : Ro l D K yX11_who cX11_who 4 (some .int) 1 20 [.ref (x 0), .int p0] (fxL K x fs) (fun r => r = (-2)) := by
  refine ro_of (by decide) (Nat.le_of_ble_eq_true rfl) ?_
  intro p e s m below meth c hC hr hk hE hP ls hl
  have hC : CallFix p m c cX11_who 4 s [.ref (x 0), .int p0].toArray wl RX11 := hC
  have hx := hC.1
  have hb := hC.2.1
  have hml := hC.2.2.1
  have hown := hC.2.2.2.1
  have hts := hC.2.2.2.2
  have hl : lv_has ls 4 [(0, .ref (x 0)), (1, .int p0)] := hl
  refine lv_aload_n hx hb dX11_who_0 rfl (lv_at hl 0 rfl) ?_
  refine va_get (D := D) (ci := 10) (v := .ref (x 2)) (C := RX11) (T := TX11) (N := 12) hx hb hts in_X11 hown hE.1 hP 0 rfl rfl 1 (by decide) (hts _ w_52) (fun _ h9 => h9) rfl dX11_who_1 ?_
  refine ro_V (As := []) (rest := []) hC hE kV_X11_185 (c_X10_stands l D K (x 2) (fun k => x (10 + k))) (hP.sub (ws' := [(x 2, .inr (9, [.ref (x 10), .ref (x 11), .ref (x 12), .ref (x 13), .ref (x 14), .ref (x 15), .ref (x 16), .ref (x 17), .int 0, .int 0, .int 0, .int 0]))]) [2] rfl) 0 9 rfl rfl rfl hl.1 rfl (Nat.le_of_ble_eq_true rfl) (by decide) (by decide) dX11_who_4 (fun r hq => ?_)
  subst hq
  refine lv_if_eq (tgt := 19) hx hb dX11_who_7 (by decide) (fun _ => ?_) (fun h => absurd h (by decide))
  refine lv_bipush (v := (-2)) hx hb dX11_who_19 (by decide) ?_
  exact ro_ret hC hr hk dX11_who_21 rfl
set_option maxRecDepth 20000 in
theorem c_X11_undo (l : Launch) (D : va_G) (K : Nat → ClassId) (x : Nat → Nat) (fs : Nat → Int32) (hfs : ∀ j, j < 4 → fs j = -1) : Ro l D K yX11_undo cX11_undo 1 (some .int) 1 20 [.ref (x 0)] (fxL K x fs) (fun r => r = (-2)) := by
  refine ro_of (by decide) (Nat.le_of_ble_eq_true rfl) ?_
  intro p e s m below meth c hC hr hk hE hP ls hl
  have hC : CallFix p m c cX11_undo 1 s [.ref (x 0)].toArray wl RX11 := hC
  have hx := hC.1
  have hb := hC.2.1
  have hml := hC.2.2.1
  have hown := hC.2.2.2.1
  have hts := hC.2.2.2.2
  have hl : lv_has ls 1 [(0, .ref (x 0))] := hl
  refine lv_aload_n hx hb dX11_undo_0 rfl (lv_at hl 0 rfl) ?_
  refine va_get (D := D) (ci := 10) (v := .ref (x 2)) (C := RX11) (T := TX11) (N := 12) hx hb hts in_X11 hown hE.1 hP 0 rfl rfl 1 (by decide) (hts _ w_52) (fun _ h9 => h9) rfl dX11_undo_1 ?_
  refine ro_V (As := []) (rest := []) hC hE kV_X11_185 (c_X10_stands l D K (x 2) (fun k => x (10 + k))) (hP.sub (ws' := [(x 2, .inr (9, [.ref (x 10), .ref (x 11), .ref (x 12), .ref (x 13), .ref (x 14), .ref (x 15), .ref (x 16), .ref (x 17), .int 0, .int 0, .int 0, .int 0]))]) [2] rfl) 0 9 rfl rfl rfl hl.1 rfl (Nat.le_of_ble_eq_true rfl) (by decide) (by decide) dX11_undo_4 (fun r hq => ?_)
  subst hq
  refine lv_if_ne (tgt := 13) hx hb dX11_undo_7 (by decide) (fun h => absurd h (by decide)) (fun _ => ?_)
  refine lv_bipush (v := (-2)) hx hb dX11_undo_10 (by decide) ?_
  exact ro_ret hC hr hk dX11_undo_12 rfl
set_option maxRecDepth 20000 in
theorem c_X11_anew (l : Launch) (D : va_G) (K : Nat → ClassId) (x : Nat → Nat) (fs : Nat → Int32) (hfs : ∀ j, j < 4 → fs j = -1) : Ro l D K yX11_anew cX11_anew 2 (some .int) 1 20 [.ref (x 0)] (fxL K x fs) (fun r => r = (-2)) := by
  refine ro_of (by decide) (Nat.le_of_ble_eq_true rfl) ?_
  intro p e s m below meth c hC hr hk hE hP ls hl
  have hC : CallFix p m c cX11_anew 2 s [.ref (x 0)].toArray wl RX11 := hC
  have hx := hC.1
  have hb := hC.2.1
  have hml := hC.2.2.1
  have hown := hC.2.2.2.1
  have hts := hC.2.2.2.2
  have hl : lv_has ls 2 [(0, .ref (x 0))] := hl
  refine lv_aload_n hx hb dX11_anew_0 rfl (lv_at hl 0 rfl) ?_
  refine va_get (D := D) (ci := 10) (v := .ref (x 2)) (C := RX11) (T := TX11) (N := 12) hx hb hts in_X11 hown hE.1 hP 0 rfl rfl 1 (by decide) (hts _ w_52) (fun _ h9 => h9) rfl dX11_anew_1 ?_
  refine ro_V (As := []) (rest := []) hC hE kV_X11_185 (c_X10_stands l D K (x 2) (fun k => x (10 + k))) (hP.sub (ws' := [(x 2, .inr (9, [.ref (x 10), .ref (x 11), .ref (x 12), .ref (x 13), .ref (x 14), .ref (x 15), .ref (x 16), .ref (x 17), .int 0, .int 0, .int 0, .int 0]))]) [2] rfl) 0 9 rfl rfl rfl hl.1 rfl (Nat.le_of_ble_eq_true rfl) (by decide) (by decide) dX11_anew_4 (fun r hq => ?_)
  subst hq
  refine lv_if_ne (tgt := 13) hx hb dX11_anew_7 (by decide) (fun h => absurd h (by decide)) (fun _ => ?_)
  refine lv_bipush (v := (-2)) hx hb dX11_anew_10 (by decide) ?_
  exact ro_ret hC hr hk dX11_anew_12 rfl
set_option maxRecDepth 20000 in
theorem c_X11_would (l : Launch) (D : va_G) (K : Nat → ClassId) (x : Nat → Nat) (fs : Nat → Int32) (hfs : ∀ j, j < 4 → fs j = -1) (p0 : Int32) (p1 : Int32) : Ro l D K yX11_would cX11_would 4 (some .int) 3 65 [.ref (x 0), .int p0, .int p1] (fxL K x fs) (fun r => r = (-2)) := by
  refine ro_of (by decide) (Nat.le_of_ble_eq_true rfl) ?_
  intro p e s m below meth c hC hr hk hE hP ls hl
  have hC : CallFix p m c cX11_would 4 s [.ref (x 0), .int p0, .int p1].toArray wl RX11 := hC
  have hx := hC.1
  have hb := hC.2.1
  have hml := hC.2.2.1
  have hown := hC.2.2.2.1
  have hts := hC.2.2.2.2
  have hl : lv_has ls 4 [(0, .ref (x 0)), (1, .int p0), (2, .int p1)] := hl
  refine lv_aload_n hx hb dX11_would_0 rfl (lv_at hl 0 rfl) ?_
  refine lv_iload_n hx hb dX11_would_1 rfl (lv_at hl 1 rfl) ?_
  refine lv_iload_n hx hb dX11_would_2 rfl (lv_at hl 2 rfl) ?_
  refine ro_V (As := [.int p0, .int p1]) (rest := []) hC hE kV_X11_191 (c_X11_refuseWalk l D K x fs hfs p0 p1) hP 0 10 rfl rfl rfl hl.1 rfl (Nat.le_of_ble_eq_true rfl) (by decide) (by decide) dX11_would_3 (fun r hq => ?_)
  subst hq
  refine lv_istore_n (lv' := [(3, .int (-2)), (0, .ref (x 0)), (1, .int p0), (2, .int p1)]) hx hb dX11_would_6 rfl hl (by decide) rfl (fun ls hl => ?_)
  refine lv_iload_n hx hb dX11_would_7 rfl (lv_at hl 0 rfl) ?_
  refine lv_if_eq (tgt := 13) hx hb dX11_would_8 (by decide) (fun h => absurd h (by decide)) (fun _ => ?_)
  refine lv_iload_n hx hb dX11_would_11 rfl (lv_at hl 0 rfl) ?_
  exact ro_ret hC hr hk dX11_would_12 rfl
set_option maxRecDepth 20000 in
theorem c_X11_think (l : Launch) (D : va_G) (K : Nat → ClassId) (x : Nat → Nat) (fs : Nat → Int32) (hfs : ∀ j, j < 4 → fs j = -1) (p0 : Int32) (p1 : Int32) : Ro l D K yX11_think cX11_think 4 (some .int) 3 65 [.ref (x 0), .int p0, .int p1] (fxL K x fs) (fun r => r = (-2)) := by
  refine ro_of (by decide) (Nat.le_of_ble_eq_true rfl) ?_
  intro p e s m below meth c hC hr hk hE hP ls hl
  have hC : CallFix p m c cX11_think 4 s [.ref (x 0), .int p0, .int p1].toArray wl RX11 := hC
  have hx := hC.1
  have hb := hC.2.1
  have hml := hC.2.2.1
  have hown := hC.2.2.2.1
  have hts := hC.2.2.2.2
  have hl : lv_has ls 4 [(0, .ref (x 0)), (1, .int p0), (2, .int p1)] := hl
  refine lv_aload_n hx hb dX11_think_0 rfl (lv_at hl 0 rfl) ?_
  refine lv_iload_n hx hb dX11_think_1 rfl (lv_at hl 1 rfl) ?_
  refine lv_iload_n hx hb dX11_think_2 rfl (lv_at hl 2 rfl) ?_
  refine ro_V (As := [.int p0, .int p1]) (rest := []) hC hE kV_X11_191 (c_X11_refuseWalk l D K x fs hfs p0 p1) hP 0 10 rfl rfl rfl hl.1 rfl (Nat.le_of_ble_eq_true rfl) (by decide) (by decide) dX11_think_3 (fun r hq => ?_)
  subst hq
  refine lv_istore_n (lv' := [(3, .int (-2)), (0, .ref (x 0)), (1, .int p0), (2, .int p1)]) hx hb dX11_think_6 rfl hl (by decide) rfl (fun ls hl => ?_)
  refine lv_iload_n hx hb dX11_think_7 rfl (lv_at hl 0 rfl) ?_
  refine lv_if_eq (tgt := 13) hx hb dX11_think_8 (by decide) (fun h => absurd h (by decide)) (fun _ => ?_)
  refine lv_iload_n hx hb dX11_think_11 rfl (lv_at hl 0 rfl) ?_
  exact ro_ret hC hr hk dX11_think_12 rfl
set_option maxRecDepth 20000 in
theorem c_X11_knows (l : Launch) (D : va_G) (K : Nat → ClassId) (x : Nat → Nat) (fs : Nat → Int32) (hfs : ∀ j, j < 4 → fs j = -1) (p0 : Int32) (p1 : Int32) : Ro l D K yX11_knows cX11_knows 4 (some .int) 3 65 [.ref (x 0), .int p0, .int p1] (fxL K x fs) (fun r => r = (-2)) := by
  refine ro_of (by decide) (Nat.le_of_ble_eq_true rfl) ?_
  intro p e s m below meth c hC hr hk hE hP ls hl
  have hC : CallFix p m c cX11_knows 4 s [.ref (x 0), .int p0, .int p1].toArray wl RX11 := hC
  have hx := hC.1
  have hb := hC.2.1
  have hml := hC.2.2.1
  have hown := hC.2.2.2.1
  have hts := hC.2.2.2.2
  have hl : lv_has ls 4 [(0, .ref (x 0)), (1, .int p0), (2, .int p1)] := hl
  refine lv_aload_n hx hb dX11_knows_0 rfl (lv_at hl 0 rfl) ?_
  refine lv_iload_n hx hb dX11_knows_1 rfl (lv_at hl 1 rfl) ?_
  refine lv_iload_n hx hb dX11_knows_2 rfl (lv_at hl 2 rfl) ?_
  refine ro_V (As := [.int p0, .int p1]) (rest := []) hC hE kV_X11_191 (c_X11_refuseWalk l D K x fs hfs p0 p1) hP 0 10 rfl rfl rfl hl.1 rfl (Nat.le_of_ble_eq_true rfl) (by decide) (by decide) dX11_knows_3 (fun r hq => ?_)
  subst hq
  refine lv_istore_n (lv' := [(3, .int (-2)), (0, .ref (x 0)), (1, .int p0), (2, .int p1)]) hx hb dX11_knows_6 rfl hl (by decide) rfl (fun ls hl => ?_)
  refine lv_iload_n hx hb dX11_knows_7 rfl (lv_at hl 0 rfl) ?_
  refine lv_if_eq (tgt := 15) hx hb dX11_knows_8 (by decide) (fun h => absurd h (by decide)) (fun _ => ?_)
  refine lv_iload_n hx hb dX11_knows_11 rfl (lv_at hl 0 rfl) ?_
  refine lv_goto (tgt := 21) hx hb dX11_knows_12 (by decide) ?_
  exact ro_ret hC hr hk dX11_knows_21 rfl
set_option maxRecDepth 20000 in
theorem c_X11_loses (l : Launch) (D : va_G) (K : Nat → ClassId) (x : Nat → Nat) (fs : Nat → Int32) (hfs : ∀ j, j < 4 → fs j = -1) (p0 : Int32) (p1 : Int32) : Ro l D K yX11_loses cX11_loses 4 (some .int) 3 65 [.ref (x 0), .int p0, .int p1] (fxL K x fs) (fun r => r = (-2)) := by
  refine ro_of (by decide) (Nat.le_of_ble_eq_true rfl) ?_
  intro p e s m below meth c hC hr hk hE hP ls hl
  have hC : CallFix p m c cX11_loses 4 s [.ref (x 0), .int p0, .int p1].toArray wl RX11 := hC
  have hx := hC.1
  have hb := hC.2.1
  have hml := hC.2.2.1
  have hown := hC.2.2.2.1
  have hts := hC.2.2.2.2
  have hl : lv_has ls 4 [(0, .ref (x 0)), (1, .int p0), (2, .int p1)] := hl
  refine lv_aload_n hx hb dX11_loses_0 rfl (lv_at hl 0 rfl) ?_
  refine lv_iload_n hx hb dX11_loses_1 rfl (lv_at hl 1 rfl) ?_
  refine lv_iload_n hx hb dX11_loses_2 rfl (lv_at hl 2 rfl) ?_
  refine ro_V (As := [.int p0, .int p1]) (rest := []) hC hE kV_X11_191 (c_X11_refuseWalk l D K x fs hfs p0 p1) hP 0 10 rfl rfl rfl hl.1 rfl (Nat.le_of_ble_eq_true rfl) (by decide) (by decide) dX11_loses_3 (fun r hq => ?_)
  subst hq
  refine lv_istore_n (lv' := [(3, .int (-2)), (0, .ref (x 0)), (1, .int p0), (2, .int p1)]) hx hb dX11_loses_6 rfl hl (by decide) rfl (fun ls hl => ?_)
  refine lv_iload_n hx hb dX11_loses_7 rfl (lv_at hl 0 rfl) ?_
  refine lv_if_eq (tgt := 15) hx hb dX11_loses_8 (by decide) (fun h => absurd h (by decide)) (fun _ => ?_)
  refine lv_iload_n hx hb dX11_loses_11 rfl (lv_at hl 0 rfl) ?_
  refine lv_goto (tgt := 21) hx hb dX11_loses_12 (by decide) ?_
  exact ro_ret hC hr hk dX11_loses_21 rfl
set_option maxRecDepth 20000 in
theorem c_X11_doubts (l : Launch) (D : va_G) (K : Nat → ClassId) (x : Nat → Nat) (fs : Nat → Int32) (hfs : ∀ j, j < 4 → fs j = -1) (p0 : Int32) (p1 : Int32) : Ro l D K yX11_doubts cX11_doubts 6 (some .int) 3 65 [.ref (x 0), .int p0, .int p1] (fxL K x fs) (fun r => r = (-2)) := by
  refine ro_of (by decide) (Nat.le_of_ble_eq_true rfl) ?_
  intro p e s m below meth c hC hr hk hE hP ls hl
  have hC : CallFix p m c cX11_doubts 6 s [.ref (x 0), .int p0, .int p1].toArray wl RX11 := hC
  have hx := hC.1
  have hb := hC.2.1
  have hml := hC.2.2.1
  have hown := hC.2.2.2.1
  have hts := hC.2.2.2.2
  have hl : lv_has ls 6 [(0, .ref (x 0)), (1, .int p0), (2, .int p1)] := hl
  refine lv_aload_n hx hb dX11_doubts_0 rfl (lv_at hl 0 rfl) ?_
  refine lv_iload_n hx hb dX11_doubts_1 rfl (lv_at hl 1 rfl) ?_
  refine lv_iload_n hx hb dX11_doubts_2 rfl (lv_at hl 2 rfl) ?_
  refine ro_V (As := [.int p0, .int p1]) (rest := []) hC hE kV_X11_191 (c_X11_refuseWalk l D K x fs hfs p0 p1) hP 0 10 rfl rfl rfl hl.1 rfl (Nat.le_of_ble_eq_true rfl) (by decide) (by decide) dX11_doubts_3 (fun r hq => ?_)
  subst hq
  refine lv_istore_n (lv' := [(3, .int (-2)), (0, .ref (x 0)), (1, .int p0), (2, .int p1)]) hx hb dX11_doubts_6 rfl hl (by decide) rfl (fun ls hl => ?_)
  refine lv_iload_n hx hb dX11_doubts_7 rfl (lv_at hl 0 rfl) ?_
  refine lv_if_eq (tgt := 13) hx hb dX11_doubts_8 (by decide) (fun h => absurd h (by decide)) (fun _ => ?_)
  refine lv_iload_n hx hb dX11_doubts_11 rfl (lv_at hl 0 rfl) ?_
  exact ro_ret hC hr hk dX11_doubts_12 rfl
set_option maxRecDepth 20000 in
theorem c_X11_blur (l : Launch) (D : va_G) (K : Nat → ClassId) (x : Nat → Nat) (fs : Nat → Int32) (hfs : ∀ j, j < 4 → fs j = -1) (p0 : Int32) (p1 : Int32) : Ro l D K yX11_blur cX11_blur 3 (some .int) 3 65 [.ref (x 0), .int p0, .int p1] (fxL K x fs) (fun r => r = (-2)) := by
  refine ro_of (by decide) (Nat.le_of_ble_eq_true rfl) ?_
  intro p e s m below meth c hC hr hk hE hP ls hl
  have hC : CallFix p m c cX11_blur 3 s [.ref (x 0), .int p0, .int p1].toArray wl RX11 := hC
  have hx := hC.1
  have hb := hC.2.1
  have hml := hC.2.2.1
  have hown := hC.2.2.2.1
  have hts := hC.2.2.2.2
  have hl : lv_has ls 3 [(0, .ref (x 0)), (1, .int p0), (2, .int p1)] := hl
  refine lv_iload_n hx hb dX11_blur_0 rfl (lv_at hl 2 rfl) ?_
  refine lv_iconst (v := 1) hx hb dX11_blur_1 (by decide) ?_
  refine lv_icmp_lt (tgt := 25) hx hb dX11_blur_2 (by decide) (fun c24 => ?_) (fun c24 => ?_)
  · refine lv_bipush (v := (-2)) hx hb dX11_blur_25 (by decide) ?_
    exact ro_ret hC hr hk dX11_blur_27 rfl
  · refine lv_aload_n hx hb dX11_blur_5 rfl (lv_at hl 0 rfl) ?_
    refine lv_iload_n hx hb dX11_blur_6 rfl (lv_at hl 1 rfl) ?_
    refine lv_iconst (v := 1) hx hb dX11_blur_7 (by decide) ?_
    refine lv_iload_n hx hb dX11_blur_8 rfl (lv_at hl 2 rfl) ?_
    refine ro_V (As := [.int p0, .int 1, .int p1]) (rest := []) hC hE kV_X11_212 (c_X11_seek l D K x fs hfs p0 1 p1) hP 0 10 rfl rfl rfl hl.1 rfl (Nat.le_of_ble_eq_true rfl) (by decide) (by decide) dX11_blur_9 (fun r hq => ?_)
    subst hq
    refine lv_if_eq (tgt := 25) hx hb dX11_blur_12 (by decide) (fun _ => ?_) (fun h => absurd h (by decide))
    refine lv_bipush (v := (-2)) hx hb dX11_blur_25 (by decide) ?_
    exact ro_ret hC hr hk dX11_blur_27 rfl
set_option maxRecDepth 20000 in
theorem c_X11_blurs (l : Launch) (D : va_G) (K : Nat → ClassId) (x : Nat → Nat) (fs : Nat → Int32) (hfs : ∀ j, j < 4 → fs j = -1) (p0 : Int32) (p1 : Int32) (p2 : Int32) : Ro l D K yX11_blurs cX11_blurs 4 (some .int) 3 65 [.ref (x 0), .int p0, .int p1, .int p2] (fxL K x fs) (fun r => r = (-2)) := by
  refine ro_of (by decide) (Nat.le_of_ble_eq_true rfl) ?_
  intro p e s m below meth c hC hr hk hE hP ls hl
  have hC : CallFix p m c cX11_blurs 4 s [.ref (x 0), .int p0, .int p1, .int p2].toArray wl RX11 := hC
  have hx := hC.1
  have hb := hC.2.1
  have hml := hC.2.2.1
  have hown := hC.2.2.2.1
  have hts := hC.2.2.2.2
  have hl : lv_has ls 4 [(0, .ref (x 0)), (1, .int p0), (2, .int p1), (3, .int p2)] := hl
  refine lv_iload_n hx hb dX11_blurs_0 rfl (lv_at hl 2 rfl) ?_
  refine lv_iconst (v := 1) hx hb dX11_blurs_1 (by decide) ?_
  refine lv_icmp_lt (tgt := 26) hx hb dX11_blurs_2 (by decide) (fun c25 => ?_) (fun c25 => ?_)
  · refine lv_bipush (v := (-2)) hx hb dX11_blurs_26 (by decide) ?_
    exact ro_ret hC hr hk dX11_blurs_28 rfl
  · refine lv_aload_n hx hb dX11_blurs_5 rfl (lv_at hl 0 rfl) ?_
    refine lv_iload_n hx hb dX11_blurs_6 rfl (lv_at hl 1 rfl) ?_
    refine lv_iconst (v := 1) hx hb dX11_blurs_7 (by decide) ?_
    refine lv_iload_n hx hb dX11_blurs_8 rfl (lv_at hl 2 rfl) ?_
    refine ro_V (As := [.int p0, .int 1, .int p1]) (rest := []) hC hE kV_X11_212 (c_X11_seek l D K x fs hfs p0 1 p1) hP 0 10 rfl rfl rfl hl.1 rfl (Nat.le_of_ble_eq_true rfl) (by decide) (by decide) dX11_blurs_9 (fun r hq => ?_)
    subst hq
    refine lv_if_eq (tgt := 26) hx hb dX11_blurs_12 (by decide) (fun _ => ?_) (fun h => absurd h (by decide))
    refine lv_bipush (v := (-2)) hx hb dX11_blurs_26 (by decide) ?_
    exact ro_ret hC hr hk dX11_blurs_28 rfl
