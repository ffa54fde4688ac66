set_option maxRecDepth 40000 in
set_option maxHeartbeats 4000000 in
theorem c_X12_in (l : Launch) (D : va_G) (K : Nat → ClassId) (p0 : Int64) (p1 : Int64) (p2 : Int64) : Ro l D K yX12_in cX12_in 6 (some .boolean) 0 0 [.long p0, .long p1, .long p2] [] (fun r => (r = 0 ∧ (p0.toInt < p1.toInt ∨ p2.toInt < p0.toInt)) ∨ (r = 1 ∧ (p1.toInt ≤ p0.toInt) ∧ (p0.toInt ≤ p2.toInt))) := by
  refine ro_of (by decide) (Nat.le_of_ble_eq_true rfl) ?_
  intro p e s m below meth c hC hr hk hE hP ls hl
  replace hC : CallFix p m c cX12_in 6 s [.long p0, .long p1, .long p2].toArray wl RX12 := hC
  have hx := hC.1
  have hb := hC.2.1
  have hml := hC.2.2.1
  have hown := hC.2.2.2.1
  have hts := hC.2.2.2.2
  replace hl : lv_has ls 6 [(0, .long p0), (2, .long p1), (4, .long p2)] := hl
  refine lv_lload_n hx hb dX12_in_0 rfl (lv_at hl 0 rfl) ?_
  refine lv_lload_n hx hb dX12_in_1 rfl (lv_at hl 1 rfl) ?_
  refine W.lcmp hx hb dX12_in_2 ?_
  refine lv_topi (fun v4964 ev4964 => ?_)
  refine lv_if_lt (tgt := 17) hx hb dX12_in_3 (by decide) (fun c4965 => ?_) (fun c4965 => ?_)
  · replace c4965 := lc_lt ev4964 c4965
    refine lv_iconst (v := 0) hx hb dX12_in_17 (by decide) ?_
    exact ro_zret hC hr hk dX12_in_18 rfl (Or.inl ⟨rfl, (by omega)⟩)
  · replace c4965 := lc_nlt ev4964 c4965
    refine lv_lload_n hx hb dX12_in_6 rfl (lv_at hl 0 rfl) ?_
    refine lv_lload hx hb dX12_in_7 (lv_at hl 2 rfl) ?_
    refine W.lcmp hx hb dX12_in_9 ?_
    refine lv_topi (fun v4966 ev4966 => ?_)
    refine lv_if_gt (tgt := 17) hx hb dX12_in_10 (by decide) (fun c4967 => ?_) (fun c4967 => ?_)
    · replace c4967 := lc_gt ev4966 c4967
      refine lv_iconst (v := 0) hx hb dX12_in_17 (by decide) ?_
      exact ro_zret hC hr hk dX12_in_18 rfl (Or.inl ⟨rfl, (by omega)⟩)
    · replace c4967 := lc_ngt ev4966 c4967
      refine lv_iconst (v := 1) hx hb dX12_in_13 (by decide) ?_
      refine lv_goto (tgt := 18) hx hb dX12_in_14 (by decide) ?_
      exact ro_zret hC hr hk dX12_in_18 rfl (Or.inr ⟨rfl, (by omega), (by omega)⟩)
set_option maxRecDepth 40000 in
set_option maxHeartbeats 4000000 in
theorem c_X12_bits (l : Launch) (D : va_G) (K : Nat → ClassId) (p0 : Int32) : Ro l D K yX12_bits cX12_bits 3 (some .int) 0 0 [.int p0] [] (fun _ => True) := by
  refine ro_of (by decide) (Nat.le_of_ble_eq_true rfl) ?_
  intro p e s m below meth c hC hr hk hE hP ls hl
  replace hC : CallFix p m c cX12_bits 3 s [.int p0].toArray wl RX12 := hC
  have hx := hC.1
  have hb := hC.2.1
  have hml := hC.2.2.1
  have hown := hC.2.2.2.1
  have hts := hC.2.2.2.2
  replace hl : lv_has ls 3 [(0, .int p0)] := hl
  have kc_0 : (0 : Int32).toInt = 0 := by decide
  have kc_1 : (1 : Int32).toInt = 1 := by decide
  have kc_10 : (10 : Int32).toInt = 10 := by decide
  refine lv_iconst (v := 0) hx hb dX12_bits_0 (by decide) ?_
  refine lv_istore_n (lv' := [(1, .int 0), (0, .int p0)]) hx hb dX12_bits_1 rfl hl (by decide) rfl (fun ls hl => ?_)
  refine lv_iconst (v := 0) hx hb dX12_bits_2 (by decide) ?_
  refine lv_istore_n (lv' := [(2, .int 0), (1, .int 0), (0, .int p0)]) hx hb dX12_bits_3 rfl hl (by decide) rfl (fun ls hl => ?_)
  have hl' := hl; clear hl
  obtain ⟨i4975, i4976, hi_4, hl⟩ : ∃ (i4975 : Int32) (i4976 : Int32), ((0 : Int) ≤ i4975.toInt) ∧ lv_has ls 3 [(2, .int i4975), (1, .int i4976), (0, .int p0)] := ⟨_, _, by omega, hl'⟩
  clear hl'
  obtain ⟨n_4, hn_4⟩ : ∃ n : Nat, (10 - i4975.toInt).toNat < n := ⟨_, Nat.lt_succ_self _⟩
  induction n_4 generalizing i4975 i4976 ls with
  | zero => exact absurd hn_4 (Nat.not_lt_zero _)
  | succ n_4 ih_4 =>
    refine lv_iload_n hx hb dX12_bits_4 rfl (lv_at hl 0 rfl) ?_
    refine lv_bipush (v := 10) hx hb dX12_bits_5 (by decide) ?_
    refine lv_icmp_ge (tgt := 24) hx hb dX12_bits_7 (by decide) (fun c4977 => ?_) (fun c4977 => ?_)
    · replace c4977 := le_i c4977
      refine lv_iload_n hx hb dX12_bits_24 rfl (lv_at hl 1 rfl) ?_
      exact ro_ret hC hr hk dX12_bits_25 trivial
    · replace c4977 := nle_i c4977
      refine lv_iload_n hx hb dX12_bits_10 rfl (lv_at hl 1 rfl) ?_
      refine lv_iload_n hx hb dX12_bits_11 rfl (lv_at hl 2 rfl) ?_
      refine lv_iload_n hx hb dX12_bits_12 rfl (lv_at hl 0 rfl) ?_
      refine lv_ishr hx hb dX12_bits_13 ?_
      refine lv_topi (fun v4978 ev4978 => ?_)
      refine lv_iconst (v := 1) hx hb dX12_bits_14 (by decide) ?_
      refine lv_iand hx hb dX12_bits_15 ?_
      refine lv_topi (fun v4979 ev4979 => ?_)
      refine lv_iadd hx hb dX12_bits_16 ?_
      refine lv_topi (fun v4980 ev4980 => ?_)
      refine lv_istore_n (lv' := [(1, .int v4980), (2, .int i4975), (0, .int p0)]) hx hb dX12_bits_17 rfl hl (by decide) rfl (fun ls hl => ?_)
      obtain ⟨v4981, ev4981⟩ : ∃ z : Int32, z = i4975 + 1 := ⟨_, rfl⟩
      refine lv_iinc (v := v4981) (lv' := [(2, .int v4981), (1, .int v4980), (0, .int p0)]) hx hb dX12_bits_18 hl (k := 1) rfl (by rw [ev4981]; rfl) (by decide) rfl (fun ls hl => ?_)
      refine lv_goto (tgt := 4) hx hb dX12_bits_21 (by decide) ?_
      have tv4981 : v4981.toInt = (i4975 : Int32).toInt + (1 : Int32).toInt := add_i ev4981 (by omega) (by omega)
      exact ih_4 (i4975 := v4981) (i4976 := v4980) (hi_4 := by omega) (ls := ls) (hn_4 := by omega) (hl := lv_sub hl [0, 1, 2] rfl)
set_option maxRecDepth 40000 in
set_option maxHeartbeats 4000000 in
theorem c_X12_bit (l : Launch) (D : va_G) (K : Nat → ClassId) (p0 : Int32) (p1 : Int32) : Ro l D K yX12_bit cX12_bit 2 (some .int) 0 0 [.int p0, .int p1] [] (fun r => ((0 ≤ r.toInt) ∧ (r.toInt ≤ 1) ∧ (r = btF p0 p1))) := by
  refine ro_of (by decide) (Nat.le_of_ble_eq_true rfl) ?_
  intro p e s m below meth c hC hr hk hE hP ls hl
  replace hC : CallFix p m c cX12_bit 2 s [.int p0, .int p1].toArray wl RX12 := hC
  have hx := hC.1
  have hb := hC.2.1
  have hml := hC.2.2.1
  have hown := hC.2.2.2.1
  have hts := hC.2.2.2.2
  replace hl : lv_has ls 2 [(0, .int p0), (1, .int p1)] := hl
  have kc_1 : (1 : Int32).toInt = 1 := by decide
  refine lv_iload_n hx hb dX12_bit_0 rfl (lv_at hl 0 rfl) ?_
  refine lv_iload_n hx hb dX12_bit_1 rfl (lv_at hl 1 rfl) ?_
  refine lv_ishr hx hb dX12_bit_2 ?_
  refine lv_topi (fun v4982 ev4982 => ?_)
  refine lv_iconst (v := 1) hx hb dX12_bit_3 (by decide) ?_
  refine lv_iand hx hb dX12_bit_4 ?_
  refine lv_topi (fun v4983 ev4983 => ?_)
  have tv4983 : 0 ≤ v4983.toInt ∧ v4983.toInt ≤ 1 := and_i2 ev4983 (by decide) (by decide)
  exact ro_ret hC hr hk dX12_bit_5 ⟨(by omega), (by omega), (by rw [ev4983, ev4982]; rfl)⟩
set_option maxRecDepth 40000 in
set_option maxHeartbeats 4000000 in
theorem c_X12_isWind (l : Launch) (D : va_G) (K : Nat → ClassId) (p0 : Int64) : Ro l D K yX12_isWind cX12_isWind 2 (some .boolean) 1 25 [.long p0] [] (fun r => (r = 0 ∧ (p0.toInt < 0 ∨ 3 < p0.toInt)) ∨ (r = 1 ∧ (0 ≤ p0.toInt) ∧ (p0.toInt ≤ 3))) := by
  refine ro_of (by decide) (Nat.le_of_ble_eq_true rfl) ?_
  intro p e s m below meth c hC hr hk hE hP ls hl
  replace hC : CallFix p m c cX12_isWind 2 s [.long p0].toArray wl RX12 := hC
  have hx := hC.1
  have hb := hC.2.1
  have hml := hC.2.2.1
  have hown := hC.2.2.2.1
  have hts := hC.2.2.2.2
  replace hl : lv_has ls 2 [(0, .long p0)] := hl
  have kl_0 : (0 : Int64).toInt = 0 := by decide
  have kl_3 : (3 : Int64).toInt = 3 := by decide
  refine lv_lload_n hx hb dX12_isWind_0 rfl (lv_at hl 0 rfl) ?_
  refine lv_lconst (v := 0) hx hb dX12_isWind_1 (by decide) ?_
  refine lv_ldc2 (v := 3) hx hb hown (hts _ w_763) dX12_isWind_2 ?_
  refine ro_S (As := [.long p0, .long 0, .long 3]) (rest := []) hC hE kS_X12_115 (c_X12_in l D K p0 0 3) (hP.sub (ws' := []) [] rfl) rfl hl.1 rfl (Nat.le_of_ble_eq_true rfl) (by decide) (by decide) dX12_isWind_5 (fun r4987 hq => ?_)
  rcases hq with ⟨rfl, h4984⟩ | ⟨rfl, h4985, h4986⟩
  · exact ro_zret hC hr hk dX12_isWind_8 rfl (Or.inl ⟨rfl, (by omega)⟩)
  · exact ro_zret hC hr hk dX12_isWind_8 rfl (Or.inr ⟨rfl, (by omega), (by omega)⟩)
set_option maxRecDepth 40000 in
set_option maxHeartbeats 4000000 in
theorem c_X12_isSlot (l : Launch) (D : va_G) (K : Nat → ClassId) (p0 : Int32) : Ro l D K yX12_isSlot cX12_isSlot 1 (some .boolean) 1 25 [.int p0] [] (fun r => (r = 0 ∧ (p0.toInt < 0 ∨ 3 < p0.toInt)) ∨ (r = 1 ∧ (0 ≤ p0.toInt) ∧ (p0.toInt ≤ 3))) := by
  refine ro_of (by decide) (Nat.le_of_ble_eq_true rfl) ?_
  intro p e s m below meth c hC hr hk hE hP ls hl
  replace hC : CallFix p m c cX12_isSlot 1 s [.int p0].toArray wl RX12 := hC
  have hx := hC.1
  have hb := hC.2.1
  have hml := hC.2.2.1
  have hown := hC.2.2.2.1
  have hts := hC.2.2.2.2
  replace hl : lv_has ls 1 [(0, .int p0)] := hl
  have kl_0 : (0 : Int64).toInt = 0 := by decide
  have kl_3 : (3 : Int64).toInt = 3 := by decide
  refine lv_iload_n hx hb dX12_isSlot_0 rfl (lv_at hl 0 rfl) ?_
  refine lv_i2l hx hb dX12_isSlot_1 rfl ?_
  refine lv_topl (fun v4988 ev4988 => ?_)
  refine lv_lconst (v := 0) hx hb dX12_isSlot_2 (by decide) ?_
  refine lv_ldc2 (v := 3) hx hb hown (hts _ w_763) dX12_isSlot_3 ?_
  have tv4988 : v4988.toInt = (p0 : Int32).toInt := i2l_i ev4988
  refine ro_S (As := [.long v4988, .long 0, .long 3]) (rest := []) hC hE kS_X12_115 (c_X12_in l D K v4988 0 3) (hP.sub (ws' := []) [] rfl) rfl hl.1 rfl (Nat.le_of_ble_eq_true rfl) (by decide) (by decide) dX12_isSlot_6 (fun r4992 hq => ?_)
  rcases hq with ⟨rfl, h4989⟩ | ⟨rfl, h4990, h4991⟩
  · exact ro_zret hC hr hk dX12_isSlot_9 rfl (Or.inl ⟨rfl, (by omega)⟩)
  · exact ro_zret hC hr hk dX12_isSlot_9 rfl (Or.inr ⟨rfl, (by omega), (by omega)⟩)
set_option maxRecDepth 40000 in
set_option maxHeartbeats 4000000 in
theorem c_X12_isWood (l : Launch) (D : va_G) (K : Nat → ClassId) (md : Nat) (ma1 : Nat) (ma2 : Nat) (ma3 : Nat) (ma4 : Nat) (ma6 : Nat) (ma14 : Nat) (ma21 : Nat) (ma22 : Nat) (ma23 : Nat) (ma24 : Nat) (ma26 : Nat) (ma27 : Nat) (ma28 : Nat) (ma29 : Nat) (ma30 : Nat) (ma31 : Nat) (ma32 : Nat) (ma33 : Nat) (ma34 : Nat) (ma35 : Nat) (ma36 : Nat) (ma40 : Nat) (ma41 : Nat) (ma42 : Nat) (ma45 : Nat) (ma46 : Nat) (ma47 : Nat) (ma49 : Nat) (ma50 : Nat) (ma51 : Nat) (ma52 : Nat) (mn0 : Int32) (mn5 : Int32) (mn7 : Int32) (mn8 : Int32) (mn9 : Int32) (mn10 : Int32) (mn11 : Int32) (mn12 : Int32) (mn13 : Int32) (mn15 : Int32) (mn16 : Int32) (mn17 : Int32) (mn18 : Int32) (mn19 : Int32) (mn20 : Int32) (mn25 : Int32) (mn37 : Int32) (mn38 : Int32) (mn39 : Int32) (mn43 : Int32) (mn44 : Int32) (mn48 : Int32) (mf1 : Nat → Int32) (hs1_0 : GW mf1) : Ro l D K yX12_isWood cX12_isWood 1 (some .boolean) 0 0 [.ref md] [(md, .inr (11, [.int mn0, .ref ma1, .ref ma2, .ref ma3, .ref ma4, .int mn5, .ref ma6, .int mn7, .int mn8, .int mn9, .int mn10, .int mn11, .int mn12, .int mn13, .ref ma14, .int mn15, .int mn16, .int mn17, .int mn18, .int mn19, .int mn20, .ref ma21, .ref ma22, .ref ma23, .ref ma24, .int mn25, .ref ma26, .ref ma27, .ref ma28, .ref ma29, .ref ma30, .ref ma31, .ref ma32, .ref ma33, .ref ma34, .ref ma35, .ref ma36, .int mn37, .int mn38, .int mn39, .ref ma40, .ref ma41, .ref ma42, .int mn43, .int mn44, .ref ma45, .ref ma46, .ref ma47, .int mn48, .ref ma49, .ref ma50, .ref ma51, .ref ma52])), (ma1, .inl (K 1, 262, .inl mf1))] (fun r => (r = 0) ∨ (r = 1)) := by
  refine ro_of (by decide) (Nat.le_of_ble_eq_true rfl) ?_
  intro p e s m below meth c hC hr hk hE hP ls hl
  replace hC : CallFix p m c cX12_isWood 1 s [.ref md].toArray wl RX12 := hC
  have hx := hC.1
  have hb := hC.2.1
  have hml := hC.2.2.1
  have hown := hC.2.2.2.1
  have hts := hC.2.2.2.2
  replace hl : lv_has ls 1 [(0, .ref md)] := hl
  have kc_0 : (0 : Int32).toInt = 0 := by decide
  have hW0 := gwn_0 hs1_0; have hW1 := gwn_1 hs1_0; have hW2 := gwn_2 hs1_0; have hW4 := gwn_4 hs1_0
  refine lv_aload_n hx hb dX12_isWood_0 rfl (lv_at hl 0 rfl) ?_
  refine va_get (D := D) (ci := 11) (v := .ref ma1) (C := RX12) (T := TX12) (N := 53) hx hb hts in_X12 hown hE.1 hP 0 rfl rfl 1 (by decide) (hts _ w_821) (fun _ h9 => h9) rfl dX12_isWood_1 ?_
  refine lv_iconst (v := 3) hx hb dX12_isWood_4 (by decide) ?_
  refine va_iald hx hb hE.1 hP 1 1 rfl rfl (in_c (by decide)) dX12_isWood_5 ?_
  refine lv_topi (fun v4993 ev4993 => ?_)
  have zv4993 : v4993.toInt = (mf1 3).toInt := by rw [ev4993]; rfl
  refine lv_if_le (tgt := 13) hx hb dX12_isWood_6 (by decide) (fun c4994 => ?_) (fun c4994 => ?_)
  · replace c4994 := le_i c4994
    refine lv_iconst (v := 0) hx hb dX12_isWood_13 (by decide) ?_
    exact ro_zret hC hr hk dX12_isWood_14 rfl (Or.inl rfl)
  · replace c4994 := nle_i c4994
    refine lv_iconst (v := 1) hx hb dX12_isWood_9 (by decide) ?_
    refine lv_goto (tgt := 14) hx hb dX12_isWood_10 (by decide) ?_
    exact ro_zret hC hr hk dX12_isWood_14 rfl (Or.inr rfl)
set_option maxRecDepth 40000 in
set_option maxHeartbeats 4000000 in
theorem c_X12_isPlace (l : Launch) (D : va_G) (K : Nat → ClassId) (md : Nat) (ma1 : Nat) (ma2 : Nat) (ma3 : Nat) (ma4 : Nat) (ma6 : Nat) (ma14 : Nat) (ma21 : Nat) (ma22 : Nat) (ma23 : Nat) (ma24 : Nat) (ma26 : Nat) (ma27 : Nat) (ma28 : Nat) (ma29 : Nat) (ma30 : Nat) (ma31 : Nat) (ma32 : Nat) (ma33 : Nat) (ma34 : Nat) (ma35 : Nat) (ma36 : Nat) (ma40 : Nat) (ma41 : Nat) (ma42 : Nat) (ma45 : Nat) (ma46 : Nat) (ma47 : Nat) (ma49 : Nat) (ma50 : Nat) (ma51 : Nat) (ma52 : Nat) (mn0 : Int32) (mn5 : Int32) (mn7 : Int32) (mn8 : Int32) (mn9 : Int32) (mn10 : Int32) (mn11 : Int32) (mn12 : Int32) (mn13 : Int32) (mn15 : Int32) (mn16 : Int32) (mn17 : Int32) (mn18 : Int32) (mn19 : Int32) (mn20 : Int32) (mn25 : Int32) (mn37 : Int32) (mn38 : Int32) (mn39 : Int32) (mn43 : Int32) (mn44 : Int32) (mn48 : Int32) (mf1 : Nat → Int32) (p0 : Int64) (hs1_0 : GW mf1) : Ro l D K yX12_isPlace cX12_isPlace 3 (some .boolean) 1 25 [.ref md, .long p0] [(md, .inr (11, [.int mn0, .ref ma1, .ref ma2, .ref ma3, .ref ma4, .int mn5, .ref ma6, .int mn7, .int mn8, .int mn9, .int mn10, .int mn11, .int mn12, .int mn13, .ref ma14, .int mn15, .int mn16, .int mn17, .int mn18, .int mn19, .int mn20, .ref ma21, .ref ma22, .ref ma23, .ref ma24, .int mn25, .ref ma26, .ref ma27, .ref ma28, .ref ma29, .ref ma30, .ref ma31, .ref ma32, .ref ma33, .ref ma34, .ref ma35, .ref ma36, .int mn37, .int mn38, .int mn39, .ref ma40, .ref ma41, .ref ma42, .int mn43, .int mn44, .ref ma45, .ref ma46, .ref ma47, .int mn48, .ref ma49, .ref ma50, .ref ma51, .ref ma52])), (ma1, .inl (K 1, 262, .inl mf1))] (fun r => (r = 0 ∧ (p0.toInt < 0 ∨ (mf1 0).toInt ≤ p0.toInt)) ∨ (r = 1 ∧ (0 ≤ p0.toInt) ∧ (p0.toInt < (mf1 0).toInt) ∧ ((mf1 0).toInt ≤ 10))) := by
  refine ro_of (by decide) (Nat.le_of_ble_eq_true rfl) ?_
  intro p e s m below meth c hC hr hk hE hP ls hl
  replace hC : CallFix p m c cX12_isPlace 3 s [.ref md, .long p0].toArray wl RX12 := hC
  have hx := hC.1
  have hb := hC.2.1
  have hml := hC.2.2.1
  have hown := hC.2.2.2.1
  have hts := hC.2.2.2.2
  replace hl : lv_has ls 3 [(0, .ref md), (1, .long p0)] := hl
  have kc_1 : (1 : Int32).toInt = 1 := by decide
  have kl_0 : (0 : Int64).toInt = 0 := by decide
  have hW0 := gwn_0 hs1_0; have hW1 := gwn_1 hs1_0; have hW2 := gwn_2 hs1_0; have hW4 := gwn_4 hs1_0
  refine lv_lload_n hx hb dX12_isPlace_0 rfl (lv_at hl 1 rfl) ?_
  refine lv_lconst (v := 0) hx hb dX12_isPlace_1 (by decide) ?_
  refine lv_aload_n hx hb dX12_isPlace_2 rfl (lv_at hl 0 rfl) ?_
  refine va_get (D := D) (ci := 11) (v := .ref ma1) (C := RX12) (T := TX12) (N := 53) hx hb hts in_X12 hown hE.1 hP 0 rfl rfl 1 (by decide) (hts _ w_821) (fun _ h9 => h9) rfl dX12_isPlace_3 ?_
  refine lv_iconst (v := 0) hx hb dX12_isPlace_6 (by decide) ?_
  refine va_iald hx hb hE.1 hP 1 1 rfl rfl (in_c (by decide)) dX12_isPlace_7 ?_
  refine lv_topi (fun v4995 ev4995 => ?_)
  have tv4995 := gw_0 hs1_0 ev4995
  have zv4995 : v4995.toInt = (mf1 0).toInt := by rw [ev4995]; rfl
  refine lv_iconst (v := 1) hx hb dX12_isPlace_8 (by decide) ?_
  refine lv_isub hx hb dX12_isPlace_9 ?_
  refine lv_topi (fun v4996 ev4996 => ?_)
  refine lv_i2l hx hb dX12_isPlace_10 rfl ?_
  refine lv_topl (fun v4997 ev4997 => ?_)
  have tv4996 : v4996.toInt = (v4995 : Int32).toInt - (1 : Int32).toInt := sub_i ev4996 (by omega) (by omega)
  have tv4997 : v4997.toInt = (v4996 : Int32).toInt := i2l_i ev4997
  refine ro_S (As := [.long p0, .long 0, .long v4997]) (rest := []) hC hE kS_X12_115 (c_X12_in l D K p0 0 v4997) (hP.sub (ws' := []) [] rfl) rfl hl.1 rfl (Nat.le_of_ble_eq_true rfl) (by decide) (by decide) dX12_isPlace_11 (fun r5001 hq => ?_)
  rcases hq with ⟨rfl, h4998⟩ | ⟨rfl, h4999, h5000⟩
  · exact ro_zret hC hr hk dX12_isPlace_14 rfl (Or.inl ⟨rfl, (by omega)⟩)
  · exact ro_zret hC hr hk dX12_isPlace_14 rfl (Or.inr ⟨rfl, (by omega), (by omega), (by omega)⟩)
set_option maxRecDepth 40000 in
set_option maxHeartbeats 4000000 in
theorem c_X12_areTwo (l : Launch) (D : va_G) (K : Nat → ClassId) (md : Nat) (ma1 : Nat) (ma2 : Nat) (ma3 : Nat) (ma4 : Nat) (ma6 : Nat) (ma14 : Nat) (ma21 : Nat) (ma22 : Nat) (ma23 : Nat) (ma24 : Nat) (ma26 : Nat) (ma27 : Nat) (ma28 : Nat) (ma29 : Nat) (ma30 : Nat) (ma31 : Nat) (ma32 : Nat) (ma33 : Nat) (ma34 : Nat) (ma35 : Nat) (ma36 : Nat) (ma40 : Nat) (ma41 : Nat) (ma42 : Nat) (ma45 : Nat) (ma46 : Nat) (ma47 : Nat) (ma49 : Nat) (ma50 : Nat) (ma51 : Nat) (ma52 : Nat) (mn0 : Int32) (mn5 : Int32) (mn7 : Int32) (mn8 : Int32) (mn9 : Int32) (mn10 : Int32) (mn11 : Int32) (mn12 : Int32) (mn13 : Int32) (mn15 : Int32) (mn16 : Int32) (mn17 : Int32) (mn18 : Int32) (mn19 : Int32) (mn20 : Int32) (mn25 : Int32) (mn37 : Int32) (mn38 : Int32) (mn39 : Int32) (mn43 : Int32) (mn44 : Int32) (mn48 : Int32) (mf1 : Nat → Int32) (p0 : Int32) (p1 : Int32) (hs1_0 : GW mf1) : Ro l D K yX12_areTwo cX12_areTwo 3 (some .boolean) 2 47 [.ref md, .int p0, .int p1] [(md, .inr (11, [.int mn0, .ref ma1, .ref ma2, .ref ma3, .ref ma4, .int mn5, .ref ma6, .int mn7, .int mn8, .int mn9, .int mn10, .int mn11, .int mn12, .int mn13, .ref ma14, .int mn15, .int mn16, .int mn17, .int mn18, .int mn19, .int mn20, .ref ma21, .ref ma22, .ref ma23, .ref ma24, .int mn25, .ref ma26, .ref ma27, .ref ma28, .ref ma29, .ref ma30, .ref ma31, .ref ma32, .ref ma33, .ref ma34, .ref ma35, .ref ma36, .int mn37, .int mn38, .int mn39, .ref ma40, .ref ma41, .ref ma42, .int mn43, .int mn44, .ref ma45, .ref ma46, .ref ma47, .int mn48, .ref ma49, .ref ma50, .ref ma51, .ref ma52])), (ma1, .inl (K 1, 262, .inl mf1))] (fun r => (r = 0) ∨ (r = 1 ∧ (0 ≤ p0.toInt) ∧ (p0.toInt < (mf1 0).toInt) ∧ (0 ≤ p1.toInt) ∧ (p1.toInt < (mf1 0).toInt) ∧ ((mf1 0).toInt ≤ 10))) := by
  refine ro_of (by decide) (Nat.le_of_ble_eq_true rfl) ?_
  intro p e s m below meth c hC hr hk hE hP ls hl
  replace hC : CallFix p m c cX12_areTwo 3 s [.ref md, .int p0, .int p1].toArray wl RX12 := hC
  have hx := hC.1
  have hb := hC.2.1
  have hml := hC.2.2.1
  have hown := hC.2.2.2.1
  have hts := hC.2.2.2.2
  replace hl : lv_has ls 3 [(0, .ref md), (1, .int p0), (2, .int p1)] := hl
  have hW0 := gwn_0 hs1_0; have hW1 := gwn_1 hs1_0; have hW2 := gwn_2 hs1_0; have hW4 := gwn_4 hs1_0
  refine lv_aload_n hx hb dX12_areTwo_0 rfl (lv_at hl 0 rfl) ?_
  refine lv_iload_n hx hb dX12_areTwo_1 rfl (lv_at hl 1 rfl) ?_
  refine lv_i2l hx hb dX12_areTwo_2 rfl ?_
  refine lv_topl (fun v5002 ev5002 => ?_)
  have tv5002 : v5002.toInt = (p0 : Int32).toInt := i2l_i ev5002
  refine ro_V (As := [.long v5002]) (rest := []) hC hE kV_X12_119 (c_X12_isPlace l D K md ma1 ma2 ma3 ma4 ma6 ma14 ma21 ma22 ma23 ma24 ma26 ma27 ma28 ma29 ma30 ma31 ma32 ma33 ma34 ma35 ma36 ma40 ma41 ma42 ma45 ma46 ma47 ma49 ma50 ma51 ma52 mn0 mn5 mn7 mn8 mn9 mn10 mn11 mn12 mn13 mn15 mn16 mn17 mn18 mn19 mn20 mn25 mn37 mn38 mn39 mn43 mn44 mn48 mf1 v5002 hs1_0) (hP.sub (ws' := [(md, .inr (11, [.int mn0, .ref ma1, .ref ma2, .ref ma3, .ref ma4, .int mn5, .ref ma6, .int mn7, .int mn8, .int mn9, .int mn10, .int mn11, .int mn12, .int mn13, .ref ma14, .int mn15, .int mn16, .int mn17, .int mn18, .int mn19, .int mn20, .ref ma21, .ref ma22, .ref ma23, .ref ma24, .int mn25, .ref ma26, .ref ma27, .ref ma28, .ref ma29, .ref ma30, .ref ma31, .ref ma32, .ref ma33, .ref ma34, .ref ma35, .ref ma36, .int mn37, .int mn38, .int mn39, .ref ma40, .ref ma41, .ref ma42, .int mn43, .int mn44, .ref ma45, .ref ma46, .ref ma47, .int mn48, .ref ma49, .ref ma50, .ref ma51, .ref ma52])), (ma1, .inl (K 1, 262, .inl mf1))]) [0, 1] rfl) 0 11 rfl rfl rfl hl.1 rfl (Nat.le_of_ble_eq_true rfl) (by decide) (by decide) dX12_areTwo_3 (fun r5007 hq => ?_)
  rcases hq with ⟨rfl, h5003⟩ | ⟨rfl, h5004, h5005, h5006⟩
  · refine lv_if_eq (tgt := 22) hx hb dX12_areTwo_6 (by decide) (fun _ => ?_) (fun h => absurd h (by decide))
    refine lv_iconst (v := 0) hx hb dX12_areTwo_22 (by decide) ?_
    exact ro_zret hC hr hk dX12_areTwo_23 rfl (Or.inl rfl)
  · refine lv_if_eq (tgt := 22) hx hb dX12_areTwo_6 (by decide) (fun h => absurd h (by decide)) (fun _ => ?_)
    refine lv_aload_n hx hb dX12_areTwo_9 rfl (lv_at hl 0 rfl) ?_
    refine lv_iload_n hx hb dX12_areTwo_10 rfl (lv_at hl 2 rfl) ?_
    refine lv_i2l hx hb dX12_areTwo_11 rfl ?_
    refine lv_topl (fun v5008 ev5008 => ?_)
    have tv5008 : v5008.toInt = (p1 : Int32).toInt := i2l_i ev5008
    refine ro_V (As := [.long v5008]) (rest := []) hC hE kV_X12_119 (c_X12_isPlace l D K md ma1 ma2 ma3 ma4 ma6 ma14 ma21 ma22 ma23 ma24 ma26 ma27 ma28 ma29 ma30 ma31 ma32 ma33 ma34 ma35 ma36 ma40 ma41 ma42 ma45 ma46 ma47 ma49 ma50 ma51 ma52 mn0 mn5 mn7 mn8 mn9 mn10 mn11 mn12 mn13 mn15 mn16 mn17 mn18 mn19 mn20 mn25 mn37 mn38 mn39 mn43 mn44 mn48 mf1 v5008 hs1_0) (hP.sub (ws' := [(md, .inr (11, [.int mn0, .ref ma1, .ref ma2, .ref ma3, .ref ma4, .int mn5, .ref ma6, .int mn7, .int mn8, .int mn9, .int mn10, .int mn11, .int mn12, .int mn13, .ref ma14, .int mn15, .int mn16, .int mn17, .int mn18, .int mn19, .int mn20, .ref ma21, .ref ma22, .ref ma23, .ref ma24, .int mn25, .ref ma26, .ref ma27, .ref ma28, .ref ma29, .ref ma30, .ref ma31, .ref ma32, .ref ma33, .ref ma34, .ref ma35, .ref ma36, .int mn37, .int mn38, .int mn39, .ref ma40, .ref ma41, .ref ma42, .int mn43, .int mn44, .ref ma45, .ref ma46, .ref ma47, .int mn48, .ref ma49, .ref ma50, .ref ma51, .ref ma52])), (ma1, .inl (K 1, 262, .inl mf1))]) [0, 1] rfl) 0 11 rfl rfl rfl hl.1 rfl (Nat.le_of_ble_eq_true rfl) (by decide) (by decide) dX12_areTwo_12 (fun r5013 hq => ?_)
    rcases hq with ⟨rfl, h5009⟩ | ⟨rfl, h5010, h5011, h5012⟩
    · refine lv_if_eq (tgt := 22) hx hb dX12_areTwo_15 (by decide) (fun _ => ?_) (fun h => absurd h (by decide))
      refine lv_iconst (v := 0) hx hb dX12_areTwo_22 (by decide) ?_
      exact ro_zret hC hr hk dX12_areTwo_23 rfl (Or.inl rfl)
    · refine lv_if_eq (tgt := 22) hx hb dX12_areTwo_15 (by decide) (fun h => absurd h (by decide)) (fun _ => ?_)
      refine lv_iconst (v := 1) hx hb dX12_areTwo_18 (by decide) ?_
      refine lv_goto (tgt := 23) hx hb dX12_areTwo_19 (by decide) ?_
      exact ro_zret hC hr hk dX12_areTwo_23 rfl (Or.inr ⟨rfl, (by omega), (by omega), (by omega), (by omega), (by omega)⟩)
set_option maxRecDepth 40000 in
set_option maxHeartbeats 4000000 in
theorem c_X12_isPupil (l : Launch) (D : va_G) (K : Nat → ClassId) (md : Nat) (ma1 : Nat) (ma2 : Nat) (ma3 : Nat) (ma4 : Nat) (ma6 : Nat) (ma14 : Nat) (ma21 : Nat) (ma22 : Nat) (ma23 : Nat) (ma24 : Nat) (ma26 : Nat) (ma27 : Nat) (ma28 : Nat) (ma29 : Nat) (ma30 : Nat) (ma31 : Nat) (ma32 : Nat) (ma33 : Nat) (ma34 : Nat) (ma35 : Nat) (ma36 : Nat) (ma40 : Nat) (ma41 : Nat) (ma42 : Nat) (ma45 : Nat) (ma46 : Nat) (ma47 : Nat) (ma49 : Nat) (ma50 : Nat) (ma51 : Nat) (ma52 : Nat) (mn0 : Int32) (mn5 : Int32) (mn7 : Int32) (mn8 : Int32) (mn9 : Int32) (mn10 : Int32) (mn11 : Int32) (mn12 : Int32) (mn13 : Int32) (mn15 : Int32) (mn16 : Int32) (mn17 : Int32) (mn18 : Int32) (mn19 : Int32) (mn20 : Int32) (mn25 : Int32) (mn37 : Int32) (mn38 : Int32) (mn39 : Int32) (mn43 : Int32) (mn44 : Int32) (mn48 : Int32) (mf1 : Nat → Int32) (p0 : Int32) (hs1_0 : GW mf1) : Ro l D K yX12_isPupil cX12_isPupil 2 (some .boolean) 1 25 [.ref md, .int p0] [(md, .inr (11, [.int mn0, .ref ma1, .ref ma2, .ref ma3, .ref ma4, .int mn5, .ref ma6, .int mn7, .int mn8, .int mn9, .int mn10, .int mn11, .int mn12, .int mn13, .ref ma14, .int mn15, .int mn16, .int mn17, .int mn18, .int mn19, .int mn20, .ref ma21, .ref ma22, .ref ma23, .ref ma24, .int mn25, .ref ma26, .ref ma27, .ref ma28, .ref ma29, .ref ma30, .ref ma31, .ref ma32, .ref ma33, .ref ma34, .ref ma35, .ref ma36, .int mn37, .int mn38, .int mn39, .ref ma40, .ref ma41, .ref ma42, .int mn43, .int mn44, .ref ma45, .ref ma46, .ref ma47, .int mn48, .ref ma49, .ref ma50, .ref ma51, .ref ma52])), (ma1, .inl (K 1, 262, .inl mf1))] (fun r => (r = 0) ∨ (r = 1 ∧ (0 ≤ p0.toInt) ∧ (p0.toInt < (mf1 1).toInt) ∧ ((mf1 1).toInt ≤ 4))) := by
  refine ro_of (by decide) (Nat.le_of_ble_eq_true rfl) ?_
  intro p e s m below meth c hC hr hk hE hP ls hl
  replace hC : CallFix p m c cX12_isPupil 2 s [.ref md, .int p0].toArray wl RX12 := hC
  have hx := hC.1
  have hb := hC.2.1
  have hml := hC.2.2.1
  have hown := hC.2.2.2.1
  have hts := hC.2.2.2.2
  replace hl : lv_has ls 2 [(0, .ref md), (1, .int p0)] := hl
  have kc_1 : (1 : Int32).toInt = 1 := by decide
  have kl_0 : (0 : Int64).toInt = 0 := by decide
  have hW0 := gwn_0 hs1_0; have hW1 := gwn_1 hs1_0; have hW2 := gwn_2 hs1_0; have hW4 := gwn_4 hs1_0
  refine lv_iload_n hx hb dX12_isPupil_0 rfl (lv_at hl 1 rfl) ?_
  refine lv_i2l hx hb dX12_isPupil_1 rfl ?_
  refine lv_topl (fun v5014 ev5014 => ?_)
  refine lv_lconst (v := 0) hx hb dX12_isPupil_2 (by decide) ?_
  refine lv_aload_n hx hb dX12_isPupil_3 rfl (lv_at hl 0 rfl) ?_
  refine va_get (D := D) (ci := 11) (v := .ref ma1) (C := RX12) (T := TX12) (N := 53) hx hb hts in_X12 hown hE.1 hP 0 rfl rfl 1 (by decide) (hts _ w_821) (fun _ h9 => h9) rfl dX12_isPupil_4 ?_
  refine lv_iconst (v := 1) hx hb dX12_isPupil_7 (by decide) ?_
  refine va_iald hx hb hE.1 hP 1 1 rfl rfl (in_c (by decide)) dX12_isPupil_8 ?_
  refine lv_topi (fun v5015 ev5015 => ?_)
  have tv5015 := gw_1 hs1_0 ev5015
  have zv5015 : v5015.toInt = (mf1 1).toInt := by rw [ev5015]; rfl
  refine lv_iconst (v := 1) hx hb dX12_isPupil_9 (by decide) ?_
  refine lv_isub hx hb dX12_isPupil_10 ?_
  refine lv_topi (fun v5016 ev5016 => ?_)
  refine lv_i2l hx hb dX12_isPupil_11 rfl ?_
  refine lv_topl (fun v5017 ev5017 => ?_)
  have tv5014 : v5014.toInt = (p0 : Int32).toInt := i2l_i ev5014
  have tv5016 : v5016.toInt = (v5015 : Int32).toInt - (1 : Int32).toInt := sub_i ev5016 (by omega) (by omega)
  have tv5017 : v5017.toInt = (v5016 : Int32).toInt := i2l_i ev5017
  refine ro_S (As := [.long v5014, .long 0, .long v5017]) (rest := []) hC hE kS_X12_115 (c_X12_in l D K v5014 0 v5017) (hP.sub (ws' := []) [] rfl) rfl hl.1 rfl (Nat.le_of_ble_eq_true rfl) (by decide) (by decide) dX12_isPupil_12 (fun r5021 hq => ?_)
  rcases hq with ⟨rfl, h5018⟩ | ⟨rfl, h5019, h5020⟩
  · exact ro_zret hC hr hk dX12_isPupil_15 rfl (Or.inl rfl)
  · exact ro_zret hC hr hk dX12_isPupil_15 rfl (Or.inr ⟨rfl, (by omega), (by omega), (by omega)⟩)
set_option maxRecDepth 40000 in
set_option maxHeartbeats 4000000 in
theorem c_X12_allPlaces (l : Launch) (D : va_G) (K : Nat → ClassId) (md : Nat) (ma1 : Nat) (ma2 : Nat) (ma3 : Nat) (ma4 : Nat) (ma6 : Nat) (ma14 : Nat) (ma21 : Nat) (ma22 : Nat) (ma23 : Nat) (ma24 : Nat) (ma26 : Nat) (ma27 : Nat) (ma28 : Nat) (ma29 : Nat) (ma30 : Nat) (ma31 : Nat) (ma32 : Nat) (ma33 : Nat) (ma34 : Nat) (ma35 : Nat) (ma36 : Nat) (ma40 : Nat) (ma41 : Nat) (ma42 : Nat) (ma45 : Nat) (ma46 : Nat) (ma47 : Nat) (ma49 : Nat) (ma50 : Nat) (ma51 : Nat) (ma52 : Nat) (mn0 : Int32) (mn5 : Int32) (mn7 : Int32) (mn8 : Int32) (mn9 : Int32) (mn10 : Int32) (mn11 : Int32) (mn12 : Int32) (mn13 : Int32) (mn15 : Int32) (mn16 : Int32) (mn17 : Int32) (mn18 : Int32) (mn19 : Int32) (mn20 : Int32) (mn25 : Int32) (mn37 : Int32) (mn38 : Int32) (mn39 : Int32) (mn43 : Int32) (mn44 : Int32) (mn48 : Int32) (mf1 : Nat → Int32) (hs1_0 : GW mf1) : Ro l D K yX12_allPlaces cX12_allPlaces 1 (some .int) 0 0 [.ref md] [(md, .inr (11, [.int mn0, .ref ma1, .ref ma2, .ref ma3, .ref ma4, .int mn5, .ref ma6, .int mn7, .int mn8, .int mn9, .int mn10, .int mn11, .int mn12, .int mn13, .ref ma14, .int mn15, .int mn16, .int mn17, .int mn18, .int mn19, .int mn20, .ref ma21, .ref ma22, .ref ma23, .ref ma24, .int mn25, .ref ma26, .ref ma27, .ref ma28, .ref ma29, .ref ma30, .ref ma31, .ref ma32, .ref ma33, .ref ma34, .ref ma35, .ref ma36, .int mn37, .int mn38, .int mn39, .ref ma40, .ref ma41, .ref ma42, .int mn43, .int mn44, .ref ma45, .ref ma46, .ref ma47, .int mn48, .ref ma49, .ref ma50, .ref ma51, .ref ma52])), (ma1, .inl (K 1, 262, .inl mf1))] (fun r => ((0 ≤ r.toInt) ∧ (r.toInt ≤ 1023))) := by
  refine ro_of (by decide) (Nat.le_of_ble_eq_true rfl) ?_
  intro p e s m below meth c hC hr hk hE hP ls hl
  replace hC : CallFix p m c cX12_allPlaces 1 s [.ref md].toArray wl RX12 := hC
  have hx := hC.1
  have hb := hC.2.1
  have hml := hC.2.2.1
  have hown := hC.2.2.2.1
  have hts := hC.2.2.2.2
  replace hl : lv_has ls 1 [(0, .ref md)] := hl
  have kc_1 : (1 : Int32).toInt = 1 := by decide
  have hW0 := gwn_0 hs1_0; have hW1 := gwn_1 hs1_0; have hW2 := gwn_2 hs1_0; have hW4 := gwn_4 hs1_0
  refine lv_iconst (v := 1) hx hb dX12_allPlaces_0 (by decide) ?_
  refine lv_aload_n hx hb dX12_allPlaces_1 rfl (lv_at hl 0 rfl) ?_
  refine va_get (D := D) (ci := 11) (v := .ref ma1) (C := RX12) (T := TX12) (N := 53) hx hb hts in_X12 hown hE.1 hP 0 rfl rfl 1 (by decide) (hts _ w_821) (fun _ h9 => h9) rfl dX12_allPlaces_2 ?_
  refine lv_iconst (v := 0) hx hb dX12_allPlaces_5 (by decide) ?_
  refine va_iald hx hb hE.1 hP 1 1 rfl rfl (in_c (by decide)) dX12_allPlaces_6 ?_
  refine lv_topi (fun v5022 ev5022 => ?_)
  have tv5022 := gw_0 hs1_0 ev5022
  have zv5022 : v5022.toInt = (mf1 0).toInt := by rw [ev5022]; rfl
  refine lv_ishl hx hb dX12_allPlaces_7 ?_
  refine lv_topi (fun v5023 ev5023 => ?_)
  refine lv_iconst (v := 1) hx hb dX12_allPlaces_8 (by decide) ?_
  refine lv_isub hx hb dX12_allPlaces_9 ?_
  refine lv_topi (fun v5024 ev5024 => ?_)
  have tv5023 := shl1_b ev5023 (by omega) (by omega)
  have tv5024 : v5024.toInt = (v5023 : Int32).toInt - (1 : Int32).toInt := sub_i ev5024 (by omega) (by omega)
  exact ro_ret hC hr hk dX12_allPlaces_10 ⟨(by omega), (by omega)⟩
set_option maxRecDepth 40000 in
set_option maxHeartbeats 4000000 in
theorem c_X12_isSet (l : Launch) (D : va_G) (K : Nat → ClassId) (md : Nat) (ma1 : Nat) (ma2 : Nat) (ma3 : Nat) (ma4 : Nat) (ma6 : Nat) (ma14 : Nat) (ma21 : Nat) (ma22 : Nat) (ma23 : Nat) (ma24 : Nat) (ma26 : Nat) (ma27 : Nat) (ma28 : Nat) (ma29 : Nat) (ma30 : Nat) (ma31 : Nat) (ma32 : Nat) (ma33 : Nat) (ma34 : Nat) (ma35 : Nat) (ma36 : Nat) (ma40 : Nat) (ma41 : Nat) (ma42 : Nat) (ma45 : Nat) (ma46 : Nat) (ma47 : Nat) (ma49 : Nat) (ma50 : Nat) (ma51 : Nat) (ma52 : Nat) (mn0 : Int32) (mn5 : Int32) (mn7 : Int32) (mn8 : Int32) (mn9 : Int32) (mn10 : Int32) (mn11 : Int32) (mn12 : Int32) (mn13 : Int32) (mn15 : Int32) (mn16 : Int32) (mn17 : Int32) (mn18 : Int32) (mn19 : Int32) (mn20 : Int32) (mn25 : Int32) (mn37 : Int32) (mn38 : Int32) (mn39 : Int32) (mn43 : Int32) (mn44 : Int32) (mn48 : Int32) (mf1 : Nat → Int32) (p0 : Int32) (hs1_0 : GW mf1) : Ro l D K yX12_isSet cX12_isSet 2 (some .boolean) 1 25 [.ref md, .int p0] [(md, .inr (11, [.int mn0, .ref ma1, .ref ma2, .ref ma3, .ref ma4, .int mn5, .ref ma6, .int mn7, .int mn8, .int mn9, .int mn10, .int mn11, .int mn12, .int mn13, .ref ma14, .int mn15, .int mn16, .int mn17, .int mn18, .int mn19, .int mn20, .ref ma21, .ref ma22, .ref ma23, .ref ma24, .int mn25, .ref ma26, .ref ma27, .ref ma28, .ref ma29, .ref ma30, .ref ma31, .ref ma32, .ref ma33, .ref ma34, .ref ma35, .ref ma36, .int mn37, .int mn38, .int mn39, .ref ma40, .ref ma41, .ref ma42, .int mn43, .int mn44, .ref ma45, .ref ma46, .ref ma47, .int mn48, .ref ma49, .ref ma50, .ref ma51, .ref ma52])), (ma1, .inl (K 1, 262, .inl mf1))] (fun r => (r = 0) ∨ (r = 1 ∧ (1 ≤ p0.toInt) ∧ (p0.toInt ≤ 1023))) := by
  refine ro_of (by decide) (Nat.le_of_ble_eq_true rfl) ?_
  intro p e s m below meth c hC hr hk hE hP ls hl
  replace hC : CallFix p m c cX12_isSet 2 s [.ref md, .int p0].toArray wl RX12 := hC
  have hx := hC.1
  have hb := hC.2.1
  have hml := hC.2.2.1
  have hown := hC.2.2.2.1
  have hts := hC.2.2.2.2
  replace hl : lv_has ls 2 [(0, .ref md), (1, .int p0)] := hl
  have kl_1 : (1 : Int64).toInt = 1 := by decide
  have hW0 := gwn_0 hs1_0; have hW1 := gwn_1 hs1_0; have hW2 := gwn_2 hs1_0; have hW4 := gwn_4 hs1_0
  refine lv_aload_n hx hb dX12_isSet_0 rfl (lv_at hl 0 rfl) ?_
  refine ro_V (As := []) (rest := []) hC hE kV_X12_125 (c_X12_isWood l D K md ma1 ma2 ma3 ma4 ma6 ma14 ma21 ma22 ma23 ma24 ma26 ma27 ma28 ma29 ma30 ma31 ma32 ma33 ma34 ma35 ma36 ma40 ma41 ma42 ma45 ma46 ma47 ma49 ma50 ma51 ma52 mn0 mn5 mn7 mn8 mn9 mn10 mn11 mn12 mn13 mn15 mn16 mn17 mn18 mn19 mn20 mn25 mn37 mn38 mn39 mn43 mn44 mn48 mf1 hs1_0) (hP.sub (ws' := [(md, .inr (11, [.int mn0, .ref ma1, .ref ma2, .ref ma3, .ref ma4, .int mn5, .ref ma6, .int mn7, .int mn8, .int mn9, .int mn10, .int mn11, .int mn12, .int mn13, .ref ma14, .int mn15, .int mn16, .int mn17, .int mn18, .int mn19, .int mn20, .ref ma21, .ref ma22, .ref ma23, .ref ma24, .int mn25, .ref ma26, .ref ma27, .ref ma28, .ref ma29, .ref ma30, .ref ma31, .ref ma32, .ref ma33, .ref ma34, .ref ma35, .ref ma36, .int mn37, .int mn38, .int mn39, .ref ma40, .ref ma41, .ref ma42, .int mn43, .int mn44, .ref ma45, .ref ma46, .ref ma47, .int mn48, .ref ma49, .ref ma50, .ref ma51, .ref ma52])), (ma1, .inl (K 1, 262, .inl mf1))]) [0, 1] rfl) 0 11 rfl rfl rfl hl.1 rfl (Nat.le_of_ble_eq_true rfl) (by decide) (by decide) dX12_isSet_1 (fun r5025 hq => ?_)
  rcases hq with rfl | rfl
  · refine lv_if_eq (tgt := 25) hx hb dX12_isSet_4 (by decide) (fun _ => ?_) (fun h => absurd h (by decide))
    refine lv_iconst (v := 0) hx hb dX12_isSet_25 (by decide) ?_
    exact ro_zret hC hr hk dX12_isSet_26 rfl (Or.inl rfl)
  · refine lv_if_eq (tgt := 25) hx hb dX12_isSet_4 (by decide) (fun h => absurd h (by decide)) (fun _ => ?_)
    refine lv_iload_n hx hb dX12_isSet_7 rfl (lv_at hl 1 rfl) ?_
    refine lv_i2l hx hb dX12_isSet_8 rfl ?_
    refine lv_topl (fun v5026 ev5026 => ?_)
    refine lv_lconst (v := 1) hx hb dX12_isSet_9 (by decide) ?_
    refine lv_aload_n hx hb dX12_isSet_10 rfl (lv_at hl 0 rfl) ?_
    refine ro_V (As := []) (rest := [.long 1, .long v5026]) hC hE kV_X12_129 (c_X12_allPlaces l D K md ma1 ma2 ma3 ma4 ma6 ma14 ma21 ma22 ma23 ma24 ma26 ma27 ma28 ma29 ma30 ma31 ma32 ma33 ma34 ma35 ma36 ma40 ma41 ma42 ma45 ma46 ma47 ma49 ma50 ma51 ma52 mn0 mn5 mn7 mn8 mn9 mn10 mn11 mn12 mn13 mn15 mn16 mn17 mn18 mn19 mn20 mn25 mn37 mn38 mn39 mn43 mn44 mn48 mf1 hs1_0) (hP.sub (ws' := [(md, .inr (11, [.int mn0, .ref ma1, .ref ma2, .ref ma3, .ref ma4, .int mn5, .ref ma6, .int mn7, .int mn8, .int mn9, .int mn10, .int mn11, .int mn12, .int mn13, .ref ma14, .int mn15, .int mn16, .int mn17, .int mn18, .int mn19, .int mn20, .ref ma21, .ref ma22, .ref ma23, .ref ma24, .int mn25, .ref ma26, .ref ma27, .ref ma28, .ref ma29, .ref ma30, .ref ma31, .ref ma32, .ref ma33, .ref ma34, .ref ma35, .ref ma36, .int mn37, .int mn38, .int mn39, .ref ma40, .ref ma41, .ref ma42, .int mn43, .int mn44, .ref ma45, .ref ma46, .ref ma47, .int mn48, .ref ma49, .ref ma50, .ref ma51, .ref ma52])), (ma1, .inl (K 1, 262, .inl mf1))]) [0, 1] rfl) 0 11 rfl rfl rfl hl.1 rfl (Nat.le_of_ble_eq_true rfl) (by decide) (by decide) dX12_isSet_11 (fun r5029 hq => ?_)
    obtain ⟨h5027, h5028⟩ := hq
    refine lv_i2l hx hb dX12_isSet_14 rfl ?_
    refine lv_topl (fun v5030 ev5030 => ?_)
    have tv5026 : v5026.toInt = (p0 : Int32).toInt := i2l_i ev5026
    have tv5030 : v5030.toInt = (r5029 : Int32).toInt := i2l_i ev5030
    refine ro_S (As := [.long v5026, .long 1, .long v5030]) (rest := []) hC hE kS_X12_115 (c_X12_in l D K v5026 1 v5030) (hP.sub (ws' := []) [] rfl) rfl hl.1 rfl (Nat.le_of_ble_eq_true rfl) (by decide) (by decide) dX12_isSet_15 (fun r5034 hq => ?_)
    rcases hq with ⟨rfl, h5031⟩ | ⟨rfl, h5032, h5033⟩
    · refine lv_if_eq (tgt := 25) hx hb dX12_isSet_18 (by decide) (fun _ => ?_) (fun h => absurd h (by decide))
      refine lv_iconst (v := 0) hx hb dX12_isSet_25 (by decide) ?_
      exact ro_zret hC hr hk dX12_isSet_26 rfl (Or.inl rfl)
    · refine lv_if_eq (tgt := 25) hx hb dX12_isSet_18 (by decide) (fun h => absurd h (by decide)) (fun _ => ?_)
      refine lv_iconst (v := 1) hx hb dX12_isSet_21 (by decide) ?_
      refine lv_goto (tgt := 26) hx hb dX12_isSet_22 (by decide) ?_
      exact ro_zret hC hr hk dX12_isSet_26 rfl (Or.inr ⟨rfl, (by omega), (by omega)⟩)
set_option maxRecDepth 40000 in
set_option maxHeartbeats 4000000 in
theorem c_X12_leadsTo (l : Launch) (D : va_G) (K : Nat → ClassId) (md : Nat) (ma1 : Nat) (ma2 : Nat) (ma3 : Nat) (ma4 : Nat) (ma6 : Nat) (ma14 : Nat) (ma21 : Nat) (ma22 : Nat) (ma23 : Nat) (ma24 : Nat) (ma26 : Nat) (ma27 : Nat) (ma28 : Nat) (ma29 : Nat) (ma30 : Nat) (ma31 : Nat) (ma32 : Nat) (ma33 : Nat) (ma34 : Nat) (ma35 : Nat) (ma36 : Nat) (ma40 : Nat) (ma41 : Nat) (ma42 : Nat) (ma45 : Nat) (ma46 : Nat) (ma47 : Nat) (ma49 : Nat) (ma50 : Nat) (ma51 : Nat) (ma52 : Nat) (mn0 : Int32) (mn5 : Int32) (mn7 : Int32) (mn8 : Int32) (mn9 : Int32) (mn10 : Int32) (mn11 : Int32) (mn12 : Int32) (mn13 : Int32) (mn15 : Int32) (mn16 : Int32) (mn17 : Int32) (mn18 : Int32) (mn19 : Int32) (mn20 : Int32) (mn25 : Int32) (mn37 : Int32) (mn38 : Int32) (mn39 : Int32) (mn43 : Int32) (mn44 : Int32) (mn48 : Int32) (mf1 : Nat → Int32) (p0 : Int32) (p1 : Int32) (hs1_0 : GW mf1) (ha0 : 0 ≤ p0.toInt ∧ p0.toInt ≤ 9) (ha1 : 0 ≤ p1.toInt ∧ p1.toInt ≤ 3) : Ro l D K yX12_leadsTo cX12_leadsTo 3 (some .int) 0 0 [.ref md, .int p0, .int p1] [(md, .inr (11, [.int mn0, .ref ma1, .ref ma2, .ref ma3, .ref ma4, .int mn5, .ref ma6, .int mn7, .int mn8, .int mn9, .int mn10, .int mn11, .int mn12, .int mn13, .ref ma14, .int mn15, .int mn16, .int mn17, .int mn18, .int mn19, .int mn20, .ref ma21, .ref ma22, .ref ma23, .ref ma24, .int mn25, .ref ma26, .ref ma27, .ref ma28, .ref ma29, .ref ma30, .ref ma31, .ref ma32, .ref ma33, .ref ma34, .ref ma35, .ref ma36, .int mn37, .int mn38, .int mn39, .ref ma40, .ref ma41, .ref ma42, .int mn43, .int mn44, .ref ma45, .ref ma46, .ref ma47, .int mn48, .ref ma49, .ref ma50, .ref ma51, .ref ma52])), (ma1, .inl (K 1, 262, .inl mf1))] (fun r => ((0 ≤ r.toInt) ∧ (r.toInt ≤ 9) ∧ (r = mf1 (5 + 4 * p0.toInt.toNat + p1.toInt.toNat)))) := by
  refine ro_of (by decide) (Nat.le_of_ble_eq_true rfl) ?_
  intro p e s m below meth c hC hr hk hE hP ls hl
  replace hC : CallFix p m c cX12_leadsTo 3 s [.ref md, .int p0, .int p1].toArray wl RX12 := hC
  have hx := hC.1
  have hb := hC.2.1
  have hml := hC.2.2.1
  have hown := hC.2.2.2.1
  have hts := hC.2.2.2.2
  replace hl : lv_has ls 3 [(0, .ref md), (1, .int p0), (2, .int p1)] := hl
  have kc_4 : (4 : Int32).toInt = 4 := by decide
  have kc_5 : (5 : Int32).toInt = 5 := by decide
  have hW0 := gwn_0 hs1_0; have hW1 := gwn_1 hs1_0; have hW2 := gwn_2 hs1_0; have hW4 := gwn_4 hs1_0
  refine lv_aload_n hx hb dX12_leadsTo_0 rfl (lv_at hl 0 rfl) ?_
  refine va_get (D := D) (ci := 11) (v := .ref ma1) (C := RX12) (T := TX12) (N := 53) hx hb hts in_X12 hown hE.1 hP 0 rfl rfl 1 (by decide) (hts _ w_821) (fun _ h9 => h9) rfl dX12_leadsTo_1 ?_
  refine lv_iconst (v := 5) hx hb dX12_leadsTo_4 (by decide) ?_
  refine lv_iconst (v := 4) hx hb dX12_leadsTo_5 (by decide) ?_
  refine lv_iload_n hx hb dX12_leadsTo_6 rfl (lv_at hl 1 rfl) ?_
  refine lv_imul hx hb dX12_leadsTo_7 ?_
  refine lv_topi (fun v5035 ev5035 => ?_)
  refine lv_iadd hx hb dX12_leadsTo_8 ?_
  refine lv_topi (fun v5036 ev5036 => ?_)
  refine lv_iload_n hx hb dX12_leadsTo_9 rfl (lv_at hl 2 rfl) ?_
  refine lv_iadd hx hb dX12_leadsTo_10 ?_
  refine lv_topi (fun v5037 ev5037 => ?_)
  have tv5035 : v5035.toInt = 4 * p0.toInt := mul_i ev5035 (by decide) rfl (by omega) (by omega)
  have tv5036 : v5036.toInt = (5 : Int32).toInt + (v5035 : Int32).toInt := add_i ev5036 (by omega) (by omega)
  have tv5037 : v5037.toInt = (v5036 : Int32).toInt + (p1 : Int32).toInt := add_i ev5037 (by omega) (by omega)
  refine va_iald hx hb hE.1 hP 1 1 rfl rfl (vp_in_iff.mpr (by omega)) dX12_leadsTo_11 ?_
  refine lv_topi (fun v5038 ev5038 => ?_)
  have tv5038 := gw_L hs1_0 ev5038 (by omega) (by omega)
  exact ro_ret hC hr hk dX12_leadsTo_12 ⟨(by omega), (by omega), (by rw [ev5038]; congr 1; rw [cl_n]; omega)⟩
