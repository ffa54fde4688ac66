set_option maxRecDepth 40000 in
set_option maxHeartbeats 4000000 in
theorem c_X12_depthSplit (l : Launch) (D : va_G) (K : Nat → ClassId) (md : Nat) (ma1 : Nat) (ma2 : Nat) (ma3 : Nat) (ma4 : Nat) (ma6 : Nat) (ma14 : Nat) (ma21 : Nat) (ma22 : Nat) (ma23 : Nat) (ma24 : Nat) (ma26 : Nat) (ma27 : Nat) (ma28 : Nat) (ma29 : Nat) (ma30 : Nat) (ma31 : Nat) (ma32 : Nat) (ma33 : Nat) (ma34 : Nat) (ma35 : Nat) (ma36 : Nat) (ma40 : Nat) (ma41 : Nat) (ma42 : Nat) (ma45 : Nat) (ma46 : Nat) (ma47 : Nat) (ma49 : Nat) (ma50 : Nat) (ma51 : Nat) (ma52 : Nat) (mn0 : Int32) (mn5 : Int32) (mn7 : Int32) (mn8 : Int32) (mn9 : Int32) (mn10 : Int32) (mn11 : Int32) (mn12 : Int32) (mn13 : Int32) (mn15 : Int32) (mn16 : Int32) (mn17 : Int32) (mn18 : Int32) (mn19 : Int32) (mn20 : Int32) (mn25 : Int32) (mn37 : Int32) (mn38 : Int32) (mn39 : Int32) (mn43 : Int32) (mn44 : Int32) (mn48 : Int32) (mf1 : Nat → Int32) (mf26 : Nat → Int32) (p0 : Int32) (hs1_0 : GW mf1) : Ro l D K yX12_depthSplit cX12_depthSplit 4 (some .int) 2 45 [.ref md, .int p0] [(md, .inr (11, [.int mn0, .ref ma1, .ref ma2, .ref ma3, .ref ma4, .int mn5, .ref ma6, .int mn7, .int mn8, .int mn9, .int mn10, .int mn11, .int mn12, .int mn13, .ref ma14, .int mn15, .int mn16, .int mn17, .int mn18, .int mn19, .int mn20, .ref ma21, .ref ma22, .ref ma23, .ref ma24, .int mn25, .ref ma26, .ref ma27, .ref ma28, .ref ma29, .ref ma30, .ref ma31, .ref ma32, .ref ma33, .ref ma34, .ref ma35, .ref ma36, .int mn37, .int mn38, .int mn39, .ref ma40, .ref ma41, .ref ma42, .int mn43, .int mn44, .ref ma45, .ref ma46, .ref ma47, .int mn48, .ref ma49, .ref ma50, .ref ma51, .ref ma52])), (ma1, .inl (K 1, 262, .inl mf1)), (ma26, .inl (K 1, 1024, .inl mf26))] (fun r => ((r.toInt = dsF mf1 mf26 p0 10))) := by
  refine ro_of (by decide) (Nat.le_of_ble_eq_true rfl) ?_
  intro p e s m below meth c hC hr hk hE hP ls hl
  replace hC : CallFix p m c cX12_depthSplit 4 s [.ref md, .int p0].toArray wl RX12 := hC
  have hx := hC.1
  have hb := hC.2.1
  have hml := hC.2.2.1
  have hown := hC.2.2.2.1
  have hts := hC.2.2.2.2
  replace hl : lv_has ls 4 [(0, .ref md), (1, .int p0)] := hl
  have kc_0 : (0 : Int32).toInt = 0 := by decide
  have kc_1 : (1 : Int32).toInt = 1 := by decide
  have kc_9 : (9 : Int32).toInt = 9 := by decide
  have hW0 := gwn_0 hs1_0; have hW1 := gwn_1 hs1_0; have hW2 := gwn_2 hs1_0; have hW4 := gwn_4 hs1_0
  refine lv_iconst (v := 0) hx hb dX12_depthSplit_0 (by decide) ?_
  refine lv_istore_n (lv' := [(2, .int 0), (0, .ref md), (1, .int p0)]) hx hb dX12_depthSplit_1 rfl hl (by decide) rfl (fun ls hl => ?_)
  refine lv_iconst (v := 0) hx hb dX12_depthSplit_2 (by decide) ?_
  refine lv_istore_n (lv' := [(3, .int 0), (2, .int 0), (0, .ref md), (1, .int p0)]) hx hb dX12_depthSplit_3 rfl hl (by decide) rfl (fun ls hl => ?_)
  have hl' := hl; clear hl
  obtain ⟨i15416, i15417, hi_4, hk_4, hv_4, hl⟩ : ∃ (i15416 : Int32) (i15417 : Int32), ((0 : Int) ≤ i15416.toInt) ∧ (i15416.toInt ≤ 10) ∧ (i15417.toInt = dsF mf1 mf26 p0 i15416.toInt.toNat) ∧ lv_has ls 4 [(3, .int i15416), (2, .int i15417), (0, .ref md), (1, .int p0)] := ⟨_, _, by omega, by omega, (by rw [show ((0 : Int32).toInt) = 0 from by decide]; rfl), hl'⟩
  clear hl'
  obtain ⟨n_4, hn_4⟩ : ∃ n : Nat, (10 - i15416.toInt).toNat < n := ⟨_, Nat.lt_succ_self _⟩
  induction n_4 generalizing i15416 i15417 ls with
  | zero => exact absurd hn_4 (Nat.not_lt_zero _)
  | succ n_4 ih_4 =>
    refine lv_iload_n hx hb dX12_depthSplit_4 rfl (lv_at hl 0 rfl) ?_
    refine lv_bipush (v := 9) hx hb dX12_depthSplit_5 (by decide) ?_
    refine lv_icmp_gt (tgt := 45) hx hb dX12_depthSplit_7 (by decide) (fun c15418 => ?_) (fun c15418 => ?_)
    · replace c15418 := lt_i c15418
      refine lv_iload_n hx hb dX12_depthSplit_45 rfl (lv_at hl 1 rfl) ?_
      exact ro_ret hC hr hk dX12_depthSplit_46 (hv_4.trans (congrArg (dsF mf1 mf26 p0) (by omega)))
    · replace c15418 := nlt_i c15418
      refine lv_iload_n hx hb dX12_depthSplit_10 rfl (lv_at hl 1 rfl) ?_
      refine lv_aload_n hx hb dX12_depthSplit_11 rfl (lv_at hl 2 rfl) ?_
      refine lv_iload_n hx hb dX12_depthSplit_12 rfl (lv_at hl 3 rfl) ?_
      refine lv_iload_n hx hb dX12_depthSplit_13 rfl (lv_at hl 0 rfl) ?_
      refine ro_V (As := [.int p0, .int i15416]) (rest := [.int i15417]) hC hE kV_X12_291 (c_X12_seenOf l D K md ma1 ma2 ma3 ma4 ma6 ma14 ma21 ma22 ma23 ma24 ma26 ma27 ma28 ma29 ma30 ma31 ma32 ma33 ma34 ma35 ma36 ma40 ma41 ma42 ma45 ma46 ma47 ma49 ma50 ma51 ma52 mn0 mn5 mn7 mn8 mn9 mn10 mn11 mn12 mn13 mn15 mn16 mn17 mn18 mn19 mn20 mn25 mn37 mn38 mn39 mn43 mn44 mn48 mf1 p0 i15416 hs1_0) (hP.sub (ws' := [(md, .inr (11, [.int mn0, .ref ma1, .ref ma2, .ref ma3, .ref ma4, .int mn5, .ref ma6, .int mn7, .int mn8, .int mn9, .int mn10, .int mn11, .int mn12, .int mn13, .ref ma14, .int mn15, .int mn16, .int mn17, .int mn18, .int mn19, .int mn20, .ref ma21, .ref ma22, .ref ma23, .ref ma24, .int mn25, .ref ma26, .ref ma27, .ref ma28, .ref ma29, .ref ma30, .ref ma31, .ref ma32, .ref ma33, .ref ma34, .ref ma35, .ref ma36, .int mn37, .int mn38, .int mn39, .ref ma40, .ref ma41, .ref ma42, .int mn43, .int mn44, .ref ma45, .ref ma46, .ref ma47, .int mn48, .ref ma49, .ref ma50, .ref ma51, .ref ma52])), (ma1, .inl (K 1, 262, .inl mf1))]) [0, 1] rfl) 0 11 rfl rfl rfl hl.1 rfl (Nat.le_of_ble_eq_true rfl) (by decide) (by decide) dX12_depthSplit_14 (fun r15422 hq => ?_)
      obtain ⟨h15419, h15420, h15421⟩ := hq
      refine lv_if_ne (tgt := 24) hx hb dX12_depthSplit_17 (by decide) (fun c15423 => ?_) (fun c15423 => ?_)
      · replace c15423 := ne_i c15423
        refine lv_aload_n hx hb dX12_depthSplit_24 rfl (lv_at hl 2 rfl) ?_
        refine va_get (D := D) (ci := 11) (v := .ref ma26) (C := RX12) (T := TX12) (N := 53) hx hb hts in_X12 hown hE.1 hP 0 rfl rfl 26 (by decide) (hts _ w_1155) (fun _ h9 => h9) rfl dX12_depthSplit_25 ?_
        refine lv_aload_n hx hb dX12_depthSplit_28 rfl (lv_at hl 2 rfl) ?_
        refine lv_iload_n hx hb dX12_depthSplit_29 rfl (lv_at hl 3 rfl) ?_
        refine lv_iload_n hx hb dX12_depthSplit_30 rfl (lv_at hl 0 rfl) ?_
        refine ro_V (As := [.int p0, .int i15416]) (rest := [.ref ma26, .int i15417]) hC hE kV_X12_291 (c_X12_seenOf l D K md ma1 ma2 ma3 ma4 ma6 ma14 ma21 ma22 ma23 ma24 ma26 ma27 ma28 ma29 ma30 ma31 ma32 ma33 ma34 ma35 ma36 ma40 ma41 ma42 ma45 ma46 ma47 ma49 ma50 ma51 ma52 mn0 mn5 mn7 mn8 mn9 mn10 mn11 mn12 mn13 mn15 mn16 mn17 mn18 mn19 mn20 mn25 mn37 mn38 mn39 mn43 mn44 mn48 mf1 p0 i15416 hs1_0) (hP.sub (ws' := [(md, .inr (11, [.int mn0, .ref ma1, .ref ma2, .ref ma3, .ref ma4, .int mn5, .ref ma6, .int mn7, .int mn8, .int mn9, .int mn10, .int mn11, .int mn12, .int mn13, .ref ma14, .int mn15, .int mn16, .int mn17, .int mn18, .int mn19, .int mn20, .ref ma21, .ref ma22, .ref ma23, .ref ma24, .int mn25, .ref ma26, .ref ma27, .ref ma28, .ref ma29, .ref ma30, .ref ma31, .ref ma32, .ref ma33, .ref ma34, .ref ma35, .ref ma36, .int mn37, .int mn38, .int mn39, .ref ma40, .ref ma41, .ref ma42, .int mn43, .int mn44, .ref ma45, .ref ma46, .ref ma47, .int mn48, .ref ma49, .ref ma50, .ref ma51, .ref ma52])), (ma1, .inl (K 1, 262, .inl mf1))]) [0, 1] rfl) 0 11 rfl rfl rfl hl.1 rfl (Nat.le_of_ble_eq_true rfl) (by decide) (by decide) dX12_depthSplit_31 (fun r15427 hq => ?_)
        obtain ⟨h15424, h15425, h15426⟩ := hq
        have q15428 : r15422.toInt = r15427.toInt := by rw [h15421, h15426]
        refine va_iald hx hb hE.1 hP 2 1 rfl rfl (vp_in_iff.mpr (by omega)) dX12_depthSplit_34 ?_
        refine lv_topi (fun v15429 ev15429 => ?_)
        refine va_mmax hx hb (hml.trans hl.1.symm) hown (hts _ w_990) (hts _ w_169) (hts _ w_143) (hts _ w_170) (by decide) (Nat.le_of_ble_eq_true rfl) (by decide) (by decide) dX12_depthSplit_35 ?_
        refine lv_topi (fun v15430 ev15430 => ?_)
        have tv15430 := max_i ev15430
        refine lv_istore_n (lv' := [(2, .int v15430), (3, .int i15416), (0, .ref md), (1, .int p0)]) hx hb dX12_depthSplit_38 rfl hl (by decide) rfl (fun ls hl => ?_)
        obtain ⟨v15431, ev15431⟩ : ∃ z : Int32, z = i15416 + 1 := ⟨_, rfl⟩
        refine lv_iinc (v := v15431) (lv' := [(3, .int v15431), (2, .int v15430), (0, .ref md), (1, .int p0)]) hx hb dX12_depthSplit_39 hl (k := 1) rfl (by rw [ev15431]; rfl) (by decide) rfl (fun ls hl => ?_)
        refine lv_goto (tgt := 4) hx hb dX12_depthSplit_42 (by decide) ?_
        have tv15431 : v15431.toInt = (i15416 : Int32).toInt + (1 : Int32).toInt := add_i ev15431 (by omega) (by omega)
        exact ih_4 (i15416 := v15431) (i15417 := v15430) (hi_4 := by omega) (hk_4 := by omega) (hv_4 := ds_1 hv_4 (by omega) h15426 (by omega) (by rw [ev15429]; rfl) (by omega) (by omega) (by omega) (by omega)) (ls := ls) (hn_4 := by omega) (hl := lv_sub hl [0, 1, 2, 3] rfl)
      · replace c15423 := eq_i c15423
        refine lv_iconst (v := 0) hx hb dX12_depthSplit_20 (by decide) ?_
        refine lv_goto (tgt := 35) hx hb dX12_depthSplit_21 (by decide) ?_
        refine va_mmax hx hb (hml.trans hl.1.symm) hown (hts _ w_990) (hts _ w_169) (hts _ w_143) (hts _ w_170) (by decide) (Nat.le_of_ble_eq_true rfl) (by decide) (by decide) dX12_depthSplit_35 ?_
        refine lv_topi (fun v15432 ev15432 => ?_)
        have tv15432 := max_i ev15432
        refine lv_istore_n (lv' := [(2, .int v15432), (3, .int i15416), (0, .ref md), (1, .int p0)]) hx hb dX12_depthSplit_38 rfl hl (by decide) rfl (fun ls hl => ?_)
        obtain ⟨v15433, ev15433⟩ : ∃ z : Int32, z = i15416 + 1 := ⟨_, rfl⟩
        refine lv_iinc (v := v15433) (lv' := [(3, .int v15433), (2, .int v15432), (0, .ref md), (1, .int p0)]) hx hb dX12_depthSplit_39 hl (k := 1) rfl (by rw [ev15433]; rfl) (by decide) rfl (fun ls hl => ?_)
        refine lv_goto (tgt := 4) hx hb dX12_depthSplit_42 (by decide) ?_
        have tv15433 : v15433.toInt = (i15416 : Int32).toInt + (1 : Int32).toInt := add_i ev15433 (by omega) (by omega)
        exact ih_4 (i15416 := v15433) (i15417 := v15432) (hi_4 := by omega) (hk_4 := by omega) (hv_4 := ds_0 hv_4 (by omega) h15421 (by omega) (by omega) (by omega) (by omega) (by omega)) (ls := ls) (hn_4 := by omega) (hl := lv_sub hl [0, 1, 2, 3] rfl)
set_option maxRecDepth 40000 in
set_option maxHeartbeats 4000000 in
theorem c_X12_allPlaces_f (l : Launch) (D : va_G) (K : Nat → ClassId) (md : Nat) (ma1 : Nat) (ma2 : Nat) (ma3 : Nat) (ma4 : Nat) (ma6 : Nat) (ma14 : Nat) (ma21 : Nat) (ma22 : Nat) (ma23 : Nat) (ma24 : Nat) (ma26 : Nat) (ma27 : Nat) (ma28 : Nat) (ma29 : Nat) (ma30 : Nat) (ma31 : Nat) (ma32 : Nat) (ma33 : Nat) (ma34 : Nat) (ma35 : Nat) (ma36 : Nat) (ma40 : Nat) (ma41 : Nat) (ma42 : Nat) (ma45 : Nat) (ma46 : Nat) (ma47 : Nat) (ma49 : Nat) (ma50 : Nat) (ma51 : Nat) (ma52 : Nat) (mn0 : Int32) (mn5 : Int32) (mn7 : Int32) (mn8 : Int32) (mn9 : Int32) (mn10 : Int32) (mn11 : Int32) (mn12 : Int32) (mn13 : Int32) (mn15 : Int32) (mn16 : Int32) (mn17 : Int32) (mn18 : Int32) (mn19 : Int32) (mn20 : Int32) (mn25 : Int32) (mn37 : Int32) (mn38 : Int32) (mn39 : Int32) (mn43 : Int32) (mn44 : Int32) (mn48 : Int32) (mf1 : Nat → Int32) (hs1_0 : GW mf1) : Ro l D K yX12_allPlaces cX12_allPlaces 1 (some .int) 0 0 [.ref md] [(md, .inr (11, [.int mn0, .ref ma1, .ref ma2, .ref ma3, .ref ma4, .int mn5, .ref ma6, .int mn7, .int mn8, .int mn9, .int mn10, .int mn11, .int mn12, .int mn13, .ref ma14, .int mn15, .int mn16, .int mn17, .int mn18, .int mn19, .int mn20, .ref ma21, .ref ma22, .ref ma23, .ref ma24, .int mn25, .ref ma26, .ref ma27, .ref ma28, .ref ma29, .ref ma30, .ref ma31, .ref ma32, .ref ma33, .ref ma34, .ref ma35, .ref ma36, .int mn37, .int mn38, .int mn39, .ref ma40, .ref ma41, .ref ma42, .int mn43, .int mn44, .ref ma45, .ref ma46, .ref ma47, .int mn48, .ref ma49, .ref ma50, .ref ma51, .ref ma52])), (ma1, .inl (K 1, 262, .inl mf1))] (fun r => ((0 ≤ r.toInt) ∧ (r.toInt ≤ 1023) ∧ (r = alF mf1))) := by
  refine ro_of (by decide) (Nat.le_of_ble_eq_true rfl) ?_
  intro p e s m below meth c hC hr hk hE hP ls hl
  replace hC : CallFix p m c cX12_allPlaces 1 s [.ref md].toArray wl RX12 := hC
  have hx := hC.1
  have hb := hC.2.1
  have hml := hC.2.2.1
  have hown := hC.2.2.2.1
  have hts := hC.2.2.2.2
  replace hl : lv_has ls 1 [(0, .ref md)] := hl
  have kc_1 : (1 : Int32).toInt = 1 := by decide
  have hW0 := gwn_0 hs1_0; have hW1 := gwn_1 hs1_0; have hW2 := gwn_2 hs1_0; have hW4 := gwn_4 hs1_0
  refine lv_iconst (v := 1) hx hb dX12_allPlaces_0 (by decide) ?_
  refine lv_aload_n hx hb dX12_allPlaces_1 rfl (lv_at hl 0 rfl) ?_
  refine va_get (D := D) (ci := 11) (v := .ref ma1) (C := RX12) (T := TX12) (N := 53) hx hb hts in_X12 hown hE.1 hP 0 rfl rfl 1 (by decide) (hts _ w_821) (fun _ h9 => h9) rfl dX12_allPlaces_2 ?_
  refine lv_iconst (v := 0) hx hb dX12_allPlaces_5 (by decide) ?_
  refine va_iald hx hb hE.1 hP 1 1 rfl rfl (in_c (by decide)) dX12_allPlaces_6 ?_
  refine lv_topi (fun v15434 ev15434 => ?_)
  have tv15434 := gw_0 hs1_0 ev15434
  have zv15434 : v15434.toInt = (mf1 0).toInt := by rw [ev15434]; rfl
  refine lv_ishl hx hb dX12_allPlaces_7 ?_
  refine lv_topi (fun v15435 ev15435 => ?_)
  refine lv_iconst (v := 1) hx hb dX12_allPlaces_8 (by decide) ?_
  refine lv_isub hx hb dX12_allPlaces_9 ?_
  refine lv_topi (fun v15436 ev15436 => ?_)
  have tv15435 := shl1_b ev15435 (by omega) (by omega)
  have tv15436 : v15436.toInt = (v15435 : Int32).toInt - (1 : Int32).toInt := sub_i ev15436 (by omega) (by omega)
  exact ro_ret hC hr hk dX12_allPlaces_10 ⟨(by omega), (by omega), (by rw [ev15436, ev15435, ev15434]; rfl)⟩
set_option maxRecDepth 40000 in
set_option maxHeartbeats 4000000 in
theorem c_X12_isSet_f (l : Launch) (D : va_G) (K : Nat → ClassId) (md : Nat) (ma1 : Nat) (ma2 : Nat) (ma3 : Nat) (ma4 : Nat) (ma6 : Nat) (ma14 : Nat) (ma21 : Nat) (ma22 : Nat) (ma23 : Nat) (ma24 : Nat) (ma26 : Nat) (ma27 : Nat) (ma28 : Nat) (ma29 : Nat) (ma30 : Nat) (ma31 : Nat) (ma32 : Nat) (ma33 : Nat) (ma34 : Nat) (ma35 : Nat) (ma36 : Nat) (ma40 : Nat) (ma41 : Nat) (ma42 : Nat) (ma45 : Nat) (ma46 : Nat) (ma47 : Nat) (ma49 : Nat) (ma50 : Nat) (ma51 : Nat) (ma52 : Nat) (mn0 : Int32) (mn5 : Int32) (mn7 : Int32) (mn8 : Int32) (mn9 : Int32) (mn10 : Int32) (mn11 : Int32) (mn12 : Int32) (mn13 : Int32) (mn15 : Int32) (mn16 : Int32) (mn17 : Int32) (mn18 : Int32) (mn19 : Int32) (mn20 : Int32) (mn25 : Int32) (mn37 : Int32) (mn38 : Int32) (mn39 : Int32) (mn43 : Int32) (mn44 : Int32) (mn48 : Int32) (mf1 : Nat → Int32) (p0 : Int32) (hs1_0 : GW mf1) : Ro l D K yX12_isSet cX12_isSet 2 (some .boolean) 1 25 [.ref md, .int p0] [(md, .inr (11, [.int mn0, .ref ma1, .ref ma2, .ref ma3, .ref ma4, .int mn5, .ref ma6, .int mn7, .int mn8, .int mn9, .int mn10, .int mn11, .int mn12, .int mn13, .ref ma14, .int mn15, .int mn16, .int mn17, .int mn18, .int mn19, .int mn20, .ref ma21, .ref ma22, .ref ma23, .ref ma24, .int mn25, .ref ma26, .ref ma27, .ref ma28, .ref ma29, .ref ma30, .ref ma31, .ref ma32, .ref ma33, .ref ma34, .ref ma35, .ref ma36, .int mn37, .int mn38, .int mn39, .ref ma40, .ref ma41, .ref ma42, .int mn43, .int mn44, .ref ma45, .ref ma46, .ref ma47, .int mn48, .ref ma49, .ref ma50, .ref ma51, .ref ma52])), (ma1, .inl (K 1, 262, .inl mf1))] (fun r => (r = 0) ∨ (r = 1 ∧ (1 ≤ p0.toInt) ∧ (p0.toInt ≤ 1023) ∧ (p0.toInt ≤ (alF mf1).toInt))) := by
  refine ro_of (by decide) (Nat.le_of_ble_eq_true rfl) ?_
  intro p e s m below meth c hC hr hk hE hP ls hl
  replace hC : CallFix p m c cX12_isSet 2 s [.ref md, .int p0].toArray wl RX12 := hC
  have hx := hC.1
  have hb := hC.2.1
  have hml := hC.2.2.1
  have hown := hC.2.2.2.1
  have hts := hC.2.2.2.2
  replace hl : lv_has ls 2 [(0, .ref md), (1, .int p0)] := hl
  have kl_1 : (1 : Int64).toInt = 1 := by decide
  have hW0 := gwn_0 hs1_0; have hW1 := gwn_1 hs1_0; have hW2 := gwn_2 hs1_0; have hW4 := gwn_4 hs1_0
  refine lv_aload_n hx hb dX12_isSet_0 rfl (lv_at hl 0 rfl) ?_
  refine ro_V (As := []) (rest := []) hC hE kV_X12_125 (c_X12_isWood l D K md ma1 ma2 ma3 ma4 ma6 ma14 ma21 ma22 ma23 ma24 ma26 ma27 ma28 ma29 ma30 ma31 ma32 ma33 ma34 ma35 ma36 ma40 ma41 ma42 ma45 ma46 ma47 ma49 ma50 ma51 ma52 mn0 mn5 mn7 mn8 mn9 mn10 mn11 mn12 mn13 mn15 mn16 mn17 mn18 mn19 mn20 mn25 mn37 mn38 mn39 mn43 mn44 mn48 mf1 hs1_0) (hP.sub (ws' := [(md, .inr (11, [.int mn0, .ref ma1, .ref ma2, .ref ma3, .ref ma4, .int mn5, .ref ma6, .int mn7, .int mn8, .int mn9, .int mn10, .int mn11, .int mn12, .int mn13, .ref ma14, .int mn15, .int mn16, .int mn17, .int mn18, .int mn19, .int mn20, .ref ma21, .ref ma22, .ref ma23, .ref ma24, .int mn25, .ref ma26, .ref ma27, .ref ma28, .ref ma29, .ref ma30, .ref ma31, .ref ma32, .ref ma33, .ref ma34, .ref ma35, .ref ma36, .int mn37, .int mn38, .int mn39, .ref ma40, .ref ma41, .ref ma42, .int mn43, .int mn44, .ref ma45, .ref ma46, .ref ma47, .int mn48, .ref ma49, .ref ma50, .ref ma51, .ref ma52])), (ma1, .inl (K 1, 262, .inl mf1))]) [0, 1] rfl) 0 11 rfl rfl rfl hl.1 rfl (Nat.le_of_ble_eq_true rfl) (by decide) (by decide) dX12_isSet_1 (fun r15437 hq => ?_)
  rcases hq with rfl | rfl
  · refine lv_if_eq (tgt := 25) hx hb dX12_isSet_4 (by decide) (fun _ => ?_) (fun h => absurd h (by decide))
    refine lv_iconst (v := 0) hx hb dX12_isSet_25 (by decide) ?_
    exact ro_zret hC hr hk dX12_isSet_26 rfl (Or.inl rfl)
  · refine lv_if_eq (tgt := 25) hx hb dX12_isSet_4 (by decide) (fun h => absurd h (by decide)) (fun _ => ?_)
    refine lv_iload_n hx hb dX12_isSet_7 rfl (lv_at hl 1 rfl) ?_
    refine lv_i2l hx hb dX12_isSet_8 rfl ?_
    refine lv_topl (fun v15438 ev15438 => ?_)
    refine lv_lconst (v := 1) hx hb dX12_isSet_9 (by decide) ?_
    refine lv_aload_n hx hb dX12_isSet_10 rfl (lv_at hl 0 rfl) ?_
    refine ro_V (As := []) (rest := [.long 1, .long v15438]) hC hE kV_X12_129 (c_X12_allPlaces_f l D K md ma1 ma2 ma3 ma4 ma6 ma14 ma21 ma22 ma23 ma24 ma26 ma27 ma28 ma29 ma30 ma31 ma32 ma33 ma34 ma35 ma36 ma40 ma41 ma42 ma45 ma46 ma47 ma49 ma50 ma51 ma52 mn0 mn5 mn7 mn8 mn9 mn10 mn11 mn12 mn13 mn15 mn16 mn17 mn18 mn19 mn20 mn25 mn37 mn38 mn39 mn43 mn44 mn48 mf1 hs1_0) (hP.sub (ws' := [(md, .inr (11, [.int mn0, .ref ma1, .ref ma2, .ref ma3, .ref ma4, .int mn5, .ref ma6, .int mn7, .int mn8, .int mn9, .int mn10, .int mn11, .int mn12, .int mn13, .ref ma14, .int mn15, .int mn16, .int mn17, .int mn18, .int mn19, .int mn20, .ref ma21, .ref ma22, .ref ma23, .ref ma24, .int mn25, .ref ma26, .ref ma27, .ref ma28, .ref ma29, .ref ma30, .ref ma31, .ref ma32, .ref ma33, .ref ma34, .ref ma35, .ref ma36, .int mn37, .int mn38, .int mn39, .ref ma40, .ref ma41, .ref ma42, .int mn43, .int mn44, .ref ma45, .ref ma46, .ref ma47, .int mn48, .ref ma49, .ref ma50, .ref ma51, .ref ma52])), (ma1, .inl (K 1, 262, .inl mf1))]) [0, 1] rfl) 0 11 rfl rfl rfl hl.1 rfl (Nat.le_of_ble_eq_true rfl) (by decide) (by decide) dX12_isSet_11 (fun r15442 hq => ?_)
    obtain ⟨h15439, h15440, h15441⟩ := hq
    have q15443 : r15442.toInt = (alF mf1).toInt := by rw [h15441]
    refine lv_i2l hx hb dX12_isSet_14 rfl ?_
    refine lv_topl (fun v15444 ev15444 => ?_)
    have tv15438 : v15438.toInt = (p0 : Int32).toInt := i2l_i ev15438
    have tv15444 : v15444.toInt = (r15442 : Int32).toInt := i2l_i ev15444
    refine ro_S (As := [.long v15438, .long 1, .long v15444]) (rest := []) hC hE kS_X12_115 (c_X12_in l D K v15438 1 v15444) (hP.sub (ws' := []) [] rfl) rfl hl.1 rfl (Nat.le_of_ble_eq_true rfl) (by decide) (by decide) dX12_isSet_15 (fun r15448 hq => ?_)
    rcases hq with ⟨rfl, h15445⟩ | ⟨rfl, h15446, h15447⟩
    · refine lv_if_eq (tgt := 25) hx hb dX12_isSet_18 (by decide) (fun _ => ?_) (fun h => absurd h (by decide))
      refine lv_iconst (v := 0) hx hb dX12_isSet_25 (by decide) ?_
      exact ro_zret hC hr hk dX12_isSet_26 rfl (Or.inl rfl)
    · refine lv_if_eq (tgt := 25) hx hb dX12_isSet_18 (by decide) (fun h => absurd h (by decide)) (fun _ => ?_)
      refine lv_iconst (v := 1) hx hb dX12_isSet_21 (by decide) ?_
      refine lv_goto (tgt := 26) hx hb dX12_isSet_22 (by decide) ?_
      exact ro_zret hC hr hk dX12_isSet_26 rfl (Or.inr ⟨rfl, (by omega), (by omega), (by omega)⟩)
set_option maxRecDepth 40000 in
set_option maxHeartbeats 4000000 in
theorem c_X12_fillDepths (l : Launch) (D : va_G) (K : Nat → ClassId) (md : Nat) (ma1 : Nat) (ma2 : Nat) (ma3 : Nat) (ma4 : Nat) (ma6 : Nat) (ma14 : Nat) (ma21 : Nat) (ma22 : Nat) (ma23 : Nat) (ma24 : Nat) (ma26 : Nat) (ma27 : Nat) (ma28 : Nat) (ma29 : Nat) (ma30 : Nat) (ma31 : Nat) (ma32 : Nat) (ma33 : Nat) (ma34 : Nat) (ma35 : Nat) (ma36 : Nat) (ma40 : Nat) (ma41 : Nat) (ma42 : Nat) (ma45 : Nat) (ma46 : Nat) (ma47 : Nat) (ma49 : Nat) (ma50 : Nat) (ma51 : Nat) (ma52 : Nat) (mn0 : Int32) (mn5 : Int32) (mn7 : Int32) (mn8 : Int32) (mn9 : Int32) (mn10 : Int32) (mn11 : Int32) (mn12 : Int32) (mn13 : Int32) (mn15 : Int32) (mn16 : Int32) (mn17 : Int32) (mn18 : Int32) (mn19 : Int32) (mn20 : Int32) (mn25 : Int32) (mn37 : Int32) (mn38 : Int32) (mn39 : Int32) (mn43 : Int32) (mn44 : Int32) (mn48 : Int32) (mf1 : Nat → Int32) (mf26 : Nat → Int32) (hs1_0 : GW mf1) : Cv (S := ((Nat → Int32) × (Nat → Nat → Int32) × (Nat → Nat → Int64))) l D K yX12_fillDepths cX12_fillDepths 6 3 68 0 0 [.ref md] [(md, .inr (11, [.int mn0, .ref ma1, .ref ma2, .ref ma3, .ref ma4, .int mn5, .ref ma6, .int mn7, .int mn8, .int mn9, .int mn10, .int mn11, .int mn12, .int mn13, .ref ma14, .int mn15, .int mn16, .int mn17, .int mn18, .int mn19, .int mn20, .ref ma21, .ref ma22, .ref ma23, .ref ma24, .int mn25, .ref ma26, .ref ma27, .ref ma28, .ref ma29, .ref ma30, .ref ma31, .ref ma32, .ref ma33, .ref ma34, .ref ma35, .ref ma36, .int mn37, .int mn38, .int mn39, .ref ma40, .ref ma41, .ref ma42, .int mn43, .int mn44, .ref ma45, .ref ma46, .ref ma47, .int mn48, .ref ma49, .ref ma50, .ref ma51, .ref ma52])), (ma1, .inl (K 1, 262, .inl mf1)), (ma26, .inl (K 1, 1024, .inl mf26))] (fun u => (FD mf1 (u.2.1 0) (alF mf1).toInt) ∧ (Rg 0 1000000 1024 (u.2.1 0))) (fun u => [(md, .inr (11, [.int mn0, .ref ma1, .ref ma2, .ref ma3, .ref ma4, .int mn5, .ref ma6, .int mn7, .int mn8, .int mn9, .int mn10, .int mn11, .int mn12, .int mn13, .ref ma14, .int mn15, .int mn16, .int mn17, .int mn18, .int mn19, .int mn20, .ref ma21, .ref ma22, .ref ma23, .ref ma24, .int mn25, .ref ma26, .ref ma27, .ref ma28, .ref ma29, .ref ma30, .ref ma31, .ref ma32, .ref ma33, .ref ma34, .ref ma35, .ref ma36, .int mn37, .int mn38, .int mn39, .ref ma40, .ref ma41, .ref ma42, .int mn43, .int mn44, .ref ma45, .ref ma46, .ref ma47, .int mn48, .ref ma49, .ref ma50, .ref ma51, .ref ma52])), (ma1, .inl (K 1, 262, .inl mf1)), (ma26, .inl (K 1, 1024, .inl (u.2.1 0)))]) := by
  intro sz
  refine ch_of (y := yX12_fillDepths) (cc := cX12_fillDepths) (maxL := 6) (ret := none) (av := [.ref md]) (ws := [(md, .inr (11, [.int mn0, .ref ma1, .ref ma2, .ref ma3, .ref ma4, .int mn5, .ref ma6, .int mn7, .int mn8, .int mn9, .int mn10, .int mn11, .int mn12, .int mn13, .ref ma14, .int mn15, .int mn16, .int mn17, .int mn18, .int mn19, .int mn20, .ref ma21, .ref ma22, .ref ma23, .ref ma24, .int mn25, .ref ma26, .ref ma27, .ref ma28, .ref ma29, .ref ma30, .ref ma31, .ref ma32, .ref ma33, .ref ma34, .ref ma35, .ref ma36, .int mn37, .int mn38, .int mn39, .ref ma40, .ref ma41, .ref ma42, .int mn43, .int mn44, .ref ma45, .ref ma46, .ref ma47, .int mn48, .ref ma49, .ref ma50, .ref ma51, .ref ma52])), (ma1, .inl (K 1, 262, .inl mf1)), (ma26, .inl (K 1, 1024, .inl mf26))]) (D := D) (K := K) (Qc := fun A => va_Qv (S := ((Nat → Int32) × (Nat → Nat → Int32) × (Nat → Nat → Int64))) (fun u => (FD mf1 (u.2.1 0) (alF mf1).toInt) ∧ (Rg 0 1000000 1024 (u.2.1 0))) (chB D A (fun u => [(md, .inr (11, [.int mn0, .ref ma1, .ref ma2, .ref ma3, .ref ma4, .int mn5, .ref ma6, .int mn7, .int mn8, .int mn9, .int mn10, .int mn11, .int mn12, .int mn13, .ref ma14, .int mn15, .int mn16, .int mn17, .int mn18, .int mn19, .int mn20, .ref ma21, .ref ma22, .ref ma23, .ref ma24, .int mn25, .ref ma26, .ref ma27, .ref ma28, .ref ma29, .ref ma30, .ref ma31, .ref ma32, .ref ma33, .ref ma34, .ref ma35, .ref ma36, .int mn37, .int mn38, .int mn39, .ref ma40, .ref ma41, .ref ma42, .int mn43, .int mn44, .ref ma45, .ref ma46, .ref ma47, .int mn48, .ref ma49, .ref ma50, .ref ma51, .ref ma52])), (ma1, .inl (K 1, 262, .inl mf1)), (ma26, .inl (K 1, 1024, .inl (u.2.1 0)))])) A) (by decide) (Nat.le_of_ble_eq_true rfl) ?_
  intro p e s m below meth c A hC hr hk hin hE hD hA H locs hP hS ls hl
  replace hC : CallFix p m c cX12_fillDepths 6 s [.ref md].toArray wl RX12 := hC
  have hx := hC.1
  have hb := hC.2.1
  have hml := hC.2.2.1
  have hown := hC.2.2.2.1
  have hts := hC.2.2.2.2
  replace hl : lv_has ls 6 [(0, .ref md)] := hl
  have kc_0 : (0 : Int32).toInt = 0 := by decide
  have kc_1 : (1 : Int32).toInt = 1 := by decide
  have kc_4 : (4 : Int32).toInt = 4 := by decide
  have kc_1024 : (1024 : Int32).toInt = 1024 := by decide
  have kc_1000000 : (1000000 : Int32).toInt = 1000000 := by decide
  have hW0 := gwn_0 hs1_0; have hW1 := gwn_1 hs1_0; have hW2 := gwn_2 hs1_0; have hW4 := gwn_4 hs1_0
  have hal := al_b hs1_0
  refine lv_iconst (v := 0) hx hb dX12_fillDepths_0 (by decide) ?_
  refine lv_istore_n (lv' := [(1, .int 0), (0, .ref md)]) hx hb dX12_fillDepths_1 rfl hl (by decide) rfl (fun ls hl => ?_)
  have hl' := hl; have hP' := hP; have hD' := hD; clear hl hP hD
  obtain ⟨i15501, g15502, hi_2, hf_2, hl, hP, hD⟩ : ∃ (i15501 : Int32) (g15502 : Nat → Int32), ((0 : Int) ≤ i15501.toInt) ∧ (∀ j : Nat, (j : Int) < i15501.toInt → (g15502 j).toInt = 0 ∨ (g15502 j).toInt = 1000000) ∧ lv_has ls 6 [(1, .int i15501), (0, .ref md)] ∧ va_P D vwCl [(md, .inr (11, [.int mn0, .ref ma1, .ref ma2, .ref ma3, .ref ma4, .int mn5, .ref ma6, .int mn7, .int mn8, .int mn9, .int mn10, .int mn11, .int mn12, .int mn13, .ref ma14, .int mn15, .int mn16, .int mn17, .int mn18, .int mn19, .int mn20, .ref ma21, .ref ma22, .ref ma23, .ref ma24, .int mn25, .ref ma26, .ref ma27, .ref ma28, .ref ma29, .ref ma30, .ref ma31, .ref ma32, .ref ma33, .ref ma34, .ref ma35, .ref ma36, .int mn37, .int mn38, .int mn39, .ref ma40, .ref ma41, .ref ma42, .int mn43, .int mn44, .ref ma45, .ref ma46, .ref ma47, .int mn48, .ref ma49, .ref ma50, .ref ma51, .ref ma52])), (ma1, .inl (K 1, 262, .inl mf1)), (ma26, .inl (K 1, 1024, .inl g15502))] H ∧ va_D A [(md, .inr (11, [.int mn0, .ref ma1, .ref ma2, .ref ma3, .ref ma4, .int mn5, .ref ma6, .int mn7, .int mn8, .int mn9, .int mn10, .int mn11, .int mn12, .int mn13, .ref ma14, .int mn15, .int mn16, .int mn17, .int mn18, .int mn19, .int mn20, .ref ma21, .ref ma22, .ref ma23, .ref ma24, .int mn25, .ref ma26, .ref ma27, .ref ma28, .ref ma29, .ref ma30, .ref ma31, .ref ma32, .ref ma33, .ref ma34, .ref ma35, .ref ma36, .int mn37, .int mn38, .int mn39, .ref ma40, .ref ma41, .ref ma42, .int mn43, .int mn44, .ref ma45, .ref ma46, .ref ma47, .int mn48, .ref ma49, .ref ma50, .ref ma51, .ref ma52])), (ma1, .inl (K 1, 262, .inl mf1)), (ma26, .inl (K 1, 1024, .inl g15502))] := ⟨_, _, by omega, fun j hj => absurd hj (by omega), hl', hP', hD'⟩
  clear hl' hP' hD'
  obtain ⟨n_2, hn_2⟩ : ∃ n : Nat, (1024 - i15501.toInt).toNat < n := ⟨_, Nat.lt_succ_self _⟩
  induction n_2 generalizing i15501 g15502 H locs ls with
  | zero => exact absurd hn_2 (Nat.not_lt_zero _)
  | succ n_2 ih_2 =>
    refine lv_iload_n hx hb dX12_fillDepths_2 rfl (lv_at hl 0 rfl) ?_
    refine lv_sipush (v := 1024) hx hb dX12_fillDepths_3 (by decide) ?_
    refine lv_icmp_ge (tgt := 36) hx hb dX12_fillDepths_6 (by decide) (fun c15503 => ?_) (fun c15503 => ?_)
    · replace c15503 := le_i c15503
      refine lv_iconst (v := 1) hx hb dX12_fillDepths_36 (by decide) ?_
      refine lv_istore_n (lv' := [(1, .int 1), (0, .ref md)]) hx hb dX12_fillDepths_37 rfl hl (by decide) rfl (fun ls hl => ?_)
      refine lv_iconst (v := 1) hx hb dX12_fillDepths_38 (by decide) ?_
      refine lv_istore_n (lv' := [(2, .int 1), (1, .int 1), (0, .ref md)]) hx hb dX12_fillDepths_39 rfl hl (by decide) rfl (fun ls hl => ?_)
      have q15504 : Rg 0 1000000 1024 g15502 := fun i hi => by have h9 := hf_2 i (by omega); omega
      have hcl_40 := cnt_le g15502 1000000 1024
      have hl' := hl; have hP' := hP; have hD' := hD; clear hl hP hD
      obtain ⟨i15541, i15542, g15543, hm_40, ho_40, hc_40, hfd_40, qRg_ma26_40, hl, hP, hD⟩ : ∃ (i15541 : Int32) (i15542 : Int32) (g15543 : Nat → Int32), (i15542.toInt = 0 ∨ i15542.toInt = 1) ∧ (1 ≤ i15541.toInt) ∧ (i15542.toInt = 0 ∨ (cntE g15543 1000000 1024 : Int) + i15541.toInt ≤ 1025) ∧ (FDm mf1 g15543 (alF mf1).toInt i15541.toInt 1) ∧ (Rg 0 1000000 1024 g15543) ∧ lv_has ls 6 [(2, .int i15541), (1, .int i15542), (0, .ref md)] ∧ va_P D vwCl [(md, .inr (11, [.int mn0, .ref ma1, .ref ma2, .ref ma3, .ref ma4, .int mn5, .ref ma6, .int mn7, .int mn8, .int mn9, .int mn10, .int mn11, .int mn12, .int mn13, .ref ma14, .int mn15, .int mn16, .int mn17, .int mn18, .int mn19, .int mn20, .ref ma21, .ref ma22, .ref ma23, .ref ma24, .int mn25, .ref ma26, .ref ma27, .ref ma28, .ref ma29, .ref ma30, .ref ma31, .ref ma32, .ref ma33, .ref ma34, .ref ma35, .ref ma36, .int mn37, .int mn38, .int mn39, .ref ma40, .ref ma41, .ref ma42, .int mn43, .int mn44, .ref ma45, .ref ma46, .ref ma47, .int mn48, .ref ma49, .ref ma50, .ref ma51, .ref ma52])), (ma1, .inl (K 1, 262, .inl mf1)), (ma26, .inl (K 1, 1024, .inl g15543))] H ∧ va_D A [(md, .inr (11, [.int mn0, .ref ma1, .ref ma2, .ref ma3, .ref ma4, .int mn5, .ref ma6, .int mn7, .int mn8, .int mn9, .int mn10, .int mn11, .int mn12, .int mn13, .ref ma14, .int mn15, .int mn16, .int mn17, .int mn18, .int mn19, .int mn20, .ref ma21, .ref ma22, .ref ma23, .ref ma24, .int mn25, .ref ma26, .ref ma27, .ref ma28, .ref ma29, .ref ma30, .ref ma31, .ref ma32, .ref ma33, .ref ma34, .ref ma35, .ref ma36, .int mn37, .int mn38, .int mn39, .ref ma40, .ref ma41, .ref ma42, .int mn43, .int mn44, .ref ma45, .ref ma46, .ref ma47, .int mn48, .ref ma49, .ref ma50, .ref ma51, .ref ma52])), (ma1, .inl (K 1, 262, .inl mf1)), (ma26, .inl (K 1, 1024, .inl g15543))] := ⟨_, _, _, by omega, by omega, by omega, fd_0 (fun s hs => hf_2 s (by omega)) (by decide) rfl, q15504, hl', hP', hD'⟩
      clear hl' hP' hD'
      obtain ⟨n_40, hn_40⟩ : ∃ n : Nat, cntE g15543 1000000 1024 + i15542.toInt.toNat < n := ⟨_, Nat.lt_succ_self _⟩
      induction n_40 generalizing i15541 i15542 g15543 H locs ls with
      | zero => exact absurd hn_40 (Nat.not_lt_zero _)
      | succ n_40 ih_40 =>
        refine lv_iload_n hx hb dX12_fillDepths_40 rfl (lv_at hl 1 rfl) ?_
        refine lv_if_eq (tgt := 147) hx hb dX12_fillDepths_41 (by decide) (fun c15544 => ?_) (fun c15544 => ?_)
        · replace c15544 := eq_i c15544
          refine W.widen (k := 0) (n := 0) (by decide) (by decide) ?_
          exact ch_vret hC hr hk hS dX12_fillDepths_147 ((fun k => [].getD k 0, fun k => [g15543].getD k (fun _ => 0), fun k => [].getD k (fun _ => 0)) : ((Nat → Int32) × (Nat → Nat → Int32) × (Nat → Nat → Int64))) ⟨(show FD mf1 g15543 (alF mf1).toInt from (fd_of hfd_40)), (show Rg 0 1000000 1024 g15543 from qRg_ma26_40)⟩ (hP.sub [0, 1, 2] rfl) (hD.sub [0, 1, 2] (by decide) rfl)
        · replace c15544 := ne_i c15544
          refine lv_iconst (v := 0) hx hb dX12_fillDepths_44 (by decide) ?_
          refine lv_istore_n (lv' := [(1, .int 0), (2, .int i15541), (0, .ref md)]) hx hb dX12_fillDepths_45 rfl hl (by decide) rfl (fun ls hl => ?_)
          refine lv_iconst (v := 1) hx hb dX12_fillDepths_46 (by decide) ?_
          refine lv_istore_n (lv' := [(3, .int 1), (1, .int 0), (2, .int i15541), (0, .ref md)]) hx hb dX12_fillDepths_47 rfl hl (by decide) rfl (fun ls hl => ?_)
          have hl' := hl; have hP' := hP; have hD' := hD; clear hl hP hD
          obtain ⟨i15577, i15578, g15579, hi_48, hm_48, hfd_48, qRg_ma26_48, hl, hP, hD⟩ : ∃ (i15577 : Int32) (i15578 : Int32) (g15579 : Nat → Int32), ((1 : Int) ≤ i15577.toInt) ∧ ((i15578.toInt = 0 ∧ cntE g15579 1000000 1024 ≤ cntE g15543 1000000 1024) ∨ (i15578.toInt = 1 ∧ cntE g15579 1000000 1024 + 1 ≤ cntE g15543 1000000 1024)) ∧ (FDm mf1 g15579 (alF mf1).toInt i15541.toInt i15577.toInt) ∧ (Rg 0 1000000 1024 g15579) ∧ lv_has ls 6 [(3, .int i15577), (1, .int i15578), (2, .int i15541), (0, .ref md)] ∧ va_P D vwCl [(md, .inr (11, [.int mn0, .ref ma1, .ref ma2, .ref ma3, .ref ma4, .int mn5, .ref ma6, .int mn7, .int mn8, .int mn9, .int mn10, .int mn11, .int mn12, .int mn13, .ref ma14, .int mn15, .int mn16, .int mn17, .int mn18, .int mn19, .int mn20, .ref ma21, .ref ma22, .ref ma23, .ref ma24, .int mn25, .ref ma26, .ref ma27, .ref ma28, .ref ma29, .ref ma30, .ref ma31, .ref ma32, .ref ma33, .ref ma34, .ref ma35, .ref ma36, .int mn37, .int mn38, .int mn39, .ref ma40, .ref ma41, .ref ma42, .int mn43, .int mn44, .ref ma45, .ref ma46, .ref ma47, .int mn48, .ref ma49, .ref ma50, .ref ma51, .ref ma52])), (ma1, .inl (K 1, 262, .inl mf1)), (ma26, .inl (K 1, 1024, .inl g15579))] H ∧ va_D A [(md, .inr (11, [.int mn0, .ref ma1, .ref ma2, .ref ma3, .ref ma4, .int mn5, .ref ma6, .int mn7, .int mn8, .int mn9, .int mn10, .int mn11, .int mn12, .int mn13, .ref ma14, .int mn15, .int mn16, .int mn17, .int mn18, .int mn19, .int mn20, .ref ma21, .ref ma22, .ref ma23, .ref ma24, .int mn25, .ref ma26, .ref ma27, .ref ma28, .ref ma29, .ref ma30, .ref ma31, .ref ma32, .ref ma33, .ref ma34, .ref ma35, .ref ma36, .int mn37, .int mn38, .int mn39, .ref ma40, .ref ma41, .ref ma42, .int mn43, .int mn44, .ref ma45, .ref ma46, .ref ma47, .int mn48, .ref ma49, .ref ma50, .ref ma51, .ref ma52])), (ma1, .inl (K 1, 262, .inl mf1)), (ma26, .inl (K 1, 1024, .inl g15579))] := ⟨_, _, _, by omega, by omega, (by rw [show ((1 : Int32).toInt) = 1 from by decide]; exact hfd_40), qRg_ma26_40, hl', hP', hD'⟩
          clear hl' hP' hD'
          obtain ⟨n_48, hn_48⟩ : ∃ n : Nat, (1024 - i15577.toInt).toNat < n := ⟨_, Nat.lt_succ_self _⟩
          induction n_48 generalizing i15577 i15578 g15579 H locs ls with
          | zero => exact absurd hn_48 (Nat.not_lt_zero _)
          | succ n_48 ih_48 =>
            refine lv_iload_n hx hb dX12_fillDepths_48 rfl (lv_at hl 0 rfl) ?_
            refine lv_aload_n hx hb dX12_fillDepths_49 rfl (lv_at hl 3 rfl) ?_
            refine ro_V (As := []) (rest := [.int i15577]) hC hE kV_X12_129 (c_X12_allPlaces_f l D K md ma1 ma2 ma3 ma4 ma6 ma14 ma21 ma22 ma23 ma24 ma26 ma27 ma28 ma29 ma30 ma31 ma32 ma33 ma34 ma35 ma36 ma40 ma41 ma42 ma45 ma46 ma47 ma49 ma50 ma51 ma52 mn0 mn5 mn7 mn8 mn9 mn10 mn11 mn12 mn13 mn15 mn16 mn17 mn18 mn19 mn20 mn25 mn37 mn38 mn39 mn43 mn44 mn48 mf1 hs1_0) (hP.sub (ws' := [(md, .inr (11, [.int mn0, .ref ma1, .ref ma2, .ref ma3, .ref ma4, .int mn5, .ref ma6, .int mn7, .int mn8, .int mn9, .int mn10, .int mn11, .int mn12, .int mn13, .ref ma14, .int mn15, .int mn16, .int mn17, .int mn18, .int mn19, .int mn20, .ref ma21, .ref ma22, .ref ma23, .ref ma24, .int mn25, .ref ma26, .ref ma27, .ref ma28, .ref ma29, .ref ma30, .ref ma31, .ref ma32, .ref ma33, .ref ma34, .ref ma35, .ref ma36, .int mn37, .int mn38, .int mn39, .ref ma40, .ref ma41, .ref ma42, .int mn43, .int mn44, .ref ma45, .ref ma46, .ref ma47, .int mn48, .ref ma49, .ref ma50, .ref ma51, .ref ma52])), (ma1, .inl (K 1, 262, .inl mf1))]) [0, 1] rfl) 0 11 rfl rfl rfl hl.1 rfl (Nat.le_of_ble_eq_true rfl) (by decide) (by decide) dX12_fillDepths_50 (fun r15583 hq => ?_)
            obtain ⟨h15580, h15581, h15582⟩ := hq
            have q15584 : r15583.toInt = (alF mf1).toInt := by rw [h15582]
            refine lv_icmp_gt (tgt := 141) hx hb dX12_fillDepths_53 (by decide) (fun c15585 => ?_) (fun c15585 => ?_)
            · replace c15585 := lt_i c15585
              obtain ⟨v15586, ev15586⟩ : ∃ z : Int32, z = i15541 + 1 := ⟨_, rfl⟩
              refine lv_iinc (v := v15586) (lv' := [(2, .int v15586), (3, .int i15577), (1, .int i15578), (0, .ref md)]) hx hb dX12_fillDepths_141 hl (k := 2) rfl (by rw [ev15586]; rfl) (by decide) rfl (fun ls hl => ?_)
              refine lv_goto (tgt := 40) hx hb dX12_fillDepths_144 (by decide) ?_
              have tv15586 : v15586.toInt = (i15541 : Int32).toInt + (1 : Int32).toInt := add_i ev15586 (by omega) (by omega)
              exact ih_40 (i15541 := v15586) (i15542 := i15578) (g15543 := g15579) (hm_40 := by omega) (ho_40 := by omega) (hc_40 := by omega) (hfd_40 := fd_next hfd_48 (by omega) (by omega) rfl) (qRg_ma26_40 := qRg_ma26_48) (H := H) (locs := locs) (ls := ls) (hn_40 := by omega) (hP := hP) (hD := hD) (hS := hS) (hl := lv_sub hl [0, 2, 3] rfl)
            · replace c15585 := nlt_i c15585
              refine lv_aload_n hx hb dX12_fillDepths_56 rfl (lv_at hl 3 rfl) ?_
              refine va_get (D := D) (ci := 11) (v := .ref ma26) (C := RX12) (T := TX12) (N := 53) hx hb hts in_X12 hown hE.1 hP 0 rfl rfl 26 (by decide) (hts _ w_1155) (fun _ h9 => h9) rfl dX12_fillDepths_57 ?_
              refine lv_iload_n hx hb dX12_fillDepths_60 rfl (lv_at hl 0 rfl) ?_
              refine va_iald hx hb hE.1 hP 2 1 rfl rfl (vp_in_iff.mpr (by omega)) dX12_fillDepths_61 ?_
              refine lv_topi (fun v15587 ev15587 => ?_)
              have zv15587 : v15587.toInt = (g15579 i15577.toInt.toNat).toInt := by rw [ev15587]; rfl
              have tv15587 := rg_at qRg_ma26_48 ev15587 (in_lt (i := i15577) (vp_in_iff.mpr (by omega)))
              refine lv_ldcw (v := 1000000) hx hb hown (hts _ w_1105) dX12_fillDepths_62 ?_
              refine lv_icmp_eq (tgt := 71) hx hb dX12_fillDepths_65 (by decide) (fun c15588 => ?_) (fun c15588 => ?_)
              · replace c15588 := eq_i c15588
                refine lv_iconst (v := 0) hx hb dX12_fillDepths_71 (by decide) ?_
                refine lv_istore (lv' := [(4, .int 0), (3, .int i15577), (1, .int i15578), (2, .int i15541), (0, .ref md)]) hx hb dX12_fillDepths_72 hl (by decide) rfl (fun ls hl => ?_)
                refine lv_iconst (v := 0) hx hb dX12_fillDepths_74 (by decide) ?_
                refine lv_istore (lv' := [(5, .int 0), (4, .int 0), (3, .int i15577), (1, .int i15578), (2, .int i15541), (0, .ref md)]) hx hb dX12_fillDepths_75 hl (by decide) rfl (fun ls hl => ?_)
                have hl' := hl; have hP' := hP; have hD' := hD; clear hl hP hD
                obtain ⟨i15603, i15604, hi_77, hv_77, hl, hP, hD⟩ : ∃ (i15603 : Int32) (i15604 : Int32), ((0 : Int) ≤ i15603.toInt) ∧ ((i15604.toInt = 1 ∧ ∃ w9 : Nat, w9 < 4 ∧ DD mf1 g15579 i15577.toInt.toNat w9 ≤ i15541.toInt - 1) ∨ (i15604.toInt = 0 ∧ ∀ w9 : Nat, (w9 : Int) < i15603.toInt → i15541.toInt - 1 < DD mf1 g15579 i15577.toInt.toNat w9)) ∧ lv_has ls 6 [(5, .int i15603), (4, .int i15604), (3, .int i15577), (1, .int i15578), (2, .int i15541), (0, .ref md)] ∧ va_P D vwCl [(md, .inr (11, [.int mn0, .ref ma1, .ref ma2, .ref ma3, .ref ma4, .int mn5, .ref ma6, .int mn7, .int mn8, .int mn9, .int mn10, .int mn11, .int mn12, .int mn13, .ref ma14, .int mn15, .int mn16, .int mn17, .int mn18, .int mn19, .int mn20, .ref ma21, .ref ma22, .ref ma23, .ref ma24, .int mn25, .ref ma26, .ref ma27, .ref ma28, .ref ma29, .ref ma30, .ref ma31, .ref ma32, .ref ma33, .ref ma34, .ref ma35, .ref ma36, .int mn37, .int mn38, .int mn39, .ref ma40, .ref ma41, .ref ma42, .int mn43, .int mn44, .ref ma45, .ref ma46, .ref ma47, .int mn48, .ref ma49, .ref ma50, .ref ma51, .ref ma52])), (ma1, .inl (K 1, 262, .inl mf1)), (ma26, .inl (K 1, 1024, .inl g15579))] H ∧ va_D A [(md, .inr (11, [.int mn0, .ref ma1, .ref ma2, .ref ma3, .ref ma4, .int mn5, .ref ma6, .int mn7, .int mn8, .int mn9, .int mn10, .int mn11, .int mn12, .int mn13, .ref ma14, .int mn15, .int mn16, .int mn17, .int mn18, .int mn19, .int mn20, .ref ma21, .ref ma22, .ref ma23, .ref ma24, .int mn25, .ref ma26, .ref ma27, .ref ma28, .ref ma29, .ref ma30, .ref ma31, .ref ma32, .ref ma33, .ref ma34, .ref ma35, .ref ma36, .int mn37, .int mn38, .int mn39, .ref ma40, .ref ma41, .ref ma42, .int mn43, .int mn44, .ref ma45, .ref ma46, .ref ma47, .int mn48, .ref ma49, .ref ma50, .ref ma51, .ref ma52])), (ma1, .inl (K 1, 262, .inl mf1)), (ma26, .inl (K 1, 1024, .inl g15579))] := ⟨_, _, by omega, Or.inr ⟨by omega, fun w9 h9 => absurd h9 (by omega)⟩, hl', hP', hD'⟩
                clear hl' hP' hD'
                obtain ⟨n_77, hn_77⟩ : ∃ n : Nat, (4 - i15603.toInt).toNat < n := ⟨_, Nat.lt_succ_self _⟩
                induction n_77 generalizing i15603 i15604 H locs ls with
                | zero => exact absurd hn_77 (Nat.not_lt_zero _)
                | succ n_77 ih_77 =>
                  refine lv_iload hx hb dX12_fillDepths_77 (lv_at hl 0 rfl) ?_
                  refine lv_iconst (v := 4) hx hb dX12_fillDepths_79 (by decide) ?_
                  refine lv_icmp_ge (tgt := 118) hx hb dX12_fillDepths_80 (by decide) (fun c15605 => ?_) (fun c15605 => ?_)
                  · replace c15605 := le_i c15605
                    refine lv_iload hx hb dX12_fillDepths_118 (lv_at hl 1 rfl) ?_
                    refine lv_if_ne (tgt := 126) hx hb dX12_fillDepths_120 (by decide) (fun c15606 => ?_) (fun c15606 => ?_)
                    · replace c15606 := ne_i c15606
                      refine lv_aload_n hx hb dX12_fillDepths_126 rfl (lv_at hl 5 rfl) ?_
                      refine va_get (D := D) (ci := 11) (v := .ref ma26) (C := RX12) (T := TX12) (N := 53) hx hb hts in_X12 hown hE.1 hP 0 rfl rfl 26 (by decide) (hts _ w_1155) (fun _ h9 => h9) rfl dX12_fillDepths_127 ?_
                      refine lv_iload_n hx hb dX12_fillDepths_130 rfl (lv_at hl 2 rfl) ?_
                      refine lv_iload_n hx hb dX12_fillDepths_131 rfl (lv_at hl 4 rfl) ?_
                      refine sti hx hb hE.1 hP hD hS 2 1 rfl rfl (vp_in_iff.mpr (by omega)) dX12_fillDepths_132 (fun g15607 eg15607 H locs hP hD hS => ?_)
                      replace hP : va_P D vwCl [(md, .inr (11, [.int mn0, .ref ma1, .ref ma2, .ref ma3, .ref ma4, .int mn5, .ref ma6, .int mn7, .int mn8, .int mn9, .int mn10, .int mn11, .int mn12, .int mn13, .ref ma14, .int mn15, .int mn16, .int mn17, .int mn18, .int mn19, .int mn20, .ref ma21, .ref ma22, .ref ma23, .ref ma24, .int mn25, .ref ma26, .ref ma27, .ref ma28, .ref ma29, .ref ma30, .ref ma31, .ref ma32, .ref ma33, .ref ma34, .ref ma35, .ref ma36, .int mn37, .int mn38, .int mn39, .ref ma40, .ref ma41, .ref ma42, .int mn43, .int mn44, .ref ma45, .ref ma46, .ref ma47, .int mn48, .ref ma49, .ref ma50, .ref ma51, .ref ma52])), (ma1, .inl (K 1, 262, .inl mf1)), (ma26, .inl (K 1, 1024, .inl g15607))] H := hP
                      replace hD : va_D A [(md, .inr (11, [.int mn0, .ref ma1, .ref ma2, .ref ma3, .ref ma4, .int mn5, .ref ma6, .int mn7, .int mn8, .int mn9, .int mn10, .int mn11, .int mn12, .int mn13, .ref ma14, .int mn15, .int mn16, .int mn17, .int mn18, .int mn19, .int mn20, .ref ma21, .ref ma22, .ref ma23, .ref ma24, .int mn25, .ref ma26, .ref ma27, .ref ma28, .ref ma29, .ref ma30, .ref ma31, .ref ma32, .ref ma33, .ref ma34, .ref ma35, .ref ma36, .int mn37, .int mn38, .int mn39, .ref ma40, .ref ma41, .ref ma42, .int mn43, .int mn44, .ref ma45, .ref ma46, .ref ma47, .int mn48, .ref ma49, .ref ma50, .ref ma51, .ref ma52])), (ma1, .inl (K 1, 262, .inl mf1)), (ma26, .inl (K 1, 1024, .inl g15607))] := hD
                      have q15608 : Rg 0 1000000 1024 g15607 := rg_up qRg_ma26_48 eg15607 (by omega) (by omega)
                      have q15609 := cnt_set (n := 1024) eg15607 (by rw [cl_n]; omega) (by omega) (by omega)
                      refine lv_iconst (v := 1) hx hb dX12_fillDepths_133 (by decide) ?_
                      refine lv_istore_n (lv' := [(1, .int 1), (5, .int i15603), (4, .int i15604), (3, .int i15577), (2, .int i15541), (0, .ref md)]) hx hb dX12_fillDepths_134 rfl hl (by decide) rfl (fun ls hl => ?_)
                      obtain ⟨v15610, ev15610⟩ : ∃ z : Int32, z = i15577 + 1 := ⟨_, rfl⟩
                      refine lv_iinc (v := v15610) (lv' := [(3, .int v15610), (1, .int 1), (5, .int i15603), (4, .int i15604), (2, .int i15541), (0, .ref md)]) hx hb dX12_fillDepths_135 hl (k := 3) rfl (by rw [ev15610]; rfl) (by decide) rfl (fun ls hl => ?_)
                      refine lv_goto (tgt := 48) hx hb dX12_fillDepths_138 (by decide) ?_
                      have tv15610 : v15610.toInt = (i15577 : Int32).toInt + (1 : Int32).toInt := add_i ev15610 (by omega) (by omega)
                      exact ih_48 (i15577 := v15610) (i15578 := 1) (g15579 := g15607) (hi_48 := by omega) (hm_48 := by omega) (hfd_48 := fd_set hfd_48 (by omega) (hv_77.resolve_right (fun q9 => by omega)).2 (by omega) (by omega) rfl (by omega) (by omega) eg15607 (by omega)) (qRg_ma26_48 := q15608) (H := H) (locs := locs) (ls := ls) (hn_48 := by omega) (hP := hP) (hD := hD) (hS := hS) (hl := lv_sub hl [0, 1, 4, 5] rfl)
                    · replace c15606 := eq_i c15606
                      refine lv_goto (tgt := 135) hx hb dX12_fillDepths_123 (by decide) ?_
                      obtain ⟨v15611, ev15611⟩ : ∃ z : Int32, z = i15577 + 1 := ⟨_, rfl⟩
                      refine lv_iinc (v := v15611) (lv' := [(3, .int v15611), (5, .int i15603), (4, .int i15604), (1, .int i15578), (2, .int i15541), (0, .ref md)]) hx hb dX12_fillDepths_135 hl (k := 2) rfl (by rw [ev15611]; rfl) (by decide) rfl (fun ls hl => ?_)
                      refine lv_goto (tgt := 48) hx hb dX12_fillDepths_138 (by decide) ?_
                      have tv15611 : v15611.toInt = (i15577 : Int32).toInt + (1 : Int32).toInt := add_i ev15611 (by omega) (by omega)
                      exact ih_48 (i15577 := v15611) (i15578 := i15578) (g15579 := g15579) (hi_48 := by omega) (hm_48 := by omega) (hfd_48 := fd_no hfd_48 (fun w9 h9 => (hv_77.resolve_left (fun q9 => by omega)).2 w9 (by omega)) (by omega) (by omega)) (qRg_ma26_48 := qRg_ma26_48) (H := H) (locs := locs) (ls := ls) (hn_48 := by omega) (hP := hP) (hD := hD) (hS := hS) (hl := lv_sub hl [0, 3, 4, 5] rfl)
                  · replace c15605 := nle_i c15605
                    refine lv_iload hx hb dX12_fillDepths_83 (lv_at hl 1 rfl) ?_
                    refine lv_if_ne (tgt := 118) hx hb dX12_fillDepths_85 (by decide) (fun c15612 => ?_) (fun c15612 => ?_)
                    · replace c15612 := ne_i c15612
                      refine lv_iload hx hb dX12_fillDepths_118 (lv_at hl 1 rfl) ?_
                      refine lv_if_ne (tgt := 126) hx hb dX12_fillDepths_120 (by decide) (fun c15613 => ?_) (fun c15613 => ?_)
                      · replace c15613 := ne_i c15613
                        refine lv_aload_n hx hb dX12_fillDepths_126 rfl (lv_at hl 5 rfl) ?_
                        refine va_get (D := D) (ci := 11) (v := .ref ma26) (C := RX12) (T := TX12) (N := 53) hx hb hts in_X12 hown hE.1 hP 0 rfl rfl 26 (by decide) (hts _ w_1155) (fun _ h9 => h9) rfl dX12_fillDepths_127 ?_
                        refine lv_iload_n hx hb dX12_fillDepths_130 rfl (lv_at hl 2 rfl) ?_
                        refine lv_iload_n hx hb dX12_fillDepths_131 rfl (lv_at hl 4 rfl) ?_
                        refine sti hx hb hE.1 hP hD hS 2 1 rfl rfl (vp_in_iff.mpr (by omega)) dX12_fillDepths_132 (fun g15614 eg15614 H locs hP hD hS => ?_)
                        replace hP : va_P D vwCl [(md, .inr (11, [.int mn0, .ref ma1, .ref ma2, .ref ma3, .ref ma4, .int mn5, .ref ma6, .int mn7, .int mn8, .int mn9, .int mn10, .int mn11, .int mn12, .int mn13, .ref ma14, .int mn15, .int mn16, .int mn17, .int mn18, .int mn19, .int mn20, .ref ma21, .ref ma22, .ref ma23, .ref ma24, .int mn25, .ref ma26, .ref ma27, .ref ma28, .ref ma29, .ref ma30, .ref ma31, .ref ma32, .ref ma33, .ref ma34, .ref ma35, .ref ma36, .int mn37, .int mn38, .int mn39, .ref ma40, .ref ma41, .ref ma42, .int mn43, .int mn44, .ref ma45, .ref ma46, .ref ma47, .int mn48, .ref ma49, .ref ma50, .ref ma51, .ref ma52])), (ma1, .inl (K 1, 262, .inl mf1)), (ma26, .inl (K 1, 1024, .inl g15614))] H := hP
                        replace hD : va_D A [(md, .inr (11, [.int mn0, .ref ma1, .ref ma2, .ref ma3, .ref ma4, .int mn5, .ref ma6, .int mn7, .int mn8, .int mn9, .int mn10, .int mn11, .int mn12, .int mn13, .ref ma14, .int mn15, .int mn16, .int mn17, .int mn18, .int mn19, .int mn20, .ref ma21, .ref ma22, .ref ma23, .ref ma24, .int mn25, .ref ma26, .ref ma27, .ref ma28, .ref ma29, .ref ma30, .ref ma31, .ref ma32, .ref ma33, .ref ma34, .ref ma35, .ref ma36, .int mn37, .int mn38, .int mn39, .ref ma40, .ref ma41, .ref ma42, .int mn43, .int mn44, .ref ma45, .ref ma46, .ref ma47, .int mn48, .ref ma49, .ref ma50, .ref ma51, .ref ma52])), (ma1, .inl (K 1, 262, .inl mf1)), (ma26, .inl (K 1, 1024, .inl g15614))] := hD
                        have q15615 : Rg 0 1000000 1024 g15614 := rg_up qRg_ma26_48 eg15614 (by omega) (by omega)
                        have q15616 := cnt_set (n := 1024) eg15614 (by rw [cl_n]; omega) (by omega) (by omega)
                        refine lv_iconst (v := 1) hx hb dX12_fillDepths_133 (by decide) ?_
                        refine lv_istore_n (lv' := [(1, .int 1), (5, .int i15603), (4, .int i15604), (3, .int i15577), (2, .int i15541), (0, .ref md)]) hx hb dX12_fillDepths_134 rfl hl (by decide) rfl (fun ls hl => ?_)
                        obtain ⟨v15617, ev15617⟩ : ∃ z : Int32, z = i15577 + 1 := ⟨_, rfl⟩
                        refine lv_iinc (v := v15617) (lv' := [(3, .int v15617), (1, .int 1), (5, .int i15603), (4, .int i15604), (2, .int i15541), (0, .ref md)]) hx hb dX12_fillDepths_135 hl (k := 3) rfl (by rw [ev15617]; rfl) (by decide) rfl (fun ls hl => ?_)
                        refine lv_goto (tgt := 48) hx hb dX12_fillDepths_138 (by decide) ?_
                        have tv15617 : v15617.toInt = (i15577 : Int32).toInt + (1 : Int32).toInt := add_i ev15617 (by omega) (by omega)
                        exact ih_48 (i15577 := v15617) (i15578 := 1) (g15579 := g15614) (hi_48 := by omega) (hm_48 := by omega) (hfd_48 := fd_set hfd_48 (by omega) (hv_77.resolve_right (fun q9 => by omega)).2 (by omega) (by omega) rfl (by omega) (by omega) eg15614 (by omega)) (qRg_ma26_48 := q15615) (H := H) (locs := locs) (ls := ls) (hn_48 := by omega) (hP := hP) (hD := hD) (hS := hS) (hl := lv_sub hl [0, 1, 4, 5] rfl)
                      · replace c15613 := eq_i c15613
                        refine lv_goto (tgt := 135) hx hb dX12_fillDepths_123 (by decide) ?_
                        obtain ⟨v15618, ev15618⟩ : ∃ z : Int32, z = i15577 + 1 := ⟨_, rfl⟩
                        refine lv_iinc (v := v15618) (lv' := [(3, .int v15618), (5, .int i15603), (4, .int i15604), (1, .int i15578), (2, .int i15541), (0, .ref md)]) hx hb dX12_fillDepths_135 hl (k := 2) rfl (by rw [ev15618]; rfl) (by decide) rfl (fun ls hl => ?_)
                        refine lv_goto (tgt := 48) hx hb dX12_fillDepths_138 (by decide) ?_
                        have tv15618 : v15618.toInt = (i15577 : Int32).toInt + (1 : Int32).toInt := add_i ev15618 (by omega) (by omega)
                        exact ih_48 (i15577 := v15618) (i15578 := i15578) (g15579 := g15579) (hi_48 := by omega) (hm_48 := by omega) (hfd_48 := fd_no hfd_48 (fun w9 h9 => (hv_77.resolve_left (fun q9 => by omega)).2 w9 (by omega)) (by omega) (by omega)) (qRg_ma26_48 := qRg_ma26_48) (H := H) (locs := locs) (ls := ls) (hn_48 := by omega) (hP := hP) (hD := hD) (hS := hS) (hl := lv_sub hl [0, 3, 4, 5] rfl)
                    · replace c15612 := eq_i c15612
                      refine lv_aload_n hx hb dX12_fillDepths_88 rfl (lv_at hl 5 rfl) ?_
                      refine lv_aload_n hx hb dX12_fillDepths_89 rfl (lv_at hl 5 rfl) ?_
                      refine lv_iload_n hx hb dX12_fillDepths_90 rfl (lv_at hl 2 rfl) ?_
                      refine lv_iload hx hb dX12_fillDepths_91 (lv_at hl 0 rfl) ?_
                      refine ro_V (As := [.int i15577, .int i15603]) (rest := [.ref md]) hC hE kV_X12_286 (c_X12_becomesOf l D K md ma1 ma2 ma3 ma4 ma6 ma14 ma21 ma22 ma23 ma24 ma26 ma27 ma28 ma29 ma30 ma31 ma32 ma33 ma34 ma35 ma36 ma40 ma41 ma42 ma45 ma46 ma47 ma49 ma50 ma51 ma52 mn0 mn5 mn7 mn8 mn9 mn10 mn11 mn12 mn13 mn15 mn16 mn17 mn18 mn19 mn20 mn25 mn37 mn38 mn39 mn43 mn44 mn48 mf1 i15577 i15603 hs1_0 (by omega)) (hP.sub (ws' := [(md, .inr (11, [.int mn0, .ref ma1, .ref ma2, .ref ma3, .ref ma4, .int mn5, .ref ma6, .int mn7, .int mn8, .int mn9, .int mn10, .int mn11, .int mn12, .int mn13, .ref ma14, .int mn15, .int mn16, .int mn17, .int mn18, .int mn19, .int mn20, .ref ma21, .ref ma22, .ref ma23, .ref ma24, .int mn25, .ref ma26, .ref ma27, .ref ma28, .ref ma29, .ref ma30, .ref ma31, .ref ma32, .ref ma33, .ref ma34, .ref ma35, .ref ma36, .int mn37, .int mn38, .int mn39, .ref ma40, .ref ma41, .ref ma42, .int mn43, .int mn44, .ref ma45, .ref ma46, .ref ma47, .int mn48, .ref ma49, .ref ma50, .ref ma51, .ref ma52])), (ma1, .inl (K 1, 262, .inl mf1))]) [0, 1] rfl) 0 11 rfl rfl rfl hl.1 rfl (Nat.le_of_ble_eq_true rfl) (by decide) (by decide) dX12_fillDepths_93 (fun r15622 hq => ?_)
                      obtain ⟨h15619, h15620, h15621⟩ := hq
                      refine ro_V (As := [.int r15622]) (rest := []) hC hE kV_X12_381 (c_X12_depthSplit l D K md ma1 ma2 ma3 ma4 ma6 ma14 ma21 ma22 ma23 ma24 ma26 ma27 ma28 ma29 ma30 ma31 ma32 ma33 ma34 ma35 ma36 ma40 ma41 ma42 ma45 ma46 ma47 ma49 ma50 ma51 ma52 mn0 mn5 mn7 mn8 mn9 mn10 mn11 mn12 mn13 mn15 mn16 mn17 mn18 mn19 mn20 mn25 mn37 mn38 mn39 mn43 mn44 mn48 mf1 g15579 r15622 hs1_0) (hP.sub (ws' := [(md, .inr (11, [.int mn0, .ref ma1, .ref ma2, .ref ma3, .ref ma4, .int mn5, .ref ma6, .int mn7, .int mn8, .int mn9, .int mn10, .int mn11, .int mn12, .int mn13, .ref ma14, .int mn15, .int mn16, .int mn17, .int mn18, .int mn19, .int mn20, .ref ma21, .ref ma22, .ref ma23, .ref ma24, .int mn25, .ref ma26, .ref ma27, .ref ma28, .ref ma29, .ref ma30, .ref ma31, .ref ma32, .ref ma33, .ref ma34, .ref ma35, .ref ma36, .int mn37, .int mn38, .int mn39, .ref ma40, .ref ma41, .ref ma42, .int mn43, .int mn44, .ref ma45, .ref ma46, .ref ma47, .int mn48, .ref ma49, .ref ma50, .ref ma51, .ref ma52])), (ma1, .inl (K 1, 262, .inl mf1)), (ma26, .inl (K 1, 1024, .inl g15579))]) [0, 1, 2] rfl) 0 11 rfl rfl rfl hl.1 rfl (Nat.le_of_ble_eq_true rfl) (by decide) (by decide) dX12_fillDepths_96 (fun r15624 hq => ?_)
                      have h15623 := hq
                      have q15625 : DD mf1 g15579 i15577.toInt.toNat i15603.toInt.toNat = r15624.toInt := dd_of (by omega) h15621 h15623
                      refine lv_iload_n hx hb dX12_fillDepths_99 rfl (lv_at hl 4 rfl) ?_
                      refine lv_iconst (v := 1) hx hb dX12_fillDepths_100 (by decide) ?_
                      refine lv_isub hx hb dX12_fillDepths_101 ?_
                      refine lv_topi (fun v15626 ev15626 => ?_)
                      have tv15626 : v15626.toInt = (i15541 : Int32).toInt - (1 : Int32).toInt := sub_i ev15626 (by omega) (by omega)
                      refine lv_icmp_gt (tgt := 109) hx hb dX12_fillDepths_102 (by decide) (fun c15627 => ?_) (fun c15627 => ?_)
                      · replace c15627 := lt_i c15627
                        refine lv_iconst (v := 0) hx hb dX12_fillDepths_109 (by decide) ?_
                        refine lv_istore (lv' := [(4, .int 0), (5, .int i15603), (3, .int i15577), (1, .int i15578), (2, .int i15541), (0, .ref md)]) hx hb dX12_fillDepths_110 hl (by decide) rfl (fun ls hl => ?_)
                        obtain ⟨v15628, ev15628⟩ : ∃ z : Int32, z = i15603 + 1 := ⟨_, rfl⟩
                        refine lv_iinc (v := v15628) (lv' := [(5, .int v15628), (4, .int 0), (3, .int i15577), (1, .int i15578), (2, .int i15541), (0, .ref md)]) hx hb dX12_fillDepths_112 hl (k := 1) rfl (by rw [ev15628]; rfl) (by decide) rfl (fun ls hl => ?_)
                        refine lv_goto (tgt := 77) hx hb dX12_fillDepths_115 (by decide) ?_
                        have tv15628 : v15628.toInt = (i15603 : Int32).toInt + (1 : Int32).toInt := add_i ev15628 (by omega) (by omega)
                        exact ih_77 (i15603 := v15628) (i15604 := 0) (hi_77 := by omega) (hv_77 := Or.inr ⟨by omega, dd_more (hv_77.resolve_left (fun q9 => by omega)).2 (by omega) q15625 (by omega) (by omega)⟩) (H := H) (locs := locs) (ls := ls) (hn_77 := by omega) (hP := hP) (hS := hS) (hl := lv_sub hl [0, 1, 2, 3, 4, 5] rfl)
                      · replace c15627 := nlt_i c15627
                        refine lv_iconst (v := 1) hx hb dX12_fillDepths_105 (by decide) ?_
                        refine lv_goto (tgt := 110) hx hb dX12_fillDepths_106 (by decide) ?_
                        refine lv_istore (lv' := [(4, .int 1), (5, .int i15603), (3, .int i15577), (1, .int i15578), (2, .int i15541), (0, .ref md)]) hx hb dX12_fillDepths_110 hl (by decide) rfl (fun ls hl => ?_)
                        obtain ⟨v15629, ev15629⟩ : ∃ z : Int32, z = i15603 + 1 := ⟨_, rfl⟩
                        refine lv_iinc (v := v15629) (lv' := [(5, .int v15629), (4, .int 1), (3, .int i15577), (1, .int i15578), (2, .int i15541), (0, .ref md)]) hx hb dX12_fillDepths_112 hl (k := 1) rfl (by rw [ev15629]; rfl) (by decide) rfl (fun ls hl => ?_)
                        refine lv_goto (tgt := 77) hx hb dX12_fillDepths_115 (by decide) ?_
                        have tv15629 : v15629.toInt = (i15603 : Int32).toInt + (1 : Int32).toInt := add_i ev15629 (by omega) (by omega)
                        exact ih_77 (i15603 := v15629) (i15604 := 1) (hi_77 := by omega) (hv_77 := Or.inl ⟨by omega, i15603.toInt.toNat, by omega, by rw [q15625]; omega⟩) (H := H) (locs := locs) (ls := ls) (hn_77 := by omega) (hP := hP) (hS := hS) (hl := lv_sub hl [0, 1, 2, 3, 4, 5] rfl)
              · replace c15588 := ne_i c15588
                refine lv_goto (tgt := 135) hx hb dX12_fillDepths_68 (by decide) ?_
                obtain ⟨v15630, ev15630⟩ : ∃ z : Int32, z = i15577 + 1 := ⟨_, rfl⟩
                refine lv_iinc (v := v15630) (lv' := [(3, .int v15630), (1, .int i15578), (2, .int i15541), (0, .ref md)]) hx hb dX12_fillDepths_135 hl (k := 0) rfl (by rw [ev15630]; rfl) (by decide) rfl (fun ls hl => ?_)
                refine lv_goto (tgt := 48) hx hb dX12_fillDepths_138 (by decide) ?_
                have tv15630 : v15630.toInt = (i15577 : Int32).toInt + (1 : Int32).toInt := add_i ev15630 (by omega) (by omega)
                exact ih_48 (i15577 := v15630) (i15578 := i15578) (g15579 := g15579) (hi_48 := by omega) (hm_48 := by omega) (hfd_48 := fd_skip hfd_48 (by omega) (by omega) (by omega)) (qRg_ma26_48 := qRg_ma26_48) (H := H) (locs := locs) (ls := ls) (hn_48 := by omega) (hP := hP) (hD := hD) (hS := hS) (hl := lv_sub hl [0, 1, 2, 3] rfl)
    · replace c15503 := nle_i c15503
      refine lv_aload_n hx hb dX12_fillDepths_9 rfl (lv_at hl 1 rfl) ?_
      refine va_get (D := D) (ci := 11) (v := .ref ma26) (C := RX12) (T := TX12) (N := 53) hx hb hts in_X12 hown hE.1 hP 0 rfl rfl 26 (by decide) (hts _ w_1155) (fun _ h9 => h9) rfl dX12_fillDepths_10 ?_
      refine lv_iload_n hx hb dX12_fillDepths_13 rfl (lv_at hl 0 rfl) ?_
      refine lv_iload_n hx hb dX12_fillDepths_14 rfl (lv_at hl 0 rfl) ?_
      refine ro_S (As := [.int i15501]) (rest := [.int i15501, .ref ma26]) hC hE kS_X12_316 (c_X12_bits l D K i15501) (hP.sub (ws' := []) [] rfl) rfl hl.1 rfl (Nat.le_of_ble_eq_true rfl) (by decide) (by decide) dX12_fillDepths_15 (fun r15631 _ => ?_)
      refine lv_iconst (v := 1) hx hb dX12_fillDepths_18 (by decide) ?_
      refine lv_icmp_gt (tgt := 26) hx hb dX12_fillDepths_19 (by decide) (fun c15632 => ?_) (fun c15632 => ?_)
      · replace c15632 := lt_i c15632
        refine lv_ldcw (v := 1000000) hx hb hown (hts _ w_1105) dX12_fillDepths_26 ?_
        refine sti hx hb hE.1 hP hD hS 2 1 rfl rfl (vp_in_iff.mpr (by omega)) dX12_fillDepths_29 (fun g15633 eg15633 H locs hP hD hS => ?_)
        replace hP : va_P D vwCl [(md, .inr (11, [.int mn0, .ref ma1, .ref ma2, .ref ma3, .ref ma4, .int mn5, .ref ma6, .int mn7, .int mn8, .int mn9, .int mn10, .int mn11, .int mn12, .int mn13, .ref ma14, .int mn15, .int mn16, .int mn17, .int mn18, .int mn19, .int mn20, .ref ma21, .ref ma22, .ref ma23, .ref ma24, .int mn25, .ref ma26, .ref ma27, .ref ma28, .ref ma29, .ref ma30, .ref ma31, .ref ma32, .ref ma33, .ref ma34, .ref ma35, .ref ma36, .int mn37, .int mn38, .int mn39, .ref ma40, .ref ma41, .ref ma42, .int mn43, .int mn44, .ref ma45, .ref ma46, .ref ma47, .int mn48, .ref ma49, .ref ma50, .ref ma51, .ref ma52])), (ma1, .inl (K 1, 262, .inl mf1)), (ma26, .inl (K 1, 1024, .inl g15633))] H := hP
        replace hD : va_D A [(md, .inr (11, [.int mn0, .ref ma1, .ref ma2, .ref ma3, .ref ma4, .int mn5, .ref ma6, .int mn7, .int mn8, .int mn9, .int mn10, .int mn11, .int mn12, .int mn13, .ref ma14, .int mn15, .int mn16, .int mn17, .int mn18, .int mn19, .int mn20, .ref ma21, .ref ma22, .ref ma23, .ref ma24, .int mn25, .ref ma26, .ref ma27, .ref ma28, .ref ma29, .ref ma30, .ref ma31, .ref ma32, .ref ma33, .ref ma34, .ref ma35, .ref ma36, .int mn37, .int mn38, .int mn39, .ref ma40, .ref ma41, .ref ma42, .int mn43, .int mn44, .ref ma45, .ref ma46, .ref ma47, .int mn48, .ref ma49, .ref ma50, .ref ma51, .ref ma52])), (ma1, .inl (K 1, 262, .inl mf1)), (ma26, .inl (K 1, 1024, .inl g15633))] := hD
        obtain ⟨v15634, ev15634⟩ : ∃ z : Int32, z = i15501 + 1 := ⟨_, rfl⟩
        refine lv_iinc (v := v15634) (lv' := [(1, .int v15634), (0, .ref md)]) hx hb dX12_fillDepths_30 hl (k := 0) rfl (by rw [ev15634]; rfl) (by decide) rfl (fun ls hl => ?_)
        refine lv_goto (tgt := 2) hx hb dX12_fillDepths_33 (by decide) ?_
        have tv15634 : v15634.toInt = (i15501 : Int32).toInt + (1 : Int32).toInt := add_i ev15634 (by omega) (by omega)
        exact ih_2 (i15501 := v15634) (g15502 := g15633) (hi_2 := by omega) (hf_2 := z1_more hf_2 (by omega) eg15633 (by omega) (by omega)) (H := H) (locs := locs) (ls := ls) (hn_2 := by omega) (hP := hP) (hD := hD) (hS := hS) (hl := lv_sub hl [0, 1] rfl)
      · replace c15632 := nlt_i c15632
        refine lv_iconst (v := 0) hx hb dX12_fillDepths_22 (by decide) ?_
        refine lv_goto (tgt := 29) hx hb dX12_fillDepths_23 (by decide) ?_
        refine sti hx hb hE.1 hP hD hS 2 1 rfl rfl (vp_in_iff.mpr (by omega)) dX12_fillDepths_29 (fun g15635 eg15635 H locs hP hD hS => ?_)
        replace hP : va_P D vwCl [(md, .inr (11, [.int mn0, .ref ma1, .ref ma2, .ref ma3, .ref ma4, .int mn5, .ref ma6, .int mn7, .int mn8, .int mn9, .int mn10, .int mn11, .int mn12, .int mn13, .ref ma14, .int mn15, .int mn16, .int mn17, .int mn18, .int mn19, .int mn20, .ref ma21, .ref ma22, .ref ma23, .ref ma24, .int mn25, .ref ma26, .ref ma27, .ref ma28, .ref ma29, .ref ma30, .ref ma31, .ref ma32, .ref ma33, .ref ma34, .ref ma35, .ref ma36, .int mn37, .int mn38, .int mn39, .ref ma40, .ref ma41, .ref ma42, .int mn43, .int mn44, .ref ma45, .ref ma46, .ref ma47, .int mn48, .ref ma49, .ref ma50, .ref ma51, .ref ma52])), (ma1, .inl (K 1, 262, .inl mf1)), (ma26, .inl (K 1, 1024, .inl g15635))] H := hP
        replace hD : va_D A [(md, .inr (11, [.int mn0, .ref ma1, .ref ma2, .ref ma3, .ref ma4, .int mn5, .ref ma6, .int mn7, .int mn8, .int mn9, .int mn10, .int mn11, .int mn12, .int mn13, .ref ma14, .int mn15, .int mn16, .int mn17, .int mn18, .int mn19, .int mn20, .ref ma21, .ref ma22, .ref ma23, .ref ma24, .int mn25, .ref ma26, .ref ma27, .ref ma28, .ref ma29, .ref ma30, .ref ma31, .ref ma32, .ref ma33, .ref ma34, .ref ma35, .ref ma36, .int mn37, .int mn38, .int mn39, .ref ma40, .ref ma41, .ref ma42, .int mn43, .int mn44, .ref ma45, .ref ma46, .ref ma47, .int mn48, .ref ma49, .ref ma50, .ref ma51, .ref ma52])), (ma1, .inl (K 1, 262, .inl mf1)), (ma26, .inl (K 1, 1024, .inl g15635))] := hD
        obtain ⟨v15636, ev15636⟩ : ∃ z : Int32, z = i15501 + 1 := ⟨_, rfl⟩
        refine lv_iinc (v := v15636) (lv' := [(1, .int v15636), (0, .ref md)]) hx hb dX12_fillDepths_30 hl (k := 0) rfl (by rw [ev15636]; rfl) (by decide) rfl (fun ls hl => ?_)
        refine lv_goto (tgt := 2) hx hb dX12_fillDepths_33 (by decide) ?_
        have tv15636 : v15636.toInt = (i15501 : Int32).toInt + (1 : Int32).toInt := add_i ev15636 (by omega) (by omega)
        exact ih_2 (i15501 := v15636) (g15502 := g15635) (hi_2 := by omega) (hf_2 := z1_more hf_2 (by omega) eg15635 (by omega) (by omega)) (H := H) (locs := locs) (ls := ls) (hn_2 := by omega) (hP := hP) (hD := hD) (hS := hS) (hl := lv_sub hl [0, 1] rfl)
