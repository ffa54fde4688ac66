set_option maxRecDepth 40000 in
set_option maxHeartbeats 4000000 in
theorem c_X12_depthSplit (l : Launch) (D : va_G) (K : Nat → ClassId) (md : Nat) (ma1 : Nat) (ma2 : Nat) (ma3 : Nat) (ma4 : Nat) (ma6 : Nat) (ma14 : Nat) (ma21 : Nat) (ma22 : Nat) (ma23 : Nat) (ma24 : Nat) (ma26 : Nat) (ma27 : Nat) (ma28 : Nat) (ma29 : Nat) (ma30 : Nat) (ma31 : Nat) (ma32 : Nat) (ma33 : Nat) (ma34 : Nat) (ma35 : Nat) (ma36 : Nat) (ma40 : Nat) (ma41 : Nat) (ma42 : Nat) (ma45 : Nat) (ma46 : Nat) (ma47 : Nat) (ma49 : Nat) (ma50 : Nat) (ma51 : Nat) (ma52 : Nat) (mn0 : Int32) (mn5 : Int32) (mn7 : Int32) (mn8 : Int32) (mn9 : Int32) (mn10 : Int32) (mn11 : Int32) (mn12 : Int32) (mn13 : Int32) (mn15 : Int32) (mn16 : Int32) (mn17 : Int32) (mn18 : Int32) (mn19 : Int32) (mn20 : Int32) (mn25 : Int32) (mn37 : Int32) (mn38 : Int32) (mn39 : Int32) (mn43 : Int32) (mn44 : Int32) (mn48 : Int32) (mf1 : Nat → Int32) (mf26 : Nat → Int32) (p0 : Int32) (hs1_0 : GW mf1) : Ro l D K yX12_depthSplit cX12_depthSplit 4 (some .int) 2 45 [.ref md, .int p0] [(md, .inr (11, [.int mn0, .ref ma1, .ref ma2, .ref ma3, .ref ma4, .int mn5, .ref ma6, .int mn7, .int mn8, .int mn9, .int mn10, .int mn11, .int mn12, .int mn13, .ref ma14, .int mn15, .int mn16, .int mn17, .int mn18, .int mn19, .int mn20, .ref ma21, .ref ma22, .ref ma23, .ref ma24, .int mn25, .ref ma26, .ref ma27, .ref ma28, .ref ma29, .ref ma30, .ref ma31, .ref ma32, .ref ma33, .ref ma34, .ref ma35, .ref ma36, .int mn37, .int mn38, .int mn39, .ref ma40, .ref ma41, .ref ma42, .int mn43, .int mn44, .ref ma45, .ref ma46, .ref ma47, .int mn48, .ref ma49, .ref ma50, .ref ma51, .ref ma52])), (ma1, .inl (K 1, 262, .inl mf1)), (ma26, .inl (K 1, 1024, .inl mf26))] (fun r => ((r.toInt = dsF mf1 mf26 p0 10))) := by
  refine ro_of (by decide) (Nat.le_of_ble_eq_true rfl) ?_
  intro p e s m below meth c hC hr hk hE hP ls hl
  replace hC : CallFix p m c cX12_depthSplit 4 s [.ref md, .int p0].toArray wl RX12 := hC
  have hx := hC.1
  have hb := hC.2.1
  have hml := hC.2.2.1
  have hown := hC.2.2.2.1
  have hts := hC.2.2.2.2
  replace hl : lv_has ls 4 [(0, .ref md), (1, .int p0)] := hl
  have kc_0 : (0 : Int32).toInt = 0 := by decide
  have kc_1 : (1 : Int32).toInt = 1 := by decide
  have kc_9 : (9 : Int32).toInt = 9 := by decide
  have hW0 := gwn_0 hs1_0; have hW1 := gwn_1 hs1_0; have hW2 := gwn_2 hs1_0; have hW4 := gwn_4 hs1_0
  refine lv_iconst (v := 0) hx hb dX12_depthSplit_0 (by decide) ?_
  refine lv_istore_n (lv' := [(2, .int 0), (0, .ref md), (1, .int p0)]) hx hb dX12_depthSplit_1 rfl hl (by decide) rfl (fun ls hl => ?_)
  refine lv_iconst (v := 0) hx hb dX12_depthSplit_2 (by decide) ?_
  refine lv_istore_n (lv' := [(3, .int 0), (2, .int 0), (0, .ref md), (1, .int p0)]) hx hb dX12_depthSplit_3 rfl hl (by decide) rfl (fun ls hl => ?_)
  have hl' := hl; clear hl
  obtain ⟨i15424, i15425, hi_4, hk_4, hv_4, hl⟩ : ∃ (i15424 : Int32) (i15425 : Int32), ((0 : Int) ≤ i15424.toInt) ∧ (i15424.toInt ≤ 10) ∧ (i15425.toInt = dsF mf1 mf26 p0 i15424.toInt.toNat) ∧ lv_has ls 4 [(3, .int i15424), (2, .int i15425), (0, .ref md), (1, .int p0)] := ⟨_, _, by omega, by omega, (by rw [show ((0 : Int32).toInt) = 0 from by decide]; rfl), hl'⟩
  clear hl'
  obtain ⟨n_4, hn_4⟩ : ∃ n : Nat, (10 - i15424.toInt).toNat < n := ⟨_, Nat.lt_succ_self _⟩
  induction n_4 generalizing i15424 i15425 ls with
  | zero => exact absurd hn_4 (Nat.not_lt_zero _)
  | succ n_4 ih_4 =>
    refine lv_iload_n hx hb dX12_depthSplit_4 rfl (lv_at hl 0 rfl) ?_
    refine lv_bipush (v := 9) hx hb dX12_depthSplit_5 (by decide) ?_
    refine lv_icmp_gt (tgt := 45) hx hb dX12_depthSplit_7 (by decide) (fun c15426 => ?_) (fun c15426 => ?_)
    · replace c15426 := lt_i c15426
      refine lv_iload_n hx hb dX12_depthSplit_45 rfl (lv_at hl 1 rfl) ?_
      exact ro_ret hC hr hk dX12_depthSplit_46 (hv_4.trans (congrArg (dsF mf1 mf26 p0) (by omega)))
    · replace c15426 := nlt_i c15426
      refine lv_iload_n hx hb dX12_depthSplit_10 rfl (lv_at hl 1 rfl) ?_
      refine lv_aload_n hx hb dX12_depthSplit_11 rfl (lv_at hl 2 rfl) ?_
      refine lv_iload_n hx hb dX12_depthSplit_12 rfl (lv_at hl 3 rfl) ?_
      refine lv_iload_n hx hb dX12_depthSplit_13 rfl (lv_at hl 0 rfl) ?_
      refine ro_V (As := [.int p0, .int i15424]) (rest := [.int i15425]) hC hE kV_X12_291 (c_X12_seenOf l D K md ma1 ma2 ma3 ma4 ma6 ma14 ma21 ma22 ma23 ma24 ma26 ma27 ma28 ma29 ma30 ma31 ma32 ma33 ma34 ma35 ma36 ma40 ma41 ma42 ma45 ma46 ma47 ma49 ma50 ma51 ma52 mn0 mn5 mn7 mn8 mn9 mn10 mn11 mn12 mn13 mn15 mn16 mn17 mn18 mn19 mn20 mn25 mn37 mn38 mn39 mn43 mn44 mn48 mf1 p0 i15424 hs1_0) (hP.sub (ws' := [(md, .inr (11, [.int mn0, .ref ma1, .ref ma2, .ref ma3, .ref ma4, .int mn5, .ref ma6, .int mn7, .int mn8, .int mn9, .int mn10, .int mn11, .int mn12, .int mn13, .ref ma14, .int mn15, .int mn16, .int mn17, .int mn18, .int mn19, .int mn20, .ref ma21, .ref ma22, .ref ma23, .ref ma24, .int mn25, .ref ma26, .ref ma27, .ref ma28, .ref ma29, .ref ma30, .ref ma31, .ref ma32, .ref ma33, .ref ma34, .ref ma35, .ref ma36, .int mn37, .int mn38, .int mn39, .ref ma40, .ref ma41, .ref ma42, .int mn43, .int mn44, .ref ma45, .ref ma46, .ref ma47, .int mn48, .ref ma49, .ref ma50, .ref ma51, .ref ma52])), (ma1, .inl (K 1, 262, .inl mf1))]) [0, 1] rfl) 0 11 rfl rfl rfl hl.1 rfl (Nat.le_of_ble_eq_true rfl) (by decide) (by decide) dX12_depthSplit_14 (fun r15430 hq => ?_)
      obtain ⟨h15427, h15428, h15429⟩ := hq
      refine lv_if_ne (tgt := 24) hx hb dX12_depthSplit_17 (by decide) (fun c15431 => ?_) (fun c15431 => ?_)
      · replace c15431 := ne_i c15431
        refine lv_aload_n hx hb dX12_depthSplit_24 rfl (lv_at hl 2 rfl) ?_
        refine va_get (D := D) (ci := 11) (v := .ref ma26) (C := RX12) (T := TX12) (N := 53) hx hb hts in_X12 hown hE.1 hP 0 rfl rfl 26 (by decide) (hts _ w_1155) (fun _ h9 => h9) rfl dX12_depthSplit_25 ?_
        refine lv_aload_n hx hb dX12_depthSplit_28 rfl (lv_at hl 2 rfl) ?_
        refine lv_iload_n hx hb dX12_depthSplit_29 rfl (lv_at hl 3 rfl) ?_
        refine lv_iload_n hx hb dX12_depthSplit_30 rfl (lv_at hl 0 rfl) ?_
        refine ro_V (As := [.int p0, .int i15424]) (rest := [.ref ma26, .int i15425]) hC hE kV_X12_291 (c_X12_seenOf l D K md ma1 ma2 ma3 ma4 ma6 ma14 ma21 ma22 ma23 ma24 ma26 ma27 ma28 ma29 ma30 ma31 ma32 ma33 ma34 ma35 ma36 ma40 ma41 ma42 ma45 ma46 ma47 ma49 ma50 ma51 ma52 mn0 mn5 mn7 mn8 mn9 mn10 mn11 mn12 mn13 mn15 mn16 mn17 mn18 mn19 mn20 mn25 mn37 mn38 mn39 mn43 mn44 mn48 mf1 p0 i15424 hs1_0) (hP.sub (ws' := [(md, .inr (11, [.int mn0, .ref ma1, .ref ma2, .ref ma3, .ref ma4, .int mn5, .ref ma6, .int mn7, .int mn8, .int mn9, .int mn10, .int mn11, .int mn12, .int mn13, .ref ma14, .int mn15, .int mn16, .int mn17, .int mn18, .int mn19, .int mn20, .ref ma21, .ref ma22, .ref ma23, .ref ma24, .int mn25, .ref ma26, .ref ma27, .ref ma28, .ref ma29, .ref ma30, .ref ma31, .ref ma32, .ref ma33, .ref ma34, .ref ma35, .ref ma36, .int mn37, .int mn38, .int mn39, .ref ma40, .ref ma41, .ref ma42, .int mn43, .int mn44, .ref ma45, .ref ma46, .ref ma47, .int mn48, .ref ma49, .ref ma50, .ref ma51, .ref ma52])), (ma1, .inl (K 1, 262, .inl mf1))]) [0, 1] rfl) 0 11 rfl rfl rfl hl.1 rfl (Nat.le_of_ble_eq_true rfl) (by decide) (by decide) dX12_depthSplit_31 (fun r15435 hq => ?_)
        obtain ⟨h15432, h15433, h15434⟩ := hq
        have q15436 : r15430.toInt = r15435.toInt := by rw [h15429, h15434]
        refine va_iald hx hb hE.1 hP 2 1 rfl rfl (vp_in_iff.mpr (by omega)) dX12_depthSplit_34 ?_
        refine lv_topi (fun v15437 ev15437 => ?_)
        refine va_mmax hx hb (hml.trans hl.1.symm) hown (hts _ w_990) (hts _ w_169) (hts _ w_143) (hts _ w_170) (by decide) (Nat.le_of_ble_eq_true rfl) (by decide) (by decide) dX12_depthSplit_35 ?_
        refine lv_topi (fun v15438 ev15438 => ?_)
        have tv15438 := max_i ev15438
        refine lv_istore_n (lv' := [(2, .int v15438), (3, .int i15424), (0, .ref md), (1, .int p0)]) hx hb dX12_depthSplit_38 rfl hl (by decide) rfl (fun ls hl => ?_)
        obtain ⟨v15439, ev15439⟩ : ∃ z : Int32, z = i15424 + 1 := ⟨_, rfl⟩
        refine lv_iinc (v := v15439) (lv' := [(3, .int v15439), (2, .int v15438), (0, .ref md), (1, .int p0)]) hx hb dX12_depthSplit_39 hl (k := 1) rfl (by rw [ev15439]; rfl) (by decide) rfl (fun ls hl => ?_)
        refine lv_goto (tgt := 4) hx hb dX12_depthSplit_42 (by decide) ?_
        have tv15439 : v15439.toInt = (i15424 : Int32).toInt + (1 : Int32).toInt := add_i ev15439 (by omega) (by omega)
        exact ih_4 (i15424 := v15439) (i15425 := v15438) (hi_4 := by omega) (hk_4 := by omega) (hv_4 := ds_1 (y := v15437) hv_4 (by omega) h15434 (by omega) (by rw [ev15437]; rfl) (by omega) (by omega) (by omega) (by omega)) (ls := ls) (hn_4 := by omega) (hl := lv_sub hl [0, 1, 2, 3] rfl)
      · replace c15431 := eq_i c15431
        refine lv_iconst (v := 0) hx hb dX12_depthSplit_20 (by decide) ?_
        refine lv_goto (tgt := 35) hx hb dX12_depthSplit_21 (by decide) ?_
        refine va_mmax hx hb (hml.trans hl.1.symm) hown (hts _ w_990) (hts _ w_169) (hts _ w_143) (hts _ w_170) (by decide) (Nat.le_of_ble_eq_true rfl) (by decide) (by decide) dX12_depthSplit_35 ?_
        refine lv_topi (fun v15440 ev15440 => ?_)
        have tv15440 := max_i ev15440
        refine lv_istore_n (lv' := [(2, .int v15440), (3, .int i15424), (0, .ref md), (1, .int p0)]) hx hb dX12_depthSplit_38 rfl hl (by decide) rfl (fun ls hl => ?_)
        obtain ⟨v15441, ev15441⟩ : ∃ z : Int32, z = i15424 + 1 := ⟨_, rfl⟩
        refine lv_iinc (v := v15441) (lv' := [(3, .int v15441), (2, .int v15440), (0, .ref md), (1, .int p0)]) hx hb dX12_depthSplit_39 hl (k := 1) rfl (by rw [ev15441]; rfl) (by decide) rfl (fun ls hl => ?_)
        refine lv_goto (tgt := 4) hx hb dX12_depthSplit_42 (by decide) ?_
        have tv15441 : v15441.toInt = (i15424 : Int32).toInt + (1 : Int32).toInt := add_i ev15441 (by omega) (by omega)
        exact ih_4 (i15424 := v15441) (i15425 := v15440) (hi_4 := by omega) (hk_4 := by omega) (hv_4 := ds_0 hv_4 (by omega) h15429 (by omega) (by omega) (by omega) (by omega) (by omega)) (ls := ls) (hn_4 := by omega) (hl := lv_sub hl [0, 1, 2, 3] rfl)
set_option maxRecDepth 40000 in
set_option maxHeartbeats 4000000 in
theorem c_X12_allPlaces_f (l : Launch) (D : va_G) (K : Nat → ClassId) (md : Nat) (ma1 : Nat) (ma2 : Nat) (ma3 : Nat) (ma4 : Nat) (ma6 : Nat) (ma14 : Nat) (ma21 : Nat) (ma22 : Nat) (ma23 : Nat) (ma24 : Nat) (ma26 : Nat) (ma27 : Nat) (ma28 : Nat) (ma29 : Nat) (ma30 : Nat) (ma31 : Nat) (ma32 : Nat) (ma33 : Nat) (ma34 : Nat) (ma35 : Nat) (ma36 : Nat) (ma40 : Nat) (ma41 : Nat) (ma42 : Nat) (ma45 : Nat) (ma46 : Nat) (ma47 : Nat) (ma49 : Nat) (ma50 : Nat) (ma51 : Nat) (ma52 : Nat) (mn0 : Int32) (mn5 : Int32) (mn7 : Int32) (mn8 : Int32) (mn9 : Int32) (mn10 : Int32) (mn11 : Int32) (mn12 : Int32) (mn13 : Int32) (mn15 : Int32) (mn16 : Int32) (mn17 : Int32) (mn18 : Int32) (mn19 : Int32) (mn20 : Int32) (mn25 : Int32) (mn37 : Int32) (mn38 : Int32) (mn39 : Int32) (mn43 : Int32) (mn44 : Int32) (mn48 : Int32) (mf1 : Nat → Int32) (hs1_0 : GW mf1) : Ro l D K yX12_allPlaces cX12_allPlaces 1 (some .int) 0 0 [.ref md] [(md, .inr (11, [.int mn0, .ref ma1, .ref ma2, .ref ma3, .ref ma4, .int mn5, .ref ma6, .int mn7, .int mn8, .int mn9, .int mn10, .int mn11, .int mn12, .int mn13, .ref ma14, .int mn15, .int mn16, .int mn17, .int mn18, .int mn19, .int mn20, .ref ma21, .ref ma22, .ref ma23, .ref ma24, .int mn25, .ref ma26, .ref ma27, .ref ma28, .ref ma29, .ref ma30, .ref ma31, .ref ma32, .ref ma33, .ref ma34, .ref ma35, .ref ma36, .int mn37, .int mn38, .int mn39, .ref ma40, .ref ma41, .ref ma42, .int mn43, .int mn44, .ref ma45, .ref ma46, .ref ma47, .int mn48, .ref ma49, .ref ma50, .ref ma51, .ref ma52])), (ma1, .inl (K 1, 262, .inl mf1))] (fun r => ((0 ≤ r.toInt) ∧ (r.toInt ≤ 1023) ∧ (r = alF mf1))) := by
  refine ro_of (by decide) (Nat.le_of_ble_eq_true rfl) ?_
  intro p e s m below meth c hC hr hk hE hP ls hl
  replace hC : CallFix p m c cX12_allPlaces 1 s [.ref md].toArray wl RX12 := hC
  have hx := hC.1
  have hb := hC.2.1
  have hml := hC.2.2.1
  have hown := hC.2.2.2.1
  have hts := hC.2.2.2.2
  replace hl : lv_has ls 1 [(0, .ref md)] := hl
  have kc_1 : (1 : Int32).toInt = 1 := by decide
  have hW0 := gwn_0 hs1_0; have hW1 := gwn_1 hs1_0; have hW2 := gwn_2 hs1_0; have hW4 := gwn_4 hs1_0
  refine lv_iconst (v := 1) hx hb dX12_allPlaces_0 (by decide) ?_
  refine lv_aload_n hx hb dX12_allPlaces_1 rfl (lv_at hl 0 rfl) ?_
  refine va_get (D := D) (ci := 11) (v := .ref ma1) (C := RX12) (T := TX12) (N := 53) hx hb hts in_X12 hown hE.1 hP 0 rfl rfl 1 (by decide) (hts _ w_821) (fun _ h9 => h9) rfl dX12_allPlaces_2 ?_
  refine lv_iconst (v := 0) hx hb dX12_allPlaces_5 (by decide) ?_
  refine va_iald hx hb hE.1 hP 1 1 rfl rfl (in_c (by decide)) dX12_allPlaces_6 ?_
  refine lv_topi (fun v15442 ev15442 => ?_)
  have tv15442 := gw_0 hs1_0 ev15442
  have zv15442 : v15442.toInt = (mf1 0).toInt := by rw [ev15442]; rfl
  refine lv_ishl hx hb dX12_allPlaces_7 ?_
  refine lv_topi (fun v15443 ev15443 => ?_)
  refine lv_iconst (v := 1) hx hb dX12_allPlaces_8 (by decide) ?_
  refine lv_isub hx hb dX12_allPlaces_9 ?_
  refine lv_topi (fun v15444 ev15444 => ?_)
  have tv15443 := shl1_b ev15443 (by omega) (by omega)
  have tv15444 : v15444.toInt = (v15443 : Int32).toInt - (1 : Int32).toInt := sub_i ev15444 (by omega) (by omega)
  exact ro_ret hC hr hk dX12_allPlaces_10 ⟨(by omega), (by omega), (by rw [ev15444, ev15443, ev15442]; rfl)⟩
set_option maxRecDepth 40000 in
set_option maxHeartbeats 4000000 in
theorem c_X12_isSet_f (l : Launch) (D : va_G) (K : Nat → ClassId) (md : Nat) (ma1 : Nat) (ma2 : Nat) (ma3 : Nat) (ma4 : Nat) (ma6 : Nat) (ma14 : Nat) (ma21 : Nat) (ma22 : Nat) (ma23 : Nat) (ma24 : Nat) (ma26 : Nat) (ma27 : Nat) (ma28 : Nat) (ma29 : Nat) (ma30 : Nat) (ma31 : Nat) (ma32 : Nat) (ma33 : Nat) (ma34 : Nat) (ma35 : Nat) (ma36 : Nat) (ma40 : Nat) (ma41 : Nat) (ma42 : Nat) (ma45 : Nat) (ma46 : Nat) (ma47 : Nat) (ma49 : Nat) (ma50 : Nat) (ma51 : Nat) (ma52 : Nat) (mn0 : Int32) (mn5 : Int32) (mn7 : Int32) (mn8 : Int32) (mn9 : Int32) (mn10 : Int32) (mn11 : Int32) (mn12 : Int32) (mn13 : Int32) (mn15 : Int32) (mn16 : Int32) (mn17 : Int32) (mn18 : Int32) (mn19 : Int32) (mn20 : Int32) (mn25 : Int32) (mn37 : Int32) (mn38 : Int32) (mn39 : Int32) (mn43 : Int32) (mn44 : Int32) (mn48 : Int32) (mf1 : Nat → Int32) (p0 : Int32) (hs1_0 : GW mf1) : Ro l D K yX12_isSet cX12_isSet 2 (some .boolean) 1 25 [.ref md, .int p0] [(md, .inr (11, [.int mn0, .ref ma1, .ref ma2, .ref ma3, .ref ma4, .int mn5, .ref ma6, .int mn7, .int mn8, .int mn9, .int mn10, .int mn11, .int mn12, .int mn13, .ref ma14, .int mn15, .int mn16, .int mn17, .int mn18, .int mn19, .int mn20, .ref ma21, .ref ma22, .ref ma23, .ref ma24, .int mn25, .ref ma26, .ref ma27, .ref ma28, .ref ma29, .ref ma30, .ref ma31, .ref ma32, .ref ma33, .ref ma34, .ref ma35, .ref ma36, .int mn37, .int mn38, .int mn39, .ref ma40, .ref ma41, .ref ma42, .int mn43, .int mn44, .ref ma45, .ref ma46, .ref ma47, .int mn48, .ref ma49, .ref ma50, .ref ma51, .ref ma52])), (ma1, .inl (K 1, 262, .inl mf1))] (fun r => (r = 0) ∨ (r = 1 ∧ (1 ≤ p0.toInt) ∧ (p0.toInt ≤ 1023) ∧ (p0.toInt ≤ (alF mf1).toInt))) := by
  refine ro_of (by decide) (Nat.le_of_ble_eq_true rfl) ?_
  intro p e s m below meth c hC hr hk hE hP ls hl
  replace hC : CallFix p m c cX12_isSet 2 s [.ref md, .int p0].toArray wl RX12 := hC
  have hx := hC.1
  have hb := hC.2.1
  have hml := hC.2.2.1
  have hown := hC.2.2.2.1
  have hts := hC.2.2.2.2
  replace hl : lv_has ls 2 [(0, .ref md), (1, .int p0)] := hl
  have kl_1 : (1 : Int64).toInt = 1 := by decide
  have hW0 := gwn_0 hs1_0; have hW1 := gwn_1 hs1_0; have hW2 := gwn_2 hs1_0; have hW4 := gwn_4 hs1_0
  refine lv_aload_n hx hb dX12_isSet_0 rfl (lv_at hl 0 rfl) ?_
  refine ro_V (As := []) (rest := []) hC hE kV_X12_125 (c_X12_isWood l D K md ma1 ma2 ma3 ma4 ma6 ma14 ma21 ma22 ma23 ma24 ma26 ma27 ma28 ma29 ma30 ma31 ma32 ma33 ma34 ma35 ma36 ma40 ma41 ma42 ma45 ma46 ma47 ma49 ma50 ma51 ma52 mn0 mn5 mn7 mn8 mn9 mn10 mn11 mn12 mn13 mn15 mn16 mn17 mn18 mn19 mn20 mn25 mn37 mn38 mn39 mn43 mn44 mn48 mf1 hs1_0) (hP.sub (ws' := [(md, .inr (11, [.int mn0, .ref ma1, .ref ma2, .ref ma3, .ref ma4, .int mn5, .ref ma6, .int mn7, .int mn8, .int mn9, .int mn10, .int mn11, .int mn12, .int mn13, .ref ma14, .int mn15, .int mn16, .int mn17, .int mn18, .int mn19, .int mn20, .ref ma21, .ref ma22, .ref ma23, .ref ma24, .int mn25, .ref ma26, .ref ma27, .ref ma28, .ref ma29, .ref ma30, .ref ma31, .ref ma32, .ref ma33, .ref ma34, .ref ma35, .ref ma36, .int mn37, .int mn38, .int mn39, .ref ma40, .ref ma41, .ref ma42, .int mn43, .int mn44, .ref ma45, .ref ma46, .ref ma47, .int mn48, .ref ma49, .ref ma50, .ref ma51, .ref ma52])), (ma1, .inl (K 1, 262, .inl mf1))]) [0, 1] rfl) 0 11 rfl rfl rfl hl.1 rfl (Nat.le_of_ble_eq_true rfl) (by decide) (by decide) dX12_isSet_1 (fun r15445 hq => ?_)
  rcases hq with rfl | rfl
  · refine lv_if_eq (tgt := 25) hx hb dX12_isSet_4 (by decide) (fun _ => ?_) (fun h => absurd h (by decide))
    refine lv_iconst (v := 0) hx hb dX12_isSet_25 (by decide) ?_
    exact ro_zret hC hr hk dX12_isSet_26 rfl (Or.inl rfl)
  · refine lv_if_eq (tgt := 25) hx hb dX12_isSet_4 (by decide) (fun h => absurd h (by decide)) (fun _ => ?_)
    refine lv_iload_n hx hb dX12_isSet_7 rfl (lv_at hl 1 rfl) ?_
    refine lv_i2l hx hb dX12_isSet_8 rfl ?_
    refine lv_topl (fun v15446 ev15446 => ?_)
    refine lv_lconst (v := 1) hx hb dX12_isSet_9 (by decide) ?_
    refine lv_aload_n hx hb dX12_isSet_10 rfl (lv_at hl 0 rfl) ?_
    refine ro_V (As := []) (rest := [.long 1, .long v15446]) hC hE kV_X12_129 (c_X12_allPlaces_f l D K md ma1 ma2 ma3 ma4 ma6 ma14 ma21 ma22 ma23 ma24 ma26 ma27 ma28 ma29 ma30 ma31 ma32 ma33 ma34 ma35 ma36 ma40 ma41 ma42 ma45 ma46 ma47 ma49 ma50 ma51 ma52 mn0 mn5 mn7 mn8 mn9 mn10 mn11 mn12 mn13 mn15 mn16 mn17 mn18 mn19 mn20 mn25 mn37 mn38 mn39 mn43 mn44 mn48 mf1 hs1_0) (hP.sub (ws' := [(md, .inr (11, [.int mn0, .ref ma1, .ref ma2, .ref ma3, .ref ma4, .int mn5, .ref ma6, .int mn7, .int mn8, .int mn9, .int mn10, .int mn11, .int mn12, .int mn13, .ref ma14, .int mn15, .int mn16, .int mn17, .int mn18, .int mn19, .int mn20, .ref ma21, .ref ma22, .ref ma23, .ref ma24, .int mn25, .ref ma26, .ref ma27, .ref ma28, .ref ma29, .ref ma30, .ref ma31, .ref ma32, .ref ma33, .ref ma34, .ref ma35, .ref ma36, .int mn37, .int mn38, .int mn39, .ref ma40, .ref ma41, .ref ma42, .int mn43, .int mn44, .ref ma45, .ref ma46, .ref ma47, .int mn48, .ref ma49, .ref ma50, .ref ma51, .ref ma52])), (ma1, .inl (K 1, 262, .inl mf1))]) [0, 1] rfl) 0 11 rfl rfl rfl hl.1 rfl (Nat.le_of_ble_eq_true rfl) (by decide) (by decide) dX12_isSet_11 (fun r15450 hq => ?_)
    obtain ⟨h15447, h15448, h15449⟩ := hq
    have q15451 : r15450.toInt = (alF mf1).toInt := by rw [h15449]
    refine lv_i2l hx hb dX12_isSet_14 rfl ?_
    refine lv_topl (fun v15452 ev15452 => ?_)
    have tv15446 : v15446.toInt = (p0 : Int32).toInt := i2l_i ev15446
    have tv15452 : v15452.toInt = (r15450 : Int32).toInt := i2l_i ev15452
    refine ro_S (As := [.long v15446, .long 1, .long v15452]) (rest := []) hC hE kS_X12_115 (c_X12_in l D K v15446 1 v15452) (hP.sub (ws' := []) [] rfl) rfl hl.1 rfl (Nat.le_of_ble_eq_true rfl) (by decide) (by decide) dX12_isSet_15 (fun r15456 hq => ?_)
    rcases hq with ⟨rfl, h15453⟩ | ⟨rfl, h15454, h15455⟩
    · refine lv_if_eq (tgt := 25) hx hb dX12_isSet_18 (by decide) (fun _ => ?_) (fun h => absurd h (by decide))
      refine lv_iconst (v := 0) hx hb dX12_isSet_25 (by decide) ?_
      exact ro_zret hC hr hk dX12_isSet_26 rfl (Or.inl rfl)
    · refine lv_if_eq (tgt := 25) hx hb dX12_isSet_18 (by decide) (fun h => absurd h (by decide)) (fun _ => ?_)
      refine lv_iconst (v := 1) hx hb dX12_isSet_21 (by decide) ?_
      refine lv_goto (tgt := 26) hx hb dX12_isSet_22 (by decide) ?_
      exact ro_zret hC hr hk dX12_isSet_26 rfl (Or.inr ⟨rfl, (by omega), (by omega), (by omega)⟩)
set_option maxRecDepth 40000 in
set_option maxHeartbeats 4000000 in
theorem c_X12_fillDepths (l : Launch) (D : va_G) (K : Nat → ClassId) (md : Nat) (ma1 : Nat) (ma2 : Nat) (ma3 : Nat) (ma4 : Nat) (ma6 : Nat) (ma14 : Nat) (ma21 : Nat) (ma22 : Nat) (ma23 : Nat) (ma24 : Nat) (ma26 : Nat) (ma27 : Nat) (ma28 : Nat) (ma29 : Nat) (ma30 : Nat) (ma31 : Nat) (ma32 : Nat) (ma33 : Nat) (ma34 : Nat) (ma35 : Nat) (ma36 : Nat) (ma40 : Nat) (ma41 : Nat) (ma42 : Nat) (ma45 : Nat) (ma46 : Nat) (ma47 : Nat) (ma49 : Nat) (ma50 : Nat) (ma51 : Nat) (ma52 : Nat) (mn0 : Int32) (mn5 : Int32) (mn7 : Int32) (mn8 : Int32) (mn9 : Int32) (mn10 : Int32) (mn11 : Int32) (mn12 : Int32) (mn13 : Int32) (mn15 : Int32) (mn16 : Int32) (mn17 : Int32) (mn18 : Int32) (mn19 : Int32) (mn20 : Int32) (mn25 : Int32) (mn37 : Int32) (mn38 : Int32) (mn39 : Int32) (mn43 : Int32) (mn44 : Int32) (mn48 : Int32) (mf1 : Nat → Int32) (mf26 : Nat → Int32) (hs1_0 : GW mf1) : Cv (S := ((Nat → Int32) × (Nat → Nat → Int32) × (Nat → Nat → Int64))) l D K yX12_fillDepths cX12_fillDepths 6 3 68 0 0 [.ref md] [(md, .inr (11, [.int mn0, .ref ma1, .ref ma2, .ref ma3, .ref ma4, .int mn5, .ref ma6, .int mn7, .int mn8, .int mn9, .int mn10, .int mn11, .int mn12, .int mn13, .ref ma14, .int mn15, .int mn16, .int mn17, .int mn18, .int mn19, .int mn20, .ref ma21, .ref ma22, .ref ma23, .ref ma24, .int mn25, .ref ma26, .ref ma27, .ref ma28, .ref ma29, .ref ma30, .ref ma31, .ref ma32, .ref ma33, .ref ma34, .ref ma35, .ref ma36, .int mn37, .int mn38, .int mn39, .ref ma40, .ref ma41, .ref ma42, .int mn43, .int mn44, .ref ma45, .ref ma46, .ref ma47, .int mn48, .ref ma49, .ref ma50, .ref ma51, .ref ma52])), (ma1, .inl (K 1, 262, .inl mf1)), (ma26, .inl (K 1, 1024, .inl mf26))] (fun u => (FD mf1 (u.2.1 0) (alF mf1).toInt) ∧ (Rg 0 1000000 1024 (u.2.1 0))) (fun u => [(md, .inr (11, [.int mn0, .ref ma1, .ref ma2, .ref ma3, .ref ma4, .int mn5, .ref ma6, .int mn7, .int mn8, .int mn9, .int mn10, .int mn11, .int mn12, .int mn13, .ref ma14, .int mn15, .int mn16, .int mn17, .int mn18, .int mn19, .int mn20, .ref ma21, .ref ma22, .ref ma23, .ref ma24, .int mn25, .ref ma26, .ref ma27, .ref ma28, .ref ma29, .ref ma30, .ref ma31, .ref ma32, .ref ma33, .ref ma34, .ref ma35, .ref ma36, .int mn37, .int mn38, .int mn39, .ref ma40, .ref ma41, .ref ma42, .int mn43, .int mn44, .ref ma45, .ref ma46, .ref ma47, .int mn48, .ref ma49, .ref ma50, .ref ma51, .ref ma52])), (ma1, .inl (K 1, 262, .inl mf1)), (ma26, .inl (K 1, 1024, .inl (u.2.1 0)))]) := by
  intro sz
  refine ch_of (y := yX12_fillDepths) (cc := cX12_fillDepths) (maxL := 6) (ret := none) (av := [.ref md]) (ws := [(md, .inr (11, [.int mn0, .ref ma1, .ref ma2, .ref ma3, .ref ma4, .int mn5, .ref ma6, .int mn7, .int mn8, .int mn9, .int mn10, .int mn11, .int mn12, .int mn13, .ref ma14, .int mn15, .int mn16, .int mn17, .int mn18, .int mn19, .int mn20, .ref ma21, .ref ma22, .ref ma23, .ref ma24, .int mn25, .ref ma26, .ref ma27, .ref ma28, .ref ma29, .ref ma30, .ref ma31, .ref ma32, .ref ma33, .ref ma34, .ref ma35, .ref ma36, .int mn37, .int mn38, .int mn39, .ref ma40, .ref ma41, .ref ma42, .int mn43, .int mn44, .ref ma45, .ref ma46, .ref ma47, .int mn48, .ref ma49, .ref ma50, .ref ma51, .ref ma52])), (ma1, .inl (K 1, 262, .inl mf1)), (ma26, .inl (K 1, 1024, .inl mf26))]) (D := D) (K := K) (Qc := fun A => va_Qv (S := ((Nat → Int32) × (Nat → Nat → Int32) × (Nat → Nat → Int64))) (fun u => (FD mf1 (u.2.1 0) (alF mf1).toInt) ∧ (Rg 0 1000000 1024 (u.2.1 0))) (chB D A (fun u => [(md, .inr (11, [.int mn0, .ref ma1, .ref ma2, .ref ma3, .ref ma4, .int mn5, .ref ma6, .int mn7, .int mn8, .int mn9, .int mn10, .int mn11, .int mn12, .int mn13, .ref ma14, .int mn15, .int mn16, .int mn17, .int mn18, .int mn19, .int mn20, .ref ma21, .ref ma22, .ref ma23, .ref ma24, .int mn25, .ref ma26, .ref ma27, .ref ma28, .ref ma29, .ref ma30, .ref ma31, .ref ma32, .ref ma33, .ref ma34, .ref ma35, .ref ma36, .int mn37, .int mn38, .int mn39, .ref ma40, .ref ma41, .ref ma42, .int mn43, .int mn44, .ref ma45, .ref ma46, .ref ma47, .int mn48, .ref ma49, .ref ma50, .ref ma51, .ref ma52])), (ma1, .inl (K 1, 262, .inl mf1)), (ma26, .inl (K 1, 1024, .inl (u.2.1 0)))])) A) (by decide) (Nat.le_of_ble_eq_true rfl) ?_
  intro p e s m below meth c A hC hr hk hin hE hD hA H locs hP hS ls hl
  replace hC : CallFix p m c cX12_fillDepths 6 s [.ref md].toArray wl RX12 := hC
  have hx := hC.1
  have hb := hC.2.1
  have hml := hC.2.2.1
  have hown := hC.2.2.2.1
  have hts := hC.2.2.2.2
  replace hl : lv_has ls 6 [(0, .ref md)] := hl
  have kc_0 : (0 : Int32).toInt = 0 := by decide
  have kc_1 : (1 : Int32).toInt = 1 := by decide
  have kc_4 : (4 : Int32).toInt = 4 := by decide
  have kc_1024 : (1024 : Int32).toInt = 1024 := by decide
  have kc_1000000 : (1000000 : Int32).toInt = 1000000 := by decide
  have hW0 := gwn_0 hs1_0; have hW1 := gwn_1 hs1_0; have hW2 := gwn_2 hs1_0; have hW4 := gwn_4 hs1_0
  have hal := al_b hs1_0
  refine lv_iconst (v := 0) hx hb dX12_fillDepths_0 (by decide) ?_
  refine lv_istore_n (lv' := [(1, .int 0), (0, .ref md)]) hx hb dX12_fillDepths_1 rfl hl (by decide) rfl (fun ls hl => ?_)
  have hl' := hl; have hP' := hP; have hD' := hD; clear hl hP hD
  obtain ⟨i15509, g15510, hi_2, hf_2, hl, hP, hD⟩ : ∃ (i15509 : Int32) (g15510 : Nat → Int32), ((0 : Int) ≤ i15509.toInt) ∧ (∀ j : Nat, (j : Int) < i15509.toInt → (g15510 j).toInt = 0 ∨ (g15510 j).toInt = 1000000) ∧ lv_has ls 6 [(1, .int i15509), (0, .ref md)] ∧ va_P D vwCl [(md, .inr (11, [.int mn0, .ref ma1, .ref ma2, .ref ma3, .ref ma4, .int mn5, .ref ma6, .int mn7, .int mn8, .int mn9, .int mn10, .int mn11, .int mn12, .int mn13, .ref ma14, .int mn15, .int mn16, .int mn17, .int mn18, .int mn19, .int mn20, .ref ma21, .ref ma22, .ref ma23, .ref ma24, .int mn25, .ref ma26, .ref ma27, .ref ma28, .ref ma29, .ref ma30, .ref ma31, .ref ma32, .ref ma33, .ref ma34, .ref ma35, .ref ma36, .int mn37, .int mn38, .int mn39, .ref ma40, .ref ma41, .ref ma42, .int mn43, .int mn44, .ref ma45, .ref ma46, .ref ma47, .int mn48, .ref ma49, .ref ma50, .ref ma51, .ref ma52])), (ma1, .inl (K 1, 262, .inl mf1)), (ma26, .inl (K 1, 1024, .inl g15510))] H ∧ va_D A [(md, .inr (11, [.int mn0, .ref ma1, .ref ma2, .ref ma3, .ref ma4, .int mn5, .ref ma6, .int mn7, .int mn8, .int mn9, .int mn10, .int mn11, .int mn12, .int mn13, .ref ma14, .int mn15, .int mn16, .int mn17, .int mn18, .int mn19, .int mn20, .ref ma21, .ref ma22, .ref ma23, .ref ma24, .int mn25, .ref ma26, .ref ma27, .ref ma28, .ref ma29, .ref ma30, .ref ma31, .ref ma32, .ref ma33, .ref ma34, .ref ma35, .ref ma36, .int mn37, .int mn38, .int mn39, .ref ma40, .ref ma41, .ref ma42, .int mn43, .int mn44, .ref ma45, .ref ma46, .ref ma47, .int mn48, .ref ma49, .ref ma50, .ref ma51, .ref ma52])), (ma1, .inl (K 1, 262, .inl mf1)), (ma26, .inl (K 1, 1024, .inl g15510))] := ⟨_, _, by omega, fun j hj => absurd hj (by omega), hl', hP', hD'⟩
  clear hl' hP' hD'
  obtain ⟨n_2, hn_2⟩ : ∃ n : Nat, (1024 - i15509.toInt).toNat < n := ⟨_, Nat.lt_succ_self _⟩
  induction n_2 generalizing i15509 g15510 H locs ls with
  | zero => exact absurd hn_2 (Nat.not_lt_zero _)
  | succ n_2 ih_2 =>
    refine lv_iload_n hx hb dX12_fillDepths_2 rfl (lv_at hl 0 rfl) ?_
    refine lv_sipush (v := 1024) hx hb dX12_fillDepths_3 (by decide) ?_
    refine lv_icmp_ge (tgt := 36) hx hb dX12_fillDepths_6 (by decide) (fun c15511 => ?_) (fun c15511 => ?_)
    · replace c15511 := le_i c15511
      refine lv_iconst (v := 1) hx hb dX12_fillDepths_36 (by decide) ?_
      refine lv_istore_n (lv' := [(1, .int 1), (0, .ref md)]) hx hb dX12_fillDepths_37 rfl hl (by decide) rfl (fun ls hl => ?_)
      refine lv_iconst (v := 1) hx hb dX12_fillDepths_38 (by decide) ?_
      refine lv_istore_n (lv' := [(2, .int 1), (1, .int 1), (0, .ref md)]) hx hb dX12_fillDepths_39 rfl hl (by decide) rfl (fun ls hl => ?_)
      have q15512 : Rg 0 1000000 1024 g15510 := fun i hi => by have h9 := hf_2 i (by omega); omega
      have hcl_40 := cnt_le g15510 1000000 1024
      have hl' := hl; have hP' := hP; have hD' := hD; clear hl hP hD
      obtain ⟨i15549, i15550, g15551, hm_40, ho_40, hc_40, hfd_40, qRg_ma26_40, hl, hP, hD⟩ : ∃ (i15549 : Int32) (i15550 : Int32) (g15551 : Nat → Int32), (i15550.toInt = 0 ∨ i15550.toInt = 1) ∧ (1 ≤ i15549.toInt) ∧ (i15550.toInt = 0 ∨ (cntE g15551 1000000 1024 : Int) + i15549.toInt ≤ 1025) ∧ (FDm mf1 g15551 (alF mf1).toInt i15549.toInt 1) ∧ (Rg 0 1000000 1024 g15551) ∧ lv_has ls 6 [(2, .int i15549), (1, .int i15550), (0, .ref md)] ∧ va_P D vwCl [(md, .inr (11, [.int mn0, .ref ma1, .ref ma2, .ref ma3, .ref ma4, .int mn5, .ref ma6, .int mn7, .int mn8, .int mn9, .int mn10, .int mn11, .int mn12, .int mn13, .ref ma14, .int mn15, .int mn16, .int mn17, .int mn18, .int mn19, .int mn20, .ref ma21, .ref ma22, .ref ma23, .ref ma24, .int mn25, .ref ma26, .ref ma27, .ref ma28, .ref ma29, .ref ma30, .ref ma31, .ref ma32, .ref ma33, .ref ma34, .ref ma35, .ref ma36, .int mn37, .int mn38, .int mn39, .ref ma40, .ref ma41, .ref ma42, .int mn43, .int mn44, .ref ma45, .ref ma46, .ref ma47, .int mn48, .ref ma49, .ref ma50, .ref ma51, .ref ma52])), (ma1, .inl (K 1, 262, .inl mf1)), (ma26, .inl (K 1, 1024, .inl g15551))] H ∧ va_D A [(md, .inr (11, [.int mn0, .ref ma1, .ref ma2, .ref ma3, .ref ma4, .int mn5, .ref ma6, .int mn7, .int mn8, .int mn9, .int mn10, .int mn11, .int mn12, .int mn13, .ref ma14, .int mn15, .int mn16, .int mn17, .int mn18, .int mn19, .int mn20, .ref ma21, .ref ma22, .ref ma23, .ref ma24, .int mn25, .ref ma26, .ref ma27, .ref ma28, .ref ma29, .ref ma30, .ref ma31, .ref ma32, .ref ma33, .ref ma34, .ref ma35, .ref ma36, .int mn37, .int mn38, .int mn39, .ref ma40, .ref ma41, .ref ma42, .int mn43, .int mn44, .ref ma45, .ref ma46, .ref ma47, .int mn48, .ref ma49, .ref ma50, .ref ma51, .ref ma52])), (ma1, .inl (K 1, 262, .inl mf1)), (ma26, .inl (K 1, 1024, .inl g15551))] := ⟨_, _, _, by omega, by omega, by omega, fd_0 (fun s hs => hf_2 s (by omega)) (by decide) rfl, q15512, hl', hP', hD'⟩
      clear hl' hP' hD'
      obtain ⟨n_40, hn_40⟩ : ∃ n : Nat, cntE g15551 1000000 1024 + i15550.toInt.toNat < n := ⟨_, Nat.lt_succ_self _⟩
      induction n_40 generalizing i15549 i15550 g15551 H locs ls with
      | zero => exact absurd hn_40 (Nat.not_lt_zero _)
      | succ n_40 ih_40 =>
        refine lv_iload_n hx hb dX12_fillDepths_40 rfl (lv_at hl 1 rfl) ?_
        refine lv_if_eq (tgt := 147) hx hb dX12_fillDepths_41 (by decide) (fun c15552 => ?_) (fun c15552 => ?_)
        · replace c15552 := eq_i c15552
          refine W.widen (k := 0) (n := 0) (by decide) (by decide) ?_
          exact ch_vret hC hr hk hS dX12_fillDepths_147 ((fun k => [].getD k 0, fun k => [g15551].getD k (fun _ => 0), fun k => [].getD k (fun _ => 0)) : ((Nat → Int32) × (Nat → Nat → Int32) × (Nat → Nat → Int64))) ⟨(show FD mf1 g15551 (alF mf1).toInt from (fd_of hfd_40)), (show Rg 0 1000000 1024 g15551 from qRg_ma26_40)⟩ (hP.sub [0, 1, 2] rfl) (hD.sub [0, 1, 2] (by decide) rfl)
        · replace c15552 := ne_i c15552
          refine lv_iconst (v := 0) hx hb dX12_fillDepths_44 (by decide) ?_
          refine lv_istore_n (lv' := [(1, .int 0), (2, .int i15549), (0, .ref md)]) hx hb dX12_fillDepths_45 rfl hl (by decide) rfl (fun ls hl => ?_)
          refine lv_iconst (v := 1) hx hb dX12_fillDepths_46 (by decide) ?_
          refine lv_istore_n (lv' := [(3, .int 1), (1, .int 0), (2, .int i15549), (0, .ref md)]) hx hb dX12_fillDepths_47 rfl hl (by decide) rfl (fun ls hl => ?_)
          have hl' := hl; have hP' := hP; have hD' := hD; clear hl hP hD
          obtain ⟨i15585, i15586, g15587, hi_48, hm_48, hfd_48, qRg_ma26_48, hl, hP, hD⟩ : ∃ (i15585 : Int32) (i15586 : Int32) (g15587 : Nat → Int32), ((1 : Int) ≤ i15585.toInt) ∧ ((i15586.toInt = 0 ∧ cntE g15587 1000000 1024 ≤ cntE g15551 1000000 1024) ∨ (i15586.toInt = 1 ∧ cntE g15587 1000000 1024 + 1 ≤ cntE g15551 1000000 1024)) ∧ (FDm mf1 g15587 (alF mf1).toInt i15549.toInt i15585.toInt) ∧ (Rg 0 1000000 1024 g15587) ∧ lv_has ls 6 [(3, .int i15585), (1, .int i15586), (2, .int i15549), (0, .ref md)] ∧ va_P D vwCl [(md, .inr (11, [.int mn0, .ref ma1, .ref ma2, .ref ma3, .ref ma4, .int mn5, .ref ma6, .int mn7, .int mn8, .int mn9, .int mn10, .int mn11, .int mn12, .int mn13, .ref ma14, .int mn15, .int mn16, .int mn17, .int mn18, .int mn19, .int mn20, .ref ma21, .ref ma22, .ref ma23, .ref ma24, .int mn25, .ref ma26, .ref ma27, .ref ma28, .ref ma29, .ref ma30, .ref ma31, .ref ma32, .ref ma33, .ref ma34, .ref ma35, .ref ma36, .int mn37, .int mn38, .int mn39, .ref ma40, .ref ma41, .ref ma42, .int mn43, .int mn44, .ref ma45, .ref ma46, .ref ma47, .int mn48, .ref ma49, .ref ma50, .ref ma51, .ref ma52])), (ma1, .inl (K 1, 262, .inl mf1)), (ma26, .inl (K 1, 1024, .inl g15587))] H ∧ va_D A [(md, .inr (11, [.int mn0, .ref ma1, .ref ma2, .ref ma3, .ref ma4, .int mn5, .ref ma6, .int mn7, .int mn8, .int mn9, .int mn10, .int mn11, .int mn12, .int mn13, .ref ma14, .int mn15, .int mn16, .int mn17, .int mn18, .int mn19, .int mn20, .ref ma21, .ref ma22, .ref ma23, .ref ma24, .int mn25, .ref ma26, .ref ma27, .ref ma28, .ref ma29, .ref ma30, .ref ma31, .ref ma32, .ref ma33, .ref ma34, .ref ma35, .ref ma36, .int mn37, .int mn38, .int mn39, .ref ma40, .ref ma41, .ref ma42, .int mn43, .int mn44, .ref ma45, .ref ma46, .ref ma47, .int mn48, .ref ma49, .ref ma50, .ref ma51, .ref ma52])), (ma1, .inl (K 1, 262, .inl mf1)), (ma26, .inl (K 1, 1024, .inl g15587))] := ⟨_, _, _, by omega, by omega, (by rw [show ((1 : Int32).toInt) = 1 from by decide]; exact hfd_40), qRg_ma26_40, hl', hP', hD'⟩
          clear hl' hP' hD'
          obtain ⟨n_48, hn_48⟩ : ∃ n : Nat, (1024 - i15585.toInt).toNat < n := ⟨_, Nat.lt_succ_self _⟩
          induction n_48 generalizing i15585 i15586 g15587 H locs ls with
          | zero => exact absurd hn_48 (Nat.not_lt_zero _)
          | succ n_48 ih_48 =>
            refine lv_iload_n hx hb dX12_fillDepths_48 rfl (lv_at hl 0 rfl) ?_
            refine lv_aload_n hx hb dX12_fillDepths_49 rfl (lv_at hl 3 rfl) ?_
            refine ro_V (As := []) (rest := [.int i15585]) hC hE kV_X12_129 (c_X12_allPlaces_f l D K md ma1 ma2 ma3 ma4 ma6 ma14 ma21 ma22 ma23 ma24 ma26 ma27 ma28 ma29 ma30 ma31 ma32 ma33 ma34 ma35 ma36 ma40 ma41 ma42 ma45 ma46 ma47 ma49 ma50 ma51 ma52 mn0 mn5 mn7 mn8 mn9 mn10 mn11 mn12 mn13 mn15 mn16 mn17 mn18 mn19 mn20 mn25 mn37 mn38 mn39 mn43 mn44 mn48 mf1 hs1_0) (hP.sub (ws' := [(md, .inr (11, [.int mn0, .ref ma1, .ref ma2, .ref ma3, .ref ma4, .int mn5, .ref ma6, .int mn7, .int mn8, .int mn9, .int mn10, .int mn11, .int mn12, .int mn13, .ref ma14, .int mn15, .int mn16, .int mn17, .int mn18, .int mn19, .int mn20, .ref ma21, .ref ma22, .ref ma23, .ref ma24, .int mn25, .ref ma26, .ref ma27, .ref ma28, .ref ma29, .ref ma30, .ref ma31, .ref ma32, .ref ma33, .ref ma34, .ref ma35, .ref ma36, .int mn37, .int mn38, .int mn39, .ref ma40, .ref ma41, .ref ma42, .int mn43, .int mn44, .ref ma45, .ref ma46, .ref ma47, .int mn48, .ref ma49, .ref ma50, .ref ma51, .ref ma52])), (ma1, .inl (K 1, 262, .inl mf1))]) [0, 1] rfl) 0 11 rfl rfl rfl hl.1 rfl (Nat.le_of_ble_eq_true rfl) (by decide) (by decide) dX12_fillDepths_50 (fun r15591 hq => ?_)
            obtain ⟨h15588, h15589, h15590⟩ := hq
            have q15592 : r15591.toInt = (alF mf1).toInt := by rw [h15590]
            refine lv_icmp_gt (tgt := 141) hx hb dX12_fillDepths_53 (by decide) (fun c15593 => ?_) (fun c15593 => ?_)
            · replace c15593 := lt_i c15593
              obtain ⟨v15594, ev15594⟩ : ∃ z : Int32, z = i15549 + 1 := ⟨_, rfl⟩
              refine lv_iinc (v := v15594) (lv' := [(2, .int v15594), (3, .int i15585), (1, .int i15586), (0, .ref md)]) hx hb dX12_fillDepths_141 hl (k := 2) rfl (by rw [ev15594]; rfl) (by decide) rfl (fun ls hl => ?_)
              refine lv_goto (tgt := 40) hx hb dX12_fillDepths_144 (by decide) ?_
              have tv15594 : v15594.toInt = (i15549 : Int32).toInt + (1 : Int32).toInt := add_i ev15594 (by omega) (by omega)
              exact ih_40 (i15549 := v15594) (i15550 := i15586) (g15551 := g15587) (hm_40 := by omega) (ho_40 := by omega) (hc_40 := by omega) (hfd_40 := fd_next hfd_48 (by omega) (by omega) rfl) (qRg_ma26_40 := qRg_ma26_48) (H := H) (locs := locs) (ls := ls) (hn_40 := by omega) (hP := hP) (hD := hD) (hS := hS) (hl := lv_sub hl [0, 2, 3] rfl)
            · replace c15593 := nlt_i c15593
              refine lv_aload_n hx hb dX12_fillDepths_56 rfl (lv_at hl 3 rfl) ?_
              refine va_get (D := D) (ci := 11) (v := .ref ma26) (C := RX12) (T := TX12) (N := 53) hx hb hts in_X12 hown hE.1 hP 0 rfl rfl 26 (by decide) (hts _ w_1155) (fun _ h9 => h9) rfl dX12_fillDepths_57 ?_
              refine lv_iload_n hx hb dX12_fillDepths_60 rfl (lv_at hl 0 rfl) ?_
              refine va_iald hx hb hE.1 hP 2 1 rfl rfl (vp_in_iff.mpr (by omega)) dX12_fillDepths_61 ?_
              refine lv_topi (fun v15595 ev15595 => ?_)
              have zv15595 : v15595.toInt = (g15587 i15585.toInt.toNat).toInt := by rw [ev15595]; rfl
              have tv15595 := rg_at qRg_ma26_48 ev15595 (in_lt (i := i15585) (vp_in_iff.mpr (by omega)))
              refine lv_ldcw (v := 1000000) hx hb hown (hts _ w_1105) dX12_fillDepths_62 ?_
              refine lv_icmp_eq (tgt := 71) hx hb dX12_fillDepths_65 (by decide) (fun c15596 => ?_) (fun c15596 => ?_)
              · replace c15596 := eq_i c15596
                refine lv_iconst (v := 0) hx hb dX12_fillDepths_71 (by decide) ?_
                refine lv_istore (lv' := [(4, .int 0), (3, .int i15585), (1, .int i15586), (2, .int i15549), (0, .ref md)]) hx hb dX12_fillDepths_72 hl (by decide) rfl (fun ls hl => ?_)
                refine lv_iconst (v := 0) hx hb dX12_fillDepths_74 (by decide) ?_
                refine lv_istore (lv' := [(5, .int 0), (4, .int 0), (3, .int i15585), (1, .int i15586), (2, .int i15549), (0, .ref md)]) hx hb dX12_fillDepths_75 hl (by decide) rfl (fun ls hl => ?_)
                have hl' := hl; have hP' := hP; have hD' := hD; clear hl hP hD
                obtain ⟨i15611, i15612, hi_77, hv_77, hl, hP, hD⟩ : ∃ (i15611 : Int32) (i15612 : Int32), ((0 : Int) ≤ i15611.toInt) ∧ ((i15612.toInt = 1 ∧ ExW mf1 g15587 i15585.toInt.toNat (i15549.toInt - 1)) ∨ (i15612.toInt = 0 ∧ ∀ w9 : Nat, (w9 : Int) < i15611.toInt → i15549.toInt - 1 < DD mf1 g15587 i15585.toInt.toNat w9)) ∧ lv_has ls 6 [(5, .int i15611), (4, .int i15612), (3, .int i15585), (1, .int i15586), (2, .int i15549), (0, .ref md)] ∧ va_P D vwCl [(md, .inr (11, [.int mn0, .ref ma1, .ref ma2, .ref ma3, .ref ma4, .int mn5, .ref ma6, .int mn7, .int mn8, .int mn9, .int mn10, .int mn11, .int mn12, .int mn13, .ref ma14, .int mn15, .int mn16, .int mn17, .int mn18, .int mn19, .int mn20, .ref ma21, .ref ma22, .ref ma23, .ref ma24, .int mn25, .ref ma26, .ref ma27, .ref ma28, .ref ma29, .ref ma30, .ref ma31, .ref ma32, .ref ma33, .ref ma34, .ref ma35, .ref ma36, .int mn37, .int mn38, .int mn39, .ref ma40, .ref ma41, .ref ma42, .int mn43, .int mn44, .ref ma45, .ref ma46, .ref ma47, .int mn48, .ref ma49, .ref ma50, .ref ma51, .ref ma52])), (ma1, .inl (K 1, 262, .inl mf1)), (ma26, .inl (K 1, 1024, .inl g15587))] H ∧ va_D A [(md, .inr (11, [.int mn0, .ref ma1, .ref ma2, .ref ma3, .ref ma4, .int mn5, .ref ma6, .int mn7, .int mn8, .int mn9, .int mn10, .int mn11, .int mn12, .int mn13, .ref ma14, .int mn15, .int mn16, .int mn17, .int mn18, .int mn19, .int mn20, .ref ma21, .ref ma22, .ref ma23, .ref ma24, .int mn25, .ref ma26, .ref ma27, .ref ma28, .ref ma29, .ref ma30, .ref ma31, .ref ma32, .ref ma33, .ref ma34, .ref ma35, .ref ma36, .int mn37, .int mn38, .int mn39, .ref ma40, .ref ma41, .ref ma42, .int mn43, .int mn44, .ref ma45, .ref ma46, .ref ma47, .int mn48, .ref ma49, .ref ma50, .ref ma51, .ref ma52])), (ma1, .inl (K 1, 262, .inl mf1)), (ma26, .inl (K 1, 1024, .inl g15587))] := ⟨_, _, by omega, Or.inr ⟨by omega, fun w9 h9 => absurd h9 (by omega)⟩, hl', hP', hD'⟩
                clear hl' hP' hD'
                obtain ⟨n_77, hn_77⟩ : ∃ n : Nat, (4 - i15611.toInt).toNat < n := ⟨_, Nat.lt_succ_self _⟩
                induction n_77 generalizing i15611 i15612 H locs ls with
                | zero => exact absurd hn_77 (Nat.not_lt_zero _)
                | succ n_77 ih_77 =>
                  refine lv_iload hx hb dX12_fillDepths_77 (lv_at hl 0 rfl) ?_
                  refine lv_iconst (v := 4) hx hb dX12_fillDepths_79 (by decide) ?_
                  refine lv_icmp_ge (tgt := 118) hx hb dX12_fillDepths_80 (by decide) (fun c15613 => ?_) (fun c15613 => ?_)
                  · replace c15613 := le_i c15613
                    refine lv_iload hx hb dX12_fillDepths_118 (lv_at hl 1 rfl) ?_
                    refine lv_if_ne (tgt := 126) hx hb dX12_fillDepths_120 (by decide) (fun c15614 => ?_) (fun c15614 => ?_)
                    · replace c15614 := ne_i c15614
                      refine lv_aload_n hx hb dX12_fillDepths_126 rfl (lv_at hl 5 rfl) ?_
                      refine va_get (D := D) (ci := 11) (v := .ref ma26) (C := RX12) (T := TX12) (N := 53) hx hb hts in_X12 hown hE.1 hP 0 rfl rfl 26 (by decide) (hts _ w_1155) (fun _ h9 => h9) rfl dX12_fillDepths_127 ?_
                      refine lv_iload_n hx hb dX12_fillDepths_130 rfl (lv_at hl 2 rfl) ?_
                      refine lv_iload_n hx hb dX12_fillDepths_131 rfl (lv_at hl 4 rfl) ?_
                      refine sti hx hb hE.1 hP hD hS 2 1 rfl rfl (vp_in_iff.mpr (by omega)) dX12_fillDepths_132 (fun g15615 eg15615 H locs hP hD hS => ?_)
                      replace hP : va_P D vwCl [(md, .inr (11, [.int mn0, .ref ma1, .ref ma2, .ref ma3, .ref ma4, .int mn5, .ref ma6, .int mn7, .int mn8, .int mn9, .int mn10, .int mn11, .int mn12, .int mn13, .ref ma14, .int mn15, .int mn16, .int mn17, .int mn18, .int mn19, .int mn20, .ref ma21, .ref ma22, .ref ma23, .ref ma24, .int mn25, .ref ma26, .ref ma27, .ref ma28, .ref ma29, .ref ma30, .ref ma31, .ref ma32, .ref ma33, .ref ma34, .ref ma35, .ref ma36, .int mn37, .int mn38, .int mn39, .ref ma40, .ref ma41, .ref ma42, .int mn43, .int mn44, .ref ma45, .ref ma46, .ref ma47, .int mn48, .ref ma49, .ref ma50, .ref ma51, .ref ma52])), (ma1, .inl (K 1, 262, .inl mf1)), (ma26, .inl (K 1, 1024, .inl g15615))] H := hP
                      replace hD : va_D A [(md, .inr (11, [.int mn0, .ref ma1, .ref ma2, .ref ma3, .ref ma4, .int mn5, .ref ma6, .int mn7, .int mn8, .int mn9, .int mn10, .int mn11, .int mn12, .int mn13, .ref ma14, .int mn15, .int mn16, .int mn17, .int mn18, .int mn19, .int mn20, .ref ma21, .ref ma22, .ref ma23, .ref ma24, .int mn25, .ref ma26, .ref ma27, .ref ma28, .ref ma29, .ref ma30, .ref ma31, .ref ma32, .ref ma33, .ref ma34, .ref ma35, .ref ma36, .int mn37, .int mn38, .int mn39, .ref ma40, .ref ma41, .ref ma42, .int mn43, .int mn44, .ref ma45, .ref ma46, .ref ma47, .int mn48, .ref ma49, .ref ma50, .ref ma51, .ref ma52])), (ma1, .inl (K 1, 262, .inl mf1)), (ma26, .inl (K 1, 1024, .inl g15615))] := hD
                      have q15616 : Rg 0 1000000 1024 g15615 := rg_up qRg_ma26_48 eg15615 (by omega) (by omega)
                      have q15617 := cnt_set (n := 1024) eg15615 (by rw [cl_n]; omega) (by omega) (by omega)
                      refine lv_iconst (v := 1) hx hb dX12_fillDepths_133 (by decide) ?_
                      refine lv_istore_n (lv' := [(1, .int 1), (5, .int i15611), (4, .int i15612), (3, .int i15585), (2, .int i15549), (0, .ref md)]) hx hb dX12_fillDepths_134 rfl hl (by decide) rfl (fun ls hl => ?_)
                      obtain ⟨v15618, ev15618⟩ : ∃ z : Int32, z = i15585 + 1 := ⟨_, rfl⟩
                      refine lv_iinc (v := v15618) (lv' := [(3, .int v15618), (1, .int 1), (5, .int i15611), (4, .int i15612), (2, .int i15549), (0, .ref md)]) hx hb dX12_fillDepths_135 hl (k := 3) rfl (by rw [ev15618]; rfl) (by decide) rfl (fun ls hl => ?_)
                      refine lv_goto (tgt := 48) hx hb dX12_fillDepths_138 (by decide) ?_
                      have tv15618 : v15618.toInt = (i15585 : Int32).toInt + (1 : Int32).toInt := add_i ev15618 (by omega) (by omega)
                      exact ih_48 (i15585 := v15618) (i15586 := 1) (g15587 := g15615) (hi_48 := by omega) (hm_48 := by omega) (hfd_48 := fd_set hfd_48 (by omega) (hv_77.resolve_right (fun q9 => by omega)).2 (by omega) (by omega) rfl (by omega) (by omega) eg15615 (by omega)) (qRg_ma26_48 := q15616) (H := H) (locs := locs) (ls := ls) (hn_48 := by omega) (hP := hP) (hD := hD) (hS := hS) (hl := lv_sub hl [0, 1, 4, 5] rfl)
                    · replace c15614 := eq_i c15614
                      refine lv_goto (tgt := 135) hx hb dX12_fillDepths_123 (by decide) ?_
                      obtain ⟨v15619, ev15619⟩ : ∃ z : Int32, z = i15585 + 1 := ⟨_, rfl⟩
                      refine lv_iinc (v := v15619) (lv' := [(3, .int v15619), (5, .int i15611), (4, .int i15612), (1, .int i15586), (2, .int i15549), (0, .ref md)]) hx hb dX12_fillDepths_135 hl (k := 2) rfl (by rw [ev15619]; rfl) (by decide) rfl (fun ls hl => ?_)
                      refine lv_goto (tgt := 48) hx hb dX12_fillDepths_138 (by decide) ?_
                      have tv15619 : v15619.toInt = (i15585 : Int32).toInt + (1 : Int32).toInt := add_i ev15619 (by omega) (by omega)
                      exact ih_48 (i15585 := v15619) (i15586 := i15586) (g15587 := g15587) (hi_48 := by omega) (hm_48 := by omega) (hfd_48 := fd_no hfd_48 (fun w9 h9 => (hv_77.resolve_left (fun q9 => by omega)).2 w9 (by omega)) (by omega) (by omega)) (qRg_ma26_48 := qRg_ma26_48) (H := H) (locs := locs) (ls := ls) (hn_48 := by omega) (hP := hP) (hD := hD) (hS := hS) (hl := lv_sub hl [0, 3, 4, 5] rfl)
                  · replace c15613 := nle_i c15613
                    refine lv_iload hx hb dX12_fillDepths_83 (lv_at hl 1 rfl) ?_
                    refine lv_if_ne (tgt := 118) hx hb dX12_fillDepths_85 (by decide) (fun c15620 => ?_) (fun c15620 => ?_)
                    · replace c15620 := ne_i c15620
                      refine lv_iload hx hb dX12_fillDepths_118 (lv_at hl 1 rfl) ?_
                      refine lv_if_ne (tgt := 126) hx hb dX12_fillDepths_120 (by decide) (fun c15621 => ?_) (fun c15621 => ?_)
                      · replace c15621 := ne_i c15621
                        refine lv_aload_n hx hb dX12_fillDepths_126 rfl (lv_at hl 5 rfl) ?_
                        refine va_get (D := D) (ci := 11) (v := .ref ma26) (C := RX12) (T := TX12) (N := 53) hx hb hts in_X12 hown hE.1 hP 0 rfl rfl 26 (by decide) (hts _ w_1155) (fun _ h9 => h9) rfl dX12_fillDepths_127 ?_
                        refine lv_iload_n hx hb dX12_fillDepths_130 rfl (lv_at hl 2 rfl) ?_
                        refine lv_iload_n hx hb dX12_fillDepths_131 rfl (lv_at hl 4 rfl) ?_
                        refine sti hx hb hE.1 hP hD hS 2 1 rfl rfl (vp_in_iff.mpr (by omega)) dX12_fillDepths_132 (fun g15622 eg15622 H locs hP hD hS => ?_)
                        replace hP : va_P D vwCl [(md, .inr (11, [.int mn0, .ref ma1, .ref ma2, .ref ma3, .ref ma4, .int mn5, .ref ma6, .int mn7, .int mn8, .int mn9, .int mn10, .int mn11, .int mn12, .int mn13, .ref ma14, .int mn15, .int mn16, .int mn17, .int mn18, .int mn19, .int mn20, .ref ma21, .ref ma22, .ref ma23, .ref ma24, .int mn25, .ref ma26, .ref ma27, .ref ma28, .ref ma29, .ref ma30, .ref ma31, .ref ma32, .ref ma33, .ref ma34, .ref ma35, .ref ma36, .int mn37, .int mn38, .int mn39, .ref ma40, .ref ma41, .ref ma42, .int mn43, .int mn44, .ref ma45, .ref ma46, .ref ma47, .int mn48, .ref ma49, .ref ma50, .ref ma51, .ref ma52])), (ma1, .inl (K 1, 262, .inl mf1)), (ma26, .inl (K 1, 1024, .inl g15622))] H := hP
                        replace hD : va_D A [(md, .inr (11, [.int mn0, .ref ma1, .ref ma2, .ref ma3, .ref ma4, .int mn5, .ref ma6, .int mn7, .int mn8, .int mn9, .int mn10, .int mn11, .int mn12, .int mn13, .ref ma14, .int mn15, .int mn16, .int mn17, .int mn18, .int mn19, .int mn20, .ref ma21, .ref ma22, .ref ma23, .ref ma24, .int mn25, .ref ma26, .ref ma27, .ref ma28, .ref ma29, .ref ma30, .ref ma31, .ref ma32, .ref ma33, .ref ma34, .ref ma35, .ref ma36, .int mn37, .int mn38, .int mn39, .ref ma40, .ref ma41, .ref ma42, .int mn43, .int mn44, .ref ma45, .ref ma46, .ref ma47, .int mn48, .ref ma49, .ref ma50, .ref ma51, .ref ma52])), (ma1, .inl (K 1, 262, .inl mf1)), (ma26, .inl (K 1, 1024, .inl g15622))] := hD
                        have q15623 : Rg 0 1000000 1024 g15622 := rg_up qRg_ma26_48 eg15622 (by omega) (by omega)
                        have q15624 := cnt_set (n := 1024) eg15622 (by rw [cl_n]; omega) (by omega) (by omega)
                        refine lv_iconst (v := 1) hx hb dX12_fillDepths_133 (by decide) ?_
                        refine lv_istore_n (lv' := [(1, .int 1), (5, .int i15611), (4, .int i15612), (3, .int i15585), (2, .int i15549), (0, .ref md)]) hx hb dX12_fillDepths_134 rfl hl (by decide) rfl (fun ls hl => ?_)
                        obtain ⟨v15625, ev15625⟩ : ∃ z : Int32, z = i15585 + 1 := ⟨_, rfl⟩
                        refine lv_iinc (v := v15625) (lv' := [(3, .int v15625), (1, .int 1), (5, .int i15611), (4, .int i15612), (2, .int i15549), (0, .ref md)]) hx hb dX12_fillDepths_135 hl (k := 3) rfl (by rw [ev15625]; rfl) (by decide) rfl (fun ls hl => ?_)
                        refine lv_goto (tgt := 48) hx hb dX12_fillDepths_138 (by decide) ?_
                        have tv15625 : v15625.toInt = (i15585 : Int32).toInt + (1 : Int32).toInt := add_i ev15625 (by omega) (by omega)
                        exact ih_48 (i15585 := v15625) (i15586 := 1) (g15587 := g15622) (hi_48 := by omega) (hm_48 := by omega) (hfd_48 := fd_set hfd_48 (by omega) (hv_77.resolve_right (fun q9 => by omega)).2 (by omega) (by omega) rfl (by omega) (by omega) eg15622 (by omega)) (qRg_ma26_48 := q15623) (H := H) (locs := locs) (ls := ls) (hn_48 := by omega) (hP := hP) (hD := hD) (hS := hS) (hl := lv_sub hl [0, 1, 4, 5] rfl)
                      · replace c15621 := eq_i c15621
                        refine lv_goto (tgt := 135) hx hb dX12_fillDepths_123 (by decide) ?_
                        obtain ⟨v15626, ev15626⟩ : ∃ z : Int32, z = i15585 + 1 := ⟨_, rfl⟩
                        refine lv_iinc (v := v15626) (lv' := [(3, .int v15626), (5, .int i15611), (4, .int i15612), (1, .int i15586), (2, .int i15549), (0, .ref md)]) hx hb dX12_fillDepths_135 hl (k := 2) rfl (by rw [ev15626]; rfl) (by decide) rfl (fun ls hl => ?_)
                        refine lv_goto (tgt := 48) hx hb dX12_fillDepths_138 (by decide) ?_
                        have tv15626 : v15626.toInt = (i15585 : Int32).toInt + (1 : Int32).toInt := add_i ev15626 (by omega) (by omega)
                        exact ih_48 (i15585 := v15626) (i15586 := i15586) (g15587 := g15587) (hi_48 := by omega) (hm_48 := by omega) (hfd_48 := fd_no hfd_48 (fun w9 h9 => (hv_77.resolve_left (fun q9 => by omega)).2 w9 (by omega)) (by omega) (by omega)) (qRg_ma26_48 := qRg_ma26_48) (H := H) (locs := locs) (ls := ls) (hn_48 := by omega) (hP := hP) (hD := hD) (hS := hS) (hl := lv_sub hl [0, 3, 4, 5] rfl)
                    · replace c15620 := eq_i c15620
                      refine lv_aload_n hx hb dX12_fillDepths_88 rfl (lv_at hl 5 rfl) ?_
                      refine lv_aload_n hx hb dX12_fillDepths_89 rfl (lv_at hl 5 rfl) ?_
                      refine lv_iload_n hx hb dX12_fillDepths_90 rfl (lv_at hl 2 rfl) ?_
                      refine lv_iload hx hb dX12_fillDepths_91 (lv_at hl 0 rfl) ?_
                      refine ro_V (As := [.int i15585, .int i15611]) (rest := [.ref md]) hC hE kV_X12_286 (c_X12_becomesOf l D K md ma1 ma2 ma3 ma4 ma6 ma14 ma21 ma22 ma23 ma24 ma26 ma27 ma28 ma29 ma30 ma31 ma32 ma33 ma34 ma35 ma36 ma40 ma41 ma42 ma45 ma46 ma47 ma49 ma50 ma51 ma52 mn0 mn5 mn7 mn8 mn9 mn10 mn11 mn12 mn13 mn15 mn16 mn17 mn18 mn19 mn20 mn25 mn37 mn38 mn39 mn43 mn44 mn48 mf1 i15585 i15611 hs1_0 (by omega)) (hP.sub (ws' := [(md, .inr (11, [.int mn0, .ref ma1, .ref ma2, .ref ma3, .ref ma4, .int mn5, .ref ma6, .int mn7, .int mn8, .int mn9, .int mn10, .int mn11, .int mn12, .int mn13, .ref ma14, .int mn15, .int mn16, .int mn17, .int mn18, .int mn19, .int mn20, .ref ma21, .ref ma22, .ref ma23, .ref ma24, .int mn25, .ref ma26, .ref ma27, .ref ma28, .ref ma29, .ref ma30, .ref ma31, .ref ma32, .ref ma33, .ref ma34, .ref ma35, .ref ma36, .int mn37, .int mn38, .int mn39, .ref ma40, .ref ma41, .ref ma42, .int mn43, .int mn44, .ref ma45, .ref ma46, .ref ma47, .int mn48, .ref ma49, .ref ma50, .ref ma51, .ref ma52])), (ma1, .inl (K 1, 262, .inl mf1))]) [0, 1] rfl) 0 11 rfl rfl rfl hl.1 rfl (Nat.le_of_ble_eq_true rfl) (by decide) (by decide) dX12_fillDepths_93 (fun r15630 hq => ?_)
                      obtain ⟨h15627, h15628, h15629⟩ := hq
                      refine ro_V (As := [.int r15630]) (rest := []) hC hE kV_X12_381 (c_X12_depthSplit l D K md ma1 ma2 ma3 ma4 ma6 ma14 ma21 ma22 ma23 ma24 ma26 ma27 ma28 ma29 ma30 ma31 ma32 ma33 ma34 ma35 ma36 ma40 ma41 ma42 ma45 ma46 ma47 ma49 ma50 ma51 ma52 mn0 mn5 mn7 mn8 mn9 mn10 mn11 mn12 mn13 mn15 mn16 mn17 mn18 mn19 mn20 mn25 mn37 mn38 mn39 mn43 mn44 mn48 mf1 g15587 r15630 hs1_0) (hP.sub (ws' := [(md, .inr (11, [.int mn0, .ref ma1, .ref ma2, .ref ma3, .ref ma4, .int mn5, .ref ma6, .int mn7, .int mn8, .int mn9, .int mn10, .int mn11, .int mn12, .int mn13, .ref ma14, .int mn15, .int mn16, .int mn17, .int mn18, .int mn19, .int mn20, .ref ma21, .ref ma22, .ref ma23, .ref ma24, .int mn25, .ref ma26, .ref ma27, .ref ma28, .ref ma29, .ref ma30, .ref ma31, .ref ma32, .ref ma33, .ref ma34, .ref ma35, .ref ma36, .int mn37, .int mn38, .int mn39, .ref ma40, .ref ma41, .ref ma42, .int mn43, .int mn44, .ref ma45, .ref ma46, .ref ma47, .int mn48, .ref ma49, .ref ma50, .ref ma51, .ref ma52])), (ma1, .inl (K 1, 262, .inl mf1)), (ma26, .inl (K 1, 1024, .inl g15587))]) [0, 1, 2] rfl) 0 11 rfl rfl rfl hl.1 rfl (Nat.le_of_ble_eq_true rfl) (by decide) (by decide) dX12_fillDepths_96 (fun r15632 hq => ?_)
                      have h15631 := hq
                      have q15633 : DD mf1 g15587 i15585.toInt.toNat i15611.toInt.toNat = r15632.toInt := dd_of (by omega) h15629 h15631
                      refine lv_iload_n hx hb dX12_fillDepths_99 rfl (lv_at hl 4 rfl) ?_
                      refine lv_iconst (v := 1) hx hb dX12_fillDepths_100 (by decide) ?_
                      refine lv_isub hx hb dX12_fillDepths_101 ?_
                      refine lv_topi (fun v15634 ev15634 => ?_)
                      have tv15634 : v15634.toInt = (i15549 : Int32).toInt - (1 : Int32).toInt := sub_i ev15634 (by omega) (by omega)
                      refine lv_icmp_gt (tgt := 109) hx hb dX12_fillDepths_102 (by decide) (fun c15635 => ?_) (fun c15635 => ?_)
                      · replace c15635 := lt_i c15635
                        refine lv_iconst (v := 0) hx hb dX12_fillDepths_109 (by decide) ?_
                        refine lv_istore (lv' := [(4, .int 0), (5, .int i15611), (3, .int i15585), (1, .int i15586), (2, .int i15549), (0, .ref md)]) hx hb dX12_fillDepths_110 hl (by decide) rfl (fun ls hl => ?_)
                        obtain ⟨v15636, ev15636⟩ : ∃ z : Int32, z = i15611 + 1 := ⟨_, rfl⟩
                        refine lv_iinc (v := v15636) (lv' := [(5, .int v15636), (4, .int 0), (3, .int i15585), (1, .int i15586), (2, .int i15549), (0, .ref md)]) hx hb dX12_fillDepths_112 hl (k := 1) rfl (by rw [ev15636]; rfl) (by decide) rfl (fun ls hl => ?_)
                        refine lv_goto (tgt := 77) hx hb dX12_fillDepths_115 (by decide) ?_
                        have tv15636 : v15636.toInt = (i15611 : Int32).toInt + (1 : Int32).toInt := add_i ev15636 (by omega) (by omega)
                        exact ih_77 (i15611 := v15636) (i15612 := 0) (hi_77 := by omega) (hv_77 := Or.inr ⟨by omega, dd_more (hv_77.resolve_left (fun q9 => by omega)).2 (by omega) q15633 (by omega) (by omega)⟩) (H := H) (locs := locs) (ls := ls) (hn_77 := by omega) (hP := hP) (hS := hS) (hl := lv_sub hl [0, 1, 2, 3, 4, 5] rfl)
                      · replace c15635 := nlt_i c15635
                        refine lv_iconst (v := 1) hx hb dX12_fillDepths_105 (by decide) ?_
                        refine lv_goto (tgt := 110) hx hb dX12_fillDepths_106 (by decide) ?_
                        refine lv_istore (lv' := [(4, .int 1), (5, .int i15611), (3, .int i15585), (1, .int i15586), (2, .int i15549), (0, .ref md)]) hx hb dX12_fillDepths_110 hl (by decide) rfl (fun ls hl => ?_)
                        obtain ⟨v15637, ev15637⟩ : ∃ z : Int32, z = i15611 + 1 := ⟨_, rfl⟩
                        refine lv_iinc (v := v15637) (lv' := [(5, .int v15637), (4, .int 1), (3, .int i15585), (1, .int i15586), (2, .int i15549), (0, .ref md)]) hx hb dX12_fillDepths_112 hl (k := 1) rfl (by rw [ev15637]; rfl) (by decide) rfl (fun ls hl => ?_)
                        refine lv_goto (tgt := 77) hx hb dX12_fillDepths_115 (by decide) ?_
                        have tv15637 : v15637.toInt = (i15611 : Int32).toInt + (1 : Int32).toInt := add_i ev15637 (by omega) (by omega)
                        exact ih_77 (i15611 := v15637) (i15612 := 1) (hi_77 := by omega) (hv_77 := Or.inl ⟨by omega, exw_mk i15611.toInt.toNat (by omega) (by rw [q15633]; omega)⟩) (H := H) (locs := locs) (ls := ls) (hn_77 := by omega) (hP := hP) (hS := hS) (hl := lv_sub hl [0, 1, 2, 3, 4, 5] rfl)
              · replace c15596 := ne_i c15596
                refine lv_goto (tgt := 135) hx hb dX12_fillDepths_68 (by decide) ?_
                obtain ⟨v15638, ev15638⟩ : ∃ z : Int32, z = i15585 + 1 := ⟨_, rfl⟩
                refine lv_iinc (v := v15638) (lv' := [(3, .int v15638), (1, .int i15586), (2, .int i15549), (0, .ref md)]) hx hb dX12_fillDepths_135 hl (k := 0) rfl (by rw [ev15638]; rfl) (by decide) rfl (fun ls hl => ?_)
                refine lv_goto (tgt := 48) hx hb dX12_fillDepths_138 (by decide) ?_
                have tv15638 : v15638.toInt = (i15585 : Int32).toInt + (1 : Int32).toInt := add_i ev15638 (by omega) (by omega)
                exact ih_48 (i15585 := v15638) (i15586 := i15586) (g15587 := g15587) (hi_48 := by omega) (hm_48 := by omega) (hfd_48 := fd_skip hfd_48 (by omega) (by omega) (by omega)) (qRg_ma26_48 := qRg_ma26_48) (H := H) (locs := locs) (ls := ls) (hn_48 := by omega) (hP := hP) (hD := hD) (hS := hS) (hl := lv_sub hl [0, 1, 2, 3] rfl)
    · replace c15511 := nle_i c15511
      refine lv_aload_n hx hb dX12_fillDepths_9 rfl (lv_at hl 1 rfl) ?_
      refine va_get (D := D) (ci := 11) (v := .ref ma26) (C := RX12) (T := TX12) (N := 53) hx hb hts in_X12 hown hE.1 hP 0 rfl rfl 26 (by decide) (hts _ w_1155) (fun _ h9 => h9) rfl dX12_fillDepths_10 ?_
      refine lv_iload_n hx hb dX12_fillDepths_13 rfl (lv_at hl 0 rfl) ?_
      refine lv_iload_n hx hb dX12_fillDepths_14 rfl (lv_at hl 0 rfl) ?_
      refine ro_S (As := [.int i15509]) (rest := [.int i15509, .ref ma26]) hC hE kS_X12_316 (c_X12_bits l D K i15509) (hP.sub (ws' := []) [] rfl) rfl hl.1 rfl (Nat.le_of_ble_eq_true rfl) (by decide) (by decide) dX12_fillDepths_15 (fun r15639 _ => ?_)
      refine lv_iconst (v := 1) hx hb dX12_fillDepths_18 (by decide) ?_
      refine lv_icmp_gt (tgt := 26) hx hb dX12_fillDepths_19 (by decide) (fun c15640 => ?_) (fun c15640 => ?_)
      · replace c15640 := lt_i c15640
        refine lv_ldcw (v := 1000000) hx hb hown (hts _ w_1105) dX12_fillDepths_26 ?_
        refine sti hx hb hE.1 hP hD hS 2 1 rfl rfl (vp_in_iff.mpr (by omega)) dX12_fillDepths_29 (fun g15641 eg15641 H locs hP hD hS => ?_)
        replace hP : va_P D vwCl [(md, .inr (11, [.int mn0, .ref ma1, .ref ma2, .ref ma3, .ref ma4, .int mn5, .ref ma6, .int mn7, .int mn8, .int mn9, .int mn10, .int mn11, .int mn12, .int mn13, .ref ma14, .int mn15, .int mn16, .int mn17, .int mn18, .int mn19, .int mn20, .ref ma21, .ref ma22, .ref ma23, .ref ma24, .int mn25, .ref ma26, .ref ma27, .ref ma28, .ref ma29, .ref ma30, .ref ma31, .ref ma32, .ref ma33, .ref ma34, .ref ma35, .ref ma36, .int mn37, .int mn38, .int mn39, .ref ma40, .ref ma41, .ref ma42, .int mn43, .int mn44, .ref ma45, .ref ma46, .ref ma47, .int mn48, .ref ma49, .ref ma50, .ref ma51, .ref ma52])), (ma1, .inl (K 1, 262, .inl mf1)), (ma26, .inl (K 1, 1024, .inl g15641))] H := hP
        replace hD : va_D A [(md, .inr (11, [.int mn0, .ref ma1, .ref ma2, .ref ma3, .ref ma4, .int mn5, .ref ma6, .int mn7, .int mn8, .int mn9, .int mn10, .int mn11, .int mn12, .int mn13, .ref ma14, .int mn15, .int mn16, .int mn17, .int mn18, .int mn19, .int mn20, .ref ma21, .ref ma22, .ref ma23, .ref ma24, .int mn25, .ref ma26, .ref ma27, .ref ma28, .ref ma29, .ref ma30, .ref ma31, .ref ma32, .ref ma33, .ref ma34, .ref ma35, .ref ma36, .int mn37, .int mn38, .int mn39, .ref ma40, .ref ma41, .ref ma42, .int mn43, .int mn44, .ref ma45, .ref ma46, .ref ma47, .int mn48, .ref ma49, .ref ma50, .ref ma51, .ref ma52])), (ma1, .inl (K 1, 262, .inl mf1)), (ma26, .inl (K 1, 1024, .inl g15641))] := hD
        obtain ⟨v15642, ev15642⟩ : ∃ z : Int32, z = i15509 + 1 := ⟨_, rfl⟩
        refine lv_iinc (v := v15642) (lv' := [(1, .int v15642), (0, .ref md)]) hx hb dX12_fillDepths_30 hl (k := 0) rfl (by rw [ev15642]; rfl) (by decide) rfl (fun ls hl => ?_)
        refine lv_goto (tgt := 2) hx hb dX12_fillDepths_33 (by decide) ?_
        have tv15642 : v15642.toInt = (i15509 : Int32).toInt + (1 : Int32).toInt := add_i ev15642 (by omega) (by omega)
        exact ih_2 (i15509 := v15642) (g15510 := g15641) (hi_2 := by omega) (hf_2 := z1_more hf_2 (by omega) eg15641 (by omega) (by omega)) (H := H) (locs := locs) (ls := ls) (hn_2 := by omega) (hP := hP) (hD := hD) (hS := hS) (hl := lv_sub hl [0, 1] rfl)
      · replace c15640 := nlt_i c15640
        refine lv_iconst (v := 0) hx hb dX12_fillDepths_22 (by decide) ?_
        refine lv_goto (tgt := 29) hx hb dX12_fillDepths_23 (by decide) ?_
        refine sti hx hb hE.1 hP hD hS 2 1 rfl rfl (vp_in_iff.mpr (by omega)) dX12_fillDepths_29 (fun g15643 eg15643 H locs hP hD hS => ?_)
        replace hP : va_P D vwCl [(md, .inr (11, [.int mn0, .ref ma1, .ref ma2, .ref ma3, .ref ma4, .int mn5, .ref ma6, .int mn7, .int mn8, .int mn9, .int mn10, .int mn11, .int mn12, .int mn13, .ref ma14, .int mn15, .int mn16, .int mn17, .int mn18, .int mn19, .int mn20, .ref ma21, .ref ma22, .ref ma23, .ref ma24, .int mn25, .ref ma26, .ref ma27, .ref ma28, .ref ma29, .ref ma30, .ref ma31, .ref ma32, .ref ma33, .ref ma34, .ref ma35, .ref ma36, .int mn37, .int mn38, .int mn39, .ref ma40, .ref ma41, .ref ma42, .int mn43, .int mn44, .ref ma45, .ref ma46, .ref ma47, .int mn48, .ref ma49, .ref ma50, .ref ma51, .ref ma52])), (ma1, .inl (K 1, 262, .inl mf1)), (ma26, .inl (K 1, 1024, .inl g15643))] H := hP
        replace hD : va_D A [(md, .inr (11, [.int mn0, .ref ma1, .ref ma2, .ref ma3, .ref ma4, .int mn5, .ref ma6, .int mn7, .int mn8, .int mn9, .int mn10, .int mn11, .int mn12, .int mn13, .ref ma14, .int mn15, .int mn16, .int mn17, .int mn18, .int mn19, .int mn20, .ref ma21, .ref ma22, .ref ma23, .ref ma24, .int mn25, .ref ma26, .ref ma27, .ref ma28, .ref ma29, .ref ma30, .ref ma31, .ref ma32, .ref ma33, .ref ma34, .ref ma35, .ref ma36, .int mn37, .int mn38, .int mn39, .ref ma40, .ref ma41, .ref ma42, .int mn43, .int mn44, .ref ma45, .ref ma46, .ref ma47, .int mn48, .ref ma49, .ref ma50, .ref ma51, .ref ma52])), (ma1, .inl (K 1, 262, .inl mf1)), (ma26, .inl (K 1, 1024, .inl g15643))] := hD
        obtain ⟨v15644, ev15644⟩ : ∃ z : Int32, z = i15509 + 1 := ⟨_, rfl⟩
        refine lv_iinc (v := v15644) (lv' := [(1, .int v15644), (0, .ref md)]) hx hb dX12_fillDepths_30 hl (k := 0) rfl (by rw [ev15644]; rfl) (by decide) rfl (fun ls hl => ?_)
        refine lv_goto (tgt := 2) hx hb dX12_fillDepths_33 (by decide) ?_
        have tv15644 : v15644.toInt = (i15509 : Int32).toInt + (1 : Int32).toInt := add_i ev15644 (by omega) (by omega)
        exact ih_2 (i15509 := v15644) (g15510 := g15643) (hi_2 := by omega) (hf_2 := z1_more hf_2 (by omega) eg15643 (by omega) (by omega)) (H := H) (locs := locs) (ls := ls) (hn_2 := by omega) (hP := hP) (hD := hD) (hS := hS) (hl := lv_sub hl [0, 1] rfl)
