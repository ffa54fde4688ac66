set_option maxRecDepth 40000 in
set_option maxHeartbeats 4000000 in
theorem c_X12_onward (l : Launch) (D : va_G) (K : Nat → ClassId) (md : Nat) (ma1 : Nat) (ma2 : Nat) (ma3 : Nat) (ma4 : Nat) (ma6 : Nat) (ma14 : Nat) (ma21 : Nat) (ma22 : Nat) (ma23 : Nat) (ma24 : Nat) (ma26 : Nat) (ma27 : Nat) (ma28 : Nat) (ma29 : Nat) (ma30 : Nat) (ma31 : Nat) (ma32 : Nat) (ma33 : Nat) (ma34 : Nat) (ma35 : Nat) (ma36 : Nat) (ma40 : Nat) (ma41 : Nat) (ma42 : Nat) (ma45 : Nat) (ma46 : Nat) (ma47 : Nat) (ma49 : Nat) (ma50 : Nat) (ma51 : Nat) (ma52 : Nat) (mn0 : Int32) (mn5 : Int32) (mn7 : Int32) (mn8 : Int32) (mn9 : Int32) (mn10 : Int32) (mn11 : Int32) (mn12 : Int32) (mn13 : Int32) (mn15 : Int32) (mn16 : Int32) (mn17 : Int32) (mn18 : Int32) (mn19 : Int32) (mn20 : Int32) (mn25 : Int32) (mn37 : Int32) (mn38 : Int32) (mn39 : Int32) (mn43 : Int32) (mn44 : Int32) (mn48 : Int32) (mf1 : Nat → Int32) (p0 : Int32) (hs1_0 : GW mf1) : Ro l D K yX12_onward cX12_onward 4 (some .int) 2 46 [.ref md, .int p0] [(md, .inr (11, [.int mn0, .ref ma1, .ref ma2, .ref ma3, .ref ma4, .int mn5, .ref ma6, .int mn7, .int mn8, .int mn9, .int mn10, .int mn11, .int mn12, .int mn13, .ref ma14, .int mn15, .int mn16, .int mn17, .int mn18, .int mn19, .int mn20, .ref ma21, .ref ma22, .ref ma23, .ref ma24, .int mn25, .ref ma26, .ref ma27, .ref ma28, .ref ma29, .ref ma30, .ref ma31, .ref ma32, .ref ma33, .ref ma34, .ref ma35, .ref ma36, .int mn37, .int mn38, .int mn39, .ref ma40, .ref ma41, .ref ma42, .int mn43, .int mn44, .ref ma45, .ref ma46, .ref ma47, .int mn48, .ref ma49, .ref ma50, .ref ma51, .ref ma52])), (ma1, .inl (K 1, 262, .inl mf1))] (fun r => ((0 ≤ r.toInt) ∧ (r.toInt ≤ 1023))) := by
  refine ro_of (by decide) (Nat.le_of_ble_eq_true rfl) ?_
  intro p e s m below meth c hC hr hk hE hP ls hl
  replace hC : CallFix p m c cX12_onward 4 s [.ref md, .int p0].toArray wl RX12 := hC
  have hx := hC.1
  have hb := hC.2.1
  have hml := hC.2.2.1
  have hown := hC.2.2.2.1
  have hts := hC.2.2.2.2
  replace hl : lv_has ls 4 [(0, .ref md), (1, .int p0)] := hl
  have kc_0 : (0 : Int32).toInt = 0 := by decide
  have kc_1 : (1 : Int32).toInt = 1 := by decide
  have kc_4 : (4 : Int32).toInt = 4 := by decide
  have hW0 := gwn_0 hs1_0; have hW1 := gwn_1 hs1_0; have hW2 := gwn_2 hs1_0; have hW4 := gwn_4 hs1_0
  refine lv_iconst (v := 0) hx hb dX12_onward_0 (by decide) ?_
  refine lv_istore_n (lv' := [(2, .int 0), (0, .ref md), (1, .int p0)]) hx hb dX12_onward_1 rfl hl (by decide) rfl (fun ls hl => ?_)
  refine lv_iconst (v := 0) hx hb dX12_onward_2 (by decide) ?_
  refine lv_istore_n (lv' := [(3, .int 0), (2, .int 0), (0, .ref md), (1, .int p0)]) hx hb dX12_onward_3 rfl hl (by decide) rfl (fun ls hl => ?_)
  have hl' := hl; clear hl
  obtain ⟨i13321, i13322, hi_4, hb_4, hl⟩ : ∃ (i13321 : Int32) (i13322 : Int32), ((0 : Int) ≤ i13321.toInt) ∧ (0 ≤ i13322.toInt ∧ i13322.toInt ≤ 1023) ∧ lv_has ls 4 [(3, .int i13321), (2, .int i13322), (0, .ref md), (1, .int p0)] := ⟨_, _, by omega, by omega, hl'⟩
  clear hl'
  obtain ⟨n_4, hn_4⟩ : ∃ n : Nat, (4 - i13321.toInt).toNat < n := ⟨_, Nat.lt_succ_self _⟩
  induction n_4 generalizing i13321 i13322 ls with
  | zero => exact absurd hn_4 (Nat.not_lt_zero _)
  | succ n_4 ih_4 =>
    refine lv_iload_n hx hb dX12_onward_4 rfl (lv_at hl 0 rfl) ?_
    refine lv_iconst (v := 4) hx hb dX12_onward_5 (by decide) ?_
    refine lv_icmp_ge (tgt := 24) hx hb dX12_onward_6 (by decide) (fun c13323 => ?_) (fun c13323 => ?_)
    · replace c13323 := le_i c13323
      refine lv_iload_n hx hb dX12_onward_24 rfl (lv_at hl 1 rfl) ?_
      exact ro_ret hC hr hk dX12_onward_25 ⟨(by omega), (by omega)⟩
    · replace c13323 := nle_i c13323
      refine lv_iload_n hx hb dX12_onward_9 rfl (lv_at hl 1 rfl) ?_
      refine lv_aload_n hx hb dX12_onward_10 rfl (lv_at hl 2 rfl) ?_
      refine lv_iload_n hx hb dX12_onward_11 rfl (lv_at hl 3 rfl) ?_
      refine lv_iload_n hx hb dX12_onward_12 rfl (lv_at hl 0 rfl) ?_
      refine ro_V (As := [.int p0, .int i13321]) (rest := [.int i13322]) hC hE kV_X12_286 (c_X12_becomesOf l D K md ma1 ma2 ma3 ma4 ma6 ma14 ma21 ma22 ma23 ma24 ma26 ma27 ma28 ma29 ma30 ma31 ma32 ma33 ma34 ma35 ma36 ma40 ma41 ma42 ma45 ma46 ma47 ma49 ma50 ma51 ma52 mn0 mn5 mn7 mn8 mn9 mn10 mn11 mn12 mn13 mn15 mn16 mn17 mn18 mn19 mn20 mn25 mn37 mn38 mn39 mn43 mn44 mn48 mf1 p0 i13321 hs1_0 (by omega)) (hP.sub (ws' := [(md, .inr (11, [.int mn0, .ref ma1, .ref ma2, .ref ma3, .ref ma4, .int mn5, .ref ma6, .int mn7, .int mn8, .int mn9, .int mn10, .int mn11, .int mn12, .int mn13, .ref ma14, .int mn15, .int mn16, .int mn17, .int mn18, .int mn19, .int mn20, .ref ma21, .ref ma22, .ref ma23, .ref ma24, .int mn25, .ref ma26, .ref ma27, .ref ma28, .ref ma29, .ref ma30, .ref ma31, .ref ma32, .ref ma33, .ref ma34, .ref ma35, .ref ma36, .int mn37, .int mn38, .int mn39, .ref ma40, .ref ma41, .ref ma42, .int mn43, .int mn44, .ref ma45, .ref ma46, .ref ma47, .int mn48, .ref ma49, .ref ma50, .ref ma51, .ref ma52])), (ma1, .inl (K 1, 262, .inl mf1))]) [0, 1] rfl) 0 11 rfl rfl rfl hl.1 rfl (Nat.le_of_ble_eq_true rfl) (by decide) (by decide) dX12_onward_13 (fun r13327 hq => ?_)
      obtain ⟨h13324, h13325, h13326⟩ := hq
      refine lv_ior hx hb dX12_onward_16 ?_
      refine lv_topi (fun v13328 ev13328 => ?_)
      refine lv_istore_n (lv' := [(2, .int v13328), (3, .int i13321), (0, .ref md), (1, .int p0)]) hx hb dX12_onward_17 rfl hl (by decide) rfl (fun ls hl => ?_)
      obtain ⟨v13329, ev13329⟩ : ∃ z : Int32, z = i13321 + 1 := ⟨_, rfl⟩
      refine lv_iinc (v := v13329) (lv' := [(3, .int v13329), (2, .int v13328), (0, .ref md), (1, .int p0)]) hx hb dX12_onward_18 hl (k := 1) rfl (by rw [ev13329]; rfl) (by decide) rfl (fun ls hl => ?_)
      refine lv_goto (tgt := 4) hx hb dX12_onward_21 (by decide) ?_
      have tv13329 : v13329.toInt = (i13321 : Int32).toInt + (1 : Int32).toInt := add_i ev13329 (by omega) (by omega)
      have tv13328 := or_b ev13328 (by omega) (by omega) (by omega) (by omega)
      exact ih_4 (i13321 := v13329) (i13322 := v13328) (hi_4 := by omega) (hb_4 := by omega) (ls := ls) (hn_4 := by omega) (hl := lv_sub hl [0, 1, 2, 3] rfl)
set_option maxRecDepth 40000 in
set_option maxHeartbeats 4000000 in
theorem c_X12_findMeet (l : Launch) (D : va_G) (K : Nat → ClassId) (md : Nat) (ma1 : Nat) (ma2 : Nat) (ma3 : Nat) (ma4 : Nat) (ma6 : Nat) (ma14 : Nat) (ma21 : Nat) (ma22 : Nat) (ma23 : Nat) (ma24 : Nat) (ma26 : Nat) (ma27 : Nat) (ma28 : Nat) (ma29 : Nat) (ma30 : Nat) (ma31 : Nat) (ma32 : Nat) (ma33 : Nat) (ma34 : Nat) (ma35 : Nat) (ma36 : Nat) (ma40 : Nat) (ma41 : Nat) (ma42 : Nat) (ma45 : Nat) (ma46 : Nat) (ma47 : Nat) (ma49 : Nat) (ma50 : Nat) (ma51 : Nat) (ma52 : Nat) (mn0 : Int32) (mn5 : Int32) (mn7 : Int32) (mn8 : Int32) (mn9 : Int32) (mn10 : Int32) (mn11 : Int32) (mn12 : Int32) (mn13 : Int32) (mn15 : Int32) (mn16 : Int32) (mn17 : Int32) (mn18 : Int32) (mn19 : Int32) (mn20 : Int32) (mn25 : Int32) (mn37 : Int32) (mn38 : Int32) (mn39 : Int32) (mn43 : Int32) (mn44 : Int32) (mn48 : Int32) (mf1 : Nat → Int32) (p0 : Int32) (p1 : Int32) (hs1_0 : GW mf1) (ha0 : 0 ≤ p0.toInt ∧ p0.toInt ≤ 9) (ha1 : 0 ≤ p1.toInt ∧ p1.toInt ≤ 9) : Cv (S := ((Nat → Int32) × (Nat → Nat → Int32) × (Nat → Nat → Int64))) l D K yX12_findMeet cX12_findMeet 6 3 69 0 0 [.ref md, .int p0, .int p1] [(md, .inr (11, [.int mn0, .ref ma1, .ref ma2, .ref ma3, .ref ma4, .int mn5, .ref ma6, .int mn7, .int mn8, .int mn9, .int mn10, .int mn11, .int mn12, .int mn13, .ref ma14, .int mn15, .int mn16, .int mn17, .int mn18, .int mn19, .int mn20, .ref ma21, .ref ma22, .ref ma23, .ref ma24, .int mn25, .ref ma26, .ref ma27, .ref ma28, .ref ma29, .ref ma30, .ref ma31, .ref ma32, .ref ma33, .ref ma34, .ref ma35, .ref ma36, .int mn37, .int mn38, .int mn39, .ref ma40, .ref ma41, .ref ma42, .int mn43, .int mn44, .ref ma45, .ref ma46, .ref ma47, .int mn48, .ref ma49, .ref ma50, .ref ma51, .ref ma52])), (ma1, .inl (K 1, 262, .inl mf1))] (fun _ => True) (fun u => [(md, .inr (11, [.int mn0, .ref ma1, .ref ma2, .ref ma3, .ref ma4, .int mn5, .ref ma6, .int mn7, .int mn8, .int mn9, .int mn10, .int mn11, .int mn12, .int mn13, .ref ma14, .int mn15, .int mn16, .int mn17, .int mn18, .int mn19, .int mn20, .ref ma21, .ref ma22, .ref ma23, .ref ma24, .int mn25, .ref ma26, .ref ma27, .ref ma28, .ref ma29, .ref ma30, .ref ma31, .ref ma32, .ref ma33, .ref ma34, .ref ma35, .ref ma36, .int mn37, .int (u.1 0), .int (u.1 1), .ref ma40, .ref ma41, .ref ma42, .int mn43, .int mn44, .ref ma45, .ref ma46, .ref ma47, .int mn48, .ref ma49, .ref ma50, .ref ma51, .ref ma52])), (ma1, .inl (K 1, 262, .inl mf1))]) := by
  intro sz
  refine ch_of (y := yX12_findMeet) (cc := cX12_findMeet) (maxL := 6) (ret := none) (av := [.ref md, .int p0, .int p1]) (ws := [(md, .inr (11, [.int mn0, .ref ma1, .ref ma2, .ref ma3, .ref ma4, .int mn5, .ref ma6, .int mn7, .int mn8, .int mn9, .int mn10, .int mn11, .int mn12, .int mn13, .ref ma14, .int mn15, .int mn16, .int mn17, .int mn18, .int mn19, .int mn20, .ref ma21, .ref ma22, .ref ma23, .ref ma24, .int mn25, .ref ma26, .ref ma27, .ref ma28, .ref ma29, .ref ma30, .ref ma31, .ref ma32, .ref ma33, .ref ma34, .ref ma35, .ref ma36, .int mn37, .int mn38, .int mn39, .ref ma40, .ref ma41, .ref ma42, .int mn43, .int mn44, .ref ma45, .ref ma46, .ref ma47, .int mn48, .ref ma49, .ref ma50, .ref ma51, .ref ma52])), (ma1, .inl (K 1, 262, .inl mf1))]) (D := D) (K := K) (Qc := fun A => va_Qv (S := ((Nat → Int32) × (Nat → Nat → Int32) × (Nat → Nat → Int64))) (fun _ => True) (chB D A (fun u => [(md, .inr (11, [.int mn0, .ref ma1, .ref ma2, .ref ma3, .ref ma4, .int mn5, .ref ma6, .int mn7, .int mn8, .int mn9, .int mn10, .int mn11, .int mn12, .int mn13, .ref ma14, .int mn15, .int mn16, .int mn17, .int mn18, .int mn19, .int mn20, .ref ma21, .ref ma22, .ref ma23, .ref ma24, .int mn25, .ref ma26, .ref ma27, .ref ma28, .ref ma29, .ref ma30, .ref ma31, .ref ma32, .ref ma33, .ref ma34, .ref ma35, .ref ma36, .int mn37, .int (u.1 0), .int (u.1 1), .ref ma40, .ref ma41, .ref ma42, .int mn43, .int mn44, .ref ma45, .ref ma46, .ref ma47, .int mn48, .ref ma49, .ref ma50, .ref ma51, .ref ma52])), (ma1, .inl (K 1, 262, .inl mf1))])) A) (by decide) (Nat.le_of_ble_eq_true rfl) ?_
  intro p e s m below meth c A hC hr hk hin hE hD hA H locs hP hS ls hl
  replace hC : CallFix p m c cX12_findMeet 6 s [.ref md, .int p0, .int p1].toArray wl RX12 := hC
  have hx := hC.1
  have hb := hC.2.1
  have hml := hC.2.2.1
  have hown := hC.2.2.2.1
  have hts := hC.2.2.2.2
  replace hl : lv_has ls 6 [(0, .ref md), (1, .int p0), (2, .int p1)] := hl
  have kc_0 : (0 : Int32).toInt = 0 := by decide
  have kc_1 : (1 : Int32).toInt = 1 := by decide
  have kc_100 : (100 : Int32).toInt = 100 := by decide
  have hW0 := gwn_0 hs1_0; have hW1 := gwn_1 hs1_0; have hW2 := gwn_2 hs1_0; have hW4 := gwn_4 hs1_0
  refine lv_iconst (v := 1) hx hb dX12_findMeet_0 (by decide) ?_
  refine lv_iload_n hx hb dX12_findMeet_1 rfl (lv_at hl 1 rfl) ?_
  refine lv_ishl hx hb dX12_findMeet_2 ?_
  refine lv_topi (fun v13346 ev13346 => ?_)
  refine lv_istore_n (lv' := [(3, .int v13346), (0, .ref md), (1, .int p0), (2, .int p1)]) hx hb dX12_findMeet_3 rfl hl (by decide) rfl (fun ls hl => ?_)
  refine lv_iconst (v := 1) hx hb dX12_findMeet_4 (by decide) ?_
  refine lv_iload_n hx hb dX12_findMeet_5 rfl (lv_at hl 3 rfl) ?_
  refine lv_ishl hx hb dX12_findMeet_6 ?_
  refine lv_topi (fun v13347 ev13347 => ?_)
  refine lv_istore (lv' := [(4, .int v13347), (3, .int v13346), (0, .ref md), (1, .int p0), (2, .int p1)]) hx hb dX12_findMeet_7 hl (by decide) rfl (fun ls hl => ?_)
  refine lv_aload_n hx hb dX12_findMeet_9 rfl (lv_at hl 2 rfl) ?_
  refine lv_iconst (v := (-1)) hx hb dX12_findMeet_10 (by decide) ?_
  refine va_put (D := D) (ci := 11) (v := .int (-1)) (ty := .int) (C := RX12) (T := TX12) (N := 53) hx hb hts in_X12 tyX12 tyX12_ok nmX12 hown hE.1 hP hD hS 0 rfl rfl 38 (by decide) (hts _ w_1065) (fun _ h9 => h9) rfl (by decide +kernel) rfl rfl (Nat.le_of_ble_eq_true rfl) dX12_findMeet_11 (fun H locs hP hD hS => ?_)
  replace hP : va_P D vwCl [(md, .inr (11, [.int mn0, .ref ma1, .ref ma2, .ref ma3, .ref ma4, .int mn5, .ref ma6, .int mn7, .int mn8, .int mn9, .int mn10, .int mn11, .int mn12, .int mn13, .ref ma14, .int mn15, .int mn16, .int mn17, .int mn18, .int mn19, .int mn20, .ref ma21, .ref ma22, .ref ma23, .ref ma24, .int mn25, .ref ma26, .ref ma27, .ref ma28, .ref ma29, .ref ma30, .ref ma31, .ref ma32, .ref ma33, .ref ma34, .ref ma35, .ref ma36, .int mn37, .int (-1), .int mn39, .ref ma40, .ref ma41, .ref ma42, .int mn43, .int mn44, .ref ma45, .ref ma46, .ref ma47, .int mn48, .ref ma49, .ref ma50, .ref ma51, .ref ma52])), (ma1, .inl (K 1, 262, .inl mf1))] H := hP
  replace hD : va_D A [(md, .inr (11, [.int mn0, .ref ma1, .ref ma2, .ref ma3, .ref ma4, .int mn5, .ref ma6, .int mn7, .int mn8, .int mn9, .int mn10, .int mn11, .int mn12, .int mn13, .ref ma14, .int mn15, .int mn16, .int mn17, .int mn18, .int mn19, .int mn20, .ref ma21, .ref ma22, .ref ma23, .ref ma24, .int mn25, .ref ma26, .ref ma27, .ref ma28, .ref ma29, .ref ma30, .ref ma31, .ref ma32, .ref ma33, .ref ma34, .ref ma35, .ref ma36, .int mn37, .int (-1), .int mn39, .ref ma40, .ref ma41, .ref ma42, .int mn43, .int mn44, .ref ma45, .ref ma46, .ref ma47, .int mn48, .ref ma49, .ref ma50, .ref ma51, .ref ma52])), (ma1, .inl (K 1, 262, .inl mf1))] := hD
  refine lv_aload_n hx hb dX12_findMeet_14 rfl (lv_at hl 2 rfl) ?_
  refine lv_iconst (v := 0) hx hb dX12_findMeet_15 (by decide) ?_
  refine va_put (D := D) (ci := 11) (v := .int 0) (ty := .int) (C := RX12) (T := TX12) (N := 53) hx hb hts in_X12 tyX12 tyX12_ok nmX12 hown hE.1 hP hD hS 0 rfl rfl 39 (by decide) (hts _ w_1066) (fun _ h9 => h9) rfl (by decide +kernel) rfl rfl (Nat.le_of_ble_eq_true rfl) dX12_findMeet_16 (fun H locs hP hD hS => ?_)
  replace hP : va_P D vwCl [(md, .inr (11, [.int mn0, .ref ma1, .ref ma2, .ref ma3, .ref ma4, .int mn5, .ref ma6, .int mn7, .int mn8, .int mn9, .int mn10, .int mn11, .int mn12, .int mn13, .ref ma14, .int mn15, .int mn16, .int mn17, .int mn18, .int mn19, .int mn20, .ref ma21, .ref ma22, .ref ma23, .ref ma24, .int mn25, .ref ma26, .ref ma27, .ref ma28, .ref ma29, .ref ma30, .ref ma31, .ref ma32, .ref ma33, .ref ma34, .ref ma35, .ref ma36, .int mn37, .int (-1), .int 0, .ref ma40, .ref ma41, .ref ma42, .int mn43, .int mn44, .ref ma45, .ref ma46, .ref ma47, .int mn48, .ref ma49, .ref ma50, .ref ma51, .ref ma52])), (ma1, .inl (K 1, 262, .inl mf1))] H := hP
  replace hD : va_D A [(md, .inr (11, [.int mn0, .ref ma1, .ref ma2, .ref ma3, .ref ma4, .int mn5, .ref ma6, .int mn7, .int mn8, .int mn9, .int mn10, .int mn11, .int mn12, .int mn13, .ref ma14, .int mn15, .int mn16, .int mn17, .int mn18, .int mn19, .int mn20, .ref ma21, .ref ma22, .ref ma23, .ref ma24, .int mn25, .ref ma26, .ref ma27, .ref ma28, .ref ma29, .ref ma30, .ref ma31, .ref ma32, .ref ma33, .ref ma34, .ref ma35, .ref ma36, .int mn37, .int (-1), .int 0, .ref ma40, .ref ma41, .ref ma42, .int mn43, .int mn44, .ref ma45, .ref ma46, .ref ma47, .int mn48, .ref ma49, .ref ma50, .ref ma51, .ref ma52])), (ma1, .inl (K 1, 262, .inl mf1))] := hD
  refine lv_iconst (v := 0) hx hb dX12_findMeet_19 (by decide) ?_
  refine lv_istore (lv' := [(5, .int 0), (4, .int v13347), (3, .int v13346), (0, .ref md), (1, .int p0), (2, .int p1)]) hx hb dX12_findMeet_20 hl (by decide) rfl (fun ls hl => ?_)
  have hl' := hl; have hP' := hP; have hD' := hD; clear hl hP hD
  obtain ⟨i13362, i13363, i13364, w13365, w13366, hi_22, hl, hP, hD⟩ : ∃ (i13362 : Int32) (i13363 : Int32) (i13364 : Int32) (w13365 : Int32) (w13366 : Int32), ((0 : Int) ≤ i13362.toInt) ∧ lv_has ls 6 [(5, .int i13362), (4, .int i13363), (3, .int i13364), (0, .ref md), (1, .int p0), (2, .int p1)] ∧ va_P D vwCl [(md, .inr (11, [.int mn0, .ref ma1, .ref ma2, .ref ma3, .ref ma4, .int mn5, .ref ma6, .int mn7, .int mn8, .int mn9, .int mn10, .int mn11, .int mn12, .int mn13, .ref ma14, .int mn15, .int mn16, .int mn17, .int mn18, .int mn19, .int mn20, .ref ma21, .ref ma22, .ref ma23, .ref ma24, .int mn25, .ref ma26, .ref ma27, .ref ma28, .ref ma29, .ref ma30, .ref ma31, .ref ma32, .ref ma33, .ref ma34, .ref ma35, .ref ma36, .int mn37, .int w13365, .int w13366, .ref ma40, .ref ma41, .ref ma42, .int mn43, .int mn44, .ref ma45, .ref ma46, .ref ma47, .int mn48, .ref ma49, .ref ma50, .ref ma51, .ref ma52])), (ma1, .inl (K 1, 262, .inl mf1))] H ∧ va_D A [(md, .inr (11, [.int mn0, .ref ma1, .ref ma2, .ref ma3, .ref ma4, .int mn5, .ref ma6, .int mn7, .int mn8, .int mn9, .int mn10, .int mn11, .int mn12, .int mn13, .ref ma14, .int mn15, .int mn16, .int mn17, .int mn18, .int mn19, .int mn20, .ref ma21, .ref ma22, .ref ma23, .ref ma24, .int mn25, .ref ma26, .ref ma27, .ref ma28, .ref ma29, .ref ma30, .ref ma31, .ref ma32, .ref ma33, .ref ma34, .ref ma35, .ref ma36, .int mn37, .int w13365, .int w13366, .ref ma40, .ref ma41, .ref ma42, .int mn43, .int mn44, .ref ma45, .ref ma46, .ref ma47, .int mn48, .ref ma49, .ref ma50, .ref ma51, .ref ma52])), (ma1, .inl (K 1, 262, .inl mf1))] := ⟨_, _, _, _, _, by omega, hl', hP', hD'⟩
  clear hl' hP' hD'
  obtain ⟨n_22, hn_22⟩ : ∃ n : Nat, (101 - i13362.toInt).toNat < n := ⟨_, Nat.lt_succ_self _⟩
  induction n_22 generalizing i13362 i13363 i13364 w13365 w13366 H locs ls with
  | zero => exact absurd hn_22 (Nat.not_lt_zero _)
  | succ n_22 ih_22 =>
    refine lv_iload hx hb dX12_findMeet_22 (lv_at hl 0 rfl) ?_
    refine lv_bipush (v := 100) hx hb dX12_findMeet_24 (by decide) ?_
    refine lv_icmp_gt (tgt := 71) hx hb dX12_findMeet_26 (by decide) (fun c13367 => ?_) (fun c13367 => ?_)
    · replace c13367 := lt_i c13367
      refine W.widen (k := 0) (n := 0) (by decide) (by decide) ?_
      exact ch_vret hC hr hk hS dX12_findMeet_71 ((fun k => [w13365, w13366].getD k 0, fun k => [].getD k (fun _ => 0), fun k => [].getD k (fun _ => 0)) : ((Nat → Int32) × (Nat → Nat → Int32) × (Nat → Nat → Int64))) trivial (hP.sub [0, 1] rfl) (hD.sub [0, 1] (by decide) rfl)
    · replace c13367 := nlt_i c13367
      refine lv_iload_n hx hb dX12_findMeet_29 rfl (lv_at hl 2 rfl) ?_
      refine lv_iload hx hb dX12_findMeet_30 (lv_at hl 1 rfl) ?_
      refine lv_iand hx hb dX12_findMeet_32 ?_
      refine lv_topi (fun v13368 ev13368 => ?_)
      refine lv_if_eq (tgt := 51) hx hb dX12_findMeet_33 (by decide) (fun c13369 => ?_) (fun c13369 => ?_)
      · replace c13369 := eq_i c13369
        refine lv_aload_n hx hb dX12_findMeet_51 rfl (lv_at hl 3 rfl) ?_
        refine lv_iload_n hx hb dX12_findMeet_52 rfl (lv_at hl 2 rfl) ?_
        refine ro_V (As := [.int i13364]) (rest := []) hC hE kV_X12_418 (c_X12_onward l D K md ma1 ma2 ma3 ma4 ma6 ma14 ma21 ma22 ma23 ma24 ma26 ma27 ma28 ma29 ma30 ma31 ma32 ma33 ma34 ma35 ma36 ma40 ma41 ma42 ma45 ma46 ma47 ma49 ma50 ma51 ma52 mn0 mn5 mn7 mn8 mn9 mn10 mn11 mn12 mn13 mn15 mn16 mn17 mn18 mn19 mn20 mn25 mn37 w13365 w13366 mn43 mn44 mn48 mf1 i13364 hs1_0) (hP.sub (ws' := [(md, .inr (11, [.int mn0, .ref ma1, .ref ma2, .ref ma3, .ref ma4, .int mn5, .ref ma6, .int mn7, .int mn8, .int mn9, .int mn10, .int mn11, .int mn12, .int mn13, .ref ma14, .int mn15, .int mn16, .int mn17, .int mn18, .int mn19, .int mn20, .ref ma21, .ref ma22, .ref ma23, .ref ma24, .int mn25, .ref ma26, .ref ma27, .ref ma28, .ref ma29, .ref ma30, .ref ma31, .ref ma32, .ref ma33, .ref ma34, .ref ma35, .ref ma36, .int mn37, .int w13365, .int w13366, .ref ma40, .ref ma41, .ref ma42, .int mn43, .int mn44, .ref ma45, .ref ma46, .ref ma47, .int mn48, .ref ma49, .ref ma50, .ref ma51, .ref ma52])), (ma1, .inl (K 1, 262, .inl mf1))]) [0, 1] rfl) 0 11 rfl rfl rfl hl.1 rfl (Nat.le_of_ble_eq_true rfl) (by decide) (by decide) dX12_findMeet_53 (fun r13372 hq => ?_)
        obtain ⟨h13370, h13371⟩ := hq
        refine lv_istore_n (lv' := [(3, .int r13372), (5, .int i13362), (4, .int i13363), (0, .ref md), (1, .int p0), (2, .int p1)]) hx hb dX12_findMeet_56 rfl hl (by decide) rfl (fun ls hl => ?_)
        refine lv_aload_n hx hb dX12_findMeet_57 rfl (lv_at hl 3 rfl) ?_
        refine lv_iload hx hb dX12_findMeet_58 (lv_at hl 2 rfl) ?_
        refine ro_V (As := [.int i13363]) (rest := []) hC hE kV_X12_418 (c_X12_onward l D K md ma1 ma2 ma3 ma4 ma6 ma14 ma21 ma22 ma23 ma24 ma26 ma27 ma28 ma29 ma30 ma31 ma32 ma33 ma34 ma35 ma36 ma40 ma41 ma42 ma45 ma46 ma47 ma49 ma50 ma51 ma52 mn0 mn5 mn7 mn8 mn9 mn10 mn11 mn12 mn13 mn15 mn16 mn17 mn18 mn19 mn20 mn25 mn37 w13365 w13366 mn43 mn44 mn48 mf1 i13363 hs1_0) (hP.sub (ws' := [(md, .inr (11, [.int mn0, .ref ma1, .ref ma2, .ref ma3, .ref ma4, .int mn5, .ref ma6, .int mn7, .int mn8, .int mn9, .int mn10, .int mn11, .int mn12, .int mn13, .ref ma14, .int mn15, .int mn16, .int mn17, .int mn18, .int mn19, .int mn20, .ref ma21, .ref ma22, .ref ma23, .ref ma24, .int mn25, .ref ma26, .ref ma27, .ref ma28, .ref ma29, .ref ma30, .ref ma31, .ref ma32, .ref ma33, .ref ma34, .ref ma35, .ref ma36, .int mn37, .int w13365, .int w13366, .ref ma40, .ref ma41, .ref ma42, .int mn43, .int mn44, .ref ma45, .ref ma46, .ref ma47, .int mn48, .ref ma49, .ref ma50, .ref ma51, .ref ma52])), (ma1, .inl (K 1, 262, .inl mf1))]) [0, 1] rfl) 0 11 rfl rfl rfl hl.1 rfl (Nat.le_of_ble_eq_true rfl) (by decide) (by decide) dX12_findMeet_60 (fun r13375 hq => ?_)
        obtain ⟨h13373, h13374⟩ := hq
        refine lv_istore (lv' := [(4, .int r13375), (3, .int r13372), (5, .int i13362), (0, .ref md), (1, .int p0), (2, .int p1)]) hx hb dX12_findMeet_63 hl (by decide) rfl (fun ls hl => ?_)
        obtain ⟨v13376, ev13376⟩ : ∃ z : Int32, z = i13362 + 1 := ⟨_, rfl⟩
        refine lv_iinc (v := v13376) (lv' := [(5, .int v13376), (4, .int r13375), (3, .int r13372), (0, .ref md), (1, .int p0), (2, .int p1)]) hx hb dX12_findMeet_65 hl (k := 2) rfl (by rw [ev13376]; rfl) (by decide) rfl (fun ls hl => ?_)
        refine lv_goto (tgt := 22) hx hb dX12_findMeet_68 (by decide) ?_
        have tv13376 : v13376.toInt = (i13362 : Int32).toInt + (1 : Int32).toInt := add_i ev13376 (by omega) (by omega)
        exact ih_22 (i13362 := v13376) (i13363 := r13375) (i13364 := r13372) (w13365 := w13365) (w13366 := w13366) (hi_22 := by omega) (H := H) (locs := locs) (ls := ls) (hn_22 := by omega) (hP := hP) (hD := hD) (hS := hS) (hl := lv_sub hl [0, 1, 2, 3, 4, 5] rfl)
      · replace c13369 := ne_i c13369
        refine lv_aload_n hx hb dX12_findMeet_36 rfl (lv_at hl 3 rfl) ?_
        refine lv_iload hx hb dX12_findMeet_37 (lv_at hl 0 rfl) ?_
        refine va_put (D := D) (ci := 11) (v := .int i13362) (ty := .int) (C := RX12) (T := TX12) (N := 53) hx hb hts in_X12 tyX12 tyX12_ok nmX12 hown hE.1 hP hD hS 0 rfl rfl 38 (by decide) (hts _ w_1065) (fun _ h9 => h9) rfl (by decide +kernel) rfl rfl (Nat.le_of_ble_eq_true rfl) dX12_findMeet_39 (fun H locs hP hD hS => ?_)
        replace hP : va_P D vwCl [(md, .inr (11, [.int mn0, .ref ma1, .ref ma2, .ref ma3, .ref ma4, .int mn5, .ref ma6, .int mn7, .int mn8, .int mn9, .int mn10, .int mn11, .int mn12, .int mn13, .ref ma14, .int mn15, .int mn16, .int mn17, .int mn18, .int mn19, .int mn20, .ref ma21, .ref ma22, .ref ma23, .ref ma24, .int mn25, .ref ma26, .ref ma27, .ref ma28, .ref ma29, .ref ma30, .ref ma31, .ref ma32, .ref ma33, .ref ma34, .ref ma35, .ref ma36, .int mn37, .int i13362, .int w13366, .ref ma40, .ref ma41, .ref ma42, .int mn43, .int mn44, .ref ma45, .ref ma46, .ref ma47, .int mn48, .ref ma49, .ref ma50, .ref ma51, .ref ma52])), (ma1, .inl (K 1, 262, .inl mf1))] H := hP
        replace hD : va_D A [(md, .inr (11, [.int mn0, .ref ma1, .ref ma2, .ref ma3, .ref ma4, .int mn5, .ref ma6, .int mn7, .int mn8, .int mn9, .int mn10, .int mn11, .int mn12, .int mn13, .ref ma14, .int mn15, .int mn16, .int mn17, .int mn18, .int mn19, .int mn20, .ref ma21, .ref ma22, .ref ma23, .ref ma24, .int mn25, .ref ma26, .ref ma27, .ref ma28, .ref ma29, .ref ma30, .ref ma31, .ref ma32, .ref ma33, .ref ma34, .ref ma35, .ref ma36, .int mn37, .int i13362, .int w13366, .ref ma40, .ref ma41, .ref ma42, .int mn43, .int mn44, .ref ma45, .ref ma46, .ref ma47, .int mn48, .ref ma49, .ref ma50, .ref ma51, .ref ma52])), (ma1, .inl (K 1, 262, .inl mf1))] := hD
        refine lv_aload_n hx hb dX12_findMeet_42 rfl (lv_at hl 3 rfl) ?_
        refine lv_iload_n hx hb dX12_findMeet_43 rfl (lv_at hl 2 rfl) ?_
        refine lv_iload hx hb dX12_findMeet_44 (lv_at hl 1 rfl) ?_
        refine lv_iand hx hb dX12_findMeet_46 ?_
        refine lv_topi (fun v13377 ev13377 => ?_)
        refine va_put (D := D) (ci := 11) (v := .int v13377) (ty := .int) (C := RX12) (T := TX12) (N := 53) hx hb hts in_X12 tyX12 tyX12_ok nmX12 hown hE.1 hP hD hS 0 rfl rfl 39 (by decide) (hts _ w_1066) (fun _ h9 => h9) rfl (by decide +kernel) rfl rfl (Nat.le_of_ble_eq_true rfl) dX12_findMeet_47 (fun H locs hP hD hS => ?_)
        replace hP : va_P D vwCl [(md, .inr (11, [.int mn0, .ref ma1, .ref ma2, .ref ma3, .ref ma4, .int mn5, .ref ma6, .int mn7, .int mn8, .int mn9, .int mn10, .int mn11, .int mn12, .int mn13, .ref ma14, .int mn15, .int mn16, .int mn17, .int mn18, .int mn19, .int mn20, .ref ma21, .ref ma22, .ref ma23, .ref ma24, .int mn25, .ref ma26, .ref ma27, .ref ma28, .ref ma29, .ref ma30, .ref ma31, .ref ma32, .ref ma33, .ref ma34, .ref ma35, .ref ma36, .int mn37, .int i13362, .int v13377, .ref ma40, .ref ma41, .ref ma42, .int mn43, .int mn44, .ref ma45, .ref ma46, .ref ma47, .int mn48, .ref ma49, .ref ma50, .ref ma51, .ref ma52])), (ma1, .inl (K 1, 262, .inl mf1))] H := hP
        replace hD : va_D A [(md, .inr (11, [.int mn0, .ref ma1, .ref ma2, .ref ma3, .ref ma4, .int mn5, .ref ma6, .int mn7, .int mn8, .int mn9, .int mn10, .int mn11, .int mn12, .int mn13, .ref ma14, .int mn15, .int mn16, .int mn17, .int mn18, .int mn19, .int mn20, .ref ma21, .ref ma22, .ref ma23, .ref ma24, .int mn25, .ref ma26, .ref ma27, .ref ma28, .ref ma29, .ref ma30, .ref ma31, .ref ma32, .ref ma33, .ref ma34, .ref ma35, .ref ma36, .int mn37, .int i13362, .int v13377, .ref ma40, .ref ma41, .ref ma42, .int mn43, .int mn44, .ref ma45, .ref ma46, .ref ma47, .int mn48, .ref ma49, .ref ma50, .ref ma51, .ref ma52])), (ma1, .inl (K 1, 262, .inl mf1))] := hD
        refine W.widen (k := 0) (n := 0) (by decide) (by decide) ?_
        exact ch_vret hC hr hk hS dX12_findMeet_50 ((fun k => [i13362, v13377].getD k 0, fun k => [].getD k (fun _ => 0), fun k => [].getD k (fun _ => 0)) : ((Nat → Int32) × (Nat → Nat → Int32) × (Nat → Nat → Int64))) trivial (hP.sub [0, 1] rfl) (hD.sub [0, 1] (by decide) rfl)
set_option maxRecDepth 40000 in
set_option maxHeartbeats 4000000 in
theorem c_X12_meet (l : Launch) (D : va_G) (K : Nat → ClassId) (md : Nat) (ma1 : Nat) (ma2 : Nat) (ma3 : Nat) (ma4 : Nat) (ma6 : Nat) (ma14 : Nat) (ma21 : Nat) (ma22 : Nat) (ma23 : Nat) (ma24 : Nat) (ma26 : Nat) (ma27 : Nat) (ma28 : Nat) (ma29 : Nat) (ma30 : Nat) (ma31 : Nat) (ma32 : Nat) (ma33 : Nat) (ma34 : Nat) (ma35 : Nat) (ma36 : Nat) (ma40 : Nat) (ma41 : Nat) (ma42 : Nat) (ma45 : Nat) (ma46 : Nat) (ma47 : Nat) (ma49 : Nat) (ma50 : Nat) (ma51 : Nat) (ma52 : Nat) (mn0 : Int32) (mn5 : Int32) (mn7 : Int32) (mn8 : Int32) (mn9 : Int32) (mn10 : Int32) (mn11 : Int32) (mn12 : Int32) (mn13 : Int32) (mn15 : Int32) (mn16 : Int32) (mn17 : Int32) (mn18 : Int32) (mn19 : Int32) (mn20 : Int32) (mn25 : Int32) (mn37 : Int32) (mn38 : Int32) (mn39 : Int32) (mn43 : Int32) (mn44 : Int32) (mn48 : Int32) (mf1 : Nat → Int32) (p0 : Int32) (p1 : Int32) (hs1_0 : GW mf1) : Ci (S := ((Nat → Int32) × (Nat → Nat → Int32) × (Nat → Nat → Int64))) l D K yX12_meet cX12_meet 3 (some .int) 4 94 0 0 [.ref md, .int p0, .int p1] [(md, .inr (11, [.int mn0, .ref ma1, .ref ma2, .ref ma3, .ref ma4, .int mn5, .ref ma6, .int mn7, .int mn8, .int mn9, .int mn10, .int mn11, .int mn12, .int mn13, .ref ma14, .int mn15, .int mn16, .int mn17, .int mn18, .int mn19, .int mn20, .ref ma21, .ref ma22, .ref ma23, .ref ma24, .int mn25, .ref ma26, .ref ma27, .ref ma28, .ref ma29, .ref ma30, .ref ma31, .ref ma32, .ref ma33, .ref ma34, .ref ma35, .ref ma36, .int mn37, .int mn38, .int mn39, .ref ma40, .ref ma41, .ref ma42, .int mn43, .int mn44, .ref ma45, .ref ma46, .ref ma47, .int mn48, .ref ma49, .ref ma50, .ref ma51, .ref ma52])), (ma1, .inl (K 1, 262, .inl mf1))] (fun _ _ => True) (fun u => [(md, .inr (11, [.int mn0, .ref ma1, .ref ma2, .ref ma3, .ref ma4, .int mn5, .ref ma6, .int mn7, .int mn8, .int mn9, .int mn10, .int mn11, .int mn12, .int mn13, .ref ma14, .int mn15, .int mn16, .int mn17, .int mn18, .int mn19, .int mn20, .ref ma21, .ref ma22, .ref ma23, .ref ma24, .int mn25, .ref ma26, .ref ma27, .ref ma28, .ref ma29, .ref ma30, .ref ma31, .ref ma32, .ref ma33, .ref ma34, .ref ma35, .ref ma36, .int mn37, .int (u.1 0), .int (u.1 1), .ref ma40, .ref ma41, .ref ma42, .int mn43, .int mn44, .ref ma45, .ref ma46, .ref ma47, .int mn48, .ref ma49, .ref ma50, .ref ma51, .ref ma52])), (ma1, .inl (K 1, 262, .inl mf1))]) := by
  intro sz
  refine ch_of (y := yX12_meet) (cc := cX12_meet) (maxL := 3) (ret := (some .int)) (av := [.ref md, .int p0, .int p1]) (ws := [(md, .inr (11, [.int mn0, .ref ma1, .ref ma2, .ref ma3, .ref ma4, .int mn5, .ref ma6, .int mn7, .int mn8, .int mn9, .int mn10, .int mn11, .int mn12, .int mn13, .ref ma14, .int mn15, .int mn16, .int mn17, .int mn18, .int mn19, .int mn20, .ref ma21, .ref ma22, .ref ma23, .ref ma24, .int mn25, .ref ma26, .ref ma27, .ref ma28, .ref ma29, .ref ma30, .ref ma31, .ref ma32, .ref ma33, .ref ma34, .ref ma35, .ref ma36, .int mn37, .int mn38, .int mn39, .ref ma40, .ref ma41, .ref ma42, .int mn43, .int mn44, .ref ma45, .ref ma46, .ref ma47, .int mn48, .ref ma49, .ref ma50, .ref ma51, .ref ma52])), (ma1, .inl (K 1, 262, .inl mf1))]) (D := D) (K := K) (Qc := fun A => va_Qi (S := ((Nat → Int32) × (Nat → Nat → Int32) × (Nat → Nat → Int64))) (fun _ _ => True) (chB D A (fun u => [(md, .inr (11, [.int mn0, .ref ma1, .ref ma2, .ref ma3, .ref ma4, .int mn5, .ref ma6, .int mn7, .int mn8, .int mn9, .int mn10, .int mn11, .int mn12, .int mn13, .ref ma14, .int mn15, .int mn16, .int mn17, .int mn18, .int mn19, .int mn20, .ref ma21, .ref ma22, .ref ma23, .ref ma24, .int mn25, .ref ma26, .ref ma27, .ref ma28, .ref ma29, .ref ma30, .ref ma31, .ref ma32, .ref ma33, .ref ma34, .ref ma35, .ref ma36, .int mn37, .int (u.1 0), .int (u.1 1), .ref ma40, .ref ma41, .ref ma42, .int mn43, .int mn44, .ref ma45, .ref ma46, .ref ma47, .int mn48, .ref ma49, .ref ma50, .ref ma51, .ref ma52])), (ma1, .inl (K 1, 262, .inl mf1))])) A) (by decide) (Nat.le_of_ble_eq_true rfl) ?_
  intro p e s m below meth c A hC hr hk hin hE hD hA H locs hP hS ls hl
  replace hC : CallFix p m c cX12_meet 3 s [.ref md, .int p0, .int p1].toArray wl RX12 := hC
  have hx := hC.1
  have hb := hC.2.1
  have hml := hC.2.2.1
  have hown := hC.2.2.2.1
  have hts := hC.2.2.2.2
  replace hl : lv_has ls 3 [(0, .ref md), (1, .int p0), (2, .int p1)] := hl
  have hW0 := gwn_0 hs1_0; have hW1 := gwn_1 hs1_0; have hW2 := gwn_2 hs1_0; have hW4 := gwn_4 hs1_0
  refine lv_aload_n hx hb dX12_meet_0 rfl (lv_at hl 0 rfl) ?_
  refine lv_iload_n hx hb dX12_meet_1 rfl (lv_at hl 1 rfl) ?_
  refine lv_iload_n hx hb dX12_meet_2 rfl (lv_at hl 2 rfl) ?_
  refine ro_V (As := [.int p0, .int p1]) (rest := []) hC hE kV_X12_394 (c_X12_areTwo l D K md ma1 ma2 ma3 ma4 ma6 ma14 ma21 ma22 ma23 ma24 ma26 ma27 ma28 ma29 ma30 ma31 ma32 ma33 ma34 ma35 ma36 ma40 ma41 ma42 ma45 ma46 ma47 ma49 ma50 ma51 ma52 mn0 mn5 mn7 mn8 mn9 mn10 mn11 mn12 mn13 mn15 mn16 mn17 mn18 mn19 mn20 mn25 mn37 mn38 mn39 mn43 mn44 mn48 mf1 p0 p1 hs1_0) (hP.sub (ws' := [(md, .inr (11, [.int mn0, .ref ma1, .ref ma2, .ref ma3, .ref ma4, .int mn5, .ref ma6, .int mn7, .int mn8, .int mn9, .int mn10, .int mn11, .int mn12, .int mn13, .ref ma14, .int mn15, .int mn16, .int mn17, .int mn18, .int mn19, .int mn20, .ref ma21, .ref ma22, .ref ma23, .ref ma24, .int mn25, .ref ma26, .ref ma27, .ref ma28, .ref ma29, .ref ma30, .ref ma31, .ref ma32, .ref ma33, .ref ma34, .ref ma35, .ref ma36, .int mn37, .int mn38, .int mn39, .ref ma40, .ref ma41, .ref ma42, .int mn43, .int mn44, .ref ma45, .ref ma46, .ref ma47, .int mn48, .ref ma49, .ref ma50, .ref ma51, .ref ma52])), (ma1, .inl (K 1, 262, .inl mf1))]) [0, 1] rfl) 0 11 rfl rfl rfl hl.1 rfl (Nat.le_of_ble_eq_true rfl) (by decide) (by decide) dX12_meet_3 (fun r13391 hq => ?_)
  rcases hq with rfl | ⟨rfl, h13386, h13387, h13388, h13389, h13390⟩
  · refine lv_if_ne (tgt := 12) hx hb dX12_meet_6 (by decide) (fun h => absurd h (by decide)) (fun _ => ?_)
    refine lv_bipush (v := (-2)) hx hb dX12_meet_9 (by decide) ?_
    refine W.widen (k := 0) (n := 0) (by decide) (by decide) ?_
    exact ch_iret hC hr hk hS dX12_meet_11 ((fun k => [mn38, mn39].getD k 0, fun k => [].getD k (fun _ => 0), fun k => [].getD k (fun _ => 0)) : ((Nat → Int32) × (Nat → Nat → Int32) × (Nat → Nat → Int64))) trivial (hP.sub [0, 1] rfl) (hD.sub [0, 1] (by decide) rfl)
  · refine lv_if_ne (tgt := 12) hx hb dX12_meet_6 (by decide) (fun _ => ?_) (fun h => absurd h (by decide))
    refine lv_aload_n hx hb dX12_meet_12 rfl (lv_at hl 0 rfl) ?_
    refine lv_iload_n hx hb dX12_meet_13 rfl (lv_at hl 1 rfl) ?_
    refine lv_iload_n hx hb dX12_meet_14 rfl (lv_at hl 2 rfl) ?_
    refine cv_V (As := [.int p0, .int p1]) (rest := []) (wc := [(md, .inr (11, [.int mn0, .ref ma1, .ref ma2, .ref ma3, .ref ma4, .int mn5, .ref ma6, .int mn7, .int mn8, .int mn9, .int mn10, .int mn11, .int mn12, .int mn13, .ref ma14, .int mn15, .int mn16, .int mn17, .int mn18, .int mn19, .int mn20, .ref ma21, .ref ma22, .ref ma23, .ref ma24, .int mn25, .ref ma26, .ref ma27, .ref ma28, .ref ma29, .ref ma30, .ref ma31, .ref ma32, .ref ma33, .ref ma34, .ref ma35, .ref ma36, .int mn37, .int mn38, .int mn39, .ref ma40, .ref ma41, .ref ma42, .int mn43, .int mn44, .ref ma45, .ref ma46, .ref ma47, .int mn48, .ref ma49, .ref ma50, .ref ma51, .ref ma52])), (ma1, .inl (K 1, 262, .inl mf1))]) (wr := []) hC hE kV_X12_421 (c_X12_findMeet l D K md ma1 ma2 ma3 ma4 ma6 ma14 ma21 ma22 ma23 ma24 ma26 ma27 ma28 ma29 ma30 ma31 ma32 ma33 ma34 ma35 ma36 ma40 ma41 ma42 ma45 ma46 ma47 ma49 ma50 ma51 ma52 mn0 mn5 mn7 mn8 mn9 mn10 mn11 mn12 mn13 mn15 mn16 mn17 mn18 mn19 mn20 mn25 mn37 mn38 mn39 mn43 mn44 mn48 mf1 p0 p1 hs1_0 (by omega) (by omega)) hP hD hS hA [0, 1] [] rfl rfl rfl (by decide) (by decide) (by decide) 0 11 rfl rfl rfl hl.1 rfl (Nat.le_of_ble_eq_true rfl) (by decide) (by decide) dX12_meet_15 (fun u13392 H locs hw hP hD hS => ?_)
    replace hP : va_P D vwCl [(md, .inr (11, [.int mn0, .ref ma1, .ref ma2, .ref ma3, .ref ma4, .int mn5, .ref ma6, .int mn7, .int mn8, .int mn9, .int mn10, .int mn11, .int mn12, .int mn13, .ref ma14, .int mn15, .int mn16, .int mn17, .int mn18, .int mn19, .int mn20, .ref ma21, .ref ma22, .ref ma23, .ref ma24, .int mn25, .ref ma26, .ref ma27, .ref ma28, .ref ma29, .ref ma30, .ref ma31, .ref ma32, .ref ma33, .ref ma34, .ref ma35, .ref ma36, .int mn37, .int (u13392.1 0), .int (u13392.1 1), .ref ma40, .ref ma41, .ref ma42, .int mn43, .int mn44, .ref ma45, .ref ma46, .ref ma47, .int mn48, .ref ma49, .ref ma50, .ref ma51, .ref ma52])), (ma1, .inl (K 1, 262, .inl mf1))] H := hP
    replace hD : va_D A [(md, .inr (11, [.int mn0, .ref ma1, .ref ma2, .ref ma3, .ref ma4, .int mn5, .ref ma6, .int mn7, .int mn8, .int mn9, .int mn10, .int mn11, .int mn12, .int mn13, .ref ma14, .int mn15, .int mn16, .int mn17, .int mn18, .int mn19, .int mn20, .ref ma21, .ref ma22, .ref ma23, .ref ma24, .int mn25, .ref ma26, .ref ma27, .ref ma28, .ref ma29, .ref ma30, .ref ma31, .ref ma32, .ref ma33, .ref ma34, .ref ma35, .ref ma36, .int mn37, .int (u13392.1 0), .int (u13392.1 1), .ref ma40, .ref ma41, .ref ma42, .int mn43, .int mn44, .ref ma45, .ref ma46, .ref ma47, .int mn48, .ref ma49, .ref ma50, .ref ma51, .ref ma52])), (ma1, .inl (K 1, 262, .inl mf1))] := hD
    replace hP : va_P D vwCl [(md, .inr (11, [.int mn0, .ref ma1, .ref ma2, .ref ma3, .ref ma4, .int mn5, .ref ma6, .int mn7, .int mn8, .int mn9, .int mn10, .int mn11, .int mn12, .int mn13, .ref ma14, .int mn15, .int mn16, .int mn17, .int mn18, .int mn19, .int mn20, .ref ma21, .ref ma22, .ref ma23, .ref ma24, .int mn25, .ref ma26, .ref ma27, .ref ma28, .ref ma29, .ref ma30, .ref ma31, .ref ma32, .ref ma33, .ref ma34, .ref ma35, .ref ma36, .int mn37, .int (u13392.1 0), .int (u13392.1 1), .ref ma40, .ref ma41, .ref ma42, .int mn43, .int mn44, .ref ma45, .ref ma46, .ref ma47, .int mn48, .ref ma49, .ref ma50, .ref ma51, .ref ma52])), (ma1, .inl (K 1, 262, .inl mf1))] H := hP.sub [0, 1] rfl
    replace hD : va_D A [(md, .inr (11, [.int mn0, .ref ma1, .ref ma2, .ref ma3, .ref ma4, .int mn5, .ref ma6, .int mn7, .int mn8, .int mn9, .int mn10, .int mn11, .int mn12, .int mn13, .ref ma14, .int mn15, .int mn16, .int mn17, .int mn18, .int mn19, .int mn20, .ref ma21, .ref ma22, .ref ma23, .ref ma24, .int mn25, .ref ma26, .ref ma27, .ref ma28, .ref ma29, .ref ma30, .ref ma31, .ref ma32, .ref ma33, .ref ma34, .ref ma35, .ref ma36, .int mn37, .int (u13392.1 0), .int (u13392.1 1), .ref ma40, .ref ma41, .ref ma42, .int mn43, .int mn44, .ref ma45, .ref ma46, .ref ma47, .int mn48, .ref ma49, .ref ma50, .ref ma51, .ref ma52])), (ma1, .inl (K 1, 262, .inl mf1))] := hD.sub [0, 1] (by decide) rfl
    refine W.widen (k := 0) (n := 0) (by decide) (by decide) ?_
    refine lv_aload_n hx hb dX12_meet_18 rfl (lv_at hl 0 rfl) ?_
    refine va_get (D := D) (ci := 11) (v := .int (u13392.1 0)) (C := RX12) (T := TX12) (N := 53) hx hb hts in_X12 hown hE.1 hP 0 rfl rfl 38 (by decide) (hts _ w_1065) (fun _ h9 => h9) rfl dX12_meet_19 ?_
    refine W.widen (k := 0) (n := 0) (by decide) (by decide) ?_
    exact ch_iret hC hr hk hS dX12_meet_22 ((fun k => [(u13392.1 0), (u13392.1 1)].getD k 0, fun k => [].getD k (fun _ => 0), fun k => [].getD k (fun _ => 0)) : ((Nat → Int32) × (Nat → Nat → Int32) × (Nat → Nat → Int64))) trivial (hP.sub [0, 1] rfl) (hD.sub [0, 1] (by decide) rfl)
set_option maxRecDepth 40000 in
set_option maxHeartbeats 4000000 in
theorem c_X12_met (l : Launch) (D : va_G) (K : Nat → ClassId) (md : Nat) (ma1 : Nat) (ma2 : Nat) (ma3 : Nat) (ma4 : Nat) (ma6 : Nat) (ma14 : Nat) (ma21 : Nat) (ma22 : Nat) (ma23 : Nat) (ma24 : Nat) (ma26 : Nat) (ma27 : Nat) (ma28 : Nat) (ma29 : Nat) (ma30 : Nat) (ma31 : Nat) (ma32 : Nat) (ma33 : Nat) (ma34 : Nat) (ma35 : Nat) (ma36 : Nat) (ma40 : Nat) (ma41 : Nat) (ma42 : Nat) (ma45 : Nat) (ma46 : Nat) (ma47 : Nat) (ma49 : Nat) (ma50 : Nat) (ma51 : Nat) (ma52 : Nat) (mn0 : Int32) (mn5 : Int32) (mn7 : Int32) (mn8 : Int32) (mn9 : Int32) (mn10 : Int32) (mn11 : Int32) (mn12 : Int32) (mn13 : Int32) (mn15 : Int32) (mn16 : Int32) (mn17 : Int32) (mn18 : Int32) (mn19 : Int32) (mn20 : Int32) (mn25 : Int32) (mn37 : Int32) (mn38 : Int32) (mn39 : Int32) (mn43 : Int32) (mn44 : Int32) (mn48 : Int32) (mf1 : Nat → Int32) (p0 : Int32) (p1 : Int32) (hs1_0 : GW mf1) : Ci (S := ((Nat → Int32) × (Nat → Nat → Int32) × (Nat → Nat → Int64))) l D K yX12_met cX12_met 4 (some .int) 4 94 0 0 [.ref md, .int p0, .int p1] [(md, .inr (11, [.int mn0, .ref ma1, .ref ma2, .ref ma3, .ref ma4, .int mn5, .ref ma6, .int mn7, .int mn8, .int mn9, .int mn10, .int mn11, .int mn12, .int mn13, .ref ma14, .int mn15, .int mn16, .int mn17, .int mn18, .int mn19, .int mn20, .ref ma21, .ref ma22, .ref ma23, .ref ma24, .int mn25, .ref ma26, .ref ma27, .ref ma28, .ref ma29, .ref ma30, .ref ma31, .ref ma32, .ref ma33, .ref ma34, .ref ma35, .ref ma36, .int mn37, .int mn38, .int mn39, .ref ma40, .ref ma41, .ref ma42, .int mn43, .int mn44, .ref ma45, .ref ma46, .ref ma47, .int mn48, .ref ma49, .ref ma50, .ref ma51, .ref ma52])), (ma1, .inl (K 1, 262, .inl mf1))] (fun _ _ => True) (fun u => [(md, .inr (11, [.int mn0, .ref ma1, .ref ma2, .ref ma3, .ref ma4, .int mn5, .ref ma6, .int mn7, .int mn8, .int mn9, .int mn10, .int mn11, .int mn12, .int mn13, .ref ma14, .int mn15, .int mn16, .int mn17, .int mn18, .int mn19, .int mn20, .ref ma21, .ref ma22, .ref ma23, .ref ma24, .int mn25, .ref ma26, .ref ma27, .ref ma28, .ref ma29, .ref ma30, .ref ma31, .ref ma32, .ref ma33, .ref ma34, .ref ma35, .ref ma36, .int mn37, .int (u.1 0), .int (u.1 1), .ref ma40, .ref ma41, .ref ma42, .int mn43, .int mn44, .ref ma45, .ref ma46, .ref ma47, .int mn48, .ref ma49, .ref ma50, .ref ma51, .ref ma52])), (ma1, .inl (K 1, 262, .inl mf1))]) := by
  intro sz
  refine ch_of (y := yX12_met) (cc := cX12_met) (maxL := 4) (ret := (some .int)) (av := [.ref md, .int p0, .int p1]) (ws := [(md, .inr (11, [.int mn0, .ref ma1, .ref ma2, .ref ma3, .ref ma4, .int mn5, .ref ma6, .int mn7, .int mn8, .int mn9, .int mn10, .int mn11, .int mn12, .int mn13, .ref ma14, .int mn15, .int mn16, .int mn17, .int mn18, .int mn19, .int mn20, .ref ma21, .ref ma22, .ref ma23, .ref ma24, .int mn25, .ref ma26, .ref ma27, .ref ma28, .ref ma29, .ref ma30, .ref ma31, .ref ma32, .ref ma33, .ref ma34, .ref ma35, .ref ma36, .int mn37, .int mn38, .int mn39, .ref ma40, .ref ma41, .ref ma42, .int mn43, .int mn44, .ref ma45, .ref ma46, .ref ma47, .int mn48, .ref ma49, .ref ma50, .ref ma51, .ref ma52])), (ma1, .inl (K 1, 262, .inl mf1))]) (D := D) (K := K) (Qc := fun A => va_Qi (S := ((Nat → Int32) × (Nat → Nat → Int32) × (Nat → Nat → Int64))) (fun _ _ => True) (chB D A (fun u => [(md, .inr (11, [.int mn0, .ref ma1, .ref ma2, .ref ma3, .ref ma4, .int mn5, .ref ma6, .int mn7, .int mn8, .int mn9, .int mn10, .int mn11, .int mn12, .int mn13, .ref ma14, .int mn15, .int mn16, .int mn17, .int mn18, .int mn19, .int mn20, .ref ma21, .ref ma22, .ref ma23, .ref ma24, .int mn25, .ref ma26, .ref ma27, .ref ma28, .ref ma29, .ref ma30, .ref ma31, .ref ma32, .ref ma33, .ref ma34, .ref ma35, .ref ma36, .int mn37, .int (u.1 0), .int (u.1 1), .ref ma40, .ref ma41, .ref ma42, .int mn43, .int mn44, .ref ma45, .ref ma46, .ref ma47, .int mn48, .ref ma49, .ref ma50, .ref ma51, .ref ma52])), (ma1, .inl (K 1, 262, .inl mf1))])) A) (by decide) (Nat.le_of_ble_eq_true rfl) ?_
  intro p e s m below meth c A hC hr hk hin hE hD hA H locs hP hS ls hl
  replace hC : CallFix p m c cX12_met 4 s [.ref md, .int p0, .int p1].toArray wl RX12 := hC
  have hx := hC.1
  have hb := hC.2.1
  have hml := hC.2.2.1
  have hown := hC.2.2.2.1
  have hts := hC.2.2.2.2
  replace hl : lv_has ls 4 [(0, .ref md), (1, .int p0), (2, .int p1)] := hl
  have kc_0 : (0 : Int32).toInt = 0 := by decide
  have kc_1 : (1 : Int32).toInt = 1 := by decide
  have hW0 := gwn_0 hs1_0; have hW1 := gwn_1 hs1_0; have hW2 := gwn_2 hs1_0; have hW4 := gwn_4 hs1_0
  refine lv_aload_n hx hb dX12_met_0 rfl (lv_at hl 0 rfl) ?_
  refine lv_iload_n hx hb dX12_met_1 rfl (lv_at hl 1 rfl) ?_
  refine lv_iload_n hx hb dX12_met_2 rfl (lv_at hl 2 rfl) ?_
  refine ro_V (As := [.int p0, .int p1]) (rest := []) hC hE kV_X12_394 (c_X12_areTwo l D K md ma1 ma2 ma3 ma4 ma6 ma14 ma21 ma22 ma23 ma24 ma26 ma27 ma28 ma29 ma30 ma31 ma32 ma33 ma34 ma35 ma36 ma40 ma41 ma42 ma45 ma46 ma47 ma49 ma50 ma51 ma52 mn0 mn5 mn7 mn8 mn9 mn10 mn11 mn12 mn13 mn15 mn16 mn17 mn18 mn19 mn20 mn25 mn37 mn38 mn39 mn43 mn44 mn48 mf1 p0 p1 hs1_0) (hP.sub (ws' := [(md, .inr (11, [.int mn0, .ref ma1, .ref ma2, .ref ma3, .ref ma4, .int mn5, .ref ma6, .int mn7, .int mn8, .int mn9, .int mn10, .int mn11, .int mn12, .int mn13, .ref ma14, .int mn15, .int mn16, .int mn17, .int mn18, .int mn19, .int mn20, .ref ma21, .ref ma22, .ref ma23, .ref ma24, .int mn25, .ref ma26, .ref ma27, .ref ma28, .ref ma29, .ref ma30, .ref ma31, .ref ma32, .ref ma33, .ref ma34, .ref ma35, .ref ma36, .int mn37, .int mn38, .int mn39, .ref ma40, .ref ma41, .ref ma42, .int mn43, .int mn44, .ref ma45, .ref ma46, .ref ma47, .int mn48, .ref ma49, .ref ma50, .ref ma51, .ref ma52])), (ma1, .inl (K 1, 262, .inl mf1))]) [0, 1] rfl) 0 11 rfl rfl rfl hl.1 rfl (Nat.le_of_ble_eq_true rfl) (by decide) (by decide) dX12_met_3 (fun r13417 hq => ?_)
  rcases hq with rfl | ⟨rfl, h13412, h13413, h13414, h13415, h13416⟩
  · refine lv_if_ne (tgt := 12) hx hb dX12_met_6 (by decide) (fun h => absurd h (by decide)) (fun _ => ?_)
    refine lv_bipush (v := (-2)) hx hb dX12_met_9 (by decide) ?_
    refine W.widen (k := 0) (n := 0) (by decide) (by decide) ?_
    exact ch_iret hC hr hk hS dX12_met_11 ((fun k => [mn38, mn39].getD k 0, fun k => [].getD k (fun _ => 0), fun k => [].getD k (fun _ => 0)) : ((Nat → Int32) × (Nat → Nat → Int32) × (Nat → Nat → Int64))) trivial (hP.sub [0, 1] rfl) (hD.sub [0, 1] (by decide) rfl)
  · refine lv_if_ne (tgt := 12) hx hb dX12_met_6 (by decide) (fun _ => ?_) (fun h => absurd h (by decide))
    refine lv_aload_n hx hb dX12_met_12 rfl (lv_at hl 0 rfl) ?_
    refine lv_iload_n hx hb dX12_met_13 rfl (lv_at hl 1 rfl) ?_
    refine lv_iload_n hx hb dX12_met_14 rfl (lv_at hl 2 rfl) ?_
    refine cv_V (As := [.int p0, .int p1]) (rest := []) (wc := [(md, .inr (11, [.int mn0, .ref ma1, .ref ma2, .ref ma3, .ref ma4, .int mn5, .ref ma6, .int mn7, .int mn8, .int mn9, .int mn10, .int mn11, .int mn12, .int mn13, .ref ma14, .int mn15, .int mn16, .int mn17, .int mn18, .int mn19, .int mn20, .ref ma21, .ref ma22, .ref ma23, .ref ma24, .int mn25, .ref ma26, .ref ma27, .ref ma28, .ref ma29, .ref ma30, .ref ma31, .ref ma32, .ref ma33, .ref ma34, .ref ma35, .ref ma36, .int mn37, .int mn38, .int mn39, .ref ma40, .ref ma41, .ref ma42, .int mn43, .int mn44, .ref ma45, .ref ma46, .ref ma47, .int mn48, .ref ma49, .ref ma50, .ref ma51, .ref ma52])), (ma1, .inl (K 1, 262, .inl mf1))]) (wr := []) hC hE kV_X12_421 (c_X12_findMeet l D K md ma1 ma2 ma3 ma4 ma6 ma14 ma21 ma22 ma23 ma24 ma26 ma27 ma28 ma29 ma30 ma31 ma32 ma33 ma34 ma35 ma36 ma40 ma41 ma42 ma45 ma46 ma47 ma49 ma50 ma51 ma52 mn0 mn5 mn7 mn8 mn9 mn10 mn11 mn12 mn13 mn15 mn16 mn17 mn18 mn19 mn20 mn25 mn37 mn38 mn39 mn43 mn44 mn48 mf1 p0 p1 hs1_0 (by omega) (by omega)) hP hD hS hA [0, 1] [] rfl rfl rfl (by decide) (by decide) (by decide) 0 11 rfl rfl rfl hl.1 rfl (Nat.le_of_ble_eq_true rfl) (by decide) (by decide) dX12_met_15 (fun u13418 H locs hw hP hD hS => ?_)
    replace hP : va_P D vwCl [(md, .inr (11, [.int mn0, .ref ma1, .ref ma2, .ref ma3, .ref ma4, .int mn5, .ref ma6, .int mn7, .int mn8, .int mn9, .int mn10, .int mn11, .int mn12, .int mn13, .ref ma14, .int mn15, .int mn16, .int mn17, .int mn18, .int mn19, .int mn20, .ref ma21, .ref ma22, .ref ma23, .ref ma24, .int mn25, .ref ma26, .ref ma27, .ref ma28, .ref ma29, .ref ma30, .ref ma31, .ref ma32, .ref ma33, .ref ma34, .ref ma35, .ref ma36, .int mn37, .int (u13418.1 0), .int (u13418.1 1), .ref ma40, .ref ma41, .ref ma42, .int mn43, .int mn44, .ref ma45, .ref ma46, .ref ma47, .int mn48, .ref ma49, .ref ma50, .ref ma51, .ref ma52])), (ma1, .inl (K 1, 262, .inl mf1))] H := hP
    replace hD : va_D A [(md, .inr (11, [.int mn0, .ref ma1, .ref ma2, .ref ma3, .ref ma4, .int mn5, .ref ma6, .int mn7, .int mn8, .int mn9, .int mn10, .int mn11, .int mn12, .int mn13, .ref ma14, .int mn15, .int mn16, .int mn17, .int mn18, .int mn19, .int mn20, .ref ma21, .ref ma22, .ref ma23, .ref ma24, .int mn25, .ref ma26, .ref ma27, .ref ma28, .ref ma29, .ref ma30, .ref ma31, .ref ma32, .ref ma33, .ref ma34, .ref ma35, .ref ma36, .int mn37, .int (u13418.1 0), .int (u13418.1 1), .ref ma40, .ref ma41, .ref ma42, .int mn43, .int mn44, .ref ma45, .ref ma46, .ref ma47, .int mn48, .ref ma49, .ref ma50, .ref ma51, .ref ma52])), (ma1, .inl (K 1, 262, .inl mf1))] := hD
    replace hP : va_P D vwCl [(md, .inr (11, [.int mn0, .ref ma1, .ref ma2, .ref ma3, .ref ma4, .int mn5, .ref ma6, .int mn7, .int mn8, .int mn9, .int mn10, .int mn11, .int mn12, .int mn13, .ref ma14, .int mn15, .int mn16, .int mn17, .int mn18, .int mn19, .int mn20, .ref ma21, .ref ma22, .ref ma23, .ref ma24, .int mn25, .ref ma26, .ref ma27, .ref ma28, .ref ma29, .ref ma30, .ref ma31, .ref ma32, .ref ma33, .ref ma34, .ref ma35, .ref ma36, .int mn37, .int (u13418.1 0), .int (u13418.1 1), .ref ma40, .ref ma41, .ref ma42, .int mn43, .int mn44, .ref ma45, .ref ma46, .ref ma47, .int mn48, .ref ma49, .ref ma50, .ref ma51, .ref ma52])), (ma1, .inl (K 1, 262, .inl mf1))] H := hP.sub [0, 1] rfl
    replace hD : va_D A [(md, .inr (11, [.int mn0, .ref ma1, .ref ma2, .ref ma3, .ref ma4, .int mn5, .ref ma6, .int mn7, .int mn8, .int mn9, .int mn10, .int mn11, .int mn12, .int mn13, .ref ma14, .int mn15, .int mn16, .int mn17, .int mn18, .int mn19, .int mn20, .ref ma21, .ref ma22, .ref ma23, .ref ma24, .int mn25, .ref ma26, .ref ma27, .ref ma28, .ref ma29, .ref ma30, .ref ma31, .ref ma32, .ref ma33, .ref ma34, .ref ma35, .ref ma36, .int mn37, .int (u13418.1 0), .int (u13418.1 1), .ref ma40, .ref ma41, .ref ma42, .int mn43, .int mn44, .ref ma45, .ref ma46, .ref ma47, .int mn48, .ref ma49, .ref ma50, .ref ma51, .ref ma52])), (ma1, .inl (K 1, 262, .inl mf1))] := hD.sub [0, 1] (by decide) rfl
    refine W.widen (k := 0) (n := 0) (by decide) (by decide) ?_
    refine lv_iconst (v := 0) hx hb dX12_met_18 (by decide) ?_
    refine lv_istore_n (lv' := [(3, .int 0), (0, .ref md), (1, .int p0), (2, .int p1)]) hx hb dX12_met_19 rfl hl (by decide) rfl (fun ls hl => ?_)
    have hl' := hl; have hP' := hP; have hD' := hD; clear hl hP hD
    obtain ⟨i13428, hi_20, hv_20, hl, hP, hD⟩ : ∃ (i13428 : Int32), ((0 : Int) ≤ i13428.toInt) ∧ ((u13418.1 1) = 0 ∨ ∃ k0 : Nat, k0 < 32 ∧ btF (u13418.1 1) (Int32.ofNat k0) ≠ 0 ∧ i13428.toInt ≤ (k0 : Int)) ∧ lv_has ls 4 [(3, .int i13428), (0, .ref md), (1, .int p0), (2, .int p1)] ∧ va_P D vwCl [(md, .inr (11, [.int mn0, .ref ma1, .ref ma2, .ref ma3, .ref ma4, .int mn5, .ref ma6, .int mn7, .int mn8, .int mn9, .int mn10, .int mn11, .int mn12, .int mn13, .ref ma14, .int mn15, .int mn16, .int mn17, .int mn18, .int mn19, .int mn20, .ref ma21, .ref ma22, .ref ma23, .ref ma24, .int mn25, .ref ma26, .ref ma27, .ref ma28, .ref ma29, .ref ma30, .ref ma31, .ref ma32, .ref ma33, .ref ma34, .ref ma35, .ref ma36, .int mn37, .int (u13418.1 0), .int (u13418.1 1), .ref ma40, .ref ma41, .ref ma42, .int mn43, .int mn44, .ref ma45, .ref ma46, .ref ma47, .int mn48, .ref ma49, .ref ma50, .ref ma51, .ref ma52])), (ma1, .inl (K 1, 262, .inl mf1))] H ∧ va_D A [(md, .inr (11, [.int mn0, .ref ma1, .ref ma2, .ref ma3, .ref ma4, .int mn5, .ref ma6, .int mn7, .int mn8, .int mn9, .int mn10, .int mn11, .int mn12, .int mn13, .ref ma14, .int mn15, .int mn16, .int mn17, .int mn18, .int mn19, .int mn20, .ref ma21, .ref ma22, .ref ma23, .ref ma24, .int mn25, .ref ma26, .ref ma27, .ref ma28, .ref ma29, .ref ma30, .ref ma31, .ref ma32, .ref ma33, .ref ma34, .ref ma35, .ref ma36, .int mn37, .int (u13418.1 0), .int (u13418.1 1), .ref ma40, .ref ma41, .ref ma42, .int mn43, .int mn44, .ref ma45, .ref ma46, .ref ma47, .int mn48, .ref ma49, .ref ma50, .ref ma51, .ref ma52])), (ma1, .inl (K 1, 262, .inl mf1))] := ⟨_, by omega, (by have h9 := mt_ex (u13418.1 1); rw [show ((0 : Int32).toInt) = 0 from by decide]; exact h9), hl', hP', hD'⟩
    clear hl' hP' hD'
    obtain ⟨n_20, hn_20⟩ : ∃ n : Nat, (32 - i13428.toInt).toNat < n := ⟨_, Nat.lt_succ_self _⟩
    induction n_20 generalizing i13428 H locs ls with
    | zero => exact absurd hn_20 (Nat.not_lt_zero _)
    | succ n_20 ih_20 =>
      refine lv_aload_n hx hb dX12_met_20 rfl (lv_at hl 1 rfl) ?_
      refine va_get (D := D) (ci := 11) (v := .int (u13418.1 1)) (C := RX12) (T := TX12) (N := 53) hx hb hts in_X12 hown hE.1 hP 0 rfl rfl 39 (by decide) (hts _ w_1066) (fun _ h9 => h9) rfl dX12_met_21 ?_
      refine lv_if_eq (tgt := 44) hx hb dX12_met_24 (by decide) (fun c13429 => ?_) (fun c13429 => ?_)
      · replace c13429 := eq_i c13429
        refine lv_aload_n hx hb dX12_met_44 rfl (lv_at hl 1 rfl) ?_
        refine va_get (D := D) (ci := 11) (v := .int (u13418.1 1)) (C := RX12) (T := TX12) (N := 53) hx hb hts in_X12 hown hE.1 hP 0 rfl rfl 39 (by decide) (hts _ w_1066) (fun _ h9 => h9) rfl dX12_met_45 ?_
        refine lv_if_ne (tgt := 55) hx hb dX12_met_48 (by decide) (fun c13430 => ?_) (fun c13430 => ?_)
        · replace c13430 := ne_i c13430
          refine lv_iload_n hx hb dX12_met_55 rfl (lv_at hl 0 rfl) ?_
          refine W.widen (k := 0) (n := 0) (by decide) (by decide) ?_
          exact ch_iret hC hr hk hS dX12_met_56 ((fun k => [(u13418.1 0), (u13418.1 1)].getD k 0, fun k => [].getD k (fun _ => 0), fun k => [].getD k (fun _ => 0)) : ((Nat → Int32) × (Nat → Nat → Int32) × (Nat → Nat → Int64))) trivial (hP.sub [0, 1] rfl) (hD.sub [0, 1] (by decide) rfl)
        · replace c13430 := eq_i c13430
          refine lv_iconst (v := (-1)) hx hb dX12_met_51 (by decide) ?_
          refine lv_goto (tgt := 56) hx hb dX12_met_52 (by decide) ?_
          refine W.widen (k := 0) (n := 0) (by decide) (by decide) ?_
          exact ch_iret hC hr hk hS dX12_met_56 ((fun k => [(u13418.1 0), (u13418.1 1)].getD k 0, fun k => [].getD k (fun _ => 0), fun k => [].getD k (fun _ => 0)) : ((Nat → Int32) × (Nat → Nat → Int32) × (Nat → Nat → Int64))) trivial (hP.sub [0, 1] rfl) (hD.sub [0, 1] (by decide) rfl)
      · replace c13429 := ne_i c13429
        have hx_20 := hv_20.resolve_left (fun q9 => by have q8 := eq_i q9; omega)
        obtain ⟨k0, hk0, hb0, hl0⟩ := id hx_20
        refine lv_aload_n hx hb dX12_met_27 rfl (lv_at hl 1 rfl) ?_
        refine va_get (D := D) (ci := 11) (v := .int (u13418.1 1)) (C := RX12) (T := TX12) (N := 53) hx hb hts in_X12 hown hE.1 hP 0 rfl rfl 39 (by decide) (hts _ w_1066) (fun _ h9 => h9) rfl dX12_met_28 ?_
        refine lv_iload_n hx hb dX12_met_31 rfl (lv_at hl 0 rfl) ?_
        refine ro_S (As := [.int (u13418.1 1), .int i13428]) (rest := []) hC hE kS_X12_270 (c_X12_bit l D K (u13418.1 1) i13428) (hP.sub (ws' := []) [] rfl) rfl hl.1 rfl (Nat.le_of_ble_eq_true rfl) (by decide) (by decide) dX12_met_32 (fun r13434 hq => ?_)
        obtain ⟨h13431, h13432, h13433⟩ := hq
        refine lv_if_ne (tgt := 44) hx hb dX12_met_35 (by decide) (fun c13435 => ?_) (fun c13435 => ?_)
        · replace c13435 := ne_i c13435
          refine lv_aload_n hx hb dX12_met_44 rfl (lv_at hl 1 rfl) ?_
          refine va_get (D := D) (ci := 11) (v := .int (u13418.1 1)) (C := RX12) (T := TX12) (N := 53) hx hb hts in_X12 hown hE.1 hP 0 rfl rfl 39 (by decide) (hts _ w_1066) (fun _ h9 => h9) rfl dX12_met_45 ?_
          refine lv_if_ne (tgt := 55) hx hb dX12_met_48 (by decide) (fun c13436 => ?_) (fun c13436 => ?_)
          · replace c13436 := ne_i c13436
            refine lv_iload_n hx hb dX12_met_55 rfl (lv_at hl 0 rfl) ?_
            refine W.widen (k := 0) (n := 0) (by decide) (by decide) ?_
            exact ch_iret hC hr hk hS dX12_met_56 ((fun k => [(u13418.1 0), (u13418.1 1)].getD k 0, fun k => [].getD k (fun _ => 0), fun k => [].getD k (fun _ => 0)) : ((Nat → Int32) × (Nat → Nat → Int32) × (Nat → Nat → Int64))) trivial (hP.sub [0, 1] rfl) (hD.sub [0, 1] (by decide) rfl)
          · replace c13436 := eq_i c13436
            refine lv_iconst (v := (-1)) hx hb dX12_met_51 (by decide) ?_
            refine lv_goto (tgt := 56) hx hb dX12_met_52 (by decide) ?_
            refine W.widen (k := 0) (n := 0) (by decide) (by decide) ?_
            exact ch_iret hC hr hk hS dX12_met_56 ((fun k => [(u13418.1 0), (u13418.1 1)].getD k 0, fun k => [].getD k (fun _ => 0), fun k => [].getD k (fun _ => 0)) : ((Nat → Int32) × (Nat → Nat → Int32) × (Nat → Nat → Int64))) trivial (hP.sub [0, 1] rfl) (hD.sub [0, 1] (by decide) rfl)
        · replace c13435 := eq_i c13435
          obtain ⟨v13437, ev13437⟩ : ∃ z : Int32, z = i13428 + 1 := ⟨_, rfl⟩
          refine lv_iinc (v := v13437) (lv' := [(3, .int v13437), (0, .ref md), (1, .int p0), (2, .int p1)]) hx hb dX12_met_38 hl (k := 0) rfl (by rw [ev13437]; rfl) (by decide) rfl (fun ls hl => ?_)
          refine lv_goto (tgt := 20) hx hb dX12_met_41 (by decide) ?_
          have tv13437 : v13437.toInt = (i13428 : Int32).toInt + (1 : Int32).toInt := add_i ev13437 (by omega) (by omega)
          exact ih_20 (i13428 := v13437) (hi_20 := by omega) (hv_20 := mt_step hx_20 (by omega) h13433 (by omega) (by omega)) (H := H) (locs := locs) (ls := ls) (hn_20 := by omega) (hP := hP) (hS := hS) (hl := lv_sub hl [0, 1, 2, 3] rfl)
set_option maxRecDepth 40000 in
set_option maxHeartbeats 4000000 in
theorem c_X12_asksRead (l : Launch) (D : va_G) (K : Nat → ClassId) (md : Nat) (ma1 : Nat) (ma2 : Nat) (ma3 : Nat) (ma4 : Nat) (ma6 : Nat) (ma14 : Nat) (ma21 : Nat) (ma22 : Nat) (ma23 : Nat) (ma24 : Nat) (ma26 : Nat) (ma27 : Nat) (ma28 : Nat) (ma29 : Nat) (ma30 : Nat) (ma31 : Nat) (ma32 : Nat) (ma33 : Nat) (ma34 : Nat) (ma35 : Nat) (ma36 : Nat) (ma40 : Nat) (ma41 : Nat) (ma42 : Nat) (ma45 : Nat) (ma46 : Nat) (ma47 : Nat) (ma49 : Nat) (ma50 : Nat) (ma51 : Nat) (ma52 : Nat) (mn0 : Int32) (mn5 : Int32) (mn7 : Int32) (mn8 : Int32) (mn9 : Int32) (mn10 : Int32) (mn11 : Int32) (mn12 : Int32) (mn13 : Int32) (mn15 : Int32) (mn16 : Int32) (mn17 : Int32) (mn18 : Int32) (mn19 : Int32) (mn20 : Int32) (mn25 : Int32) (mn37 : Int32) (mn38 : Int32) (mn39 : Int32) (mn43 : Int32) (mn44 : Int32) (mn48 : Int32) (mf1 : Nat → Int32) (mf49 : Nat → Int32) (mf51 : Nat → Int64) (p0 : Int32) (hs1_0 : GW mf1) (hs49_0 : Rg (-1) 60 4 mf49) : Ro l D K yX12_asksRead cX12_asksRead 3 (some .int) 2 45 [.ref md, .int p0] [(md, .inr (11, [.int mn0, .ref ma1, .ref ma2, .ref ma3, .ref ma4, .int mn5, .ref ma6, .int mn7, .int mn8, .int mn9, .int mn10, .int mn11, .int mn12, .int mn13, .ref ma14, .int mn15, .int mn16, .int mn17, .int mn18, .int mn19, .int mn20, .ref ma21, .ref ma22, .ref ma23, .ref ma24, .int mn25, .ref ma26, .ref ma27, .ref ma28, .ref ma29, .ref ma30, .ref ma31, .ref ma32, .ref ma33, .ref ma34, .ref ma35, .ref ma36, .int mn37, .int mn38, .int mn39, .ref ma40, .ref ma41, .ref ma42, .int mn43, .int mn44, .ref ma45, .ref ma46, .ref ma47, .int mn48, .ref ma49, .ref ma50, .ref ma51, .ref ma52])), (ma1, .inl (K 1, 262, .inl mf1)), (ma49, .inl (K 1, 4, .inl mf49)), (ma51, .inl (K 2, 240, .inr (.inl mf51)))] (fun r => (r = (-2)) ∨ (r = (-6)) ∨ (r = 0 ∧ (0 ≤ p0.toInt) ∧ (p0.toInt ≤ 3) ∧ ((mf49 p0.toInt.toNat).toInt % 2 = 0) ∧ (0 ≤ (mf49 p0.toInt.toNat).toInt) ∧ ((mf49 p0.toInt.toNat).toInt ≤ 60) ∧ (RN mf51 p0.toInt (mf49 p0.toInt.toNat).toInt))) := by
  refine ro_of (by decide) (Nat.le_of_ble_eq_true rfl) ?_
  intro p e s m below meth c hC hr hk hE hP ls hl
  replace hC : CallFix p m c cX12_asksRead 3 s [.ref md, .int p0].toArray wl RX12 := hC
  have hx := hC.1
  have hb := hC.2.1
  have hml := hC.2.2.1
  have hown := hC.2.2.2.1
  have hts := hC.2.2.2.2
  replace hl : lv_has ls 3 [(0, .ref md), (1, .int p0)] := hl
  have kc_m1 : (-1 : Int32).toInt = -1 := by decide
  have kc_0 : (0 : Int32).toInt = 0 := by decide
  have kc_1 : (1 : Int32).toInt = 1 := by decide
  have kc_2 : (2 : Int32).toInt = 2 := by decide
  have kl_0 : (0 : Int64).toInt = 0 := by decide
  have kl_4 : (4 : Int64).toInt = 4 := by decide
  have kl_9 : (9 : Int64).toInt = 9 := by decide
  have hW0 := gwn_0 hs1_0; have hW1 := gwn_1 hs1_0; have hW2 := gwn_2 hs1_0; have hW4 := gwn_4 hs1_0
  refine lv_iload_n hx hb dX12_asksRead_0 rfl (lv_at hl 1 rfl) ?_
  refine ro_S (As := [.int p0]) (rest := []) hC hE kS_X12_334 (c_X12_isSlot l D K p0) (hP.sub (ws' := []) [] rfl) rfl hl.1 rfl (Nat.le_of_ble_eq_true rfl) (by decide) (by decide) dX12_asksRead_1 (fun r13441 hq => ?_)
  rcases hq with ⟨rfl, h13438⟩ | ⟨rfl, h13439, h13440⟩
  · refine lv_if_eq (tgt := 14) hx hb dX12_asksRead_4 (by decide) (fun _ => ?_) (fun h => absurd h (by decide))
    refine lv_bipush (v := (-2)) hx hb dX12_asksRead_14 (by decide) ?_
    exact ro_ret hC hr hk dX12_asksRead_16 (Or.inl rfl)
  · refine lv_if_eq (tgt := 14) hx hb dX12_asksRead_4 (by decide) (fun h => absurd h (by decide)) (fun _ => ?_)
    refine lv_aload_n hx hb dX12_asksRead_7 rfl (lv_at hl 0 rfl) ?_
    refine ro_V (As := []) (rest := []) hC hE kV_X12_125 (c_X12_isWood l D K md ma1 ma2 ma3 ma4 ma6 ma14 ma21 ma22 ma23 ma24 ma26 ma27 ma28 ma29 ma30 ma31 ma32 ma33 ma34 ma35 ma36 ma40 ma41 ma42 ma45 ma46 ma47 ma49 ma50 ma51 ma52 mn0 mn5 mn7 mn8 mn9 mn10 mn11 mn12 mn13 mn15 mn16 mn17 mn18 mn19 mn20 mn25 mn37 mn38 mn39 mn43 mn44 mn48 mf1 hs1_0) (hP.sub (ws' := [(md, .inr (11, [.int mn0, .ref ma1, .ref ma2, .ref ma3, .ref ma4, .int mn5, .ref ma6, .int mn7, .int mn8, .int mn9, .int mn10, .int mn11, .int mn12, .int mn13, .ref ma14, .int mn15, .int mn16, .int mn17, .int mn18, .int mn19, .int mn20, .ref ma21, .ref ma22, .ref ma23, .ref ma24, .int mn25, .ref ma26, .ref ma27, .ref ma28, .ref ma29, .ref ma30, .ref ma31, .ref ma32, .ref ma33, .ref ma34, .ref ma35, .ref ma36, .int mn37, .int mn38, .int mn39, .ref ma40, .ref ma41, .ref ma42, .int mn43, .int mn44, .ref ma45, .ref ma46, .ref ma47, .int mn48, .ref ma49, .ref ma50, .ref ma51, .ref ma52])), (ma1, .inl (K 1, 262, .inl mf1))]) [0, 1] rfl) 0 11 rfl rfl rfl hl.1 rfl (Nat.le_of_ble_eq_true rfl) (by decide) (by decide) dX12_asksRead_8 (fun r13442 hq => ?_)
    rcases hq with rfl | rfl
    · refine lv_if_ne (tgt := 17) hx hb dX12_asksRead_11 (by decide) (fun h => absurd h (by decide)) (fun _ => ?_)
      refine lv_bipush (v := (-2)) hx hb dX12_asksRead_14 (by decide) ?_
      exact ro_ret hC hr hk dX12_asksRead_16 (Or.inl rfl)
    · refine lv_if_ne (tgt := 17) hx hb dX12_asksRead_11 (by decide) (fun _ => ?_) (fun h => absurd h (by decide))
      refine lv_aload_n hx hb dX12_asksRead_17 rfl (lv_at hl 0 rfl) ?_
      refine va_get (D := D) (ci := 11) (v := .ref ma49) (C := RX12) (T := TX12) (N := 53) hx hb hts in_X12 hown hE.1 hP 0 rfl rfl 49 (by decide) (hts _ w_999) (fun _ h9 => h9) rfl dX12_asksRead_18 ?_
      refine lv_iload_n hx hb dX12_asksRead_21 rfl (lv_at hl 1 rfl) ?_
      refine va_iald hx hb hE.1 hP 2 1 rfl rfl (vp_in_iff.mpr (by omega)) dX12_asksRead_22 ?_
      refine lv_topi (fun v13443 ev13443 => ?_)
      have zv13443 : v13443.toInt = (mf49 p0.toInt.toNat).toInt := by rw [ev13443]; rfl
      have tv13443 := rg_at hs49_0 ev13443 (in_lt (i := p0) (vp_in_iff.mpr (by omega)))
      refine lv_iconst (v := (-1)) hx hb dX12_asksRead_23 (by decide) ?_
      refine lv_icmp_ne (tgt := 30) hx hb dX12_asksRead_24 (by decide) (fun c13444 => ?_) (fun c13444 => ?_)
      · replace c13444 := ne_i c13444
        refine lv_aload_n hx hb dX12_asksRead_30 rfl (lv_at hl 0 rfl) ?_
        refine va_get (D := D) (ci := 11) (v := .ref ma49) (C := RX12) (T := TX12) (N := 53) hx hb hts in_X12 hown hE.1 hP 0 rfl rfl 49 (by decide) (hts _ w_999) (fun _ h9 => h9) rfl dX12_asksRead_31 ?_
        refine lv_iload_n hx hb dX12_asksRead_34 rfl (lv_at hl 1 rfl) ?_
        refine va_iald hx hb hE.1 hP 2 1 rfl rfl (vp_in_iff.mpr (by omega)) dX12_asksRead_35 ?_
        refine lv_topi (fun v13445 ev13445 => ?_)
        have zv13445 : v13445.toInt = (mf49 p0.toInt.toNat).toInt := by rw [ev13445]; rfl
        have tv13445 := rg_at hs49_0 ev13445 (in_lt (i := p0) (vp_in_iff.mpr (by omega)))
        refine lv_iconst (v := 2) hx hb dX12_asksRead_36 (by decide) ?_
        refine lv_irem hx hb dX12_asksRead_37 (by decide) ?_
        refine lv_topi (fun v13446 ev13446 => ?_)
        have tv13446 := rem_i (n := 2) ev13446 (by decide) (by decide)
        refine lv_if_eq (tgt := 44) hx hb dX12_asksRead_38 (by decide) (fun c13447 => ?_) (fun c13447 => ?_)
        · replace c13447 := eq_i c13447
          refine lv_iconst (v := 0) hx hb dX12_asksRead_44 (by decide) ?_
          refine lv_istore_n (lv' := [(2, .int 0), (0, .ref md), (1, .int p0)]) hx hb dX12_asksRead_45 rfl hl (by decide) rfl (fun ls hl => ?_)
          have hl' := hl; clear hl
          obtain ⟨i13465, hi_46, hk_46, hv_46, hl⟩ : ∃ (i13465 : Int32), ((0 : Int) ≤ i13465.toInt) ∧ (i13465.toInt % 2 = 0) ∧ (RN mf51 p0.toInt i13465.toInt) ∧ lv_has ls 3 [(2, .int i13465), (0, .ref md), (1, .int p0)] := ⟨_, by omega, by omega, rn_0 (by omega), hl'⟩
          clear hl'
          obtain ⟨n_46, hn_46⟩ : ∃ n : Nat, (60 - i13465.toInt).toNat < n := ⟨_, Nat.lt_succ_self _⟩
          induction n_46 generalizing i13465 ls with
          | zero => exact absurd hn_46 (Nat.not_lt_zero _)
          | succ n_46 ih_46 =>
            refine lv_iload_n hx hb dX12_asksRead_46 rfl (lv_at hl 0 rfl) ?_
            refine lv_aload_n hx hb dX12_asksRead_47 rfl (lv_at hl 1 rfl) ?_
            refine va_get (D := D) (ci := 11) (v := .ref ma49) (C := RX12) (T := TX12) (N := 53) hx hb hts in_X12 hown hE.1 hP 0 rfl rfl 49 (by decide) (hts _ w_999) (fun _ h9 => h9) rfl dX12_asksRead_48 ?_
            refine lv_iload_n hx hb dX12_asksRead_51 rfl (lv_at hl 2 rfl) ?_
            refine va_iald hx hb hE.1 hP 2 1 rfl rfl (vp_in_iff.mpr (by omega)) dX12_asksRead_52 ?_
            refine lv_topi (fun v13466 ev13466 => ?_)
            have zv13466 : v13466.toInt = (mf49 p0.toInt.toNat).toInt := by rw [ev13466]; rfl
            have tv13466 := rg_at hs49_0 ev13466 (in_lt (i := p0) (vp_in_iff.mpr (by omega)))
            refine lv_icmp_ge (tgt := 99) hx hb dX12_asksRead_53 (by decide) (fun c13467 => ?_) (fun c13467 => ?_)
            · replace c13467 := le_i c13467
              refine lv_iconst (v := 0) hx hb dX12_asksRead_99 (by decide) ?_
              exact ro_ret hC hr hk dX12_asksRead_100 (Or.inr (Or.inr ⟨rfl, (by omega), (by omega), (by omega), (by omega), (by omega), (rn_le hv_46 (by omega))⟩))
            · replace c13467 := nle_i c13467
              refine lv_aload_n hx hb dX12_asksRead_56 rfl (lv_at hl 1 rfl) ?_
              refine lv_iload_n hx hb dX12_asksRead_57 rfl (lv_at hl 2 rfl) ?_
              refine lv_iload_n hx hb dX12_asksRead_58 rfl (lv_at hl 0 rfl) ?_
              refine rol_V (As := [.int p0, .int i13465]) (rest := []) hC hE kV_X12_337 (c_X12_numberAt l D K md ma1 ma2 ma3 ma4 ma6 ma14 ma21 ma22 ma23 ma24 ma26 ma27 ma28 ma29 ma30 ma31 ma32 ma33 ma34 ma35 ma36 ma40 ma41 ma42 ma45 ma46 ma47 ma49 ma50 ma51 ma52 mn0 mn5 mn7 mn8 mn9 mn10 mn11 mn12 mn13 mn15 mn16 mn17 mn18 mn19 mn20 mn25 mn37 mn38 mn39 mn43 mn44 mn48 mf51 p0 i13465 (by omega) (by omega)) (hP.sub (ws' := [(md, .inr (11, [.int mn0, .ref ma1, .ref ma2, .ref ma3, .ref ma4, .int mn5, .ref ma6, .int mn7, .int mn8, .int mn9, .int mn10, .int mn11, .int mn12, .int mn13, .ref ma14, .int mn15, .int mn16, .int mn17, .int mn18, .int mn19, .int mn20, .ref ma21, .ref ma22, .ref ma23, .ref ma24, .int mn25, .ref ma26, .ref ma27, .ref ma28, .ref ma29, .ref ma30, .ref ma31, .ref ma32, .ref ma33, .ref ma34, .ref ma35, .ref ma36, .int mn37, .int mn38, .int mn39, .ref ma40, .ref ma41, .ref ma42, .int mn43, .int mn44, .ref ma45, .ref ma46, .ref ma47, .int mn48, .ref ma49, .ref ma50, .ref ma51, .ref ma52])), (ma51, .inl (K 2, 240, .inr (.inl mf51)))]) [0, 3] rfl) 0 11 rfl rfl rfl hl.1 rfl (Nat.le_of_ble_eq_true rfl) (by decide) (by decide) dX12_asksRead_59 (fun r13469 hq => ?_)
              have h13468 := hq
              refine lv_lconst (v := 0) hx hb dX12_asksRead_62 (by decide) ?_
              refine lv_ldc2 (v := 4) hx hb hown (hts _ w_1075) dX12_asksRead_63 ?_
              refine ro_S (As := [.long r13469, .long 0, .long 4]) (rest := []) hC hE kS_X12_115 (c_X12_in l D K r13469 0 4) (hP.sub (ws' := []) [] rfl) rfl hl.1 rfl (Nat.le_of_ble_eq_true rfl) (by decide) (by decide) dX12_asksRead_66 (fun r13473 hq => ?_)
              rcases hq with ⟨rfl, h13470⟩ | ⟨rfl, h13471, h13472⟩
              · refine lv_if_eq (tgt := 90) hx hb dX12_asksRead_69 (by decide) (fun _ => ?_) (fun h => absurd h (by decide))
                refine lv_bipush (v := (-2)) hx hb dX12_asksRead_90 (by decide) ?_
                exact ro_ret hC hr hk dX12_asksRead_92 (Or.inl rfl)
              · refine lv_if_eq (tgt := 90) hx hb dX12_asksRead_69 (by decide) (fun h => absurd h (by decide)) (fun _ => ?_)
                refine lv_aload_n hx hb dX12_asksRead_72 rfl (lv_at hl 1 rfl) ?_
                refine lv_iload_n hx hb dX12_asksRead_73 rfl (lv_at hl 2 rfl) ?_
                refine lv_iload_n hx hb dX12_asksRead_74 rfl (lv_at hl 0 rfl) ?_
                refine lv_iconst (v := 1) hx hb dX12_asksRead_75 (by decide) ?_
                refine lv_iadd hx hb dX12_asksRead_76 ?_
                refine lv_topi (fun v13474 ev13474 => ?_)
                have tv13474 : v13474.toInt = (i13465 : Int32).toInt + (1 : Int32).toInt := add_i ev13474 (by omega) (by omega)
                refine rol_V (As := [.int p0, .int v13474]) (rest := []) hC hE kV_X12_337 (c_X12_numberAt l D K md ma1 ma2 ma3 ma4 ma6 ma14 ma21 ma22 ma23 ma24 ma26 ma27 ma28 ma29 ma30 ma31 ma32 ma33 ma34 ma35 ma36 ma40 ma41 ma42 ma45 ma46 ma47 ma49 ma50 ma51 ma52 mn0 mn5 mn7 mn8 mn9 mn10 mn11 mn12 mn13 mn15 mn16 mn17 mn18 mn19 mn20 mn25 mn37 mn38 mn39 mn43 mn44 mn48 mf51 p0 v13474 (by omega) (by omega)) (hP.sub (ws' := [(md, .inr (11, [.int mn0, .ref ma1, .ref ma2, .ref ma3, .ref ma4, .int mn5, .ref ma6, .int mn7, .int mn8, .int mn9, .int mn10, .int mn11, .int mn12, .int mn13, .ref ma14, .int mn15, .int mn16, .int mn17, .int mn18, .int mn19, .int mn20, .ref ma21, .ref ma22, .ref ma23, .ref ma24, .int mn25, .ref ma26, .ref ma27, .ref ma28, .ref ma29, .ref ma30, .ref ma31, .ref ma32, .ref ma33, .ref ma34, .ref ma35, .ref ma36, .int mn37, .int mn38, .int mn39, .ref ma40, .ref ma41, .ref ma42, .int mn43, .int mn44, .ref ma45, .ref ma46, .ref ma47, .int mn48, .ref ma49, .ref ma50, .ref ma51, .ref ma52])), (ma51, .inl (K 2, 240, .inr (.inl mf51)))]) [0, 3] rfl) 0 11 rfl rfl rfl hl.1 rfl (Nat.le_of_ble_eq_true rfl) (by decide) (by decide) dX12_asksRead_77 (fun r13476 hq => ?_)
                have h13475 := hq
                refine lv_lconst (v := 0) hx hb dX12_asksRead_80 (by decide) ?_
                refine lv_ldc2 (v := 9) hx hb hown (hts _ w_947) dX12_asksRead_81 ?_
                refine ro_S (As := [.long r13476, .long 0, .long 9]) (rest := []) hC hE kS_X12_115 (c_X12_in l D K r13476 0 9) (hP.sub (ws' := []) [] rfl) rfl hl.1 rfl (Nat.le_of_ble_eq_true rfl) (by decide) (by decide) dX12_asksRead_84 (fun r13480 hq => ?_)
                rcases hq with ⟨rfl, h13477⟩ | ⟨rfl, h13478, h13479⟩
                · refine lv_if_ne (tgt := 93) hx hb dX12_asksRead_87 (by decide) (fun h => absurd h (by decide)) (fun _ => ?_)
                  refine lv_bipush (v := (-2)) hx hb dX12_asksRead_90 (by decide) ?_
                  exact ro_ret hC hr hk dX12_asksRead_92 (Or.inl rfl)
                · refine lv_if_ne (tgt := 93) hx hb dX12_asksRead_87 (by decide) (fun _ => ?_) (fun h => absurd h (by decide))
                  obtain ⟨v13481, ev13481⟩ : ∃ z : Int32, z = i13465 + 2 := ⟨_, rfl⟩
                  refine lv_iinc (v := v13481) (lv' := [(2, .int v13481), (0, .ref md), (1, .int p0)]) hx hb dX12_asksRead_93 hl (k := 0) rfl (by rw [ev13481]; rfl) (by decide) rfl (fun ls hl => ?_)
                  refine lv_goto (tgt := 46) hx hb dX12_asksRead_96 (by decide) ?_
                  have tv13481 : v13481.toInt = (i13465 : Int32).toInt + (2 : Int32).toInt := add_i ev13481 (by omega) (by omega)
                  exact ih_46 (i13465 := v13481) (hi_46 := by omega) (hk_46 := by omega) (hv_46 := rn_more hv_46 (by omega) (by omega) h13468 (by omega) (by omega) (by omega)) (ls := ls) (hn_46 := by omega) (hl := lv_sub hl [0, 1, 2] rfl)
        · replace c13447 := ne_i c13447
          refine lv_bipush (v := (-2)) hx hb dX12_asksRead_41 (by decide) ?_
          exact ro_ret hC hr hk dX12_asksRead_43 (Or.inl rfl)
      · replace c13444 := eq_i c13444
        refine lv_bipush (v := (-6)) hx hb dX12_asksRead_27 (by decide) ?_
        exact ro_ret hC hr hk dX12_asksRead_29 (Or.inr (Or.inl rfl))
set_option maxRecDepth 40000 in
set_option maxHeartbeats 4000000 in
theorem c_X12_readFrom (l : Launch) (D : va_G) (K : Nat → ClassId) (md : Nat) (ma1 : Nat) (ma2 : Nat) (ma3 : Nat) (ma4 : Nat) (ma6 : Nat) (ma14 : Nat) (ma21 : Nat) (ma22 : Nat) (ma23 : Nat) (ma24 : Nat) (ma26 : Nat) (ma27 : Nat) (ma28 : Nat) (ma29 : Nat) (ma30 : Nat) (ma31 : Nat) (ma32 : Nat) (ma33 : Nat) (ma34 : Nat) (ma35 : Nat) (ma36 : Nat) (ma40 : Nat) (ma41 : Nat) (ma42 : Nat) (ma45 : Nat) (ma46 : Nat) (ma47 : Nat) (ma49 : Nat) (ma50 : Nat) (ma51 : Nat) (ma52 : Nat) (mn0 : Int32) (mn5 : Int32) (mn7 : Int32) (mn8 : Int32) (mn9 : Int32) (mn10 : Int32) (mn11 : Int32) (mn12 : Int32) (mn13 : Int32) (mn15 : Int32) (mn16 : Int32) (mn17 : Int32) (mn18 : Int32) (mn19 : Int32) (mn20 : Int32) (mn25 : Int32) (mn37 : Int32) (mn38 : Int32) (mn39 : Int32) (mn43 : Int32) (mn44 : Int32) (mn48 : Int32) (mf1 : Nat → Int32) (mf49 : Nat → Int32) (mf51 : Nat → Int64) (p0 : Int32) (p1 : Int32) (hs1_0 : GW mf1) (hs49_0 : Rg (-1) 60 4 mf49) (ha0 : 0 ≤ p0.toInt ∧ p0.toInt ≤ 3) (hev : (mf49 p0.toInt.toNat).toInt % 2 = 0 ∧ 0 ≤ (mf49 p0.toInt.toNat).toInt ∧ (mf49 p0.toInt.toNat).toInt ≤ 60) (hrn : RN mf51 p0.toInt (mf49 p0.toInt.toNat).toInt) : Ro l D K yX12_readFrom cX12_readFrom 6 (some .int) 2 46 [.ref md, .int p0, .int p1] [(md, .inr (11, [.int mn0, .ref ma1, .ref ma2, .ref ma3, .ref ma4, .int mn5, .ref ma6, .int mn7, .int mn8, .int mn9, .int mn10, .int mn11, .int mn12, .int mn13, .ref ma14, .int mn15, .int mn16, .int mn17, .int mn18, .int mn19, .int mn20, .ref ma21, .ref ma22, .ref ma23, .ref ma24, .int mn25, .ref ma26, .ref ma27, .ref ma28, .ref ma29, .ref ma30, .ref ma31, .ref ma32, .ref ma33, .ref ma34, .ref ma35, .ref ma36, .int mn37, .int mn38, .int mn39, .ref ma40, .ref ma41, .ref ma42, .int mn43, .int mn44, .ref ma45, .ref ma46, .ref ma47, .int mn48, .ref ma49, .ref ma50, .ref ma51, .ref ma52])), (ma1, .inl (K 1, 262, .inl mf1)), (ma49, .inl (K 1, 4, .inl mf49)), (ma51, .inl (K 2, 240, .inr (.inl mf51)))] (fun _ => True) := by
  refine ro_of (by decide) (Nat.le_of_ble_eq_true rfl) ?_
  intro p e s m below meth c hC hr hk hE hP ls hl
  replace hC : CallFix p m c cX12_readFrom 6 s [.ref md, .int p0, .int p1].toArray wl RX12 := hC
  have hx := hC.1
  have hb := hC.2.1
  have hml := hC.2.2.1
  have hown := hC.2.2.2.1
  have hts := hC.2.2.2.2
  replace hl : lv_has ls 6 [(0, .ref md), (1, .int p0), (2, .int p1)] := hl
  have kc_0 : (0 : Int32).toInt = 0 := by decide
  have kc_1 : (1 : Int32).toInt = 1 := by decide
  have kc_2 : (2 : Int32).toInt = 2 := by decide
  have kc_4 : (4 : Int32).toInt = 4 := by decide
  have hW0 := gwn_0 hs1_0; have hW1 := gwn_1 hs1_0; have hW2 := gwn_2 hs1_0; have hW4 := gwn_4 hs1_0
  refine lv_iload_n hx hb dX12_readFrom_0 rfl (lv_at hl 2 rfl) ?_
  refine lv_istore_n (lv' := [(3, .int p1), (0, .ref md), (1, .int p0), (2, .int p1)]) hx hb dX12_readFrom_1 rfl hl (by decide) rfl (fun ls hl => ?_)
  refine lv_iconst (v := 0) hx hb dX12_readFrom_2 (by decide) ?_
  refine lv_istore (lv' := [(4, .int 0), (3, .int p1), (0, .ref md), (1, .int p0), (2, .int p1)]) hx hb dX12_readFrom_3 hl (by decide) rfl (fun ls hl => ?_)
  have hl' := hl; clear hl
  obtain ⟨i13512, i13513, hi_5, hk_5, hl⟩ : ∃ (i13512 : Int32) (i13513 : Int32), ((0 : Int) ≤ i13512.toInt) ∧ (i13512.toInt % 2 = 0) ∧ lv_has ls 6 [(4, .int i13512), (3, .int i13513), (0, .ref md), (1, .int p0), (2, .int p1)] := ⟨_, _, by omega, by omega, hl'⟩
  clear hl'
  obtain ⟨n_5, hn_5⟩ : ∃ n : Nat, (60 - i13512.toInt).toNat < n := ⟨_, Nat.lt_succ_self _⟩
  induction n_5 generalizing i13512 i13513 ls with
  | zero => exact absurd hn_5 (Nat.not_lt_zero _)
  | succ n_5 ih_5 =>
    refine lv_iload hx hb dX12_readFrom_5 (lv_at hl 0 rfl) ?_
    refine lv_aload_n hx hb dX12_readFrom_7 rfl (lv_at hl 2 rfl) ?_
    refine va_get (D := D) (ci := 11) (v := .ref ma49) (C := RX12) (T := TX12) (N := 53) hx hb hts in_X12 hown hE.1 hP 0 rfl rfl 49 (by decide) (hts _ w_999) (fun _ h9 => h9) rfl dX12_readFrom_8 ?_
    refine lv_iload_n hx hb dX12_readFrom_11 rfl (lv_at hl 3 rfl) ?_
    refine va_iald hx hb hE.1 hP 2 1 rfl rfl (vp_in_iff.mpr (by omega)) dX12_readFrom_12 ?_
    refine lv_topi (fun v13514 ev13514 => ?_)
    have zv13514 : v13514.toInt = (mf49 p0.toInt.toNat).toInt := by rw [ev13514]; rfl
    have tv13514 := rg_at hs49_0 ev13514 (in_lt (i := p0) (vp_in_iff.mpr (by omega)))
    refine lv_icmp_ge (tgt := 64) hx hb dX12_readFrom_13 (by decide) (fun c13515 => ?_) (fun c13515 => ?_)
    · replace c13515 := le_i c13515
      refine lv_iload_n hx hb dX12_readFrom_64 rfl (lv_at hl 1 rfl) ?_
      exact ro_ret hC hr hk dX12_readFrom_65 trivial
    · replace c13515 := nle_i c13515
      refine lv_aload_n hx hb dX12_readFrom_16 rfl (lv_at hl 2 rfl) ?_
      refine lv_iload_n hx hb dX12_readFrom_17 rfl (lv_at hl 3 rfl) ?_
      refine lv_iload hx hb dX12_readFrom_18 (lv_at hl 0 rfl) ?_
      refine rol_V (As := [.int p0, .int i13512]) (rest := []) hC hE kV_X12_337 (c_X12_numberAt l D K md ma1 ma2 ma3 ma4 ma6 ma14 ma21 ma22 ma23 ma24 ma26 ma27 ma28 ma29 ma30 ma31 ma32 ma33 ma34 ma35 ma36 ma40 ma41 ma42 ma45 ma46 ma47 ma49 ma50 ma51 ma52 mn0 mn5 mn7 mn8 mn9 mn10 mn11 mn12 mn13 mn15 mn16 mn17 mn18 mn19 mn20 mn25 mn37 mn38 mn39 mn43 mn44 mn48 mf51 p0 i13512 (by omega) (by omega)) (hP.sub (ws' := [(md, .inr (11, [.int mn0, .ref ma1, .ref ma2, .ref ma3, .ref ma4, .int mn5, .ref ma6, .int mn7, .int mn8, .int mn9, .int mn10, .int mn11, .int mn12, .int mn13, .ref ma14, .int mn15, .int mn16, .int mn17, .int mn18, .int mn19, .int mn20, .ref ma21, .ref ma22, .ref ma23, .ref ma24, .int mn25, .ref ma26, .ref ma27, .ref ma28, .ref ma29, .ref ma30, .ref ma31, .ref ma32, .ref ma33, .ref ma34, .ref ma35, .ref ma36, .int mn37, .int mn38, .int mn39, .ref ma40, .ref ma41, .ref ma42, .int mn43, .int mn44, .ref ma45, .ref ma46, .ref ma47, .int mn48, .ref ma49, .ref ma50, .ref ma51, .ref ma52])), (ma51, .inl (K 2, 240, .inr (.inl mf51)))]) [0, 3] rfl) 0 11 rfl rfl rfl hl.1 rfl (Nat.le_of_ble_eq_true rfl) (by decide) (by decide) dX12_readFrom_20 (fun r13517 hq => ?_)
      have h13516 := hq
      have wr13517 := rn_at hrn (by omega) (by omega) (by omega) h13516
      refine lv_l2i hx hb dX12_readFrom_23 rfl ?_
      refine lv_topi (fun v13518 ev13518 => ?_)
      refine lv_istore (lv' := [(5, .int v13518), (4, .int i13512), (3, .int i13513), (0, .ref md), (1, .int p0), (2, .int p1)]) hx hb dX12_readFrom_24 hl (by decide) rfl (fun ls hl => ?_)
      refine lv_aload_n hx hb dX12_readFrom_26 rfl (lv_at hl 3 rfl) ?_
      refine lv_iload hx hb dX12_readFrom_27 (lv_at hl 0 rfl) ?_
      refine lv_iconst (v := 4) hx hb dX12_readFrom_29 (by decide) ?_
      refine lv_icmp_ne (tgt := 37) hx hb dX12_readFrom_30 (by decide) (fun c13519 => ?_) (fun c13519 => ?_)
      · replace c13519 := ne_i c13519
        refine lv_aload_n hx hb dX12_readFrom_37 rfl (lv_at hl 3 rfl) ?_
        refine lv_iload_n hx hb dX12_readFrom_38 rfl (lv_at hl 2 rfl) ?_
        refine lv_iload hx hb dX12_readFrom_39 (lv_at hl 0 rfl) ?_
        have tv13518 : v13518.toInt = r13517.toInt := l2i_i ev13518 (by omega) (by omega)
        refine ro_V (As := [.int i13513, .int v13518]) (rest := [.ref md]) hC hE kV_X12_286 (c_X12_becomesOf l D K md ma1 ma2 ma3 ma4 ma6 ma14 ma21 ma22 ma23 ma24 ma26 ma27 ma28 ma29 ma30 ma31 ma32 ma33 ma34 ma35 ma36 ma40 ma41 ma42 ma45 ma46 ma47 ma49 ma50 ma51 ma52 mn0 mn5 mn7 mn8 mn9 mn10 mn11 mn12 mn13 mn15 mn16 mn17 mn18 mn19 mn20 mn25 mn37 mn38 mn39 mn43 mn44 mn48 mf1 i13513 v13518 hs1_0 (by omega)) (hP.sub (ws' := [(md, .inr (11, [.int mn0, .ref ma1, .ref ma2, .ref ma3, .ref ma4, .int mn5, .ref ma6, .int mn7, .int mn8, .int mn9, .int mn10, .int mn11, .int mn12, .int mn13, .ref ma14, .int mn15, .int mn16, .int mn17, .int mn18, .int mn19, .int mn20, .ref ma21, .ref ma22, .ref ma23, .ref ma24, .int mn25, .ref ma26, .ref ma27, .ref ma28, .ref ma29, .ref ma30, .ref ma31, .ref ma32, .ref ma33, .ref ma34, .ref ma35, .ref ma36, .int mn37, .int mn38, .int mn39, .ref ma40, .ref ma41, .ref ma42, .int mn43, .int mn44, .ref ma45, .ref ma46, .ref ma47, .int mn48, .ref ma49, .ref ma50, .ref ma51, .ref ma52])), (ma1, .inl (K 1, 262, .inl mf1))]) [0, 1] rfl) 0 11 rfl rfl rfl hl.1 rfl (Nat.le_of_ble_eq_true rfl) (by decide) (by decide) dX12_readFrom_41 (fun r13523 hq => ?_)
        obtain ⟨h13520, h13521, h13522⟩ := hq
        refine lv_aload_n hx hb dX12_readFrom_44 rfl (lv_at hl 3 rfl) ?_
        refine lv_iload_n hx hb dX12_readFrom_45 rfl (lv_at hl 4 rfl) ?_
        refine lv_iload hx hb dX12_readFrom_46 (lv_at hl 1 rfl) ?_
        refine lv_iconst (v := 1) hx hb dX12_readFrom_48 (by decide) ?_
        refine lv_iadd hx hb dX12_readFrom_49 ?_
        refine lv_topi (fun v13524 ev13524 => ?_)
        have tv13524 : v13524.toInt = (i13512 : Int32).toInt + (1 : Int32).toInt := add_i ev13524 (by omega) (by omega)
        refine rol_V (As := [.int p0, .int v13524]) (rest := [.int r13523, .ref md]) hC hE kV_X12_337 (c_X12_numberAt l D K md ma1 ma2 ma3 ma4 ma6 ma14 ma21 ma22 ma23 ma24 ma26 ma27 ma28 ma29 ma30 ma31 ma32 ma33 ma34 ma35 ma36 ma40 ma41 ma42 ma45 ma46 ma47 ma49 ma50 ma51 ma52 mn0 mn5 mn7 mn8 mn9 mn10 mn11 mn12 mn13 mn15 mn16 mn17 mn18 mn19 mn20 mn25 mn37 mn38 mn39 mn43 mn44 mn48 mf51 p0 v13524 (by omega) (by omega)) (hP.sub (ws' := [(md, .inr (11, [.int mn0, .ref ma1, .ref ma2, .ref ma3, .ref ma4, .int mn5, .ref ma6, .int mn7, .int mn8, .int mn9, .int mn10, .int mn11, .int mn12, .int mn13, .ref ma14, .int mn15, .int mn16, .int mn17, .int mn18, .int mn19, .int mn20, .ref ma21, .ref ma22, .ref ma23, .ref ma24, .int mn25, .ref ma26, .ref ma27, .ref ma28, .ref ma29, .ref ma30, .ref ma31, .ref ma32, .ref ma33, .ref ma34, .ref ma35, .ref ma36, .int mn37, .int mn38, .int mn39, .ref ma40, .ref ma41, .ref ma42, .int mn43, .int mn44, .ref ma45, .ref ma46, .ref ma47, .int mn48, .ref ma49, .ref ma50, .ref ma51, .ref ma52])), (ma51, .inl (K 2, 240, .inr (.inl mf51)))]) [0, 3] rfl) 0 11 rfl rfl rfl hl.1 rfl (Nat.le_of_ble_eq_true rfl) (by decide) (by decide) dX12_readFrom_50 (fun r13526 hq => ?_)
        have h13525 := hq
        refine lv_l2i hx hb dX12_readFrom_53 rfl ?_
        refine lv_topi (fun v13527 ev13527 => ?_)
        refine ro_V (As := [.int r13523, .int v13527]) (rest := []) hC hE kV_X12_291 (c_X12_seenOf l D K md ma1 ma2 ma3 ma4 ma6 ma14 ma21 ma22 ma23 ma24 ma26 ma27 ma28 ma29 ma30 ma31 ma32 ma33 ma34 ma35 ma36 ma40 ma41 ma42 ma45 ma46 ma47 ma49 ma50 ma51 ma52 mn0 mn5 mn7 mn8 mn9 mn10 mn11 mn12 mn13 mn15 mn16 mn17 mn18 mn19 mn20 mn25 mn37 mn38 mn39 mn43 mn44 mn48 mf1 r13523 v13527 hs1_0) (hP.sub (ws' := [(md, .inr (11, [.int mn0, .ref ma1, .ref ma2, .ref ma3, .ref ma4, .int mn5, .ref ma6, .int mn7, .int mn8, .int mn9, .int mn10, .int mn11, .int mn12, .int mn13, .ref ma14, .int mn15, .int mn16, .int mn17, .int mn18, .int mn19, .int mn20, .ref ma21, .ref ma22, .ref ma23, .ref ma24, .int mn25, .ref ma26, .ref ma27, .ref ma28, .ref ma29, .ref ma30, .ref ma31, .ref ma32, .ref ma33, .ref ma34, .ref ma35, .ref ma36, .int mn37, .int mn38, .int mn39, .ref ma40, .ref ma41, .ref ma42, .int mn43, .int mn44, .ref ma45, .ref ma46, .ref ma47, .int mn48, .ref ma49, .ref ma50, .ref ma51, .ref ma52])), (ma1, .inl (K 1, 262, .inl mf1))]) [0, 1] rfl) 0 11 rfl rfl rfl hl.1 rfl (Nat.le_of_ble_eq_true rfl) (by decide) (by decide) dX12_readFrom_54 (fun r13531 hq => ?_)
        obtain ⟨h13528, h13529, h13530⟩ := hq
        refine lv_istore_n (lv' := [(3, .int r13531), (5, .int v13518), (4, .int i13512), (0, .ref md), (1, .int p0), (2, .int p1)]) hx hb dX12_readFrom_57 rfl hl (by decide) rfl (fun ls hl => ?_)
        obtain ⟨v13532, ev13532⟩ : ∃ z : Int32, z = i13512 + 2 := ⟨_, rfl⟩
        refine lv_iinc (v := v13532) (lv' := [(4, .int v13532), (3, .int r13531), (5, .int v13518), (0, .ref md), (1, .int p0), (2, .int p1)]) hx hb dX12_readFrom_58 hl (k := 2) rfl (by rw [ev13532]; rfl) (by decide) rfl (fun ls hl => ?_)
        refine lv_goto (tgt := 5) hx hb dX12_readFrom_61 (by decide) ?_
        have tv13532 : v13532.toInt = (i13512 : Int32).toInt + (2 : Int32).toInt := add_i ev13532 (by omega) (by omega)
        exact ih_5 (i13512 := v13532) (i13513 := r13531) (hi_5 := by omega) (hk_5 := by omega) (ls := ls) (hn_5 := by omega) (hl := lv_sub hl [0, 1, 3, 4, 5] rfl)
      · replace c13519 := eq_i c13519
        refine lv_iload_n hx hb dX12_readFrom_33 rfl (lv_at hl 2 rfl) ?_
        refine lv_goto (tgt := 44) hx hb dX12_readFrom_34 (by decide) ?_
        refine lv_aload_n hx hb dX12_readFrom_44 rfl (lv_at hl 3 rfl) ?_
        refine lv_iload_n hx hb dX12_readFrom_45 rfl (lv_at hl 4 rfl) ?_
        refine lv_iload hx hb dX12_readFrom_46 (lv_at hl 1 rfl) ?_
        refine lv_iconst (v := 1) hx hb dX12_readFrom_48 (by decide) ?_
        refine lv_iadd hx hb dX12_readFrom_49 ?_
        refine lv_topi (fun v13533 ev13533 => ?_)
        have tv13533 : v13533.toInt = (i13512 : Int32).toInt + (1 : Int32).toInt := add_i ev13533 (by omega) (by omega)
        refine rol_V (As := [.int p0, .int v13533]) (rest := [.int i13513, .ref md]) hC hE kV_X12_337 (c_X12_numberAt l D K md ma1 ma2 ma3 ma4 ma6 ma14 ma21 ma22 ma23 ma24 ma26 ma27 ma28 ma29 ma30 ma31 ma32 ma33 ma34 ma35 ma36 ma40 ma41 ma42 ma45 ma46 ma47 ma49 ma50 ma51 ma52 mn0 mn5 mn7 mn8 mn9 mn10 mn11 mn12 mn13 mn15 mn16 mn17 mn18 mn19 mn20 mn25 mn37 mn38 mn39 mn43 mn44 mn48 mf51 p0 v13533 (by omega) (by omega)) (hP.sub (ws' := [(md, .inr (11, [.int mn0, .ref ma1, .ref ma2, .ref ma3, .ref ma4, .int mn5, .ref ma6, .int mn7, .int mn8, .int mn9, .int mn10, .int mn11, .int mn12, .int mn13, .ref ma14, .int mn15, .int mn16, .int mn17, .int mn18, .int mn19, .int mn20, .ref ma21, .ref ma22, .ref ma23, .ref ma24, .int mn25, .ref ma26, .ref ma27, .ref ma28, .ref ma29, .ref ma30, .ref ma31, .ref ma32, .ref ma33, .ref ma34, .ref ma35, .ref ma36, .int mn37, .int mn38, .int mn39, .ref ma40, .ref ma41, .ref ma42, .int mn43, .int mn44, .ref ma45, .ref ma46, .ref ma47, .int mn48, .ref ma49, .ref ma50, .ref ma51, .ref ma52])), (ma51, .inl (K 2, 240, .inr (.inl mf51)))]) [0, 3] rfl) 0 11 rfl rfl rfl hl.1 rfl (Nat.le_of_ble_eq_true rfl) (by decide) (by decide) dX12_readFrom_50 (fun r13535 hq => ?_)
        have h13534 := hq
        refine lv_l2i hx hb dX12_readFrom_53 rfl ?_
        refine lv_topi (fun v13536 ev13536 => ?_)
        refine ro_V (As := [.int i13513, .int v13536]) (rest := []) hC hE kV_X12_291 (c_X12_seenOf l D K md ma1 ma2 ma3 ma4 ma6 ma14 ma21 ma22 ma23 ma24 ma26 ma27 ma28 ma29 ma30 ma31 ma32 ma33 ma34 ma35 ma36 ma40 ma41 ma42 ma45 ma46 ma47 ma49 ma50 ma51 ma52 mn0 mn5 mn7 mn8 mn9 mn10 mn11 mn12 mn13 mn15 mn16 mn17 mn18 mn19 mn20 mn25 mn37 mn38 mn39 mn43 mn44 mn48 mf1 i13513 v13536 hs1_0) (hP.sub (ws' := [(md, .inr (11, [.int mn0, .ref ma1, .ref ma2, .ref ma3, .ref ma4, .int mn5, .ref ma6, .int mn7, .int mn8, .int mn9, .int mn10, .int mn11, .int mn12, .int mn13, .ref ma14, .int mn15, .int mn16, .int mn17, .int mn18, .int mn19, .int mn20, .ref ma21, .ref ma22, .ref ma23, .ref ma24, .int mn25, .ref ma26, .ref ma27, .ref ma28, .ref ma29, .ref ma30, .ref ma31, .ref ma32, .ref ma33, .ref ma34, .ref ma35, .ref ma36, .int mn37, .int mn38, .int mn39, .ref ma40, .ref ma41, .ref ma42, .int mn43, .int mn44, .ref ma45, .ref ma46, .ref ma47, .int mn48, .ref ma49, .ref ma50, .ref ma51, .ref ma52])), (ma1, .inl (K 1, 262, .inl mf1))]) [0, 1] rfl) 0 11 rfl rfl rfl hl.1 rfl (Nat.le_of_ble_eq_true rfl) (by decide) (by decide) dX12_readFrom_54 (fun r13540 hq => ?_)
        obtain ⟨h13537, h13538, h13539⟩ := hq
        refine lv_istore_n (lv' := [(3, .int r13540), (5, .int v13518), (4, .int i13512), (0, .ref md), (1, .int p0), (2, .int p1)]) hx hb dX12_readFrom_57 rfl hl (by decide) rfl (fun ls hl => ?_)
        obtain ⟨v13541, ev13541⟩ : ∃ z : Int32, z = i13512 + 2 := ⟨_, rfl⟩
        refine lv_iinc (v := v13541) (lv' := [(4, .int v13541), (3, .int r13540), (5, .int v13518), (0, .ref md), (1, .int p0), (2, .int p1)]) hx hb dX12_readFrom_58 hl (k := 2) rfl (by rw [ev13541]; rfl) (by decide) rfl (fun ls hl => ?_)
        refine lv_goto (tgt := 5) hx hb dX12_readFrom_61 (by decide) ?_
        have tv13541 : v13541.toInt = (i13512 : Int32).toInt + (2 : Int32).toInt := add_i ev13541 (by omega) (by omega)
        exact ih_5 (i13512 := v13541) (i13513 := r13540) (hi_5 := by omega) (hk_5 := by omega) (ls := ls) (hn_5 := by omega) (hl := lv_sub hl [0, 1, 3, 4, 5] rfl)
set_option maxRecDepth 40000 in
set_option maxHeartbeats 4000000 in
theorem c_X12_read (l : Launch) (D : va_G) (K : Nat → ClassId) (md : Nat) (ma1 : Nat) (ma2 : Nat) (ma3 : Nat) (ma4 : Nat) (ma6 : Nat) (ma14 : Nat) (ma21 : Nat) (ma22 : Nat) (ma23 : Nat) (ma24 : Nat) (ma26 : Nat) (ma27 : Nat) (ma28 : Nat) (ma29 : Nat) (ma30 : Nat) (ma31 : Nat) (ma32 : Nat) (ma33 : Nat) (ma34 : Nat) (ma35 : Nat) (ma36 : Nat) (ma40 : Nat) (ma41 : Nat) (ma42 : Nat) (ma45 : Nat) (ma46 : Nat) (ma47 : Nat) (ma49 : Nat) (ma50 : Nat) (ma51 : Nat) (ma52 : Nat) (mn0 : Int32) (mn5 : Int32) (mn7 : Int32) (mn8 : Int32) (mn9 : Int32) (mn10 : Int32) (mn11 : Int32) (mn12 : Int32) (mn13 : Int32) (mn15 : Int32) (mn16 : Int32) (mn17 : Int32) (mn18 : Int32) (mn19 : Int32) (mn20 : Int32) (mn25 : Int32) (mn37 : Int32) (mn38 : Int32) (mn39 : Int32) (mn43 : Int32) (mn44 : Int32) (mn48 : Int32) (mf1 : Nat → Int32) (mf49 : Nat → Int32) (mf51 : Nat → Int64) (p0 : Int32) (hs1_0 : GW mf1) (hs49_0 : Rg (-1) 60 4 mf49) : Ro l D K yX12_read cX12_read 3 (some .int) 3 71 [.ref md, .int p0] [(md, .inr (11, [.int mn0, .ref ma1, .ref ma2, .ref ma3, .ref ma4, .int mn5, .ref ma6, .int mn7, .int mn8, .int mn9, .int mn10, .int mn11, .int mn12, .int mn13, .ref ma14, .int mn15, .int mn16, .int mn17, .int mn18, .int mn19, .int mn20, .ref ma21, .ref ma22, .ref ma23, .ref ma24, .int mn25, .ref ma26, .ref ma27, .ref ma28, .ref ma29, .ref ma30, .ref ma31, .ref ma32, .ref ma33, .ref ma34, .ref ma35, .ref ma36, .int mn37, .int mn38, .int mn39, .ref ma40, .ref ma41, .ref ma42, .int mn43, .int mn44, .ref ma45, .ref ma46, .ref ma47, .int mn48, .ref ma49, .ref ma50, .ref ma51, .ref ma52])), (ma1, .inl (K 1, 262, .inl mf1)), (ma49, .inl (K 1, 4, .inl mf49)), (ma51, .inl (K 2, 240, .inr (.inl mf51)))] (fun _ => True) := by
  refine ro_of (by decide) (Nat.le_of_ble_eq_true rfl) ?_
  intro p e s m below meth c hC hr hk hE hP ls hl
  replace hC : CallFix p m c cX12_read 3 s [.ref md, .int p0].toArray wl RX12 := hC
  have hx := hC.1
  have hb := hC.2.1
  have hml := hC.2.2.1
  have hown := hC.2.2.2.1
  have hts := hC.2.2.2.2
  replace hl : lv_has ls 3 [(0, .ref md), (1, .int p0)] := hl
  have hW0 := gwn_0 hs1_0; have hW1 := gwn_1 hs1_0; have hW2 := gwn_2 hs1_0; have hW4 := gwn_4 hs1_0
  refine lv_aload_n hx hb dX12_read_0 rfl (lv_at hl 0 rfl) ?_
  refine lv_iload_n hx hb dX12_read_1 rfl (lv_at hl 1 rfl) ?_
  refine ro_V (As := [.int p0]) (rest := []) hC hE kV_X12_426 (c_X12_asksRead l D K md ma1 ma2 ma3 ma4 ma6 ma14 ma21 ma22 ma23 ma24 ma26 ma27 ma28 ma29 ma30 ma31 ma32 ma33 ma34 ma35 ma36 ma40 ma41 ma42 ma45 ma46 ma47 ma49 ma50 ma51 ma52 mn0 mn5 mn7 mn8 mn9 mn10 mn11 mn12 mn13 mn15 mn16 mn17 mn18 mn19 mn20 mn25 mn37 mn38 mn39 mn43 mn44 mn48 mf1 mf49 mf51 p0 hs1_0 hs49_0) (hP.sub (ws' := [(md, .inr (11, [.int mn0, .ref ma1, .ref ma2, .ref ma3, .ref ma4, .int mn5, .ref ma6, .int mn7, .int mn8, .int mn9, .int mn10, .int mn11, .int mn12, .int mn13, .ref ma14, .int mn15, .int mn16, .int mn17, .int mn18, .int mn19, .int mn20, .ref ma21, .ref ma22, .ref ma23, .ref ma24, .int mn25, .ref ma26, .ref ma27, .ref ma28, .ref ma29, .ref ma30, .ref ma31, .ref ma32, .ref ma33, .ref ma34, .ref ma35, .ref ma36, .int mn37, .int mn38, .int mn39, .ref ma40, .ref ma41, .ref ma42, .int mn43, .int mn44, .ref ma45, .ref ma46, .ref ma47, .int mn48, .ref ma49, .ref ma50, .ref ma51, .ref ma52])), (ma1, .inl (K 1, 262, .inl mf1)), (ma49, .inl (K 1, 4, .inl mf49)), (ma51, .inl (K 2, 240, .inr (.inl mf51)))]) [0, 1, 2, 3] rfl) 0 11 rfl rfl rfl hl.1 rfl (Nat.le_of_ble_eq_true rfl) (by decide) (by decide) dX12_read_2 (fun r13548 hq => ?_)
  rcases hq with rfl | rfl | ⟨rfl, h13542, h13543, h13544, h13545, h13546, h13547⟩
  · refine lv_istore_n (lv' := [(2, .int (-2)), (0, .ref md), (1, .int p0)]) hx hb dX12_read_5 rfl hl (by decide) rfl (fun ls hl => ?_)
    refine lv_iload_n hx hb dX12_read_6 rfl (lv_at hl 0 rfl) ?_
    refine lv_if_ge (tgt := 14) hx hb dX12_read_7 (by decide) (fun h => absurd h (by decide)) (fun _ => ?_)
    refine lv_iload_n hx hb dX12_read_10 rfl (lv_at hl 0 rfl) ?_
    refine lv_goto (tgt := 23) hx hb dX12_read_11 (by decide) ?_
    exact ro_ret hC hr hk dX12_read_23 trivial
  · refine lv_istore_n (lv' := [(2, .int (-6)), (0, .ref md), (1, .int p0)]) hx hb dX12_read_5 rfl hl (by decide) rfl (fun ls hl => ?_)
    refine lv_iload_n hx hb dX12_read_6 rfl (lv_at hl 0 rfl) ?_
    refine lv_if_ge (tgt := 14) hx hb dX12_read_7 (by decide) (fun h => absurd h (by decide)) (fun _ => ?_)
    refine lv_iload_n hx hb dX12_read_10 rfl (lv_at hl 0 rfl) ?_
    refine lv_goto (tgt := 23) hx hb dX12_read_11 (by decide) ?_
    exact ro_ret hC hr hk dX12_read_23 trivial
  · refine lv_istore_n (lv' := [(2, .int 0), (0, .ref md), (1, .int p0)]) hx hb dX12_read_5 rfl hl (by decide) rfl (fun ls hl => ?_)
    refine lv_iload_n hx hb dX12_read_6 rfl (lv_at hl 0 rfl) ?_
    refine lv_if_ge (tgt := 14) hx hb dX12_read_7 (by decide) (fun _ => ?_) (fun h => absurd h (by decide))
    refine lv_aload_n hx hb dX12_read_14 rfl (lv_at hl 1 rfl) ?_
    refine lv_iload_n hx hb dX12_read_15 rfl (lv_at hl 2 rfl) ?_
    refine lv_aload_n hx hb dX12_read_16 rfl (lv_at hl 1 rfl) ?_
    refine ro_V (As := []) (rest := [.int p0, .ref md]) hC hE kV_X12_129 (c_X12_allPlaces l D K md ma1 ma2 ma3 ma4 ma6 ma14 ma21 ma22 ma23 ma24 ma26 ma27 ma28 ma29 ma30 ma31 ma32 ma33 ma34 ma35 ma36 ma40 ma41 ma42 ma45 ma46 ma47 ma49 ma50 ma51 ma52 mn0 mn5 mn7 mn8 mn9 mn10 mn11 mn12 mn13 mn15 mn16 mn17 mn18 mn19 mn20 mn25 mn37 mn38 mn39 mn43 mn44 mn48 mf1 hs1_0) (hP.sub (ws' := [(md, .inr (11, [.int mn0, .ref ma1, .ref ma2, .ref ma3, .ref ma4, .int mn5, .ref ma6, .int mn7, .int mn8, .int mn9, .int mn10, .int mn11, .int mn12, .int mn13, .ref ma14, .int mn15, .int mn16, .int mn17, .int mn18, .int mn19, .int mn20, .ref ma21, .ref ma22, .ref ma23, .ref ma24, .int mn25, .ref ma26, .ref ma27, .ref ma28, .ref ma29, .ref ma30, .ref ma31, .ref ma32, .ref ma33, .ref ma34, .ref ma35, .ref ma36, .int mn37, .int mn38, .int mn39, .ref ma40, .ref ma41, .ref ma42, .int mn43, .int mn44, .ref ma45, .ref ma46, .ref ma47, .int mn48, .ref ma49, .ref ma50, .ref ma51, .ref ma52])), (ma1, .inl (K 1, 262, .inl mf1))]) [0, 1] rfl) 0 11 rfl rfl rfl hl.1 rfl (Nat.le_of_ble_eq_true rfl) (by decide) (by decide) dX12_read_17 (fun r13551 hq => ?_)
    obtain ⟨h13549, h13550⟩ := hq
    refine ro_V (As := [.int p0, .int r13551]) (rest := []) hC hE kV_X12_429 (c_X12_readFrom l D K md ma1 ma2 ma3 ma4 ma6 ma14 ma21 ma22 ma23 ma24 ma26 ma27 ma28 ma29 ma30 ma31 ma32 ma33 ma34 ma35 ma36 ma40 ma41 ma42 ma45 ma46 ma47 ma49 ma50 ma51 ma52 mn0 mn5 mn7 mn8 mn9 mn10 mn11 mn12 mn13 mn15 mn16 mn17 mn18 mn19 mn20 mn25 mn37 mn38 mn39 mn43 mn44 mn48 mf1 mf49 mf51 p0 r13551 hs1_0 hs49_0 (by omega) (by omega) h13547) (hP.sub (ws' := [(md, .inr (11, [.int mn0, .ref ma1, .ref ma2, .ref ma3, .ref ma4, .int mn5, .ref ma6, .int mn7, .int mn8, .int mn9, .int mn10, .int mn11, .int mn12, .int mn13, .ref ma14, .int mn15, .int mn16, .int mn17, .int mn18, .int mn19, .int mn20, .ref ma21, .ref ma22, .ref ma23, .ref ma24, .int mn25, .ref ma26, .ref ma27, .ref ma28, .ref ma29, .ref ma30, .ref ma31, .ref ma32, .ref ma33, .ref ma34, .ref ma35, .ref ma36, .int mn37, .int mn38, .int mn39, .ref ma40, .ref ma41, .ref ma42, .int mn43, .int mn44, .ref ma45, .ref ma46, .ref ma47, .int mn48, .ref ma49, .ref ma50, .ref ma51, .ref ma52])), (ma1, .inl (K 1, 262, .inl mf1)), (ma49, .inl (K 1, 4, .inl mf49)), (ma51, .inl (K 2, 240, .inr (.inl mf51)))]) [0, 1, 2, 3] rfl) 0 11 rfl rfl rfl hl.1 rfl (Nat.le_of_ble_eq_true rfl) (by decide) (by decide) dX12_read_20 (fun r13552 _ => ?_)
    exact ro_ret hC hr hk dX12_read_23 trivial
set_option maxRecDepth 40000 in
set_option maxHeartbeats 4000000 in
theorem c_X12_began (l : Launch) (D : va_G) (K : Nat → ClassId) (md : Nat) (ma1 : Nat) (ma2 : Nat) (ma3 : Nat) (ma4 : Nat) (ma6 : Nat) (ma14 : Nat) (ma21 : Nat) (ma22 : Nat) (ma23 : Nat) (ma24 : Nat) (ma26 : Nat) (ma27 : Nat) (ma28 : Nat) (ma29 : Nat) (ma30 : Nat) (ma31 : Nat) (ma32 : Nat) (ma33 : Nat) (ma34 : Nat) (ma35 : Nat) (ma36 : Nat) (ma40 : Nat) (ma41 : Nat) (ma42 : Nat) (ma45 : Nat) (ma46 : Nat) (ma47 : Nat) (ma49 : Nat) (ma50 : Nat) (ma51 : Nat) (ma52 : Nat) (mn0 : Int32) (mn5 : Int32) (mn7 : Int32) (mn8 : Int32) (mn9 : Int32) (mn10 : Int32) (mn11 : Int32) (mn12 : Int32) (mn13 : Int32) (mn15 : Int32) (mn16 : Int32) (mn17 : Int32) (mn18 : Int32) (mn19 : Int32) (mn20 : Int32) (mn25 : Int32) (mn37 : Int32) (mn38 : Int32) (mn39 : Int32) (mn43 : Int32) (mn44 : Int32) (mn48 : Int32) (mf1 : Nat → Int32) (mf49 : Nat → Int32) (mf51 : Nat → Int64) (p0 : Int32) (hs1_0 : GW mf1) (hs49_0 : Rg (-1) 60 4 mf49) : Ro l D K yX12_began cX12_began 5 (some .int) 3 71 [.ref md, .int p0] [(md, .inr (11, [.int mn0, .ref ma1, .ref ma2, .ref ma3, .ref ma4, .int mn5, .ref ma6, .int mn7, .int mn8, .int mn9, .int mn10, .int mn11, .int mn12, .int mn13, .ref ma14, .int mn15, .int mn16, .int mn17, .int mn18, .int mn19, .int mn20, .ref ma21, .ref ma22, .ref ma23, .ref ma24, .int mn25, .ref ma26, .ref ma27, .ref ma28, .ref ma29, .ref ma30, .ref ma31, .ref ma32, .ref ma33, .ref ma34, .ref ma35, .ref ma36, .int mn37, .int mn38, .int mn39, .ref ma40, .ref ma41, .ref ma42, .int mn43, .int mn44, .ref ma45, .ref ma46, .ref ma47, .int mn48, .ref ma49, .ref ma50, .ref ma51, .ref ma52])), (ma1, .inl (K 1, 262, .inl mf1)), (ma49, .inl (K 1, 4, .inl mf49)), (ma51, .inl (K 2, 240, .inr (.inl mf51)))] (fun _ => True) := by
  refine ro_of (by decide) (Nat.le_of_ble_eq_true rfl) ?_
  intro p e s m below meth c hC hr hk hE hP ls hl
  replace hC : CallFix p m c cX12_began 5 s [.ref md, .int p0].toArray wl RX12 := hC
  have hx := hC.1
  have hb := hC.2.1
  have hml := hC.2.2.1
  have hown := hC.2.2.2.1
  have hts := hC.2.2.2.2
  replace hl : lv_has ls 5 [(0, .ref md), (1, .int p0)] := hl
  have kc_0 : (0 : Int32).toInt = 0 := by decide
  have kc_1 : (1 : Int32).toInt = 1 := by decide
  have hW0 := gwn_0 hs1_0; have hW1 := gwn_1 hs1_0; have hW2 := gwn_2 hs1_0; have hW4 := gwn_4 hs1_0
  refine lv_aload_n hx hb dX12_began_0 rfl (lv_at hl 0 rfl) ?_
  refine lv_iload_n hx hb dX12_began_1 rfl (lv_at hl 1 rfl) ?_
  refine ro_V (As := [.int p0]) (rest := []) hC hE kV_X12_426 (c_X12_asksRead l D K md ma1 ma2 ma3 ma4 ma6 ma14 ma21 ma22 ma23 ma24 ma26 ma27 ma28 ma29 ma30 ma31 ma32 ma33 ma34 ma35 ma36 ma40 ma41 ma42 ma45 ma46 ma47 ma49 ma50 ma51 ma52 mn0 mn5 mn7 mn8 mn9 mn10 mn11 mn12 mn13 mn15 mn16 mn17 mn18 mn19 mn20 mn25 mn37 mn38 mn39 mn43 mn44 mn48 mf1 mf49 mf51 p0 hs1_0 hs49_0) (hP.sub (ws' := [(md, .inr (11, [.int mn0, .ref ma1, .ref ma2, .ref ma3, .ref ma4, .int mn5, .ref ma6, .int mn7, .int mn8, .int mn9, .int mn10, .int mn11, .int mn12, .int mn13, .ref ma14, .int mn15, .int mn16, .int mn17, .int mn18, .int mn19, .int mn20, .ref ma21, .ref ma22, .ref ma23, .ref ma24, .int mn25, .ref ma26, .ref ma27, .ref ma28, .ref ma29, .ref ma30, .ref ma31, .ref ma32, .ref ma33, .ref ma34, .ref ma35, .ref ma36, .int mn37, .int mn38, .int mn39, .ref ma40, .ref ma41, .ref ma42, .int mn43, .int mn44, .ref ma45, .ref ma46, .ref ma47, .int mn48, .ref ma49, .ref ma50, .ref ma51, .ref ma52])), (ma1, .inl (K 1, 262, .inl mf1)), (ma49, .inl (K 1, 4, .inl mf49)), (ma51, .inl (K 2, 240, .inr (.inl mf51)))]) [0, 1, 2, 3] rfl) 0 11 rfl rfl rfl hl.1 rfl (Nat.le_of_ble_eq_true rfl) (by decide) (by decide) dX12_began_2 (fun r13559 hq => ?_)
  rcases hq with rfl | rfl | ⟨rfl, h13553, h13554, h13555, h13556, h13557, h13558⟩
  · refine lv_istore_n (lv' := [(2, .int (-2)), (0, .ref md), (1, .int p0)]) hx hb dX12_began_5 rfl hl (by decide) rfl (fun ls hl => ?_)
    refine lv_iload_n hx hb dX12_began_6 rfl (lv_at hl 0 rfl) ?_
    refine lv_if_ge (tgt := 12) hx hb dX12_began_7 (by decide) (fun h => absurd h (by decide)) (fun _ => ?_)
    refine lv_iload_n hx hb dX12_began_10 rfl (lv_at hl 0 rfl) ?_
    exact ro_ret hC hr hk dX12_began_11 trivial
  · refine lv_istore_n (lv' := [(2, .int (-6)), (0, .ref md), (1, .int p0)]) hx hb dX12_began_5 rfl hl (by decide) rfl (fun ls hl => ?_)
    refine lv_iload_n hx hb dX12_began_6 rfl (lv_at hl 0 rfl) ?_
    refine lv_if_ge (tgt := 12) hx hb dX12_began_7 (by decide) (fun h => absurd h (by decide)) (fun _ => ?_)
    refine lv_iload_n hx hb dX12_began_10 rfl (lv_at hl 0 rfl) ?_
    exact ro_ret hC hr hk dX12_began_11 trivial
  · refine lv_istore_n (lv' := [(2, .int 0), (0, .ref md), (1, .int p0)]) hx hb dX12_began_5 rfl hl (by decide) rfl (fun ls hl => ?_)
    refine lv_iload_n hx hb dX12_began_6 rfl (lv_at hl 0 rfl) ?_
    refine lv_if_ge (tgt := 12) hx hb dX12_began_7 (by decide) (fun _ => ?_) (fun h => absurd h (by decide))
    refine lv_iconst (v := 0) hx hb dX12_began_12 (by decide) ?_
    refine lv_istore_n (lv' := [(3, .int 0), (2, .int 0), (0, .ref md), (1, .int p0)]) hx hb dX12_began_13 rfl hl (by decide) rfl (fun ls hl => ?_)
    refine lv_iconst (v := 0) hx hb dX12_began_14 (by decide) ?_
    refine lv_istore (lv' := [(4, .int 0), (3, .int 0), (2, .int 0), (0, .ref md), (1, .int p0)]) hx hb dX12_began_15 hl (by decide) rfl (fun ls hl => ?_)
    have hl' := hl; clear hl
    obtain ⟨i13572, i13573, hi_17, hl⟩ : ∃ (i13572 : Int32) (i13573 : Int32), ((0 : Int) ≤ i13572.toInt) ∧ lv_has ls 5 [(4, .int i13572), (3, .int i13573), (2, .int 0), (0, .ref md), (1, .int p0)] := ⟨_, _, by omega, hl'⟩
    clear hl'
    obtain ⟨n_17, hn_17⟩ : ∃ n : Nat, (10 - i13572.toInt).toNat < n := ⟨_, Nat.lt_succ_self _⟩
    induction n_17 generalizing i13572 i13573 ls with
    | zero => exact absurd hn_17 (Nat.not_lt_zero _)
    | succ n_17 ih_17 =>
      refine lv_iload hx hb dX12_began_17 (lv_at hl 0 rfl) ?_
      refine lv_aload_n hx hb dX12_began_19 rfl (lv_at hl 3 rfl) ?_
      refine va_get (D := D) (ci := 11) (v := .ref ma1) (C := RX12) (T := TX12) (N := 53) hx hb hts in_X12 hown hE.1 hP 0 rfl rfl 1 (by decide) (hts _ w_821) (fun _ h9 => h9) rfl dX12_began_20 ?_
      refine lv_iconst (v := 0) hx hb dX12_began_23 (by decide) ?_
      refine va_iald hx hb hE.1 hP 1 1 rfl rfl (in_c (by decide)) dX12_began_24 ?_
      refine lv_topi (fun v13574 ev13574 => ?_)
      have tv13574 := gw_0 hs1_0 ev13574
      have zv13574 : v13574.toInt = (mf1 0).toInt := by rw [ev13574]; rfl
      refine lv_icmp_ge (tgt := 57) hx hb dX12_began_25 (by decide) (fun c13575 => ?_) (fun c13575 => ?_)
      · replace c13575 := le_i c13575
        refine lv_iload_n hx hb dX12_began_57 rfl (lv_at hl 1 rfl) ?_
        exact ro_ret hC hr hk dX12_began_58 trivial
      · replace c13575 := nle_i c13575
        refine lv_iload_n hx hb dX12_began_28 rfl (lv_at hl 1 rfl) ?_
        refine lv_aload_n hx hb dX12_began_29 rfl (lv_at hl 3 rfl) ?_
        refine lv_iload_n hx hb dX12_began_30 rfl (lv_at hl 4 rfl) ?_
        refine lv_iconst (v := 1) hx hb dX12_began_31 (by decide) ?_
        refine lv_iload hx hb dX12_began_32 (lv_at hl 0 rfl) ?_
        refine lv_ishl hx hb dX12_began_34 ?_
        refine lv_topi (fun v13576 ev13576 => ?_)
        have tv13576 := shl1_b ev13576 (by omega) (by omega)
        refine ro_V (As := [.int p0, .int v13576]) (rest := [.int i13573]) hC hE kV_X12_429 (c_X12_readFrom l D K md ma1 ma2 ma3 ma4 ma6 ma14 ma21 ma22 ma23 ma24 ma26 ma27 ma28 ma29 ma30 ma31 ma32 ma33 ma34 ma35 ma36 ma40 ma41 ma42 ma45 ma46 ma47 ma49 ma50 ma51 ma52 mn0 mn5 mn7 mn8 mn9 mn10 mn11 mn12 mn13 mn15 mn16 mn17 mn18 mn19 mn20 mn25 mn37 mn38 mn39 mn43 mn44 mn48 mf1 mf49 mf51 p0 v13576 hs1_0 hs49_0 (by omega) (by omega) h13558) (hP.sub (ws' := [(md, .inr (11, [.int mn0, .ref ma1, .ref ma2, .ref ma3, .ref ma4, .int mn5, .ref ma6, .int mn7, .int mn8, .int mn9, .int mn10, .int mn11, .int mn12, .int mn13, .ref ma14, .int mn15, .int mn16, .int mn17, .int mn18, .int mn19, .int mn20, .ref ma21, .ref ma22, .ref ma23, .ref ma24, .int mn25, .ref ma26, .ref ma27, .ref ma28, .ref ma29, .ref ma30, .ref ma31, .ref ma32, .ref ma33, .ref ma34, .ref ma35, .ref ma36, .int mn37, .int mn38, .int mn39, .ref ma40, .ref ma41, .ref ma42, .int mn43, .int mn44, .ref ma45, .ref ma46, .ref ma47, .int mn48, .ref ma49, .ref ma50, .ref ma51, .ref ma52])), (ma1, .inl (K 1, 262, .inl mf1)), (ma49, .inl (K 1, 4, .inl mf49)), (ma51, .inl (K 2, 240, .inr (.inl mf51)))]) [0, 1, 2, 3] rfl) 0 11 rfl rfl rfl hl.1 rfl (Nat.le_of_ble_eq_true rfl) (by decide) (by decide) dX12_began_35 (fun r13577 _ => ?_)
        refine lv_if_eq (tgt := 48) hx hb dX12_began_38 (by decide) (fun c13578 => ?_) (fun c13578 => ?_)
        · replace c13578 := eq_i c13578
          refine lv_iconst (v := 0) hx hb dX12_began_48 (by decide) ?_
          refine lv_ior hx hb dX12_began_49 ?_
          refine lv_topi (fun v13579 ev13579 => ?_)
          refine lv_istore_n (lv' := [(3, .int v13579), (4, .int i13572), (2, .int 0), (0, .ref md), (1, .int p0)]) hx hb dX12_began_50 rfl hl (by decide) rfl (fun ls hl => ?_)
          obtain ⟨v13580, ev13580⟩ : ∃ z : Int32, z = i13572 + 1 := ⟨_, rfl⟩
          refine lv_iinc (v := v13580) (lv' := [(4, .int v13580), (3, .int v13579), (2, .int 0), (0, .ref md), (1, .int p0)]) hx hb dX12_began_51 hl (k := 1) rfl (by rw [ev13580]; rfl) (by decide) rfl (fun ls hl => ?_)
          refine lv_goto (tgt := 17) hx hb dX12_began_54 (by decide) ?_
          have tv13580 : v13580.toInt = (i13572 : Int32).toInt + (1 : Int32).toInt := add_i ev13580 (by omega) (by omega)
          exact ih_17 (i13572 := v13580) (i13573 := v13579) (hi_17 := by omega) (ls := ls) (hn_17 := by omega) (hl := lv_sub hl [0, 1, 2, 3, 4] rfl)
        · replace c13578 := ne_i c13578
          refine lv_iconst (v := 1) hx hb dX12_began_41 (by decide) ?_
          refine lv_iload hx hb dX12_began_42 (lv_at hl 0 rfl) ?_
          refine lv_ishl hx hb dX12_began_44 ?_
          refine lv_topi (fun v13581 ev13581 => ?_)
          refine lv_goto (tgt := 49) hx hb dX12_began_45 (by decide) ?_
          refine lv_ior hx hb dX12_began_49 ?_
          refine lv_topi (fun v13582 ev13582 => ?_)
          refine lv_istore_n (lv' := [(3, .int v13582), (4, .int i13572), (2, .int 0), (0, .ref md), (1, .int p0)]) hx hb dX12_began_50 rfl hl (by decide) rfl (fun ls hl => ?_)
          obtain ⟨v13583, ev13583⟩ : ∃ z : Int32, z = i13572 + 1 := ⟨_, rfl⟩
          refine lv_iinc (v := v13583) (lv' := [(4, .int v13583), (3, .int v13582), (2, .int 0), (0, .ref md), (1, .int p0)]) hx hb dX12_began_51 hl (k := 1) rfl (by rw [ev13583]; rfl) (by decide) rfl (fun ls hl => ?_)
          refine lv_goto (tgt := 17) hx hb dX12_began_54 (by decide) ?_
          have tv13583 : v13583.toInt = (i13572 : Int32).toInt + (1 : Int32).toInt := add_i ev13583 (by omega) (by omega)
          exact ih_17 (i13572 := v13583) (i13573 := v13582) (hi_17 := by omega) (ls := ls) (hn_17 := by omega) (hl := lv_sub hl [0, 1, 2, 3, 4] rfl)
set_option maxRecDepth 40000 in
set_option maxHeartbeats 4000000 in
theorem c_X12_worstBy (l : Launch) (D : va_G) (K : Nat → ClassId) (md : Nat) (ma1 : Nat) (ma2 : Nat) (ma3 : Nat) (ma4 : Nat) (ma6 : Nat) (ma14 : Nat) (ma21 : Nat) (ma22 : Nat) (ma23 : Nat) (ma24 : Nat) (ma26 : Nat) (ma27 : Nat) (ma28 : Nat) (ma29 : Nat) (ma30 : Nat) (ma31 : Nat) (ma32 : Nat) (ma33 : Nat) (ma34 : Nat) (ma35 : Nat) (ma36 : Nat) (ma40 : Nat) (ma41 : Nat) (ma42 : Nat) (ma45 : Nat) (ma46 : Nat) (ma47 : Nat) (ma49 : Nat) (ma50 : Nat) (ma51 : Nat) (ma52 : Nat) (mn0 : Int32) (mn5 : Int32) (mn7 : Int32) (mn8 : Int32) (mn9 : Int32) (mn10 : Int32) (mn11 : Int32) (mn12 : Int32) (mn13 : Int32) (mn15 : Int32) (mn16 : Int32) (mn17 : Int32) (mn18 : Int32) (mn19 : Int32) (mn20 : Int32) (mn25 : Int32) (mn37 : Int32) (mn38 : Int32) (mn39 : Int32) (mn43 : Int32) (mn44 : Int32) (mn48 : Int32) (mf1 : Nat → Int32) (p0 : Int32) (p1 : Int32) (hs1_0 : GW mf1) (ha1 : 0 ≤ p1.toInt ∧ p1.toInt ≤ 3) : Ro l D K yX12_worstBy cX12_worstBy 5 (some .int) 2 46 [.ref md, .int p0, .int p1] [(md, .inr (11, [.int mn0, .ref ma1, .ref ma2, .ref ma3, .ref ma4, .int mn5, .ref ma6, .int mn7, .int mn8, .int mn9, .int mn10, .int mn11, .int mn12, .int mn13, .ref ma14, .int mn15, .int mn16, .int mn17, .int mn18, .int mn19, .int mn20, .ref ma21, .ref ma22, .ref ma23, .ref ma24, .int mn25, .ref ma26, .ref ma27, .ref ma28, .ref ma29, .ref ma30, .ref ma31, .ref ma32, .ref ma33, .ref ma34, .ref ma35, .ref ma36, .int mn37, .int mn38, .int mn39, .ref ma40, .ref ma41, .ref ma42, .int mn43, .int mn44, .ref ma45, .ref ma46, .ref ma47, .int mn48, .ref ma49, .ref ma50, .ref ma51, .ref ma52])), (ma1, .inl (K 1, 262, .inl mf1))] (fun _ => True) := by
  refine ro_of (by decide) (Nat.le_of_ble_eq_true rfl) ?_
  intro p e s m below meth c hC hr hk hE hP ls hl
  replace hC : CallFix p m c cX12_worstBy 5 s [.ref md, .int p0, .int p1].toArray wl RX12 := hC
  have hx := hC.1
  have hb := hC.2.1
  have hml := hC.2.2.1
  have hown := hC.2.2.2.1
  have hts := hC.2.2.2.2
  replace hl : lv_has ls 5 [(0, .ref md), (1, .int p0), (2, .int p1)] := hl
  have kc_0 : (0 : Int32).toInt = 0 := by decide
  have kc_1 : (1 : Int32).toInt = 1 := by decide
  have kc_9 : (9 : Int32).toInt = 9 := by decide
  have hW0 := gwn_0 hs1_0; have hW1 := gwn_1 hs1_0; have hW2 := gwn_2 hs1_0; have hW4 := gwn_4 hs1_0
  refine lv_iconst (v := 0) hx hb dX12_worstBy_0 (by decide) ?_
  refine lv_istore_n (lv' := [(3, .int 0), (0, .ref md), (1, .int p0), (2, .int p1)]) hx hb dX12_worstBy_1 rfl hl (by decide) rfl (fun ls hl => ?_)
  refine lv_iconst (v := 0) hx hb dX12_worstBy_2 (by decide) ?_
  refine lv_istore (lv' := [(4, .int 0), (3, .int 0), (0, .ref md), (1, .int p0), (2, .int p1)]) hx hb dX12_worstBy_3 hl (by decide) rfl (fun ls hl => ?_)
  have hl' := hl; clear hl
  obtain ⟨i13598, i13599, hi_5, hl⟩ : ∃ (i13598 : Int32) (i13599 : Int32), ((0 : Int) ≤ i13598.toInt) ∧ lv_has ls 5 [(4, .int i13598), (3, .int i13599), (0, .ref md), (1, .int p0), (2, .int p1)] := ⟨_, _, by omega, hl'⟩
  clear hl'
  obtain ⟨n_5, hn_5⟩ : ∃ n : Nat, (10 - i13598.toInt).toNat < n := ⟨_, Nat.lt_succ_self _⟩
  induction n_5 generalizing i13598 i13599 ls with
  | zero => exact absurd hn_5 (Nat.not_lt_zero _)
  | succ n_5 ih_5 =>
    refine lv_iload hx hb dX12_worstBy_5 (lv_at hl 0 rfl) ?_
    refine lv_bipush (v := 9) hx hb dX12_worstBy_7 (by decide) ?_
    refine lv_icmp_gt (tgt := 38) hx hb dX12_worstBy_9 (by decide) (fun c13600 => ?_) (fun c13600 => ?_)
    · replace c13600 := lt_i c13600
      refine lv_iload_n hx hb dX12_worstBy_38 rfl (lv_at hl 1 rfl) ?_
      exact ro_ret hC hr hk dX12_worstBy_39 trivial
    · replace c13600 := nlt_i c13600
      refine lv_iload_n hx hb dX12_worstBy_12 rfl (lv_at hl 1 rfl) ?_
      refine lv_aload_n hx hb dX12_worstBy_13 rfl (lv_at hl 2 rfl) ?_
      refine lv_aload_n hx hb dX12_worstBy_14 rfl (lv_at hl 2 rfl) ?_
      refine lv_iload_n hx hb dX12_worstBy_15 rfl (lv_at hl 3 rfl) ?_
      refine lv_iload_n hx hb dX12_worstBy_16 rfl (lv_at hl 4 rfl) ?_
      refine ro_V (As := [.int p0, .int p1]) (rest := [.ref md, .int i13599]) hC hE kV_X12_286 (c_X12_becomesOf l D K md ma1 ma2 ma3 ma4 ma6 ma14 ma21 ma22 ma23 ma24 ma26 ma27 ma28 ma29 ma30 ma31 ma32 ma33 ma34 ma35 ma36 ma40 ma41 ma42 ma45 ma46 ma47 ma49 ma50 ma51 ma52 mn0 mn5 mn7 mn8 mn9 mn10 mn11 mn12 mn13 mn15 mn16 mn17 mn18 mn19 mn20 mn25 mn37 mn38 mn39 mn43 mn44 mn48 mf1 p0 p1 hs1_0 (by omega)) (hP.sub (ws' := [(md, .inr (11, [.int mn0, .ref ma1, .ref ma2, .ref ma3, .ref ma4, .int mn5, .ref ma6, .int mn7, .int mn8, .int mn9, .int mn10, .int mn11, .int mn12, .int mn13, .ref ma14, .int mn15, .int mn16, .int mn17, .int mn18, .int mn19, .int mn20, .ref ma21, .ref ma22, .ref ma23, .ref ma24, .int mn25, .ref ma26, .ref ma27, .ref ma28, .ref ma29, .ref ma30, .ref ma31, .ref ma32, .ref ma33, .ref ma34, .ref ma35, .ref ma36, .int mn37, .int mn38, .int mn39, .ref ma40, .ref ma41, .ref ma42, .int mn43, .int mn44, .ref ma45, .ref ma46, .ref ma47, .int mn48, .ref ma49, .ref ma50, .ref ma51, .ref ma52])), (ma1, .inl (K 1, 262, .inl mf1))]) [0, 1] rfl) 0 11 rfl rfl rfl hl.1 rfl (Nat.le_of_ble_eq_true rfl) (by decide) (by decide) dX12_worstBy_17 (fun r13604 hq => ?_)
      obtain ⟨h13601, h13602, h13603⟩ := hq
      refine lv_iload hx hb dX12_worstBy_20 (lv_at hl 0 rfl) ?_
      refine ro_V (As := [.int r13604, .int i13598]) (rest := [.int i13599]) hC hE kV_X12_291 (c_X12_seenOf l D K md ma1 ma2 ma3 ma4 ma6 ma14 ma21 ma22 ma23 ma24 ma26 ma27 ma28 ma29 ma30 ma31 ma32 ma33 ma34 ma35 ma36 ma40 ma41 ma42 ma45 ma46 ma47 ma49 ma50 ma51 ma52 mn0 mn5 mn7 mn8 mn9 mn10 mn11 mn12 mn13 mn15 mn16 mn17 mn18 mn19 mn20 mn25 mn37 mn38 mn39 mn43 mn44 mn48 mf1 r13604 i13598 hs1_0) (hP.sub (ws' := [(md, .inr (11, [.int mn0, .ref ma1, .ref ma2, .ref ma3, .ref ma4, .int mn5, .ref ma6, .int mn7, .int mn8, .int mn9, .int mn10, .int mn11, .int mn12, .int mn13, .ref ma14, .int mn15, .int mn16, .int mn17, .int mn18, .int mn19, .int mn20, .ref ma21, .ref ma22, .ref ma23, .ref ma24, .int mn25, .ref ma26, .ref ma27, .ref ma28, .ref ma29, .ref ma30, .ref ma31, .ref ma32, .ref ma33, .ref ma34, .ref ma35, .ref ma36, .int mn37, .int mn38, .int mn39, .ref ma40, .ref ma41, .ref ma42, .int mn43, .int mn44, .ref ma45, .ref ma46, .ref ma47, .int mn48, .ref ma49, .ref ma50, .ref ma51, .ref ma52])), (ma1, .inl (K 1, 262, .inl mf1))]) [0, 1] rfl) 0 11 rfl rfl rfl hl.1 rfl (Nat.le_of_ble_eq_true rfl) (by decide) (by decide) dX12_worstBy_22 (fun r13608 hq => ?_)
      obtain ⟨h13605, h13606, h13607⟩ := hq
      refine ro_S (As := [.int r13608]) (rest := [.int i13599]) hC hE kS_X12_316 (c_X12_bits l D K r13608) (hP.sub (ws' := []) [] rfl) rfl hl.1 rfl (Nat.le_of_ble_eq_true rfl) (by decide) (by decide) dX12_worstBy_25 (fun r13609 _ => ?_)
      refine va_mmax hx hb (hml.trans hl.1.symm) hown (hts _ w_990) (hts _ w_169) (hts _ w_143) (hts _ w_170) (by decide) (Nat.le_of_ble_eq_true rfl) (by decide) (by decide) dX12_worstBy_28 ?_
      refine lv_topi (fun v13610 ev13610 => ?_)
      have tv13610 := max_i ev13610
      refine lv_istore_n (lv' := [(3, .int v13610), (4, .int i13598), (0, .ref md), (1, .int p0), (2, .int p1)]) hx hb dX12_worstBy_31 rfl hl (by decide) rfl (fun ls hl => ?_)
      obtain ⟨v13611, ev13611⟩ : ∃ z : Int32, z = i13598 + 1 := ⟨_, rfl⟩
      refine lv_iinc (v := v13611) (lv' := [(4, .int v13611), (3, .int v13610), (0, .ref md), (1, .int p0), (2, .int p1)]) hx hb dX12_worstBy_32 hl (k := 1) rfl (by rw [ev13611]; rfl) (by decide) rfl (fun ls hl => ?_)
      refine lv_goto (tgt := 5) hx hb dX12_worstBy_35 (by decide) ?_
      have tv13611 : v13611.toInt = (i13598 : Int32).toInt + (1 : Int32).toInt := add_i ev13611 (by omega) (by omega)
      exact ih_5 (i13598 := v13611) (i13599 := v13610) (hi_5 := by omega) (ls := ls) (hn_5 := by omega) (hl := lv_sub hl [0, 1, 2, 3, 4] rfl)
set_option maxRecDepth 40000 in
set_option maxHeartbeats 4000000 in
theorem c_X12_askOf (l : Launch) (D : va_G) (K : Nat → ClassId) (md : Nat) (ma1 : Nat) (ma2 : Nat) (ma3 : Nat) (ma4 : Nat) (ma6 : Nat) (ma14 : Nat) (ma21 : Nat) (ma22 : Nat) (ma23 : Nat) (ma24 : Nat) (ma26 : Nat) (ma27 : Nat) (ma28 : Nat) (ma29 : Nat) (ma30 : Nat) (ma31 : Nat) (ma32 : Nat) (ma33 : Nat) (ma34 : Nat) (ma35 : Nat) (ma36 : Nat) (ma40 : Nat) (ma41 : Nat) (ma42 : Nat) (ma45 : Nat) (ma46 : Nat) (ma47 : Nat) (ma49 : Nat) (ma50 : Nat) (ma51 : Nat) (ma52 : Nat) (mn0 : Int32) (mn5 : Int32) (mn7 : Int32) (mn8 : Int32) (mn9 : Int32) (mn10 : Int32) (mn11 : Int32) (mn12 : Int32) (mn13 : Int32) (mn15 : Int32) (mn16 : Int32) (mn17 : Int32) (mn18 : Int32) (mn19 : Int32) (mn20 : Int32) (mn25 : Int32) (mn37 : Int32) (mn38 : Int32) (mn39 : Int32) (mn43 : Int32) (mn44 : Int32) (mn48 : Int32) (mf1 : Nat → Int32) (p0 : Int32) (hs1_0 : GW mf1) : Ro l D K yX12_askOf cX12_askOf 4 (some .int) 3 70 [.ref md, .int p0] [(md, .inr (11, [.int mn0, .ref ma1, .ref ma2, .ref ma3, .ref ma4, .int mn5, .ref ma6, .int mn7, .int mn8, .int mn9, .int mn10, .int mn11, .int mn12, .int mn13, .ref ma14, .int mn15, .int mn16, .int mn17, .int mn18, .int mn19, .int mn20, .ref ma21, .ref ma22, .ref ma23, .ref ma24, .int mn25, .ref ma26, .ref ma27, .ref ma28, .ref ma29, .ref ma30, .ref ma31, .ref ma32, .ref ma33, .ref ma34, .ref ma35, .ref ma36, .int mn37, .int mn38, .int mn39, .ref ma40, .ref ma41, .ref ma42, .int mn43, .int mn44, .ref ma45, .ref ma46, .ref ma47, .int mn48, .ref ma49, .ref ma50, .ref ma51, .ref ma52])), (ma1, .inl (K 1, 262, .inl mf1))] (fun r => ((0 ≤ r.toInt) ∧ (r.toInt ≤ 3))) := by
  refine ro_of (by decide) (Nat.le_of_ble_eq_true rfl) ?_
  intro p e s m below meth c hC hr hk hE hP ls hl
  replace hC : CallFix p m c cX12_askOf 4 s [.ref md, .int p0].toArray wl RX12 := hC
  have hx := hC.1
  have hb := hC.2.1
  have hml := hC.2.2.1
  have hown := hC.2.2.2.1
  have hts := hC.2.2.2.2
  replace hl : lv_has ls 4 [(0, .ref md), (1, .int p0)] := hl
  have kc_0 : (0 : Int32).toInt = 0 := by decide
  have kc_1 : (1 : Int32).toInt = 1 := by decide
  have kc_4 : (4 : Int32).toInt = 4 := by decide
  have hW0 := gwn_0 hs1_0; have hW1 := gwn_1 hs1_0; have hW2 := gwn_2 hs1_0; have hW4 := gwn_4 hs1_0
  refine lv_iconst (v := 0) hx hb dX12_askOf_0 (by decide) ?_
  refine lv_istore_n (lv' := [(2, .int 0), (0, .ref md), (1, .int p0)]) hx hb dX12_askOf_1 rfl hl (by decide) rfl (fun ls hl => ?_)
  refine lv_iconst (v := 1) hx hb dX12_askOf_2 (by decide) ?_
  refine lv_istore_n (lv' := [(3, .int 1), (2, .int 0), (0, .ref md), (1, .int p0)]) hx hb dX12_askOf_3 rfl hl (by decide) rfl (fun ls hl => ?_)
  have hl' := hl; clear hl
  obtain ⟨i13620, i13621, hi_4, hb_4, hl⟩ : ∃ (i13620 : Int32) (i13621 : Int32), ((1 : Int) ≤ i13620.toInt) ∧ (0 ≤ i13621.toInt ∧ i13621.toInt ≤ 3) ∧ lv_has ls 4 [(3, .int i13620), (2, .int i13621), (0, .ref md), (1, .int p0)] := ⟨_, _, by omega, by omega, hl'⟩
  clear hl'
  obtain ⟨n_4, hn_4⟩ : ∃ n : Nat, (4 - i13620.toInt).toNat < n := ⟨_, Nat.lt_succ_self _⟩
  induction n_4 generalizing i13620 i13621 ls with
  | zero => exact absurd hn_4 (Nat.not_lt_zero _)
  | succ n_4 ih_4 =>
    refine lv_iload_n hx hb dX12_askOf_4 rfl (lv_at hl 0 rfl) ?_
    refine lv_iconst (v := 4) hx hb dX12_askOf_5 (by decide) ?_
    refine lv_icmp_ge (tgt := 36) hx hb dX12_askOf_6 (by decide) (fun c13622 => ?_) (fun c13622 => ?_)
    · replace c13622 := le_i c13622
      refine lv_iload_n hx hb dX12_askOf_36 rfl (lv_at hl 1 rfl) ?_
      exact ro_ret hC hr hk dX12_askOf_37 ⟨(by omega), (by omega)⟩
    · replace c13622 := nle_i c13622
      refine lv_aload_n hx hb dX12_askOf_9 rfl (lv_at hl 2 rfl) ?_
      refine lv_iload_n hx hb dX12_askOf_10 rfl (lv_at hl 3 rfl) ?_
      refine lv_iload_n hx hb dX12_askOf_11 rfl (lv_at hl 0 rfl) ?_
      refine ro_V (As := [.int p0, .int i13620]) (rest := []) hC hE kV_X12_432 (c_X12_worstBy l D K md ma1 ma2 ma3 ma4 ma6 ma14 ma21 ma22 ma23 ma24 ma26 ma27 ma28 ma29 ma30 ma31 ma32 ma33 ma34 ma35 ma36 ma40 ma41 ma42 ma45 ma46 ma47 ma49 ma50 ma51 ma52 mn0 mn5 mn7 mn8 mn9 mn10 mn11 mn12 mn13 mn15 mn16 mn17 mn18 mn19 mn20 mn25 mn37 mn38 mn39 mn43 mn44 mn48 mf1 p0 i13620 hs1_0 (by omega)) (hP.sub (ws' := [(md, .inr (11, [.int mn0, .ref ma1, .ref ma2, .ref ma3, .ref ma4, .int mn5, .ref ma6, .int mn7, .int mn8, .int mn9, .int mn10, .int mn11, .int mn12, .int mn13, .ref ma14, .int mn15, .int mn16, .int mn17, .int mn18, .int mn19, .int mn20, .ref ma21, .ref ma22, .ref ma23, .ref ma24, .int mn25, .ref ma26, .ref ma27, .ref ma28, .ref ma29, .ref ma30, .ref ma31, .ref ma32, .ref ma33, .ref ma34, .ref ma35, .ref ma36, .int mn37, .int mn38, .int mn39, .ref ma40, .ref ma41, .ref ma42, .int mn43, .int mn44, .ref ma45, .ref ma46, .ref ma47, .int mn48, .ref ma49, .ref ma50, .ref ma51, .ref ma52])), (ma1, .inl (K 1, 262, .inl mf1))]) [0, 1] rfl) 0 11 rfl rfl rfl hl.1 rfl (Nat.le_of_ble_eq_true rfl) (by decide) (by decide) dX12_askOf_12 (fun r13623 _ => ?_)
      refine lv_aload_n hx hb dX12_askOf_15 rfl (lv_at hl 2 rfl) ?_
      refine lv_iload_n hx hb dX12_askOf_16 rfl (lv_at hl 3 rfl) ?_
      refine lv_iload_n hx hb dX12_askOf_17 rfl (lv_at hl 1 rfl) ?_
      refine ro_V (As := [.int p0, .int i13621]) (rest := [.int r13623]) hC hE kV_X12_432 (c_X12_worstBy l D K md ma1 ma2 ma3 ma4 ma6 ma14 ma21 ma22 ma23 ma24 ma26 ma27 ma28 ma29 ma30 ma31 ma32 ma33 ma34 ma35 ma36 ma40 ma41 ma42 ma45 ma46 ma47 ma49 ma50 ma51 ma52 mn0 mn5 mn7 mn8 mn9 mn10 mn11 mn12 mn13 mn15 mn16 mn17 mn18 mn19 mn20 mn25 mn37 mn38 mn39 mn43 mn44 mn48 mf1 p0 i13621 hs1_0 (by omega)) (hP.sub (ws' := [(md, .inr (11, [.int mn0, .ref ma1, .ref ma2, .ref ma3, .ref ma4, .int mn5, .ref ma6, .int mn7, .int mn8, .int mn9, .int mn10, .int mn11, .int mn12, .int mn13, .ref ma14, .int mn15, .int mn16, .int mn17, .int mn18, .int mn19, .int mn20, .ref ma21, .ref ma22, .ref ma23, .ref ma24, .int mn25, .ref ma26, .ref ma27, .ref ma28, .ref ma29, .ref ma30, .ref ma31, .ref ma32, .ref ma33, .ref ma34, .ref ma35, .ref ma36, .int mn37, .int mn38, .int mn39, .ref ma40, .ref ma41, .ref ma42, .int mn43, .int mn44, .ref ma45, .ref ma46, .ref ma47, .int mn48, .ref ma49, .ref ma50, .ref ma51, .ref ma52])), (ma1, .inl (K 1, 262, .inl mf1))]) [0, 1] rfl) 0 11 rfl rfl rfl hl.1 rfl (Nat.le_of_ble_eq_true rfl) (by decide) (by decide) dX12_askOf_18 (fun r13624 _ => ?_)
      refine lv_icmp_ge (tgt := 28) hx hb dX12_askOf_21 (by decide) (fun c13625 => ?_) (fun c13625 => ?_)
      · replace c13625 := le_i c13625
        refine lv_iload_n hx hb dX12_askOf_28 rfl (lv_at hl 1 rfl) ?_
        refine lv_istore_n (lv' := [(2, .int i13621), (3, .int i13620), (0, .ref md), (1, .int p0)]) hx hb dX12_askOf_29 rfl hl (by decide) rfl (fun ls hl => ?_)
        obtain ⟨v13626, ev13626⟩ : ∃ z : Int32, z = i13620 + 1 := ⟨_, rfl⟩
        refine lv_iinc (v := v13626) (lv' := [(3, .int v13626), (2, .int i13621), (0, .ref md), (1, .int p0)]) hx hb dX12_askOf_30 hl (k := 1) rfl (by rw [ev13626]; rfl) (by decide) rfl (fun ls hl => ?_)
        refine lv_goto (tgt := 4) hx hb dX12_askOf_33 (by decide) ?_
        have tv13626 : v13626.toInt = (i13620 : Int32).toInt + (1 : Int32).toInt := add_i ev13626 (by omega) (by omega)
        exact ih_4 (i13620 := v13626) (i13621 := i13621) (hi_4 := by omega) (hb_4 := by omega) (ls := ls) (hn_4 := by omega) (hl := lv_sub hl [0, 1, 2, 3] rfl)
      · replace c13625 := nle_i c13625
        refine lv_iload_n hx hb dX12_askOf_24 rfl (lv_at hl 0 rfl) ?_
        refine lv_goto (tgt := 29) hx hb dX12_askOf_25 (by decide) ?_
        refine lv_istore_n (lv' := [(2, .int i13620), (3, .int i13620), (0, .ref md), (1, .int p0)]) hx hb dX12_askOf_29 rfl hl (by decide) rfl (fun ls hl => ?_)
        obtain ⟨v13627, ev13627⟩ : ∃ z : Int32, z = i13620 + 1 := ⟨_, rfl⟩
        refine lv_iinc (v := v13627) (lv' := [(3, .int v13627), (2, .int i13620), (0, .ref md), (1, .int p0)]) hx hb dX12_askOf_30 hl (k := 1) rfl (by rw [ev13627]; rfl) (by decide) rfl (fun ls hl => ?_)
        refine lv_goto (tgt := 4) hx hb dX12_askOf_33 (by decide) ?_
        have tv13627 : v13627.toInt = (i13620 : Int32).toInt + (1 : Int32).toInt := add_i ev13627 (by omega) (by omega)
        exact ih_4 (i13620 := v13627) (i13621 := i13620) (hi_4 := by omega) (hb_4 := by omega) (ls := ls) (hn_4 := by omega) (hl := lv_sub hl [0, 1, 2, 3] rfl)
set_option maxRecDepth 40000 in
set_option maxHeartbeats 4000000 in
theorem c_X12_ask (l : Launch) (D : va_G) (K : Nat → ClassId) (md : Nat) (ma1 : Nat) (ma2 : Nat) (ma3 : Nat) (ma4 : Nat) (ma6 : Nat) (ma14 : Nat) (ma21 : Nat) (ma22 : Nat) (ma23 : Nat) (ma24 : Nat) (ma26 : Nat) (ma27 : Nat) (ma28 : Nat) (ma29 : Nat) (ma30 : Nat) (ma31 : Nat) (ma32 : Nat) (ma33 : Nat) (ma34 : Nat) (ma35 : Nat) (ma36 : Nat) (ma40 : Nat) (ma41 : Nat) (ma42 : Nat) (ma45 : Nat) (ma46 : Nat) (ma47 : Nat) (ma49 : Nat) (ma50 : Nat) (ma51 : Nat) (ma52 : Nat) (mn0 : Int32) (mn5 : Int32) (mn7 : Int32) (mn8 : Int32) (mn9 : Int32) (mn10 : Int32) (mn11 : Int32) (mn12 : Int32) (mn13 : Int32) (mn15 : Int32) (mn16 : Int32) (mn17 : Int32) (mn18 : Int32) (mn19 : Int32) (mn20 : Int32) (mn25 : Int32) (mn37 : Int32) (mn38 : Int32) (mn39 : Int32) (mn43 : Int32) (mn44 : Int32) (mn48 : Int32) (mf1 : Nat → Int32) (mf49 : Nat → Int32) (mf51 : Nat → Int64) (p0 : Int32) (hs1_0 : GW mf1) (hs49_0 : Rg (-1) 60 4 mf49) : Ro l D K yX12_ask cX12_ask 3 (some .int) 4 93 [.ref md, .int p0] [(md, .inr (11, [.int mn0, .ref ma1, .ref ma2, .ref ma3, .ref ma4, .int mn5, .ref ma6, .int mn7, .int mn8, .int mn9, .int mn10, .int mn11, .int mn12, .int mn13, .ref ma14, .int mn15, .int mn16, .int mn17, .int mn18, .int mn19, .int mn20, .ref ma21, .ref ma22, .ref ma23, .ref ma24, .int mn25, .ref ma26, .ref ma27, .ref ma28, .ref ma29, .ref ma30, .ref ma31, .ref ma32, .ref ma33, .ref ma34, .ref ma35, .ref ma36, .int mn37, .int mn38, .int mn39, .ref ma40, .ref ma41, .ref ma42, .int mn43, .int mn44, .ref ma45, .ref ma46, .ref ma47, .int mn48, .ref ma49, .ref ma50, .ref ma51, .ref ma52])), (ma1, .inl (K 1, 262, .inl mf1)), (ma49, .inl (K 1, 4, .inl mf49)), (ma51, .inl (K 2, 240, .inr (.inl mf51)))] (fun _ => True) := by
  refine ro_of (by decide) (Nat.le_of_ble_eq_true rfl) ?_
  intro p e s m below meth c hC hr hk hE hP ls hl
  replace hC : CallFix p m c cX12_ask 3 s [.ref md, .int p0].toArray wl RX12 := hC
  have hx := hC.1
  have hb := hC.2.1
  have hml := hC.2.2.1
  have hown := hC.2.2.2.1
  have hts := hC.2.2.2.2
  replace hl : lv_has ls 3 [(0, .ref md), (1, .int p0)] := hl
  have hW0 := gwn_0 hs1_0; have hW1 := gwn_1 hs1_0; have hW2 := gwn_2 hs1_0; have hW4 := gwn_4 hs1_0
  refine lv_aload_n hx hb dX12_ask_0 rfl (lv_at hl 0 rfl) ?_
  refine lv_iload_n hx hb dX12_ask_1 rfl (lv_at hl 1 rfl) ?_
  refine ro_V (As := [.int p0]) (rest := []) hC hE kV_X12_426 (c_X12_asksRead l D K md ma1 ma2 ma3 ma4 ma6 ma14 ma21 ma22 ma23 ma24 ma26 ma27 ma28 ma29 ma30 ma31 ma32 ma33 ma34 ma35 ma36 ma40 ma41 ma42 ma45 ma46 ma47 ma49 ma50 ma51 ma52 mn0 mn5 mn7 mn8 mn9 mn10 mn11 mn12 mn13 mn15 mn16 mn17 mn18 mn19 mn20 mn25 mn37 mn38 mn39 mn43 mn44 mn48 mf1 mf49 mf51 p0 hs1_0 hs49_0) (hP.sub (ws' := [(md, .inr (11, [.int mn0, .ref ma1, .ref ma2, .ref ma3, .ref ma4, .int mn5, .ref ma6, .int mn7, .int mn8, .int mn9, .int mn10, .int mn11, .int mn12, .int mn13, .ref ma14, .int mn15, .int mn16, .int mn17, .int mn18, .int mn19, .int mn20, .ref ma21, .ref ma22, .ref ma23, .ref ma24, .int mn25, .ref ma26, .ref ma27, .ref ma28, .ref ma29, .ref ma30, .ref ma31, .ref ma32, .ref ma33, .ref ma34, .ref ma35, .ref ma36, .int mn37, .int mn38, .int mn39, .ref ma40, .ref ma41, .ref ma42, .int mn43, .int mn44, .ref ma45, .ref ma46, .ref ma47, .int mn48, .ref ma49, .ref ma50, .ref ma51, .ref ma52])), (ma1, .inl (K 1, 262, .inl mf1)), (ma49, .inl (K 1, 4, .inl mf49)), (ma51, .inl (K 2, 240, .inr (.inl mf51)))]) [0, 1, 2, 3] rfl) 0 11 rfl rfl rfl hl.1 rfl (Nat.le_of_ble_eq_true rfl) (by decide) (by decide) dX12_ask_2 (fun r13634 hq => ?_)
  rcases hq with rfl | rfl | ⟨rfl, h13628, h13629, h13630, h13631, h13632, h13633⟩
  · refine lv_istore_n (lv' := [(2, .int (-2)), (0, .ref md), (1, .int p0)]) hx hb dX12_ask_5 rfl hl (by decide) rfl (fun ls hl => ?_)
    refine lv_iload_n hx hb dX12_ask_6 rfl (lv_at hl 0 rfl) ?_
    refine lv_if_ge (tgt := 14) hx hb dX12_ask_7 (by decide) (fun h => absurd h (by decide)) (fun _ => ?_)
    refine lv_iload_n hx hb dX12_ask_10 rfl (lv_at hl 0 rfl) ?_
    refine lv_goto (tgt := 27) hx hb dX12_ask_11 (by decide) ?_
    exact ro_ret hC hr hk dX12_ask_27 trivial
  · refine lv_istore_n (lv' := [(2, .int (-6)), (0, .ref md), (1, .int p0)]) hx hb dX12_ask_5 rfl hl (by decide) rfl (fun ls hl => ?_)
    refine lv_iload_n hx hb dX12_ask_6 rfl (lv_at hl 0 rfl) ?_
    refine lv_if_ge (tgt := 14) hx hb dX12_ask_7 (by decide) (fun h => absurd h (by decide)) (fun _ => ?_)
    refine lv_iload_n hx hb dX12_ask_10 rfl (lv_at hl 0 rfl) ?_
    refine lv_goto (tgt := 27) hx hb dX12_ask_11 (by decide) ?_
    exact ro_ret hC hr hk dX12_ask_27 trivial
  · refine lv_istore_n (lv' := [(2, .int 0), (0, .ref md), (1, .int p0)]) hx hb dX12_ask_5 rfl hl (by decide) rfl (fun ls hl => ?_)
    refine lv_iload_n hx hb dX12_ask_6 rfl (lv_at hl 0 rfl) ?_
    refine lv_if_ge (tgt := 14) hx hb dX12_ask_7 (by decide) (fun _ => ?_) (fun h => absurd h (by decide))
    refine lv_aload_n hx hb dX12_ask_14 rfl (lv_at hl 1 rfl) ?_
    refine lv_aload_n hx hb dX12_ask_15 rfl (lv_at hl 1 rfl) ?_
    refine lv_iload_n hx hb dX12_ask_16 rfl (lv_at hl 2 rfl) ?_
    refine lv_aload_n hx hb dX12_ask_17 rfl (lv_at hl 1 rfl) ?_
    refine ro_V (As := []) (rest := [.int p0, .ref md, .ref md]) hC hE kV_X12_129 (c_X12_allPlaces l D K md ma1 ma2 ma3 ma4 ma6 ma14 ma21 ma22 ma23 ma24 ma26 ma27 ma28 ma29 ma30 ma31 ma32 ma33 ma34 ma35 ma36 ma40 ma41 ma42 ma45 ma46 ma47 ma49 ma50 ma51 ma52 mn0 mn5 mn7 mn8 mn9 mn10 mn11 mn12 mn13 mn15 mn16 mn17 mn18 mn19 mn20 mn25 mn37 mn38 mn39 mn43 mn44 mn48 mf1 hs1_0) (hP.sub (ws' := [(md, .inr (11, [.int mn0, .ref ma1, .ref ma2, .ref ma3, .ref ma4, .int mn5, .ref ma6, .int mn7, .int mn8, .int mn9, .int mn10, .int mn11, .int mn12, .int mn13, .ref ma14, .int mn15, .int mn16, .int mn17, .int mn18, .int mn19, .int mn20, .ref ma21, .ref ma22, .ref ma23, .ref ma24, .int mn25, .ref ma26, .ref ma27, .ref ma28, .ref ma29, .ref ma30, .ref ma31, .ref ma32, .ref ma33, .ref ma34, .ref ma35, .ref ma36, .int mn37, .int mn38, .int mn39, .ref ma40, .ref ma41, .ref ma42, .int mn43, .int mn44, .ref ma45, .ref ma46, .ref ma47, .int mn48, .ref ma49, .ref ma50, .ref ma51, .ref ma52])), (ma1, .inl (K 1, 262, .inl mf1))]) [0, 1] rfl) 0 11 rfl rfl rfl hl.1 rfl (Nat.le_of_ble_eq_true rfl) (by decide) (by decide) dX12_ask_18 (fun r13637 hq => ?_)
    obtain ⟨h13635, h13636⟩ := hq
    refine ro_V (As := [.int p0, .int r13637]) (rest := [.ref md]) hC hE kV_X12_429 (c_X12_readFrom l D K md ma1 ma2 ma3 ma4 ma6 ma14 ma21 ma22 ma23 ma24 ma26 ma27 ma28 ma29 ma30 ma31 ma32 ma33 ma34 ma35 ma36 ma40 ma41 ma42 ma45 ma46 ma47 ma49 ma50 ma51 ma52 mn0 mn5 mn7 mn8 mn9 mn10 mn11 mn12 mn13 mn15 mn16 mn17 mn18 mn19 mn20 mn25 mn37 mn38 mn39 mn43 mn44 mn48 mf1 mf49 mf51 p0 r13637 hs1_0 hs49_0 (by omega) (by omega) h13633) (hP.sub (ws' := [(md, .inr (11, [.int mn0, .ref ma1, .ref ma2, .ref ma3, .ref ma4, .int mn5, .ref ma6, .int mn7, .int mn8, .int mn9, .int mn10, .int mn11, .int mn12, .int mn13, .ref ma14, .int mn15, .int mn16, .int mn17, .int mn18, .int mn19, .int mn20, .ref ma21, .ref ma22, .ref ma23, .ref ma24, .int mn25, .ref ma26, .ref ma27, .ref ma28, .ref ma29, .ref ma30, .ref ma31, .ref ma32, .ref ma33, .ref ma34, .ref ma35, .ref ma36, .int mn37, .int mn38, .int mn39, .ref ma40, .ref ma41, .ref ma42, .int mn43, .int mn44, .ref ma45, .ref ma46, .ref ma47, .int mn48, .ref ma49, .ref ma50, .ref ma51, .ref ma52])), (ma1, .inl (K 1, 262, .inl mf1)), (ma49, .inl (K 1, 4, .inl mf49)), (ma51, .inl (K 2, 240, .inr (.inl mf51)))]) [0, 1, 2, 3] rfl) 0 11 rfl rfl rfl hl.1 rfl (Nat.le_of_ble_eq_true rfl) (by decide) (by decide) dX12_ask_21 (fun r13638 _ => ?_)
    refine ro_V (As := [.int r13638]) (rest := []) hC hE kV_X12_435 (c_X12_askOf l D K md ma1 ma2 ma3 ma4 ma6 ma14 ma21 ma22 ma23 ma24 ma26 ma27 ma28 ma29 ma30 ma31 ma32 ma33 ma34 ma35 ma36 ma40 ma41 ma42 ma45 ma46 ma47 ma49 ma50 ma51 ma52 mn0 mn5 mn7 mn8 mn9 mn10 mn11 mn12 mn13 mn15 mn16 mn17 mn18 mn19 mn20 mn25 mn37 mn38 mn39 mn43 mn44 mn48 mf1 r13638 hs1_0) (hP.sub (ws' := [(md, .inr (11, [.int mn0, .ref ma1, .ref ma2, .ref ma3, .ref ma4, .int mn5, .ref ma6, .int mn7, .int mn8, .int mn9, .int mn10, .int mn11, .int mn12, .int mn13, .ref ma14, .int mn15, .int mn16, .int mn17, .int mn18, .int mn19, .int mn20, .ref ma21, .ref ma22, .ref ma23, .ref ma24, .int mn25, .ref ma26, .ref ma27, .ref ma28, .ref ma29, .ref ma30, .ref ma31, .ref ma32, .ref ma33, .ref ma34, .ref ma35, .ref ma36, .int mn37, .int mn38, .int mn39, .ref ma40, .ref ma41, .ref ma42, .int mn43, .int mn44, .ref ma45, .ref ma46, .ref ma47, .int mn48, .ref ma49, .ref ma50, .ref ma51, .ref ma52])), (ma1, .inl (K 1, 262, .inl mf1))]) [0, 1] rfl) 0 11 rfl rfl rfl hl.1 rfl (Nat.le_of_ble_eq_true rfl) (by decide) (by decide) dX12_ask_24 (fun r13641 hq => ?_)
    obtain ⟨h13639, h13640⟩ := hq
    exact ro_ret hC hr hk dX12_ask_27 trivial
set_option maxRecDepth 40000 in
set_option maxHeartbeats 4000000 in
theorem c_X12_leaves (l : Launch) (D : va_G) (K : Nat → ClassId) (md : Nat) (ma1 : Nat) (ma2 : Nat) (ma3 : Nat) (ma4 : Nat) (ma6 : Nat) (ma14 : Nat) (ma21 : Nat) (ma22 : Nat) (ma23 : Nat) (ma24 : Nat) (ma26 : Nat) (ma27 : Nat) (ma28 : Nat) (ma29 : Nat) (ma30 : Nat) (ma31 : Nat) (ma32 : Nat) (ma33 : Nat) (ma34 : Nat) (ma35 : Nat) (ma36 : Nat) (ma40 : Nat) (ma41 : Nat) (ma42 : Nat) (ma45 : Nat) (ma46 : Nat) (ma47 : Nat) (ma49 : Nat) (ma50 : Nat) (ma51 : Nat) (ma52 : Nat) (mn0 : Int32) (mn5 : Int32) (mn7 : Int32) (mn8 : Int32) (mn9 : Int32) (mn10 : Int32) (mn11 : Int32) (mn12 : Int32) (mn13 : Int32) (mn15 : Int32) (mn16 : Int32) (mn17 : Int32) (mn18 : Int32) (mn19 : Int32) (mn20 : Int32) (mn25 : Int32) (mn37 : Int32) (mn38 : Int32) (mn39 : Int32) (mn43 : Int32) (mn44 : Int32) (mn48 : Int32) (mf1 : Nat → Int32) (mf49 : Nat → Int32) (mf51 : Nat → Int64) (p0 : Int32) (hs1_0 : GW mf1) (hs49_0 : Rg (-1) 60 4 mf49) : Ro l D K yX12_leaves cX12_leaves 4 (some .int) 4 93 [.ref md, .int p0] [(md, .inr (11, [.int mn0, .ref ma1, .ref ma2, .ref ma3, .ref ma4, .int mn5, .ref ma6, .int mn7, .int mn8, .int mn9, .int mn10, .int mn11, .int mn12, .int mn13, .ref ma14, .int mn15, .int mn16, .int mn17, .int mn18, .int mn19, .int mn20, .ref ma21, .ref ma22, .ref ma23, .ref ma24, .int mn25, .ref ma26, .ref ma27, .ref ma28, .ref ma29, .ref ma30, .ref ma31, .ref ma32, .ref ma33, .ref ma34, .ref ma35, .ref ma36, .int mn37, .int mn38, .int mn39, .ref ma40, .ref ma41, .ref ma42, .int mn43, .int mn44, .ref ma45, .ref ma46, .ref ma47, .int mn48, .ref ma49, .ref ma50, .ref ma51, .ref ma52])), (ma1, .inl (K 1, 262, .inl mf1)), (ma49, .inl (K 1, 4, .inl mf49)), (ma51, .inl (K 2, 240, .inr (.inl mf51)))] (fun _ => True) := by
  refine ro_of (by decide) (Nat.le_of_ble_eq_true rfl) ?_
  intro p e s m below meth c hC hr hk hE hP ls hl
  replace hC : CallFix p m c cX12_leaves 4 s [.ref md, .int p0].toArray wl RX12 := hC
  have hx := hC.1
  have hb := hC.2.1
  have hml := hC.2.2.1
  have hown := hC.2.2.2.1
  have hts := hC.2.2.2.2
  replace hl : lv_has ls 4 [(0, .ref md), (1, .int p0)] := hl
  have hW0 := gwn_0 hs1_0; have hW1 := gwn_1 hs1_0; have hW2 := gwn_2 hs1_0; have hW4 := gwn_4 hs1_0
  refine lv_aload_n hx hb dX12_leaves_0 rfl (lv_at hl 0 rfl) ?_
  refine lv_iload_n hx hb dX12_leaves_1 rfl (lv_at hl 1 rfl) ?_
  refine ro_V (As := [.int p0]) (rest := []) hC hE kV_X12_426 (c_X12_asksRead l D K md ma1 ma2 ma3 ma4 ma6 ma14 ma21 ma22 ma23 ma24 ma26 ma27 ma28 ma29 ma30 ma31 ma32 ma33 ma34 ma35 ma36 ma40 ma41 ma42 ma45 ma46 ma47 ma49 ma50 ma51 ma52 mn0 mn5 mn7 mn8 mn9 mn10 mn11 mn12 mn13 mn15 mn16 mn17 mn18 mn19 mn20 mn25 mn37 mn38 mn39 mn43 mn44 mn48 mf1 mf49 mf51 p0 hs1_0 hs49_0) (hP.sub (ws' := [(md, .inr (11, [.int mn0, .ref ma1, .ref ma2, .ref ma3, .ref ma4, .int mn5, .ref ma6, .int mn7, .int mn8, .int mn9, .int mn10, .int mn11, .int mn12, .int mn13, .ref ma14, .int mn15, .int mn16, .int mn17, .int mn18, .int mn19, .int mn20, .ref ma21, .ref ma22, .ref ma23, .ref ma24, .int mn25, .ref ma26, .ref ma27, .ref ma28, .ref ma29, .ref ma30, .ref ma31, .ref ma32, .ref ma33, .ref ma34, .ref ma35, .ref ma36, .int mn37, .int mn38, .int mn39, .ref ma40, .ref ma41, .ref ma42, .int mn43, .int mn44, .ref ma45, .ref ma46, .ref ma47, .int mn48, .ref ma49, .ref ma50, .ref ma51, .ref ma52])), (ma1, .inl (K 1, 262, .inl mf1)), (ma49, .inl (K 1, 4, .inl mf49)), (ma51, .inl (K 2, 240, .inr (.inl mf51)))]) [0, 1, 2, 3] rfl) 0 11 rfl rfl rfl hl.1 rfl (Nat.le_of_ble_eq_true rfl) (by decide) (by decide) dX12_leaves_2 (fun r13648 hq => ?_)
  rcases hq with rfl | rfl | ⟨rfl, h13642, h13643, h13644, h13645, h13646, h13647⟩
  · refine lv_istore_n (lv' := [(2, .int (-2)), (0, .ref md), (1, .int p0)]) hx hb dX12_leaves_5 rfl hl (by decide) rfl (fun ls hl => ?_)
    refine lv_iload_n hx hb dX12_leaves_6 rfl (lv_at hl 0 rfl) ?_
    refine lv_if_ge (tgt := 12) hx hb dX12_leaves_7 (by decide) (fun h => absurd h (by decide)) (fun _ => ?_)
    refine lv_iload_n hx hb dX12_leaves_10 rfl (lv_at hl 0 rfl) ?_
    exact ro_ret hC hr hk dX12_leaves_11 trivial
  · refine lv_istore_n (lv' := [(2, .int (-6)), (0, .ref md), (1, .int p0)]) hx hb dX12_leaves_5 rfl hl (by decide) rfl (fun ls hl => ?_)
    refine lv_iload_n hx hb dX12_leaves_6 rfl (lv_at hl 0 rfl) ?_
    refine lv_if_ge (tgt := 12) hx hb dX12_leaves_7 (by decide) (fun h => absurd h (by decide)) (fun _ => ?_)
    refine lv_iload_n hx hb dX12_leaves_10 rfl (lv_at hl 0 rfl) ?_
    exact ro_ret hC hr hk dX12_leaves_11 trivial
  · refine lv_istore_n (lv' := [(2, .int 0), (0, .ref md), (1, .int p0)]) hx hb dX12_leaves_5 rfl hl (by decide) rfl (fun ls hl => ?_)
    refine lv_iload_n hx hb dX12_leaves_6 rfl (lv_at hl 0 rfl) ?_
    refine lv_if_ge (tgt := 12) hx hb dX12_leaves_7 (by decide) (fun _ => ?_) (fun h => absurd h (by decide))
    refine lv_aload_n hx hb dX12_leaves_12 rfl (lv_at hl 1 rfl) ?_
    refine lv_iload_n hx hb dX12_leaves_13 rfl (lv_at hl 2 rfl) ?_
    refine lv_aload_n hx hb dX12_leaves_14 rfl (lv_at hl 1 rfl) ?_
    refine ro_V (As := []) (rest := [.int p0, .ref md]) hC hE kV_X12_129 (c_X12_allPlaces l D K md ma1 ma2 ma3 ma4 ma6 ma14 ma21 ma22 ma23 ma24 ma26 ma27 ma28 ma29 ma30 ma31 ma32 ma33 ma34 ma35 ma36 ma40 ma41 ma42 ma45 ma46 ma47 ma49 ma50 ma51 ma52 mn0 mn5 mn7 mn8 mn9 mn10 mn11 mn12 mn13 mn15 mn16 mn17 mn18 mn19 mn20 mn25 mn37 mn38 mn39 mn43 mn44 mn48 mf1 hs1_0) (hP.sub (ws' := [(md, .inr (11, [.int mn0, .ref ma1, .ref ma2, .ref ma3, .ref ma4, .int mn5, .ref ma6, .int mn7, .int mn8, .int mn9, .int mn10, .int mn11, .int mn12, .int mn13, .ref ma14, .int mn15, .int mn16, .int mn17, .int mn18, .int mn19, .int mn20, .ref ma21, .ref ma22, .ref ma23, .ref ma24, .int mn25, .ref ma26, .ref ma27, .ref ma28, .ref ma29, .ref ma30, .ref ma31, .ref ma32, .ref ma33, .ref ma34, .ref ma35, .ref ma36, .int mn37, .int mn38, .int mn39, .ref ma40, .ref ma41, .ref ma42, .int mn43, .int mn44, .ref ma45, .ref ma46, .ref ma47, .int mn48, .ref ma49, .ref ma50, .ref ma51, .ref ma52])), (ma1, .inl (K 1, 262, .inl mf1))]) [0, 1] rfl) 0 11 rfl rfl rfl hl.1 rfl (Nat.le_of_ble_eq_true rfl) (by decide) (by decide) dX12_leaves_15 (fun r13651 hq => ?_)
    obtain ⟨h13649, h13650⟩ := hq
    refine ro_V (As := [.int p0, .int r13651]) (rest := []) hC hE kV_X12_429 (c_X12_readFrom l D K md ma1 ma2 ma3 ma4 ma6 ma14 ma21 ma22 ma23 ma24 ma26 ma27 ma28 ma29 ma30 ma31 ma32 ma33 ma34 ma35 ma36 ma40 ma41 ma42 ma45 ma46 ma47 ma49 ma50 ma51 ma52 mn0 mn5 mn7 mn8 mn9 mn10 mn11 mn12 mn13 mn15 mn16 mn17 mn18 mn19 mn20 mn25 mn37 mn38 mn39 mn43 mn44 mn48 mf1 mf49 mf51 p0 r13651 hs1_0 hs49_0 (by omega) (by omega) h13647) (hP.sub (ws' := [(md, .inr (11, [.int mn0, .ref ma1, .ref ma2, .ref ma3, .ref ma4, .int mn5, .ref ma6, .int mn7, .int mn8, .int mn9, .int mn10, .int mn11, .int mn12, .int mn13, .ref ma14, .int mn15, .int mn16, .int mn17, .int mn18, .int mn19, .int mn20, .ref ma21, .ref ma22, .ref ma23, .ref ma24, .int mn25, .ref ma26, .ref ma27, .ref ma28, .ref ma29, .ref ma30, .ref ma31, .ref ma32, .ref ma33, .ref ma34, .ref ma35, .ref ma36, .int mn37, .int mn38, .int mn39, .ref ma40, .ref ma41, .ref ma42, .int mn43, .int mn44, .ref ma45, .ref ma46, .ref ma47, .int mn48, .ref ma49, .ref ma50, .ref ma51, .ref ma52])), (ma1, .inl (K 1, 262, .inl mf1)), (ma49, .inl (K 1, 4, .inl mf49)), (ma51, .inl (K 2, 240, .inr (.inl mf51)))]) [0, 1, 2, 3] rfl) 0 11 rfl rfl rfl hl.1 rfl (Nat.le_of_ble_eq_true rfl) (by decide) (by decide) dX12_leaves_18 (fun r13652 _ => ?_)
    refine lv_istore_n (lv' := [(3, .int r13652), (2, .int 0), (0, .ref md), (1, .int p0)]) hx hb dX12_leaves_21 rfl hl (by decide) rfl (fun ls hl => ?_)
    refine lv_aload_n hx hb dX12_leaves_22 rfl (lv_at hl 2 rfl) ?_
    refine lv_iload_n hx hb dX12_leaves_23 rfl (lv_at hl 0 rfl) ?_
    refine lv_aload_n hx hb dX12_leaves_24 rfl (lv_at hl 2 rfl) ?_
    refine lv_iload_n hx hb dX12_leaves_25 rfl (lv_at hl 0 rfl) ?_
    refine ro_V (As := [.int r13652]) (rest := [.int r13652, .ref md]) hC hE kV_X12_435 (c_X12_askOf l D K md ma1 ma2 ma3 ma4 ma6 ma14 ma21 ma22 ma23 ma24 ma26 ma27 ma28 ma29 ma30 ma31 ma32 ma33 ma34 ma35 ma36 ma40 ma41 ma42 ma45 ma46 ma47 ma49 ma50 ma51 ma52 mn0 mn5 mn7 mn8 mn9 mn10 mn11 mn12 mn13 mn15 mn16 mn17 mn18 mn19 mn20 mn25 mn37 mn38 mn39 mn43 mn44 mn48 mf1 r13652 hs1_0) (hP.sub (ws' := [(md, .inr (11, [.int mn0, .ref ma1, .ref ma2, .ref ma3, .ref ma4, .int mn5, .ref ma6, .int mn7, .int mn8, .int mn9, .int mn10, .int mn11, .int mn12, .int mn13, .ref ma14, .int mn15, .int mn16, .int mn17, .int mn18, .int mn19, .int mn20, .ref ma21, .ref ma22, .ref ma23, .ref ma24, .int mn25, .ref ma26, .ref ma27, .ref ma28, .ref ma29, .ref ma30, .ref ma31, .ref ma32, .ref ma33, .ref ma34, .ref ma35, .ref ma36, .int mn37, .int mn38, .int mn39, .ref ma40, .ref ma41, .ref ma42, .int mn43, .int mn44, .ref ma45, .ref ma46, .ref ma47, .int mn48, .ref ma49, .ref ma50, .ref ma51, .ref ma52])), (ma1, .inl (K 1, 262, .inl mf1))]) [0, 1] rfl) 0 11 rfl rfl rfl hl.1 rfl (Nat.le_of_ble_eq_true rfl) (by decide) (by decide) dX12_leaves_26 (fun r13655 hq => ?_)
    obtain ⟨h13653, h13654⟩ := hq
    refine ro_V (As := [.int r13652, .int r13655]) (rest := []) hC hE kV_X12_432 (c_X12_worstBy l D K md ma1 ma2 ma3 ma4 ma6 ma14 ma21 ma22 ma23 ma24 ma26 ma27 ma28 ma29 ma30 ma31 ma32 ma33 ma34 ma35 ma36 ma40 ma41 ma42 ma45 ma46 ma47 ma49 ma50 ma51 ma52 mn0 mn5 mn7 mn8 mn9 mn10 mn11 mn12 mn13 mn15 mn16 mn17 mn18 mn19 mn20 mn25 mn37 mn38 mn39 mn43 mn44 mn48 mf1 r13652 r13655 hs1_0 (by omega)) (hP.sub (ws' := [(md, .inr (11, [.int mn0, .ref ma1, .ref ma2, .ref ma3, .ref ma4, .int mn5, .ref ma6, .int mn7, .int mn8, .int mn9, .int mn10, .int mn11, .int mn12, .int mn13, .ref ma14, .int mn15, .int mn16, .int mn17, .int mn18, .int mn19, .int mn20, .ref ma21, .ref ma22, .ref ma23, .ref ma24, .int mn25, .ref ma26, .ref ma27, .ref ma28, .ref ma29, .ref ma30, .ref ma31, .ref ma32, .ref ma33, .ref ma34, .ref ma35, .ref ma36, .int mn37, .int mn38, .int mn39, .ref ma40, .ref ma41, .ref ma42, .int mn43, .int mn44, .ref ma45, .ref ma46, .ref ma47, .int mn48, .ref ma49, .ref ma50, .ref ma51, .ref ma52])), (ma1, .inl (K 1, 262, .inl mf1))]) [0, 1] rfl) 0 11 rfl rfl rfl hl.1 rfl (Nat.le_of_ble_eq_true rfl) (by decide) (by decide) dX12_leaves_29 (fun r13656 _ => ?_)
    exact ro_ret hC hr hk dX12_leaves_32 trivial
