set_option maxRecDepth 40000 in
set_option maxHeartbeats 4000000 in
theorem c_X12_can (l : Launch) (D : va_G) (K : Nat → ClassId) (md : Nat) (ma1 : Nat) (ma2 : Nat) (ma3 : Nat) (ma4 : Nat) (ma6 : Nat) (ma14 : Nat) (ma21 : Nat) (ma22 : Nat) (ma23 : Nat) (ma24 : Nat) (ma26 : Nat) (ma27 : Nat) (ma28 : Nat) (ma29 : Nat) (ma30 : Nat) (ma31 : Nat) (ma32 : Nat) (ma33 : Nat) (ma34 : Nat) (ma35 : Nat) (ma36 : Nat) (ma40 : Nat) (ma41 : Nat) (ma42 : Nat) (ma45 : Nat) (ma46 : Nat) (ma47 : Nat) (ma49 : Nat) (ma50 : Nat) (ma51 : Nat) (ma52 : Nat) (mn0 : Int32) (mn5 : Int32) (mn7 : Int32) (mn8 : Int32) (mn9 : Int32) (mn10 : Int32) (mn11 : Int32) (mn12 : Int32) (mn13 : Int32) (mn15 : Int32) (mn16 : Int32) (mn17 : Int32) (mn18 : Int32) (mn19 : Int32) (mn20 : Int32) (mn25 : Int32) (mn37 : Int32) (mn38 : Int32) (mn39 : Int32) (mn43 : Int32) (mn44 : Int32) (mn48 : Int32) (mf1 : Nat → Int32) (p0 : Int32) (p1 : Int32) (hs1_0 : GW mf1) : Ro l D K yX12_can cX12_can 5 (some .int) 3 69 [.ref md, .int p0, .int p1] [(md, .inr (11, [.int mn0, .ref ma1, .ref ma2, .ref ma3, .ref ma4, .int mn5, .ref ma6, .int mn7, .int mn8, .int mn9, .int mn10, .int mn11, .int mn12, .int mn13, .ref ma14, .int mn15, .int mn16, .int mn17, .int mn18, .int mn19, .int mn20, .ref ma21, .ref ma22, .ref ma23, .ref ma24, .int mn25, .ref ma26, .ref ma27, .ref ma28, .ref ma29, .ref ma30, .ref ma31, .ref ma32, .ref ma33, .ref ma34, .ref ma35, .ref ma36, .int mn37, .int mn38, .int mn39, .ref ma40, .ref ma41, .ref ma42, .int mn43, .int mn44, .ref ma45, .ref ma46, .ref ma47, .int mn48, .ref ma49, .ref ma50, .ref ma51, .ref ma52])), (ma1, .inl (K 1, 262, .inl mf1))] (fun _ => True) := by
  refine ro_of (by decide) (Nat.le_of_ble_eq_true rfl) ?_
  intro p e s m below meth c hC hr hk hE hP ls hl
  replace hC : CallFix p m c cX12_can 5 s [.ref md, .int p0, .int p1].toArray wl RX12 := hC
  have hx := hC.1
  have hb := hC.2.1
  have hml := hC.2.2.1
  have hown := hC.2.2.2.1
  have hts := hC.2.2.2.2
  replace hl : lv_has ls 5 [(0, .ref md), (1, .int p0), (2, .int p1)] := hl
  have kc_0 : (0 : Int32).toInt = 0 := by decide
  have kc_1 : (1 : Int32).toInt = 1 := by decide
  have kl_0 : (0 : Int64).toInt = 0 := by decide
  have kl_15 : (15 : Int64).toInt = 15 := by decide
  have hW0 := gwn_0 hs1_0; have hW1 := gwn_1 hs1_0; have hW2 := gwn_2 hs1_0; have hW4 := gwn_4 hs1_0
  refine lv_aload_n hx hb dX12_can_0 rfl (lv_at hl 0 rfl) ?_
  refine lv_iload_n hx hb dX12_can_1 rfl (lv_at hl 1 rfl) ?_
  refine lv_i2l hx hb dX12_can_2 rfl ?_
  refine lv_topl (fun v14736 ev14736 => ?_)
  have tv14736 : v14736.toInt = (p0 : Int32).toInt := i2l_i ev14736
  refine ro_V (As := [.long v14736]) (rest := []) hC hE kV_X12_119 (c_X12_isPlace l D K md ma1 ma2 ma3 ma4 ma6 ma14 ma21 ma22 ma23 ma24 ma26 ma27 ma28 ma29 ma30 ma31 ma32 ma33 ma34 ma35 ma36 ma40 ma41 ma42 ma45 ma46 ma47 ma49 ma50 ma51 ma52 mn0 mn5 mn7 mn8 mn9 mn10 mn11 mn12 mn13 mn15 mn16 mn17 mn18 mn19 mn20 mn25 mn37 mn38 mn39 mn43 mn44 mn48 mf1 v14736 hs1_0) (hP.sub (ws' := [(md, .inr (11, [.int mn0, .ref ma1, .ref ma2, .ref ma3, .ref ma4, .int mn5, .ref ma6, .int mn7, .int mn8, .int mn9, .int mn10, .int mn11, .int mn12, .int mn13, .ref ma14, .int mn15, .int mn16, .int mn17, .int mn18, .int mn19, .int mn20, .ref ma21, .ref ma22, .ref ma23, .ref ma24, .int mn25, .ref ma26, .ref ma27, .ref ma28, .ref ma29, .ref ma30, .ref ma31, .ref ma32, .ref ma33, .ref ma34, .ref ma35, .ref ma36, .int mn37, .int mn38, .int mn39, .ref ma40, .ref ma41, .ref ma42, .int mn43, .int mn44, .ref ma45, .ref ma46, .ref ma47, .int mn48, .ref ma49, .ref ma50, .ref ma51, .ref ma52])), (ma1, .inl (K 1, 262, .inl mf1))]) [0, 1] rfl) 0 11 rfl rfl rfl hl.1 rfl (Nat.le_of_ble_eq_true rfl) (by decide) (by decide) dX12_can_3 (fun r14741 hq => ?_)
  rcases hq with ⟨rfl, h14737⟩ | ⟨rfl, h14738, h14739, h14740⟩
  · refine lv_if_eq (tgt := 21) hx hb dX12_can_6 (by decide) (fun _ => ?_) (fun h => absurd h (by decide))
    refine lv_bipush (v := (-2)) hx hb dX12_can_21 (by decide) ?_
    exact ro_ret hC hr hk dX12_can_23 trivial
  · refine lv_if_eq (tgt := 21) hx hb dX12_can_6 (by decide) (fun h => absurd h (by decide)) (fun _ => ?_)
    refine lv_iload_n hx hb dX12_can_9 rfl (lv_at hl 2 rfl) ?_
    refine lv_i2l hx hb dX12_can_10 rfl ?_
    refine lv_topl (fun v14742 ev14742 => ?_)
    refine lv_lconst (v := 0) hx hb dX12_can_11 (by decide) ?_
    refine lv_ldc2 (v := 15) hx hb hown (hts _ w_1125) dX12_can_12 ?_
    have tv14742 : v14742.toInt = (p1 : Int32).toInt := i2l_i ev14742
    refine ro_S (As := [.long v14742, .long 0, .long 15]) (rest := []) hC hE kS_X12_115 (c_X12_in l D K v14742 0 15) (hP.sub (ws' := []) [] rfl) rfl hl.1 rfl (Nat.le_of_ble_eq_true rfl) (by decide) (by decide) dX12_can_15 (fun r14746 hq => ?_)
    rcases hq with ⟨rfl, h14743⟩ | ⟨rfl, h14744, h14745⟩
    · refine lv_if_ne (tgt := 24) hx hb dX12_can_18 (by decide) (fun h => absurd h (by decide)) (fun _ => ?_)
      refine lv_bipush (v := (-2)) hx hb dX12_can_21 (by decide) ?_
      exact ro_ret hC hr hk dX12_can_23 trivial
    · refine lv_if_ne (tgt := 24) hx hb dX12_can_18 (by decide) (fun _ => ?_) (fun h => absurd h (by decide))
      refine lv_iconst (v := 1) hx hb dX12_can_24 (by decide) ?_
      refine lv_iload_n hx hb dX12_can_25 rfl (lv_at hl 1 rfl) ?_
      refine lv_ishl hx hb dX12_can_26 ?_
      refine lv_topi (fun v14747 ev14747 => ?_)
      refine lv_istore_n (lv' := [(3, .int v14747), (0, .ref md), (1, .int p0), (2, .int p1)]) hx hb dX12_can_27 rfl hl (by decide) rfl (fun ls hl => ?_)
      refine lv_iconst (v := 0) hx hb dX12_can_28 (by decide) ?_
      refine lv_istore (lv' := [(4, .int 0), (3, .int v14747), (0, .ref md), (1, .int p0), (2, .int p1)]) hx hb dX12_can_29 hl (by decide) rfl (fun ls hl => ?_)
      have hl' := hl; clear hl
      obtain ⟨i14755, i14756, hi_31, hl⟩ : ∃ (i14755 : Int32) (i14756 : Int32), ((0 : Int) ≤ i14755.toInt) ∧ lv_has ls 5 [(4, .int i14755), (3, .int i14756), (0, .ref md), (1, .int p0), (2, .int p1)] := ⟨_, _, by omega, hl'⟩
      clear hl'
      have hb_31 := i32_hi p1
      obtain ⟨n_31, hn_31⟩ : ∃ n : Nat, (p1.toInt - i14755.toInt).toNat < n := ⟨_, Nat.lt_succ_self _⟩
      induction n_31 generalizing i14755 i14756 ls with
      | zero => exact absurd hn_31 (Nat.not_lt_zero _)
      | succ n_31 ih_31 =>
        refine lv_iload hx hb dX12_can_31 (lv_at hl 0 rfl) ?_
        refine lv_iload_n hx hb dX12_can_33 rfl (lv_at hl 4 rfl) ?_
        refine lv_icmp_ge (tgt := 49) hx hb dX12_can_34 (by decide) (fun c14757 => ?_) (fun c14757 => ?_)
        · replace c14757 := le_i c14757
          refine lv_iload_n hx hb dX12_can_49 rfl (lv_at hl 1 rfl) ?_
          exact ro_ret hC hr hk dX12_can_50 trivial
        · replace c14757 := nle_i c14757
          refine lv_aload_n hx hb dX12_can_37 rfl (lv_at hl 2 rfl) ?_
          refine lv_iload_n hx hb dX12_can_38 rfl (lv_at hl 1 rfl) ?_
          refine ro_V (As := [.int i14756]) (rest := []) hC hE kV_X12_418 (c_X12_onward l D K md ma1 ma2 ma3 ma4 ma6 ma14 ma21 ma22 ma23 ma24 ma26 ma27 ma28 ma29 ma30 ma31 ma32 ma33 ma34 ma35 ma36 ma40 ma41 ma42 ma45 ma46 ma47 ma49 ma50 ma51 ma52 mn0 mn5 mn7 mn8 mn9 mn10 mn11 mn12 mn13 mn15 mn16 mn17 mn18 mn19 mn20 mn25 mn37 mn38 mn39 mn43 mn44 mn48 mf1 i14756 hs1_0) (hP.sub (ws' := [(md, .inr (11, [.int mn0, .ref ma1, .ref ma2, .ref ma3, .ref ma4, .int mn5, .ref ma6, .int mn7, .int mn8, .int mn9, .int mn10, .int mn11, .int mn12, .int mn13, .ref ma14, .int mn15, .int mn16, .int mn17, .int mn18, .int mn19, .int mn20, .ref ma21, .ref ma22, .ref ma23, .ref ma24, .int mn25, .ref ma26, .ref ma27, .ref ma28, .ref ma29, .ref ma30, .ref ma31, .ref ma32, .ref ma33, .ref ma34, .ref ma35, .ref ma36, .int mn37, .int mn38, .int mn39, .ref ma40, .ref ma41, .ref ma42, .int mn43, .int mn44, .ref ma45, .ref ma46, .ref ma47, .int mn48, .ref ma49, .ref ma50, .ref ma51, .ref ma52])), (ma1, .inl (K 1, 262, .inl mf1))]) [0, 1] rfl) 0 11 rfl rfl rfl hl.1 rfl (Nat.le_of_ble_eq_true rfl) (by decide) (by decide) dX12_can_39 (fun r14760 hq => ?_)
          obtain ⟨h14758, h14759⟩ := hq
          refine lv_istore_n (lv' := [(3, .int r14760), (4, .int i14755), (0, .ref md), (1, .int p0), (2, .int p1)]) hx hb dX12_can_42 rfl hl (by decide) rfl (fun ls hl => ?_)
          obtain ⟨v14761, ev14761⟩ : ∃ z : Int32, z = i14755 + 1 := ⟨_, rfl⟩
          refine lv_iinc (v := v14761) (lv' := [(4, .int v14761), (3, .int r14760), (0, .ref md), (1, .int p0), (2, .int p1)]) hx hb dX12_can_43 hl (k := 1) rfl (by rw [ev14761]; rfl) (by decide) rfl (fun ls hl => ?_)
          refine lv_goto (tgt := 31) hx hb dX12_can_46 (by decide) ?_
          have tv14761 : v14761.toInt = (i14755 : Int32).toInt + (1 : Int32).toInt := add_i ev14761 (by omega) (by omega)
          exact ih_31 (i14755 := v14761) (i14756 := r14760) (hi_31 := by omega) (ls := ls) (hn_31 := by omega) (hl := lv_sub hl [0, 1, 2, 3, 4] rfl)
set_option maxRecDepth 40000 in
set_option maxHeartbeats 4000000 in
theorem c_X12_lead (l : Launch) (D : va_G) (K : Nat → ClassId) (md : Nat) (ma1 : Nat) (ma2 : Nat) (ma3 : Nat) (ma4 : Nat) (ma6 : Nat) (ma14 : Nat) (ma21 : Nat) (ma22 : Nat) (ma23 : Nat) (ma24 : Nat) (ma26 : Nat) (ma27 : Nat) (ma28 : Nat) (ma29 : Nat) (ma30 : Nat) (ma31 : Nat) (ma32 : Nat) (ma33 : Nat) (ma34 : Nat) (ma35 : Nat) (ma36 : Nat) (ma40 : Nat) (ma41 : Nat) (ma42 : Nat) (ma45 : Nat) (ma46 : Nat) (ma47 : Nat) (ma49 : Nat) (ma50 : Nat) (ma51 : Nat) (ma52 : Nat) (mn0 : Int32) (mn5 : Int32) (mn7 : Int32) (mn8 : Int32) (mn9 : Int32) (mn10 : Int32) (mn11 : Int32) (mn12 : Int32) (mn13 : Int32) (mn15 : Int32) (mn16 : Int32) (mn17 : Int32) (mn18 : Int32) (mn19 : Int32) (mn20 : Int32) (mn25 : Int32) (mn37 : Int32) (mn38 : Int32) (mn39 : Int32) (mn43 : Int32) (mn44 : Int32) (mn48 : Int32) (mf1 : Nat → Int32) (p0 : Int32) (p1 : Int32) (p2 : Int32) (hs1_0 : GW mf1) : Ci (S := ((Nat → Int32) × (Nat → Nat → Int32) × (Nat → Nat → Int64))) l D K yX12_lead cX12_lead 5 (some .int) 3 69 0 0 [.ref md, .int p0, .int p1, .int p2] [(md, .inr (11, [.int mn0, .ref ma1, .ref ma2, .ref ma3, .ref ma4, .int mn5, .ref ma6, .int mn7, .int mn8, .int mn9, .int mn10, .int mn11, .int mn12, .int mn13, .ref ma14, .int mn15, .int mn16, .int mn17, .int mn18, .int mn19, .int mn20, .ref ma21, .ref ma22, .ref ma23, .ref ma24, .int mn25, .ref ma26, .ref ma27, .ref ma28, .ref ma29, .ref ma30, .ref ma31, .ref ma32, .ref ma33, .ref ma34, .ref ma35, .ref ma36, .int mn37, .int mn38, .int mn39, .ref ma40, .ref ma41, .ref ma42, .int mn43, .int mn44, .ref ma45, .ref ma46, .ref ma47, .int mn48, .ref ma49, .ref ma50, .ref ma51, .ref ma52])), (ma1, .inl (K 1, 262, .inl mf1))] (fun r u => (GW (u.2.1 0))) (fun u => [(md, .inr (11, [.int mn0, .ref ma1, .ref ma2, .ref ma3, .ref ma4, .int mn5, .ref ma6, .int mn7, .int mn8, .int mn9, .int mn10, .int mn11, .int mn12, .int mn13, .ref ma14, .int mn15, .int mn16, .int mn17, .int mn18, .int mn19, .int mn20, .ref ma21, .ref ma22, .ref ma23, .ref ma24, .int mn25, .ref ma26, .ref ma27, .ref ma28, .ref ma29, .ref ma30, .ref ma31, .ref ma32, .ref ma33, .ref ma34, .ref ma35, .ref ma36, .int mn37, .int mn38, .int mn39, .ref ma40, .ref ma41, .ref ma42, .int mn43, .int mn44, .ref ma45, .ref ma46, .ref ma47, .int mn48, .ref ma49, .ref ma50, .ref ma51, .ref ma52])), (ma1, .inl (K 1, 262, .inl (u.2.1 0)))]) := by
  intro sz
  refine ch_of (y := yX12_lead) (cc := cX12_lead) (maxL := 5) (ret := (some .int)) (av := [.ref md, .int p0, .int p1, .int p2]) (ws := [(md, .inr (11, [.int mn0, .ref ma1, .ref ma2, .ref ma3, .ref ma4, .int mn5, .ref ma6, .int mn7, .int mn8, .int mn9, .int mn10, .int mn11, .int mn12, .int mn13, .ref ma14, .int mn15, .int mn16, .int mn17, .int mn18, .int mn19, .int mn20, .ref ma21, .ref ma22, .ref ma23, .ref ma24, .int mn25, .ref ma26, .ref ma27, .ref ma28, .ref ma29, .ref ma30, .ref ma31, .ref ma32, .ref ma33, .ref ma34, .ref ma35, .ref ma36, .int mn37, .int mn38, .int mn39, .ref ma40, .ref ma41, .ref ma42, .int mn43, .int mn44, .ref ma45, .ref ma46, .ref ma47, .int mn48, .ref ma49, .ref ma50, .ref ma51, .ref ma52])), (ma1, .inl (K 1, 262, .inl mf1))]) (D := D) (K := K) (Qc := fun A => va_Qi (S := ((Nat → Int32) × (Nat → Nat → Int32) × (Nat → Nat → Int64))) (fun r u => (GW (u.2.1 0))) (chB D A (fun u => [(md, .inr (11, [.int mn0, .ref ma1, .ref ma2, .ref ma3, .ref ma4, .int mn5, .ref ma6, .int mn7, .int mn8, .int mn9, .int mn10, .int mn11, .int mn12, .int mn13, .ref ma14, .int mn15, .int mn16, .int mn17, .int mn18, .int mn19, .int mn20, .ref ma21, .ref ma22, .ref ma23, .ref ma24, .int mn25, .ref ma26, .ref ma27, .ref ma28, .ref ma29, .ref ma30, .ref ma31, .ref ma32, .ref ma33, .ref ma34, .ref ma35, .ref ma36, .int mn37, .int mn38, .int mn39, .ref ma40, .ref ma41, .ref ma42, .int mn43, .int mn44, .ref ma45, .ref ma46, .ref ma47, .int mn48, .ref ma49, .ref ma50, .ref ma51, .ref ma52])), (ma1, .inl (K 1, 262, .inl (u.2.1 0)))])) A) (by decide) (Nat.le_of_ble_eq_true rfl) ?_
  intro p e s m below meth c A hC hr hk hin hE hD hA H locs hP hS ls hl
  replace hC : CallFix p m c cX12_lead 5 s [.ref md, .int p0, .int p1, .int p2].toArray wl RX12 := hC
  have hx := hC.1
  have hb := hC.2.1
  have hml := hC.2.2.1
  have hown := hC.2.2.2.1
  have hts := hC.2.2.2.2
  replace hl : lv_has ls 5 [(0, .ref md), (1, .int p0), (2, .int p1), (3, .int p2)] := hl
  have kc_0 : (0 : Int32).toInt = 0 := by decide
  have kc_4 : (4 : Int32).toInt = 4 := by decide
  have kc_5 : (5 : Int32).toInt = 5 := by decide
  have hW0 := gwn_0 hs1_0; have hW1 := gwn_1 hs1_0; have hW2 := gwn_2 hs1_0; have hW4 := gwn_4 hs1_0
  refine lv_aload_n hx hb dX12_lead_0 rfl (lv_at hl 0 rfl) ?_
  refine lv_iload_n hx hb dX12_lead_1 rfl (lv_at hl 1 rfl) ?_
  refine lv_iload_n hx hb dX12_lead_2 rfl (lv_at hl 3 rfl) ?_
  refine ro_V (As := [.int p0, .int p2]) (rest := []) hC hE kV_X12_394 (c_X12_areTwo l D K md ma1 ma2 ma3 ma4 ma6 ma14 ma21 ma22 ma23 ma24 ma26 ma27 ma28 ma29 ma30 ma31 ma32 ma33 ma34 ma35 ma36 ma40 ma41 ma42 ma45 ma46 ma47 ma49 ma50 ma51 ma52 mn0 mn5 mn7 mn8 mn9 mn10 mn11 mn12 mn13 mn15 mn16 mn17 mn18 mn19 mn20 mn25 mn37 mn38 mn39 mn43 mn44 mn48 mf1 p0 p2 hs1_0) (hP.sub (ws' := [(md, .inr (11, [.int mn0, .ref ma1, .ref ma2, .ref ma3, .ref ma4, .int mn5, .ref ma6, .int mn7, .int mn8, .int mn9, .int mn10, .int mn11, .int mn12, .int mn13, .ref ma14, .int mn15, .int mn16, .int mn17, .int mn18, .int mn19, .int mn20, .ref ma21, .ref ma22, .ref ma23, .ref ma24, .int mn25, .ref ma26, .ref ma27, .ref ma28, .ref ma29, .ref ma30, .ref ma31, .ref ma32, .ref ma33, .ref ma34, .ref ma35, .ref ma36, .int mn37, .int mn38, .int mn39, .ref ma40, .ref ma41, .ref ma42, .int mn43, .int mn44, .ref ma45, .ref ma46, .ref ma47, .int mn48, .ref ma49, .ref ma50, .ref ma51, .ref ma52])), (ma1, .inl (K 1, 262, .inl mf1))]) [0, 1] rfl) 0 11 rfl rfl rfl hl.1 rfl (Nat.le_of_ble_eq_true rfl) (by decide) (by decide) dX12_lead_3 (fun r14788 hq => ?_)
  rcases hq with rfl | ⟨rfl, h14783, h14784, h14785, h14786, h14787⟩
  · refine lv_if_eq (tgt := 17) hx hb dX12_lead_6 (by decide) (fun _ => ?_) (fun h => absurd h (by decide))
    refine lv_bipush (v := (-2)) hx hb dX12_lead_17 (by decide) ?_
    refine W.widen (k := 0) (n := 0) (by decide) (by decide) ?_
    exact ch_iret hC hr hk hS dX12_lead_19 ((fun k => [].getD k 0, fun k => [mf1].getD k (fun _ => 0), fun k => [].getD k (fun _ => 0)) : ((Nat → Int32) × (Nat → Nat → Int32) × (Nat → Nat → Int64))) (show GW mf1 from hs1_0) (hP.sub [0, 1] rfl) (hD.sub [0, 1] (by decide) rfl)
  · refine lv_if_eq (tgt := 17) hx hb dX12_lead_6 (by decide) (fun h => absurd h (by decide)) (fun _ => ?_)
    refine lv_iload_n hx hb dX12_lead_9 rfl (lv_at hl 2 rfl) ?_
    refine lv_i2l hx hb dX12_lead_10 rfl ?_
    refine lv_topl (fun v14789 ev14789 => ?_)
    have tv14789 : v14789.toInt = (p1 : Int32).toInt := i2l_i ev14789
    refine ro_S (As := [.long v14789]) (rest := []) hC hE kS_X12_279 (c_X12_isWind l D K v14789) (hP.sub (ws' := []) [] rfl) rfl hl.1 rfl (Nat.le_of_ble_eq_true rfl) (by decide) (by decide) dX12_lead_11 (fun r14793 hq => ?_)
    rcases hq with ⟨rfl, h14790⟩ | ⟨rfl, h14791, h14792⟩
    · refine lv_if_ne (tgt := 20) hx hb dX12_lead_14 (by decide) (fun h => absurd h (by decide)) (fun _ => ?_)
      refine lv_bipush (v := (-2)) hx hb dX12_lead_17 (by decide) ?_
      refine W.widen (k := 0) (n := 0) (by decide) (by decide) ?_
      exact ch_iret hC hr hk hS dX12_lead_19 ((fun k => [].getD k 0, fun k => [mf1].getD k (fun _ => 0), fun k => [].getD k (fun _ => 0)) : ((Nat → Int32) × (Nat → Nat → Int32) × (Nat → Nat → Int64))) (show GW mf1 from hs1_0) (hP.sub [0, 1] rfl) (hD.sub [0, 1] (by decide) rfl)
    · refine lv_if_ne (tgt := 20) hx hb dX12_lead_14 (by decide) (fun _ => ?_) (fun h => absurd h (by decide))
      refine lv_aload_n hx hb dX12_lead_20 rfl (lv_at hl 0 rfl) ?_
      refine va_get (D := D) (ci := 11) (v := .ref ma1) (C := RX12) (T := TX12) (N := 53) hx hb hts in_X12 hown hE.1 hP 0 rfl rfl 1 (by decide) (hts _ w_821) (fun _ h9 => h9) rfl dX12_lead_21 ?_
      refine lv_iconst (v := 4) hx hb dX12_lead_24 (by decide) ?_
      refine va_iald hx hb hE.1 hP 1 1 rfl rfl (in_c (by decide)) dX12_lead_25 ?_
      refine lv_topi (fun v14794 ev14794 => ?_)
      have tv14794 := gw_4 hs1_0 ev14794
      have zv14794 : v14794.toInt = (mf1 4).toInt := by rw [ev14794]; rfl
      refine lv_if_le (tgt := 32) hx hb dX12_lead_26 (by decide) (fun c14795 => ?_) (fun c14795 => ?_)
      · replace c14795 := le_i c14795
        refine lv_aload_n hx hb dX12_lead_32 rfl (lv_at hl 0 rfl) ?_
        refine lv_iload_n hx hb dX12_lead_33 rfl (lv_at hl 1 rfl) ?_
        refine lv_iload_n hx hb dX12_lead_34 rfl (lv_at hl 2 rfl) ?_
        refine ro_V (As := [.int p0, .int p1]) (rest := []) hC hE kV_X12_273 (c_X12_leadsTo l D K md ma1 ma2 ma3 ma4 ma6 ma14 ma21 ma22 ma23 ma24 ma26 ma27 ma28 ma29 ma30 ma31 ma32 ma33 ma34 ma35 ma36 ma40 ma41 ma42 ma45 ma46 ma47 ma49 ma50 ma51 ma52 mn0 mn5 mn7 mn8 mn9 mn10 mn11 mn12 mn13 mn15 mn16 mn17 mn18 mn19 mn20 mn25 mn37 mn38 mn39 mn43 mn44 mn48 mf1 p0 p1 hs1_0 (by omega) (by omega)) (hP.sub (ws' := [(md, .inr (11, [.int mn0, .ref ma1, .ref ma2, .ref ma3, .ref ma4, .int mn5, .ref ma6, .int mn7, .int mn8, .int mn9, .int mn10, .int mn11, .int mn12, .int mn13, .ref ma14, .int mn15, .int mn16, .int mn17, .int mn18, .int mn19, .int mn20, .ref ma21, .ref ma22, .ref ma23, .ref ma24, .int mn25, .ref ma26, .ref ma27, .ref ma28, .ref ma29, .ref ma30, .ref ma31, .ref ma32, .ref ma33, .ref ma34, .ref ma35, .ref ma36, .int mn37, .int mn38, .int mn39, .ref ma40, .ref ma41, .ref ma42, .int mn43, .int mn44, .ref ma45, .ref ma46, .ref ma47, .int mn48, .ref ma49, .ref ma50, .ref ma51, .ref ma52])), (ma1, .inl (K 1, 262, .inl mf1))]) [0, 1] rfl) 0 11 rfl rfl rfl hl.1 rfl (Nat.le_of_ble_eq_true rfl) (by decide) (by decide) dX12_lead_35 (fun r14799 hq => ?_)
        obtain ⟨h14796, h14797, h14798⟩ := hq
        refine lv_istore (lv' := [(4, .int r14799), (0, .ref md), (1, .int p0), (2, .int p1), (3, .int p2)]) hx hb dX12_lead_38 hl (by decide) rfl (fun ls hl => ?_)
        refine lv_aload_n hx hb dX12_lead_40 rfl (lv_at hl 1 rfl) ?_
        refine va_get (D := D) (ci := 11) (v := .ref ma1) (C := RX12) (T := TX12) (N := 53) hx hb hts in_X12 hown hE.1 hP 0 rfl rfl 1 (by decide) (hts _ w_821) (fun _ h9 => h9) rfl dX12_lead_41 ?_
        refine lv_iconst (v := 5) hx hb dX12_lead_44 (by decide) ?_
        refine lv_iconst (v := 4) hx hb dX12_lead_45 (by decide) ?_
        refine lv_iload_n hx hb dX12_lead_46 rfl (lv_at hl 2 rfl) ?_
        refine lv_imul hx hb dX12_lead_47 ?_
        refine lv_topi (fun v14800 ev14800 => ?_)
        refine lv_iadd hx hb dX12_lead_48 ?_
        refine lv_topi (fun v14801 ev14801 => ?_)
        refine lv_iload_n hx hb dX12_lead_49 rfl (lv_at hl 3 rfl) ?_
        refine lv_iadd hx hb dX12_lead_50 ?_
        refine lv_topi (fun v14802 ev14802 => ?_)
        refine lv_iload_n hx hb dX12_lead_51 rfl (lv_at hl 4 rfl) ?_
        have tv14800 : v14800.toInt = 4 * p0.toInt := mul_i ev14800 (by decide) rfl (by omega) (by omega)
        have tv14801 : v14801.toInt = (5 : Int32).toInt + (v14800 : Int32).toInt := add_i ev14801 (by omega) (by omega)
        have tv14802 : v14802.toInt = (v14801 : Int32).toInt + (p1 : Int32).toInt := add_i ev14802 (by omega) (by omega)
        refine sti hx hb hE.1 hP hD hS 1 1 rfl rfl (vp_in_iff.mpr (by omega)) dX12_lead_52 (fun g14803 eg14803 H locs hP hD hS => ?_)
        replace hP : va_P D vwCl [(md, .inr (11, [.int mn0, .ref ma1, .ref ma2, .ref ma3, .ref ma4, .int mn5, .ref ma6, .int mn7, .int mn8, .int mn9, .int mn10, .int mn11, .int mn12, .int mn13, .ref ma14, .int mn15, .int mn16, .int mn17, .int mn18, .int mn19, .int mn20, .ref ma21, .ref ma22, .ref ma23, .ref ma24, .int mn25, .ref ma26, .ref ma27, .ref ma28, .ref ma29, .ref ma30, .ref ma31, .ref ma32, .ref ma33, .ref ma34, .ref ma35, .ref ma36, .int mn37, .int mn38, .int mn39, .ref ma40, .ref ma41, .ref ma42, .int mn43, .int mn44, .ref ma45, .ref ma46, .ref ma47, .int mn48, .ref ma49, .ref ma50, .ref ma51, .ref ma52])), (ma1, .inl (K 1, 262, .inl g14803))] H := hP
        replace hD : va_D A [(md, .inr (11, [.int mn0, .ref ma1, .ref ma2, .ref ma3, .ref ma4, .int mn5, .ref ma6, .int mn7, .int mn8, .int mn9, .int mn10, .int mn11, .int mn12, .int mn13, .ref ma14, .int mn15, .int mn16, .int mn17, .int mn18, .int mn19, .int mn20, .ref ma21, .ref ma22, .ref ma23, .ref ma24, .int mn25, .ref ma26, .ref ma27, .ref ma28, .ref ma29, .ref ma30, .ref ma31, .ref ma32, .ref ma33, .ref ma34, .ref ma35, .ref ma36, .int mn37, .int mn38, .int mn39, .ref ma40, .ref ma41, .ref ma42, .int mn43, .int mn44, .ref ma45, .ref ma46, .ref ma47, .int mn48, .ref ma49, .ref ma50, .ref ma51, .ref ma52])), (ma1, .inl (K 1, 262, .inl g14803))] := hD
        have q14804 : GW g14803 := gw_up hs1_0 eg14803 (rw_L (by omega) (by omega) (by omega) (by omega))
        refine lv_iload hx hb dX12_lead_53 (lv_at hl 0 rfl) ?_
        refine W.widen (k := 0) (n := 0) (by decide) (by decide) ?_
        exact ch_iret hC hr hk hS dX12_lead_55 ((fun k => [].getD k 0, fun k => [g14803].getD k (fun _ => 0), fun k => [].getD k (fun _ => 0)) : ((Nat → Int32) × (Nat → Nat → Int32) × (Nat → Nat → Int64))) (show GW g14803 from q14804) (hP.sub [0, 1] rfl) (hD.sub [0, 1] (by decide) rfl)
      · replace c14795 := nle_i c14795
        refine lv_bipush (v := (-5)) hx hb dX12_lead_29 (by decide) ?_
        refine W.widen (k := 0) (n := 0) (by decide) (by decide) ?_
        exact ch_iret hC hr hk hS dX12_lead_31 ((fun k => [].getD k 0, fun k => [mf1].getD k (fun _ => 0), fun k => [].getD k (fun _ => 0)) : ((Nat → Int32) × (Nat → Nat → Int32) × (Nat → Nat → Int64))) (show GW mf1 from hs1_0) (hP.sub [0, 1] rfl) (hD.sub [0, 1] (by decide) rfl)
set_option maxRecDepth 40000 in
set_option maxHeartbeats 4000000 in
theorem c_X12_marks (l : Launch) (D : va_G) (K : Nat → ClassId) (md : Nat) (ma1 : Nat) (ma2 : Nat) (ma3 : Nat) (ma4 : Nat) (ma6 : Nat) (ma14 : Nat) (ma21 : Nat) (ma22 : Nat) (ma23 : Nat) (ma24 : Nat) (ma26 : Nat) (ma27 : Nat) (ma28 : Nat) (ma29 : Nat) (ma30 : Nat) (ma31 : Nat) (ma32 : Nat) (ma33 : Nat) (ma34 : Nat) (ma35 : Nat) (ma36 : Nat) (ma40 : Nat) (ma41 : Nat) (ma42 : Nat) (ma45 : Nat) (ma46 : Nat) (ma47 : Nat) (ma49 : Nat) (ma50 : Nat) (ma51 : Nat) (ma52 : Nat) (mn0 : Int32) (mn5 : Int32) (mn7 : Int32) (mn8 : Int32) (mn9 : Int32) (mn10 : Int32) (mn11 : Int32) (mn12 : Int32) (mn13 : Int32) (mn15 : Int32) (mn16 : Int32) (mn17 : Int32) (mn18 : Int32) (mn19 : Int32) (mn20 : Int32) (mn25 : Int32) (mn37 : Int32) (mn38 : Int32) (mn39 : Int32) (mn43 : Int32) (mn44 : Int32) (mn48 : Int32) (mf1 : Nat → Int32) (p0 : Int32) (p1 : Int32) (hs1_0 : GW mf1) : Ci (S := ((Nat → Int32) × (Nat → Nat → Int32) × (Nat → Nat → Int64))) l D K yX12_marks cX12_marks 4 (some .int) 2 47 0 0 [.ref md, .int p0, .int p1] [(md, .inr (11, [.int mn0, .ref ma1, .ref ma2, .ref ma3, .ref ma4, .int mn5, .ref ma6, .int mn7, .int mn8, .int mn9, .int mn10, .int mn11, .int mn12, .int mn13, .ref ma14, .int mn15, .int mn16, .int mn17, .int mn18, .int mn19, .int mn20, .ref ma21, .ref ma22, .ref ma23, .ref ma24, .int mn25, .ref ma26, .ref ma27, .ref ma28, .ref ma29, .ref ma30, .ref ma31, .ref ma32, .ref ma33, .ref ma34, .ref ma35, .ref ma36, .int mn37, .int mn38, .int mn39, .ref ma40, .ref ma41, .ref ma42, .int mn43, .int mn44, .ref ma45, .ref ma46, .ref ma47, .int mn48, .ref ma49, .ref ma50, .ref ma51, .ref ma52])), (ma1, .inl (K 1, 262, .inl mf1))] (fun r u => (GW (u.2.1 0))) (fun u => [(md, .inr (11, [.int mn0, .ref ma1, .ref ma2, .ref ma3, .ref ma4, .int mn5, .ref ma6, .int mn7, .int mn8, .int mn9, .int mn10, .int mn11, .int mn12, .int mn13, .ref ma14, .int mn15, .int mn16, .int mn17, .int mn18, .int mn19, .int mn20, .ref ma21, .ref ma22, .ref ma23, .ref ma24, .int mn25, .ref ma26, .ref ma27, .ref ma28, .ref ma29, .ref ma30, .ref ma31, .ref ma32, .ref ma33, .ref ma34, .ref ma35, .ref ma36, .int mn37, .int mn38, .int mn39, .ref ma40, .ref ma41, .ref ma42, .int mn43, .int mn44, .ref ma45, .ref ma46, .ref ma47, .int mn48, .ref ma49, .ref ma50, .ref ma51, .ref ma52])), (ma1, .inl (K 1, 262, .inl (u.2.1 0)))]) := by
  intro sz
  refine ch_of (y := yX12_marks) (cc := cX12_marks) (maxL := 4) (ret := (some .int)) (av := [.ref md, .int p0, .int p1]) (ws := [(md, .inr (11, [.int mn0, .ref ma1, .ref ma2, .ref ma3, .ref ma4, .int mn5, .ref ma6, .int mn7, .int mn8, .int mn9, .int mn10, .int mn11, .int mn12, .int mn13, .ref ma14, .int mn15, .int mn16, .int mn17, .int mn18, .int mn19, .int mn20, .ref ma21, .ref ma22, .ref ma23, .ref ma24, .int mn25, .ref ma26, .ref ma27, .ref ma28, .ref ma29, .ref ma30, .ref ma31, .ref ma32, .ref ma33, .ref ma34, .ref ma35, .ref ma36, .int mn37, .int mn38, .int mn39, .ref ma40, .ref ma41, .ref ma42, .int mn43, .int mn44, .ref ma45, .ref ma46, .ref ma47, .int mn48, .ref ma49, .ref ma50, .ref ma51, .ref ma52])), (ma1, .inl (K 1, 262, .inl mf1))]) (D := D) (K := K) (Qc := fun A => va_Qi (S := ((Nat → Int32) × (Nat → Nat → Int32) × (Nat → Nat → Int64))) (fun r u => (GW (u.2.1 0))) (chB D A (fun u => [(md, .inr (11, [.int mn0, .ref ma1, .ref ma2, .ref ma3, .ref ma4, .int mn5, .ref ma6, .int mn7, .int mn8, .int mn9, .int mn10, .int mn11, .int mn12, .int mn13, .ref ma14, .int mn15, .int mn16, .int mn17, .int mn18, .int mn19, .int mn20, .ref ma21, .ref ma22, .ref ma23, .ref ma24, .int mn25, .ref ma26, .ref ma27, .ref ma28, .ref ma29, .ref ma30, .ref ma31, .ref ma32, .ref ma33, .ref ma34, .ref ma35, .ref ma36, .int mn37, .int mn38, .int mn39, .ref ma40, .ref ma41, .ref ma42, .int mn43, .int mn44, .ref ma45, .ref ma46, .ref ma47, .int mn48, .ref ma49, .ref ma50, .ref ma51, .ref ma52])), (ma1, .inl (K 1, 262, .inl (u.2.1 0)))])) A) (by decide) (Nat.le_of_ble_eq_true rfl) ?_
  intro p e s m below meth c A hC hr hk hin hE hD hA H locs hP hS ls hl
  replace hC : CallFix p m c cX12_marks 4 s [.ref md, .int p0, .int p1].toArray wl RX12 := hC
  have hx := hC.1
  have hb := hC.2.1
  have hml := hC.2.2.1
  have hown := hC.2.2.2.1
  have hts := hC.2.2.2.2
  replace hl : lv_has ls 4 [(0, .ref md), (1, .int p0), (2, .int p1)] := hl
  have kc_0 : (0 : Int32).toInt = 0 := by decide
  have kc_45 : (45 : Int32).toInt = 45 := by decide
  have kl_0 : (0 : Int64).toInt = 0 := by decide
  have kl_9 : (9 : Int64).toInt = 9 := by decide
  have hW0 := gwn_0 hs1_0; have hW1 := gwn_1 hs1_0; have hW2 := gwn_2 hs1_0; have hW4 := gwn_4 hs1_0
  refine lv_aload_n hx hb dX12_marks_0 rfl (lv_at hl 0 rfl) ?_
  refine lv_iload_n hx hb dX12_marks_1 rfl (lv_at hl 1 rfl) ?_
  refine lv_i2l hx hb dX12_marks_2 rfl ?_
  refine lv_topl (fun v14824 ev14824 => ?_)
  have tv14824 : v14824.toInt = (p0 : Int32).toInt := i2l_i ev14824
  refine ro_V (As := [.long v14824]) (rest := []) hC hE kV_X12_119 (c_X12_isPlace l D K md ma1 ma2 ma3 ma4 ma6 ma14 ma21 ma22 ma23 ma24 ma26 ma27 ma28 ma29 ma30 ma31 ma32 ma33 ma34 ma35 ma36 ma40 ma41 ma42 ma45 ma46 ma47 ma49 ma50 ma51 ma52 mn0 mn5 mn7 mn8 mn9 mn10 mn11 mn12 mn13 mn15 mn16 mn17 mn18 mn19 mn20 mn25 mn37 mn38 mn39 mn43 mn44 mn48 mf1 v14824 hs1_0) (hP.sub (ws' := [(md, .inr (11, [.int mn0, .ref ma1, .ref ma2, .ref ma3, .ref ma4, .int mn5, .ref ma6, .int mn7, .int mn8, .int mn9, .int mn10, .int mn11, .int mn12, .int mn13, .ref ma14, .int mn15, .int mn16, .int mn17, .int mn18, .int mn19, .int mn20, .ref ma21, .ref ma22, .ref ma23, .ref ma24, .int mn25, .ref ma26, .ref ma27, .ref ma28, .ref ma29, .ref ma30, .ref ma31, .ref ma32, .ref ma33, .ref ma34, .ref ma35, .ref ma36, .int mn37, .int mn38, .int mn39, .ref ma40, .ref ma41, .ref ma42, .int mn43, .int mn44, .ref ma45, .ref ma46, .ref ma47, .int mn48, .ref ma49, .ref ma50, .ref ma51, .ref ma52])), (ma1, .inl (K 1, 262, .inl mf1))]) [0, 1] rfl) 0 11 rfl rfl rfl hl.1 rfl (Nat.le_of_ble_eq_true rfl) (by decide) (by decide) dX12_marks_3 (fun r14829 hq => ?_)
  rcases hq with ⟨rfl, h14825⟩ | ⟨rfl, h14826, h14827, h14828⟩
  · refine lv_if_eq (tgt := 21) hx hb dX12_marks_6 (by decide) (fun _ => ?_) (fun h => absurd h (by decide))
    refine lv_bipush (v := (-2)) hx hb dX12_marks_21 (by decide) ?_
    refine W.widen (k := 0) (n := 0) (by decide) (by decide) ?_
    exact ch_iret hC hr hk hS dX12_marks_23 ((fun k => [].getD k 0, fun k => [mf1].getD k (fun _ => 0), fun k => [].getD k (fun _ => 0)) : ((Nat → Int32) × (Nat → Nat → Int32) × (Nat → Nat → Int64))) (show GW mf1 from hs1_0) (hP.sub [0, 1] rfl) (hD.sub [0, 1] (by decide) rfl)
  · refine lv_if_eq (tgt := 21) hx hb dX12_marks_6 (by decide) (fun h => absurd h (by decide)) (fun _ => ?_)
    refine lv_iload_n hx hb dX12_marks_9 rfl (lv_at hl 2 rfl) ?_
    refine lv_i2l hx hb dX12_marks_10 rfl ?_
    refine lv_topl (fun v14830 ev14830 => ?_)
    refine lv_lconst (v := 0) hx hb dX12_marks_11 (by decide) ?_
    refine lv_ldc2 (v := 9) hx hb hown (hts _ w_947) dX12_marks_12 ?_
    have tv14830 : v14830.toInt = (p1 : Int32).toInt := i2l_i ev14830
    refine ro_S (As := [.long v14830, .long 0, .long 9]) (rest := []) hC hE kS_X12_115 (c_X12_in l D K v14830 0 9) (hP.sub (ws' := []) [] rfl) rfl hl.1 rfl (Nat.le_of_ble_eq_true rfl) (by decide) (by decide) dX12_marks_15 (fun r14834 hq => ?_)
    rcases hq with ⟨rfl, h14831⟩ | ⟨rfl, h14832, h14833⟩
    · refine lv_if_ne (tgt := 24) hx hb dX12_marks_18 (by decide) (fun h => absurd h (by decide)) (fun _ => ?_)
      refine lv_bipush (v := (-2)) hx hb dX12_marks_21 (by decide) ?_
      refine W.widen (k := 0) (n := 0) (by decide) (by decide) ?_
      exact ch_iret hC hr hk hS dX12_marks_23 ((fun k => [].getD k 0, fun k => [mf1].getD k (fun _ => 0), fun k => [].getD k (fun _ => 0)) : ((Nat → Int32) × (Nat → Nat → Int32) × (Nat → Nat → Int64))) (show GW mf1 from hs1_0) (hP.sub [0, 1] rfl) (hD.sub [0, 1] (by decide) rfl)
    · refine lv_if_ne (tgt := 24) hx hb dX12_marks_18 (by decide) (fun _ => ?_) (fun h => absurd h (by decide))
      refine lv_aload_n hx hb dX12_marks_24 rfl (lv_at hl 0 rfl) ?_
      refine va_get (D := D) (ci := 11) (v := .ref ma1) (C := RX12) (T := TX12) (N := 53) hx hb hts in_X12 hown hE.1 hP 0 rfl rfl 1 (by decide) (hts _ w_821) (fun _ h9 => h9) rfl dX12_marks_25 ?_
      refine lv_iconst (v := 4) hx hb dX12_marks_28 (by decide) ?_
      refine va_iald hx hb hE.1 hP 1 1 rfl rfl (in_c (by decide)) dX12_marks_29 ?_
      refine lv_topi (fun v14835 ev14835 => ?_)
      have tv14835 := gw_4 hs1_0 ev14835
      have zv14835 : v14835.toInt = (mf1 4).toInt := by rw [ev14835]; rfl
      refine lv_if_le (tgt := 36) hx hb dX12_marks_30 (by decide) (fun c14836 => ?_) (fun c14836 => ?_)
      · replace c14836 := le_i c14836
        refine lv_aload_n hx hb dX12_marks_36 rfl (lv_at hl 0 rfl) ?_
        refine lv_iload_n hx hb dX12_marks_37 rfl (lv_at hl 1 rfl) ?_
        refine ro_V (As := [.int p0]) (rest := []) hC hE kV_X12_276 (c_X12_markOf l D K md ma1 ma2 ma3 ma4 ma6 ma14 ma21 ma22 ma23 ma24 ma26 ma27 ma28 ma29 ma30 ma31 ma32 ma33 ma34 ma35 ma36 ma40 ma41 ma42 ma45 ma46 ma47 ma49 ma50 ma51 ma52 mn0 mn5 mn7 mn8 mn9 mn10 mn11 mn12 mn13 mn15 mn16 mn17 mn18 mn19 mn20 mn25 mn37 mn38 mn39 mn43 mn44 mn48 mf1 p0 hs1_0 (by omega)) (hP.sub (ws' := [(md, .inr (11, [.int mn0, .ref ma1, .ref ma2, .ref ma3, .ref ma4, .int mn5, .ref ma6, .int mn7, .int mn8, .int mn9, .int mn10, .int mn11, .int mn12, .int mn13, .ref ma14, .int mn15, .int mn16, .int mn17, .int mn18, .int mn19, .int mn20, .ref ma21, .ref ma22, .ref ma23, .ref ma24, .int mn25, .ref ma26, .ref ma27, .ref ma28, .ref ma29, .ref ma30, .ref ma31, .ref ma32, .ref ma33, .ref ma34, .ref ma35, .ref ma36, .int mn37, .int mn38, .int mn39, .ref ma40, .ref ma41, .ref ma42, .int mn43, .int mn44, .ref ma45, .ref ma46, .ref ma47, .int mn48, .ref ma49, .ref ma50, .ref ma51, .ref ma52])), (ma1, .inl (K 1, 262, .inl mf1))]) [0, 1] rfl) 0 11 rfl rfl rfl hl.1 rfl (Nat.le_of_ble_eq_true rfl) (by decide) (by decide) dX12_marks_38 (fun r14840 hq => ?_)
        obtain ⟨h14837, h14838, h14839⟩ := hq
        refine lv_istore_n (lv' := [(3, .int r14840), (0, .ref md), (1, .int p0), (2, .int p1)]) hx hb dX12_marks_41 rfl hl (by decide) rfl (fun ls hl => ?_)
        refine lv_aload_n hx hb dX12_marks_42 rfl (lv_at hl 1 rfl) ?_
        refine va_get (D := D) (ci := 11) (v := .ref ma1) (C := RX12) (T := TX12) (N := 53) hx hb hts in_X12 hown hE.1 hP 0 rfl rfl 1 (by decide) (hts _ w_821) (fun _ h9 => h9) rfl dX12_marks_43 ?_
        refine lv_bipush (v := 45) hx hb dX12_marks_46 (by decide) ?_
        refine lv_iload_n hx hb dX12_marks_48 rfl (lv_at hl 2 rfl) ?_
        refine lv_iadd hx hb dX12_marks_49 ?_
        refine lv_topi (fun v14841 ev14841 => ?_)
        refine lv_iload_n hx hb dX12_marks_50 rfl (lv_at hl 3 rfl) ?_
        have tv14841 : v14841.toInt = (45 : Int32).toInt + (p0 : Int32).toInt := add_i ev14841 (by omega) (by omega)
        refine sti hx hb hE.1 hP hD hS 1 1 rfl rfl (vp_in_iff.mpr (by omega)) dX12_marks_51 (fun g14842 eg14842 H locs hP hD hS => ?_)
        replace hP : va_P D vwCl [(md, .inr (11, [.int mn0, .ref ma1, .ref ma2, .ref ma3, .ref ma4, .int mn5, .ref ma6, .int mn7, .int mn8, .int mn9, .int mn10, .int mn11, .int mn12, .int mn13, .ref ma14, .int mn15, .int mn16, .int mn17, .int mn18, .int mn19, .int mn20, .ref ma21, .ref ma22, .ref ma23, .ref ma24, .int mn25, .ref ma26, .ref ma27, .ref ma28, .ref ma29, .ref ma30, .ref ma31, .ref ma32, .ref ma33, .ref ma34, .ref ma35, .ref ma36, .int mn37, .int mn38, .int mn39, .ref ma40, .ref ma41, .ref ma42, .int mn43, .int mn44, .ref ma45, .ref ma46, .ref ma47, .int mn48, .ref ma49, .ref ma50, .ref ma51, .ref ma52])), (ma1, .inl (K 1, 262, .inl g14842))] H := hP
        replace hD : va_D A [(md, .inr (11, [.int mn0, .ref ma1, .ref ma2, .ref ma3, .ref ma4, .int mn5, .ref ma6, .int mn7, .int mn8, .int mn9, .int mn10, .int mn11, .int mn12, .int mn13, .ref ma14, .int mn15, .int mn16, .int mn17, .int mn18, .int mn19, .int mn20, .ref ma21, .ref ma22, .ref ma23, .ref ma24, .int mn25, .ref ma26, .ref ma27, .ref ma28, .ref ma29, .ref ma30, .ref ma31, .ref ma32, .ref ma33, .ref ma34, .ref ma35, .ref ma36, .int mn37, .int mn38, .int mn39, .ref ma40, .ref ma41, .ref ma42, .int mn43, .int mn44, .ref ma45, .ref ma46, .ref ma47, .int mn48, .ref ma49, .ref ma50, .ref ma51, .ref ma52])), (ma1, .inl (K 1, 262, .inl g14842))] := hD
        have q14843 : GW g14842 := gw_up hs1_0 eg14842 (rw_L (by omega) (by omega) (by omega) (by omega))
        refine lv_iload_n hx hb dX12_marks_52 rfl (lv_at hl 0 rfl) ?_
        refine W.widen (k := 0) (n := 0) (by decide) (by decide) ?_
        exact ch_iret hC hr hk hS dX12_marks_53 ((fun k => [].getD k 0, fun k => [g14842].getD k (fun _ => 0), fun k => [].getD k (fun _ => 0)) : ((Nat → Int32) × (Nat → Nat → Int32) × (Nat → Nat → Int64))) (show GW g14842 from q14843) (hP.sub [0, 1] rfl) (hD.sub [0, 1] (by decide) rfl)
      · replace c14836 := nle_i c14836
        refine lv_bipush (v := (-5)) hx hb dX12_marks_33 (by decide) ?_
        refine W.widen (k := 0) (n := 0) (by decide) (by decide) ?_
        exact ch_iret hC hr hk hS dX12_marks_35 ((fun k => [].getD k 0, fun k => [mf1].getD k (fun _ => 0), fun k => [].getD k (fun _ => 0)) : ((Nat → Int32) × (Nat → Nat → Int32) × (Nat → Nat → Int64))) (show GW mf1 from hs1_0) (hP.sub [0, 1] rfl) (hD.sub [0, 1] (by decide) rfl)
set_option maxRecDepth 40000 in
set_option maxHeartbeats 4000000 in
theorem c_X12_goDrawn (l : Launch) (D : va_G) (K : Nat → ClassId) (md : Nat) (ma1 : Nat) (ma2 : Nat) (ma3 : Nat) (ma4 : Nat) (ma6 : Nat) (ma14 : Nat) (ma21 : Nat) (ma22 : Nat) (ma23 : Nat) (ma24 : Nat) (ma26 : Nat) (ma27 : Nat) (ma28 : Nat) (ma29 : Nat) (ma30 : Nat) (ma31 : Nat) (ma32 : Nat) (ma33 : Nat) (ma34 : Nat) (ma35 : Nat) (ma36 : Nat) (ma40 : Nat) (ma41 : Nat) (ma42 : Nat) (ma45 : Nat) (ma46 : Nat) (ma47 : Nat) (ma49 : Nat) (ma50 : Nat) (ma51 : Nat) (ma52 : Nat) (mn0 : Int32) (mn5 : Int32) (mn7 : Int32) (mn8 : Int32) (mn9 : Int32) (mn10 : Int32) (mn11 : Int32) (mn12 : Int32) (mn13 : Int32) (mn15 : Int32) (mn16 : Int32) (mn17 : Int32) (mn18 : Int32) (mn19 : Int32) (mn20 : Int32) (mn25 : Int32) (mn37 : Int32) (mn38 : Int32) (mn39 : Int32) (mn43 : Int32) (mn44 : Int32) (mn48 : Int32) (mf1 : Nat → Int32) (p0 : Int64) (p1 : Int32) (p2 : Int32) (hs1_0 : GW mf1) (hf15 : 0 ≤ mn15.toInt ∧ mn15.toInt ≤ 9) (hf16 : 0 ≤ mn16.toInt ∧ mn16.toInt ≤ 1023) (hf17 : 0 ≤ mn17.toInt ∧ mn17.toInt ≤ 3) (hs9 : 0 ≤ p0.toInt ∧ p0.toInt ≤ 2147483647) (ha1 : 0 ≤ p1.toInt ∧ p1.toInt ≤ 3) : Cv (S := ((Nat → Int32) × (Nat → Nat → Int32) × (Nat → Nat → Int64))) l D K yX12_goDrawn cX12_goDrawn 8 3 68 0 0 [.ref md, .long p0, .int p1, .int p2] [(md, .inr (11, [.int mn0, .ref ma1, .ref ma2, .ref ma3, .ref ma4, .int mn5, .ref ma6, .int mn7, .int mn8, .int mn9, .int mn10, .int mn11, .int mn12, .int mn13, .ref ma14, .int mn15, .int mn16, .int mn17, .int mn18, .int mn19, .int mn20, .ref ma21, .ref ma22, .ref ma23, .ref ma24, .int mn25, .ref ma26, .ref ma27, .ref ma28, .ref ma29, .ref ma30, .ref ma31, .ref ma32, .ref ma33, .ref ma34, .ref ma35, .ref ma36, .int mn37, .int mn38, .int mn39, .ref ma40, .ref ma41, .ref ma42, .int mn43, .int mn44, .ref ma45, .ref ma46, .ref ma47, .int mn48, .ref ma49, .ref ma50, .ref ma51, .ref ma52])), (ma1, .inl (K 1, 262, .inl mf1))] (fun u => (0 ≤ (u.1 0).toInt ∧ (u.1 0).toInt ≤ 9) ∧ (0 ≤ (u.1 1).toInt ∧ (u.1 1).toInt ≤ 1023) ∧ (0 ≤ (u.1 2).toInt ∧ (u.1 2).toInt ≤ 3)) (fun u => [(md, .inr (11, [.int mn0, .ref ma1, .ref ma2, .ref ma3, .ref ma4, .int mn5, .ref ma6, .int mn7, .int mn8, .int mn9, .int mn10, .int mn11, .int mn12, .int mn13, .ref ma14, .int (u.1 0), .int (u.1 1), .int (u.1 2), .int mn18, .int mn19, .int mn20, .ref ma21, .ref ma22, .ref ma23, .ref ma24, .int mn25, .ref ma26, .ref ma27, .ref ma28, .ref ma29, .ref ma30, .ref ma31, .ref ma32, .ref ma33, .ref ma34, .ref ma35, .ref ma36, .int mn37, .int mn38, .int mn39, .ref ma40, .ref ma41, .ref ma42, .int mn43, .int mn44, .ref ma45, .ref ma46, .ref ma47, .int (u.1 3), .ref ma49, .ref ma50, .ref ma51, .ref ma52])), (ma1, .inl (K 1, 262, .inl mf1))]) := by
  intro sz
  refine ch_of (y := yX12_goDrawn) (cc := cX12_goDrawn) (maxL := 8) (ret := none) (av := [.ref md, .long p0, .int p1, .int p2]) (ws := [(md, .inr (11, [.int mn0, .ref ma1, .ref ma2, .ref ma3, .ref ma4, .int mn5, .ref ma6, .int mn7, .int mn8, .int mn9, .int mn10, .int mn11, .int mn12, .int mn13, .ref ma14, .int mn15, .int mn16, .int mn17, .int mn18, .int mn19, .int mn20, .ref ma21, .ref ma22, .ref ma23, .ref ma24, .int mn25, .ref ma26, .ref ma27, .ref ma28, .ref ma29, .ref ma30, .ref ma31, .ref ma32, .ref ma33, .ref ma34, .ref ma35, .ref ma36, .int mn37, .int mn38, .int mn39, .ref ma40, .ref ma41, .ref ma42, .int mn43, .int mn44, .ref ma45, .ref ma46, .ref ma47, .int mn48, .ref ma49, .ref ma50, .ref ma51, .ref ma52])), (ma1, .inl (K 1, 262, .inl mf1))]) (D := D) (K := K) (Qc := fun A => va_Qv (S := ((Nat → Int32) × (Nat → Nat → Int32) × (Nat → Nat → Int64))) (fun u => (0 ≤ (u.1 0).toInt ∧ (u.1 0).toInt ≤ 9) ∧ (0 ≤ (u.1 1).toInt ∧ (u.1 1).toInt ≤ 1023) ∧ (0 ≤ (u.1 2).toInt ∧ (u.1 2).toInt ≤ 3)) (chB D A (fun u => [(md, .inr (11, [.int mn0, .ref ma1, .ref ma2, .ref ma3, .ref ma4, .int mn5, .ref ma6, .int mn7, .int mn8, .int mn9, .int mn10, .int mn11, .int mn12, .int mn13, .ref ma14, .int (u.1 0), .int (u.1 1), .int (u.1 2), .int mn18, .int mn19, .int mn20, .ref ma21, .ref ma22, .ref ma23, .ref ma24, .int mn25, .ref ma26, .ref ma27, .ref ma28, .ref ma29, .ref ma30, .ref ma31, .ref ma32, .ref ma33, .ref ma34, .ref ma35, .ref ma36, .int mn37, .int mn38, .int mn39, .ref ma40, .ref ma41, .ref ma42, .int mn43, .int mn44, .ref ma45, .ref ma46, .ref ma47, .int (u.1 3), .ref ma49, .ref ma50, .ref ma51, .ref ma52])), (ma1, .inl (K 1, 262, .inl mf1))])) A) (by decide) (Nat.le_of_ble_eq_true rfl) ?_
  intro p e s m below meth c A hC hr hk hin hE hD hA H locs hP hS ls hl
  replace hC : CallFix p m c cX12_goDrawn 8 s [.ref md, .long p0, .int p1, .int p2].toArray wl RX12 := hC
  have hx := hC.1
  have hb := hC.2.1
  have hml := hC.2.2.1
  have hown := hC.2.2.2.1
  have hts := hC.2.2.2.2
  replace hl : lv_has ls 8 [(0, .ref md), (1, .long p0), (3, .int p1), (4, .int p2)] := hl
  have kc_0 : (0 : Int32).toInt = 0 := by decide
  have kc_1 : (1 : Int32).toInt = 1 := by decide
  have kl_12345 : (12345 : Int64).toInt = 12345 := by decide
  have kl_1103515245 : (1103515245 : Int64).toInt = 1103515245 := by decide
  have hW0 := gwn_0 hs1_0; have hW1 := gwn_1 hs1_0; have hW2 := gwn_2 hs1_0; have hW4 := gwn_4 hs1_0
  refine lv_lload_n hx hb dX12_goDrawn_0 rfl (lv_at hl 1 rfl) ?_
  refine lv_lstore (lv' := [(5, .long p0), (0, .ref md), (1, .long p0), (3, .int p1), (4, .int p2)]) hx hb dX12_goDrawn_1 hl (by decide) rfl (fun ls hl => ?_)
  refine lv_aload_n hx hb dX12_goDrawn_3 rfl (lv_at hl 1 rfl) ?_
  refine lv_iload_n hx hb dX12_goDrawn_4 rfl (lv_at hl 3 rfl) ?_
  refine cv_V (As := [.int p1]) (rest := []) (wc := [(md, .inr (11, [.int mn0, .ref ma1, .ref ma2, .ref ma3, .ref ma4, .int mn5, .ref ma6, .int mn7, .int mn8, .int mn9, .int mn10, .int mn11, .int mn12, .int mn13, .ref ma14, .int mn15, .int mn16, .int mn17, .int mn18, .int mn19, .int mn20, .ref ma21, .ref ma22, .ref ma23, .ref ma24, .int mn25, .ref ma26, .ref ma27, .ref ma28, .ref ma29, .ref ma30, .ref ma31, .ref ma32, .ref ma33, .ref ma34, .ref ma35, .ref ma36, .int mn37, .int mn38, .int mn39, .ref ma40, .ref ma41, .ref ma42, .int mn43, .int mn44, .ref ma45, .ref ma46, .ref ma47, .int mn48, .ref ma49, .ref ma50, .ref ma51, .ref ma52])), (ma1, .inl (K 1, 262, .inl mf1))]) (wr := []) hC hE kV_X12_313 (c_X12_be l D K md ma1 ma2 ma3 ma4 ma6 ma14 ma21 ma22 ma23 ma24 ma26 ma27 ma28 ma29 ma30 ma31 ma32 ma33 ma34 ma35 ma36 ma40 ma41 ma42 ma45 ma46 ma47 ma49 ma50 ma51 ma52 mn0 mn5 mn7 mn8 mn9 mn10 mn11 mn12 mn13 mn15 mn16 mn17 mn18 mn19 mn20 mn25 mn37 mn38 mn39 mn43 mn44 mn48 mf1 p1 hs1_0 (by omega) (by omega) (by omega) (by omega)) hP hD hS hA [0, 1] [] rfl rfl rfl (by decide) (by decide) (by decide) 0 11 rfl rfl rfl hl.1 rfl (Nat.le_of_ble_eq_true rfl) (by decide) (by decide) dX12_goDrawn_5 (fun u14882 H locs hw hP hD hS => ?_)
  replace hP : va_P D vwCl [(md, .inr (11, [.int mn0, .ref ma1, .ref ma2, .ref ma3, .ref ma4, .int mn5, .ref ma6, .int mn7, .int mn8, .int mn9, .int mn10, .int mn11, .int mn12, .int mn13, .ref ma14, .int (u14882.1 0), .int (u14882.1 1), .int (u14882.1 2), .int mn18, .int mn19, .int mn20, .ref ma21, .ref ma22, .ref ma23, .ref ma24, .int mn25, .ref ma26, .ref ma27, .ref ma28, .ref ma29, .ref ma30, .ref ma31, .ref ma32, .ref ma33, .ref ma34, .ref ma35, .ref ma36, .int mn37, .int mn38, .int mn39, .ref ma40, .ref ma41, .ref ma42, .int mn43, .int mn44, .ref ma45, .ref ma46, .ref ma47, .int mn48, .ref ma49, .ref ma50, .ref ma51, .ref ma52])), (ma1, .inl (K 1, 262, .inl mf1))] H := hP
  replace hD : va_D A [(md, .inr (11, [.int mn0, .ref ma1, .ref ma2, .ref ma3, .ref ma4, .int mn5, .ref ma6, .int mn7, .int mn8, .int mn9, .int mn10, .int mn11, .int mn12, .int mn13, .ref ma14, .int (u14882.1 0), .int (u14882.1 1), .int (u14882.1 2), .int mn18, .int mn19, .int mn20, .ref ma21, .ref ma22, .ref ma23, .ref ma24, .int mn25, .ref ma26, .ref ma27, .ref ma28, .ref ma29, .ref ma30, .ref ma31, .ref ma32, .ref ma33, .ref ma34, .ref ma35, .ref ma36, .int mn37, .int mn38, .int mn39, .ref ma40, .ref ma41, .ref ma42, .int mn43, .int mn44, .ref ma45, .ref ma46, .ref ma47, .int mn48, .ref ma49, .ref ma50, .ref ma51, .ref ma52])), (ma1, .inl (K 1, 262, .inl mf1))] := hD
  replace hP : va_P D vwCl [(md, .inr (11, [.int mn0, .ref ma1, .ref ma2, .ref ma3, .ref ma4, .int mn5, .ref ma6, .int mn7, .int mn8, .int mn9, .int mn10, .int mn11, .int mn12, .int mn13, .ref ma14, .int (u14882.1 0), .int (u14882.1 1), .int (u14882.1 2), .int mn18, .int mn19, .int mn20, .ref ma21, .ref ma22, .ref ma23, .ref ma24, .int mn25, .ref ma26, .ref ma27, .ref ma28, .ref ma29, .ref ma30, .ref ma31, .ref ma32, .ref ma33, .ref ma34, .ref ma35, .ref ma36, .int mn37, .int mn38, .int mn39, .ref ma40, .ref ma41, .ref ma42, .int mn43, .int mn44, .ref ma45, .ref ma46, .ref ma47, .int mn48, .ref ma49, .ref ma50, .ref ma51, .ref ma52])), (ma1, .inl (K 1, 262, .inl mf1))] H := hP.sub [0, 1] rfl
  replace hD : va_D A [(md, .inr (11, [.int mn0, .ref ma1, .ref ma2, .ref ma3, .ref ma4, .int mn5, .ref ma6, .int mn7, .int mn8, .int mn9, .int mn10, .int mn11, .int mn12, .int mn13, .ref ma14, .int (u14882.1 0), .int (u14882.1 1), .int (u14882.1 2), .int mn18, .int mn19, .int mn20, .ref ma21, .ref ma22, .ref ma23, .ref ma24, .int mn25, .ref ma26, .ref ma27, .ref ma28, .ref ma29, .ref ma30, .ref ma31, .ref ma32, .ref ma33, .ref ma34, .ref ma35, .ref ma36, .int mn37, .int mn38, .int mn39, .ref ma40, .ref ma41, .ref ma42, .int mn43, .int mn44, .ref ma45, .ref ma46, .ref ma47, .int mn48, .ref ma49, .ref ma50, .ref ma51, .ref ma52])), (ma1, .inl (K 1, 262, .inl mf1))] := hD.sub [0, 1] (by decide) rfl
  refine W.widen (k := 0) (n := 0) (by decide) (by decide) ?_
  have hf := hw
  have f14884 : 0 ≤ (u14882.1 0).toInt ∧ (u14882.1 0).toInt ≤ 9 := hf.1
  have f14885 : 0 ≤ (u14882.1 1).toInt ∧ (u14882.1 1).toInt ≤ 1023 := hf.2.1
  have f14886 : 0 ≤ (u14882.1 2).toInt ∧ (u14882.1 2).toInt ≤ 3 := hf.2.2
  refine lv_aload_n hx hb dX12_goDrawn_8 rfl (lv_at hl 1 rfl) ?_
  refine lv_aload_n hx hb dX12_goDrawn_9 rfl (lv_at hl 1 rfl) ?_
  refine ro_V (As := []) (rest := [.ref md]) hC hE kV_X12_319 (c_X12_isKnowing l D K md ma1 ma2 ma3 ma4 ma6 ma14 ma21 ma22 ma23 ma24 ma26 ma27 ma28 ma29 ma30 ma31 ma32 ma33 ma34 ma35 ma36 ma40 ma41 ma42 ma45 ma46 ma47 ma49 ma50 ma51 ma52 mn0 mn5 mn7 mn8 mn9 mn10 mn11 mn12 mn13 (u14882.1 0) (u14882.1 1) (u14882.1 2) mn18 mn19 mn20 mn25 mn37 mn38 mn39 mn43 mn44 mn48) (hP.sub (ws' := [(md, .inr (11, [.int mn0, .ref ma1, .ref ma2, .ref ma3, .ref ma4, .int mn5, .ref ma6, .int mn7, .int mn8, .int mn9, .int mn10, .int mn11, .int mn12, .int mn13, .ref ma14, .int (u14882.1 0), .int (u14882.1 1), .int (u14882.1 2), .int mn18, .int mn19, .int mn20, .ref ma21, .ref ma22, .ref ma23, .ref ma24, .int mn25, .ref ma26, .ref ma27, .ref ma28, .ref ma29, .ref ma30, .ref ma31, .ref ma32, .ref ma33, .ref ma34, .ref ma35, .ref ma36, .int mn37, .int mn38, .int mn39, .ref ma40, .ref ma41, .ref ma42, .int mn43, .int mn44, .ref ma45, .ref ma46, .ref ma47, .int mn48, .ref ma49, .ref ma50, .ref ma51, .ref ma52]))]) [0] rfl) 0 11 rfl rfl rfl hl.1 rfl (Nat.le_of_ble_eq_true rfl) (by decide) (by decide) dX12_goDrawn_10 (fun r14887 hq => ?_)
  rcases hq with rfl | rfl
  · refine lv_if_eq (tgt := 20) hx hb dX12_goDrawn_13 (by decide) (fun _ => ?_) (fun h => absurd h (by decide))
    refine lv_iconst (v := 0) hx hb dX12_goDrawn_20 (by decide) ?_
    refine va_put (D := D) (ci := 11) (v := .int 0) (ty := .int) (C := RX12) (T := TX12) (N := 53) hx hb hts in_X12 tyX12 tyX12_ok nmX12 hown hE.1 hP hD hS 0 rfl rfl 48 (by decide) (hts _ w_1133) (fun _ h9 => h9) rfl (by decide +kernel) rfl rfl (Nat.le_of_ble_eq_true rfl) dX12_goDrawn_21 (fun H locs hP hD hS => ?_)
    replace hP : va_P D vwCl [(md, .inr (11, [.int mn0, .ref ma1, .ref ma2, .ref ma3, .ref ma4, .int mn5, .ref ma6, .int mn7, .int mn8, .int mn9, .int mn10, .int mn11, .int mn12, .int mn13, .ref ma14, .int (u14882.1 0), .int (u14882.1 1), .int (u14882.1 2), .int mn18, .int mn19, .int mn20, .ref ma21, .ref ma22, .ref ma23, .ref ma24, .int mn25, .ref ma26, .ref ma27, .ref ma28, .ref ma29, .ref ma30, .ref ma31, .ref ma32, .ref ma33, .ref ma34, .ref ma35, .ref ma36, .int mn37, .int mn38, .int mn39, .ref ma40, .ref ma41, .ref ma42, .int mn43, .int mn44, .ref ma45, .ref ma46, .ref ma47, .int 0, .ref ma49, .ref ma50, .ref ma51, .ref ma52])), (ma1, .inl (K 1, 262, .inl mf1))] H := hP
    replace hD : va_D A [(md, .inr (11, [.int mn0, .ref ma1, .ref ma2, .ref ma3, .ref ma4, .int mn5, .ref ma6, .int mn7, .int mn8, .int mn9, .int mn10, .int mn11, .int mn12, .int mn13, .ref ma14, .int (u14882.1 0), .int (u14882.1 1), .int (u14882.1 2), .int mn18, .int mn19, .int mn20, .ref ma21, .ref ma22, .ref ma23, .ref ma24, .int mn25, .ref ma26, .ref ma27, .ref ma28, .ref ma29, .ref ma30, .ref ma31, .ref ma32, .ref ma33, .ref ma34, .ref ma35, .ref ma36, .int mn37, .int mn38, .int mn39, .ref ma40, .ref ma41, .ref ma42, .int mn43, .int mn44, .ref ma45, .ref ma46, .ref ma47, .int 0, .ref ma49, .ref ma50, .ref ma51, .ref ma52])), (ma1, .inl (K 1, 262, .inl mf1))] := hD
    refine lv_iconst (v := 0) hx hb dX12_goDrawn_24 (by decide) ?_
    refine lv_istore (lv' := [(7, .int 0), (5, .long p0), (0, .ref md), (1, .long p0), (3, .int p1), (4, .int p2)]) hx hb dX12_goDrawn_25 hl (by decide) rfl (fun ls hl => ?_)
    have hl' := hl; have hP' := hP; have hD' := hD; clear hl hP hD
    obtain ⟨i14904, i14905, w14906, w14907, w14908, hi_27, hx_27, r15_27, r16_27, hl, hP, hD⟩ : ∃ (i14904 : Int32) (i14905 : Int64) (w14906 : Int32) (w14907 : Int32) (w14908 : Int32), ((0 : Int) ≤ i14904.toInt) ∧ (0 ≤ i14905.toInt ∧ i14905.toInt ≤ 2147483647) ∧ (0 ≤ w14906.toInt ∧ w14906.toInt ≤ 9) ∧ (0 ≤ w14907.toInt ∧ w14907.toInt ≤ 1023) ∧ lv_has ls 8 [(7, .int i14904), (5, .long i14905), (0, .ref md), (1, .long p0), (3, .int p1), (4, .int p2)] ∧ va_P D vwCl [(md, .inr (11, [.int mn0, .ref ma1, .ref ma2, .ref ma3, .ref ma4, .int mn5, .ref ma6, .int mn7, .int mn8, .int mn9, .int mn10, .int mn11, .int mn12, .int mn13, .ref ma14, .int w14906, .int w14907, .int (u14882.1 2), .int mn18, .int mn19, .int mn20, .ref ma21, .ref ma22, .ref ma23, .ref ma24, .int mn25, .ref ma26, .ref ma27, .ref ma28, .ref ma29, .ref ma30, .ref ma31, .ref ma32, .ref ma33, .ref ma34, .ref ma35, .ref ma36, .int mn37, .int mn38, .int mn39, .ref ma40, .ref ma41, .ref ma42, .int mn43, .int mn44, .ref ma45, .ref ma46, .ref ma47, .int w14908, .ref ma49, .ref ma50, .ref ma51, .ref ma52])), (ma1, .inl (K 1, 262, .inl mf1))] H ∧ va_D A [(md, .inr (11, [.int mn0, .ref ma1, .ref ma2, .ref ma3, .ref ma4, .int mn5, .ref ma6, .int mn7, .int mn8, .int mn9, .int mn10, .int mn11, .int mn12, .int mn13, .ref ma14, .int w14906, .int w14907, .int (u14882.1 2), .int mn18, .int mn19, .int mn20, .ref ma21, .ref ma22, .ref ma23, .ref ma24, .int mn25, .ref ma26, .ref ma27, .ref ma28, .ref ma29, .ref ma30, .ref ma31, .ref ma32, .ref ma33, .ref ma34, .ref ma35, .ref ma36, .int mn37, .int mn38, .int mn39, .ref ma40, .ref ma41, .ref ma42, .int mn43, .int mn44, .ref ma45, .ref ma46, .ref ma47, .int w14908, .ref ma49, .ref ma50, .ref ma51, .ref ma52])), (ma1, .inl (K 1, 262, .inl mf1))] := ⟨_, _, _, _, _, by omega, by omega, by omega, by omega, hl', hP', hD'⟩
    clear hl' hP' hD'
    have hb_27 := i32_hi p2
    obtain ⟨n_27, hn_27⟩ : ∃ n : Nat, (p2.toInt - i14904.toInt).toNat < n := ⟨_, Nat.lt_succ_self _⟩
    induction n_27 generalizing i14904 i14905 w14906 w14907 w14908 H locs ls with
    | zero => exact absurd hn_27 (Nat.not_lt_zero _)
    | succ n_27 ih_27 =>
      refine lv_iload hx hb dX12_goDrawn_27 (lv_at hl 0 rfl) ?_
      refine lv_iload hx hb dX12_goDrawn_29 (lv_at hl 5 rfl) ?_
      refine lv_icmp_ge (tgt := 92) hx hb dX12_goDrawn_31 (by decide) (fun c14909 => ?_) (fun c14909 => ?_)
      · replace c14909 := le_i c14909
        refine W.widen (k := 0) (n := 0) (by decide) (by decide) ?_
        exact ch_vret hC hr hk hS dX12_goDrawn_92 ((fun k => [w14906, w14907, (u14882.1 2), w14908].getD k 0, fun k => [].getD k (fun _ => 0), fun k => [].getD k (fun _ => 0)) : ((Nat → Int32) × (Nat → Nat → Int32) × (Nat → Nat → Int64))) ⟨(show 0 ≤ (w14906 : Int32).toInt ∧ (w14906 : Int32).toInt ≤ 9 from by omega), (show 0 ≤ (w14907 : Int32).toInt ∧ (w14907 : Int32).toInt ≤ 1023 from by omega), (show 0 ≤ ((u14882.1 2) : Int32).toInt ∧ ((u14882.1 2) : Int32).toInt ≤ 3 from by omega)⟩ (hP.sub [0, 1] rfl) (hD.sub [0, 1] (by decide) rfl)
      · replace c14909 := nle_i c14909
        refine lv_ldc2 (v := 1103515245) hx hb hown (hts _ w_1134) dX12_goDrawn_34 ?_
        refine lv_lload hx hb dX12_goDrawn_37 (lv_at hl 1 rfl) ?_
        refine lv_lmul hx hb dX12_goDrawn_39 ?_
        refine lv_topl (fun v14910 ev14910 => ?_)
        refine lv_ldc2 (v := 12345) hx hb hown (hts _ w_1135) dX12_goDrawn_40 ?_
        refine lv_ladd hx hb dX12_goDrawn_43 ?_
        refine lv_topl (fun v14911 ev14911 => ?_)
        refine lv_ldc2 (v := 2147483648) hx hb hown (hts _ w_1136) dX12_goDrawn_44 ?_
        refine lv_lrem hx hb dX12_goDrawn_47 (by decide) ?_
        refine lv_topl (fun v14912 ev14912 => ?_)
        refine lv_lstore (lv' := [(5, .long v14912), (7, .int i14904), (0, .ref md), (1, .long p0), (3, .int p1), (4, .int p2)]) hx hb dX12_goDrawn_48 hl (by decide) rfl (fun ls hl => ?_)
        refine lv_aload_n hx hb dX12_goDrawn_50 rfl (lv_at hl 2 rfl) ?_
        refine lv_lload hx hb dX12_goDrawn_51 (lv_at hl 0 rfl) ?_
        refine lv_ldc2 (v := 65536) hx hb hown (hts _ w_1137) dX12_goDrawn_53 ?_
        refine lv_ldiv hx hb dX12_goDrawn_56 (by decide) ?_
        refine lv_topl (fun v14913 ev14913 => ?_)
        refine lv_ldc2 (v := 4) hx hb hown (hts _ w_1075) dX12_goDrawn_57 ?_
        refine lv_lrem hx hb dX12_goDrawn_60 (by decide) ?_
        refine lv_topl (fun v14914 ev14914 => ?_)
        refine lv_l2i hx hb dX12_goDrawn_61 rfl ?_
        refine lv_topi (fun v14915 ev14915 => ?_)
        have tv14910 : v14910.toInt = 1103515245 * i14905.toInt := lmul_i ev14910 (by decide) rfl (by omega) (by omega)
        have tv14911 : v14911.toInt = v14910.toInt + 12345 := ladd_i ev14911 rfl (by decide) (by omega) (by omega)
        have tv14912 := lrem_i (n := 2147483648) ev14912 (by decide) (by decide) (by omega)
        have tv14913 := ldiv_i (n := 65536) ev14913 (by decide) (by decide) (by omega)
        have tv14914 := lrem_i (n := 4) ev14914 (by decide) (by decide) (by omega)
        have tv14915 : v14915.toInt = v14914.toInt := l2i_i ev14915 (by omega) (by omega)
        refine cv_V (As := [.int v14915]) (rest := []) (wc := [(md, .inr (11, [.int mn0, .ref ma1, .ref ma2, .ref ma3, .ref ma4, .int mn5, .ref ma6, .int mn7, .int mn8, .int mn9, .int mn10, .int mn11, .int mn12, .int mn13, .ref ma14, .int w14906, .int w14907, .int (u14882.1 2), .int mn18, .int mn19, .int mn20, .ref ma21, .ref ma22, .ref ma23, .ref ma24, .int mn25, .ref ma26, .ref ma27, .ref ma28, .ref ma29, .ref ma30, .ref ma31, .ref ma32, .ref ma33, .ref ma34, .ref ma35, .ref ma36, .int mn37, .int mn38, .int mn39, .ref ma40, .ref ma41, .ref ma42, .int mn43, .int mn44, .ref ma45, .ref ma46, .ref ma47, .int w14908, .ref ma49, .ref ma50, .ref ma51, .ref ma52])), (ma1, .inl (K 1, 262, .inl mf1))]) (wr := []) hC hE kV_X12_325 (c_X12_step l D K md ma1 ma2 ma3 ma4 ma6 ma14 ma21 ma22 ma23 ma24 ma26 ma27 ma28 ma29 ma30 ma31 ma32 ma33 ma34 ma35 ma36 ma40 ma41 ma42 ma45 ma46 ma47 ma49 ma50 ma51 ma52 mn0 mn5 mn7 mn8 mn9 mn10 mn11 mn12 mn13 w14906 w14907 (u14882.1 2) mn18 mn19 mn20 mn25 mn37 mn38 mn39 mn43 mn44 w14908 mf1 v14915 hs1_0 (by omega) (by omega) (by omega) (by omega)) hP hD hS hA [0, 1] [] rfl rfl rfl (by decide) (by decide) (by decide) 0 11 rfl rfl rfl hl.1 rfl (Nat.le_of_ble_eq_true rfl) (by decide) (by decide) dX12_goDrawn_62 (fun u14916 H locs hw hP hD hS => ?_)
        replace hP : va_P D vwCl [(md, .inr (11, [.int mn0, .ref ma1, .ref ma2, .ref ma3, .ref ma4, .int mn5, .ref ma6, .int mn7, .int mn8, .int mn9, .int mn10, .int mn11, .int mn12, .int mn13, .ref ma14, .int (u14916.1 0), .int (u14916.1 1), .int (u14882.1 2), .int mn18, .int mn19, .int mn20, .ref ma21, .ref ma22, .ref ma23, .ref ma24, .int mn25, .ref ma26, .ref ma27, .ref ma28, .ref ma29, .ref ma30, .ref ma31, .ref ma32, .ref ma33, .ref ma34, .ref ma35, .ref ma36, .int mn37, .int mn38, .int mn39, .ref ma40, .ref ma41, .ref ma42, .int mn43, .int mn44, .ref ma45, .ref ma46, .ref ma47, .int w14908, .ref ma49, .ref ma50, .ref ma51, .ref ma52])), (ma1, .inl (K 1, 262, .inl mf1))] H := hP
        replace hD : va_D A [(md, .inr (11, [.int mn0, .ref ma1, .ref ma2, .ref ma3, .ref ma4, .int mn5, .ref ma6, .int mn7, .int mn8, .int mn9, .int mn10, .int mn11, .int mn12, .int mn13, .ref ma14, .int (u14916.1 0), .int (u14916.1 1), .int (u14882.1 2), .int mn18, .int mn19, .int mn20, .ref ma21, .ref ma22, .ref ma23, .ref ma24, .int mn25, .ref ma26, .ref ma27, .ref ma28, .ref ma29, .ref ma30, .ref ma31, .ref ma32, .ref ma33, .ref ma34, .ref ma35, .ref ma36, .int mn37, .int mn38, .int mn39, .ref ma40, .ref ma41, .ref ma42, .int mn43, .int mn44, .ref ma45, .ref ma46, .ref ma47, .int w14908, .ref ma49, .ref ma50, .ref ma51, .ref ma52])), (ma1, .inl (K 1, 262, .inl mf1))] := hD
        replace hP : va_P D vwCl [(md, .inr (11, [.int mn0, .ref ma1, .ref ma2, .ref ma3, .ref ma4, .int mn5, .ref ma6, .int mn7, .int mn8, .int mn9, .int mn10, .int mn11, .int mn12, .int mn13, .ref ma14, .int (u14916.1 0), .int (u14916.1 1), .int (u14882.1 2), .int mn18, .int mn19, .int mn20, .ref ma21, .ref ma22, .ref ma23, .ref ma24, .int mn25, .ref ma26, .ref ma27, .ref ma28, .ref ma29, .ref ma30, .ref ma31, .ref ma32, .ref ma33, .ref ma34, .ref ma35, .ref ma36, .int mn37, .int mn38, .int mn39, .ref ma40, .ref ma41, .ref ma42, .int mn43, .int mn44, .ref ma45, .ref ma46, .ref ma47, .int w14908, .ref ma49, .ref ma50, .ref ma51, .ref ma52])), (ma1, .inl (K 1, 262, .inl mf1))] H := hP.sub [0, 1] rfl
        replace hD : va_D A [(md, .inr (11, [.int mn0, .ref ma1, .ref ma2, .ref ma3, .ref ma4, .int mn5, .ref ma6, .int mn7, .int mn8, .int mn9, .int mn10, .int mn11, .int mn12, .int mn13, .ref ma14, .int (u14916.1 0), .int (u14916.1 1), .int (u14882.1 2), .int mn18, .int mn19, .int mn20, .ref ma21, .ref ma22, .ref ma23, .ref ma24, .int mn25, .ref ma26, .ref ma27, .ref ma28, .ref ma29, .ref ma30, .ref ma31, .ref ma32, .ref ma33, .ref ma34, .ref ma35, .ref ma36, .int mn37, .int mn38, .int mn39, .ref ma40, .ref ma41, .ref ma42, .int mn43, .int mn44, .ref ma45, .ref ma46, .ref ma47, .int w14908, .ref ma49, .ref ma50, .ref ma51, .ref ma52])), (ma1, .inl (K 1, 262, .inl mf1))] := hD.sub [0, 1] (by decide) rfl
        refine W.widen (k := 0) (n := 0) (by decide) (by decide) ?_
        have hf := hw
        have f14918 : 0 ≤ (u14916.1 0).toInt ∧ (u14916.1 0).toInt ≤ 9 := hf.1
        have f14919 : 0 ≤ (u14916.1 1).toInt ∧ (u14916.1 1).toInt ≤ 1023 := hf.2
        refine lv_aload_n hx hb dX12_goDrawn_65 rfl (lv_at hl 2 rfl) ?_
        refine lv_dup hx hb dX12_goDrawn_66 rfl ?_
        refine va_get (D := D) (ci := 11) (v := .int w14908) (C := RX12) (T := TX12) (N := 53) hx hb hts in_X12 hown hE.1 hP 0 rfl rfl 48 (by decide) (hts _ w_1133) (fun _ h9 => h9) rfl dX12_goDrawn_67 ?_
        refine lv_aload_n hx hb dX12_goDrawn_70 rfl (lv_at hl 2 rfl) ?_
        refine ro_V (As := []) (rest := [.int w14908, .ref md]) hC hE kV_X12_319 (c_X12_isKnowing l D K md ma1 ma2 ma3 ma4 ma6 ma14 ma21 ma22 ma23 ma24 ma26 ma27 ma28 ma29 ma30 ma31 ma32 ma33 ma34 ma35 ma36 ma40 ma41 ma42 ma45 ma46 ma47 ma49 ma50 ma51 ma52 mn0 mn5 mn7 mn8 mn9 mn10 mn11 mn12 mn13 (u14916.1 0) (u14916.1 1) (u14882.1 2) mn18 mn19 mn20 mn25 mn37 mn38 mn39 mn43 mn44 w14908) (hP.sub (ws' := [(md, .inr (11, [.int mn0, .ref ma1, .ref ma2, .ref ma3, .ref ma4, .int mn5, .ref ma6, .int mn7, .int mn8, .int mn9, .int mn10, .int mn11, .int mn12, .int mn13, .ref ma14, .int (u14916.1 0), .int (u14916.1 1), .int (u14882.1 2), .int mn18, .int mn19, .int mn20, .ref ma21, .ref ma22, .ref ma23, .ref ma24, .int mn25, .ref ma26, .ref ma27, .ref ma28, .ref ma29, .ref ma30, .ref ma31, .ref ma32, .ref ma33, .ref ma34, .ref ma35, .ref ma36, .int mn37, .int mn38, .int mn39, .ref ma40, .ref ma41, .ref ma42, .int mn43, .int mn44, .ref ma45, .ref ma46, .ref ma47, .int w14908, .ref ma49, .ref ma50, .ref ma51, .ref ma52]))]) [0] rfl) 0 11 rfl rfl rfl hl.1 rfl (Nat.le_of_ble_eq_true rfl) (by decide) (by decide) dX12_goDrawn_71 (fun r14920 hq => ?_)
        rcases hq with rfl | rfl
        · refine lv_if_eq (tgt := 81) hx hb dX12_goDrawn_74 (by decide) (fun _ => ?_) (fun h => absurd h (by decide))
          refine lv_iconst (v := 0) hx hb dX12_goDrawn_81 (by decide) ?_
          refine lv_iadd hx hb dX12_goDrawn_82 ?_
          refine lv_topi (fun v14921 ev14921 => ?_)
          refine va_put (D := D) (ci := 11) (v := .int v14921) (ty := .int) (C := RX12) (T := TX12) (N := 53) hx hb hts in_X12 tyX12 tyX12_ok nmX12 hown hE.1 hP hD hS 0 rfl rfl 48 (by decide) (hts _ w_1133) (fun _ h9 => h9) rfl (by decide +kernel) rfl rfl (Nat.le_of_ble_eq_true rfl) dX12_goDrawn_83 (fun H locs hP hD hS => ?_)
          replace hP : va_P D vwCl [(md, .inr (11, [.int mn0, .ref ma1, .ref ma2, .ref ma3, .ref ma4, .int mn5, .ref ma6, .int mn7, .int mn8, .int mn9, .int mn10, .int mn11, .int mn12, .int mn13, .ref ma14, .int (u14916.1 0), .int (u14916.1 1), .int (u14882.1 2), .int mn18, .int mn19, .int mn20, .ref ma21, .ref ma22, .ref ma23, .ref ma24, .int mn25, .ref ma26, .ref ma27, .ref ma28, .ref ma29, .ref ma30, .ref ma31, .ref ma32, .ref ma33, .ref ma34, .ref ma35, .ref ma36, .int mn37, .int mn38, .int mn39, .ref ma40, .ref ma41, .ref ma42, .int mn43, .int mn44, .ref ma45, .ref ma46, .ref ma47, .int v14921, .ref ma49, .ref ma50, .ref ma51, .ref ma52])), (ma1, .inl (K 1, 262, .inl mf1))] H := hP
          replace hD : va_D A [(md, .inr (11, [.int mn0, .ref ma1, .ref ma2, .ref ma3, .ref ma4, .int mn5, .ref ma6, .int mn7, .int mn8, .int mn9, .int mn10, .int mn11, .int mn12, .int mn13, .ref ma14, .int (u14916.1 0), .int (u14916.1 1), .int (u14882.1 2), .int mn18, .int mn19, .int mn20, .ref ma21, .ref ma22, .ref ma23, .ref ma24, .int mn25, .ref ma26, .ref ma27, .ref ma28, .ref ma29, .ref ma30, .ref ma31, .ref ma32, .ref ma33, .ref ma34, .ref ma35, .ref ma36, .int mn37, .int mn38, .int mn39, .ref ma40, .ref ma41, .ref ma42, .int mn43, .int mn44, .ref ma45, .ref ma46, .ref ma47, .int v14921, .ref ma49, .ref ma50, .ref ma51, .ref ma52])), (ma1, .inl (K 1, 262, .inl mf1))] := hD
          obtain ⟨v14922, ev14922⟩ : ∃ z : Int32, z = i14904 + 1 := ⟨_, rfl⟩
          refine lv_iinc (v := v14922) (lv' := [(7, .int v14922), (5, .long v14912), (0, .ref md), (1, .long p0), (3, .int p1), (4, .int p2)]) hx hb dX12_goDrawn_86 hl (k := 1) rfl (by rw [ev14922]; rfl) (by decide) rfl (fun ls hl => ?_)
          refine lv_goto (tgt := 27) hx hb dX12_goDrawn_89 (by decide) ?_
          have tv14922 : v14922.toInt = (i14904 : Int32).toInt + (1 : Int32).toInt := add_i ev14922 (by omega) (by omega)
          exact ih_27 (i14904 := v14922) (i14905 := v14912) (w14906 := (u14916.1 0)) (w14907 := (u14916.1 1)) (w14908 := v14921) (hi_27 := by omega) (hx_27 := by omega) (r15_27 := by omega) (r16_27 := by omega) (H := H) (locs := locs) (ls := ls) (hn_27 := by omega) (hP := hP) (hD := hD) (hS := hS) (hl := lv_sub hl [0, 1, 2, 3, 4, 5] rfl)
        · refine lv_if_eq (tgt := 81) hx hb dX12_goDrawn_74 (by decide) (fun h => absurd h (by decide)) (fun _ => ?_)
          refine lv_iconst (v := 1) hx hb dX12_goDrawn_77 (by decide) ?_
          refine lv_goto (tgt := 82) hx hb dX12_goDrawn_78 (by decide) ?_
          refine lv_iadd hx hb dX12_goDrawn_82 ?_
          refine lv_topi (fun v14923 ev14923 => ?_)
          refine va_put (D := D) (ci := 11) (v := .int v14923) (ty := .int) (C := RX12) (T := TX12) (N := 53) hx hb hts in_X12 tyX12 tyX12_ok nmX12 hown hE.1 hP hD hS 0 rfl rfl 48 (by decide) (hts _ w_1133) (fun _ h9 => h9) rfl (by decide +kernel) rfl rfl (Nat.le_of_ble_eq_true rfl) dX12_goDrawn_83 (fun H locs hP hD hS => ?_)
          replace hP : va_P D vwCl [(md, .inr (11, [.int mn0, .ref ma1, .ref ma2, .ref ma3, .ref ma4, .int mn5, .ref ma6, .int mn7, .int mn8, .int mn9, .int mn10, .int mn11, .int mn12, .int mn13, .ref ma14, .int (u14916.1 0), .int (u14916.1 1), .int (u14882.1 2), .int mn18, .int mn19, .int mn20, .ref ma21, .ref ma22, .ref ma23, .ref ma24, .int mn25, .ref ma26, .ref ma27, .ref ma28, .ref ma29, .ref ma30, .ref ma31, .ref ma32, .ref ma33, .ref ma34, .ref ma35, .ref ma36, .int mn37, .int mn38, .int mn39, .ref ma40, .ref ma41, .ref ma42, .int mn43, .int mn44, .ref ma45, .ref ma46, .ref ma47, .int v14923, .ref ma49, .ref ma50, .ref ma51, .ref ma52])), (ma1, .inl (K 1, 262, .inl mf1))] H := hP
          replace hD : va_D A [(md, .inr (11, [.int mn0, .ref ma1, .ref ma2, .ref ma3, .ref ma4, .int mn5, .ref ma6, .int mn7, .int mn8, .int mn9, .int mn10, .int mn11, .int mn12, .int mn13, .ref ma14, .int (u14916.1 0), .int (u14916.1 1), .int (u14882.1 2), .int mn18, .int mn19, .int mn20, .ref ma21, .ref ma22, .ref ma23, .ref ma24, .int mn25, .ref ma26, .ref ma27, .ref ma28, .ref ma29, .ref ma30, .ref ma31, .ref ma32, .ref ma33, .ref ma34, .ref ma35, .ref ma36, .int mn37, .int mn38, .int mn39, .ref ma40, .ref ma41, .ref ma42, .int mn43, .int mn44, .ref ma45, .ref ma46, .ref ma47, .int v14923, .ref ma49, .ref ma50, .ref ma51, .ref ma52])), (ma1, .inl (K 1, 262, .inl mf1))] := hD
          obtain ⟨v14924, ev14924⟩ : ∃ z : Int32, z = i14904 + 1 := ⟨_, rfl⟩
          refine lv_iinc (v := v14924) (lv' := [(7, .int v14924), (5, .long v14912), (0, .ref md), (1, .long p0), (3, .int p1), (4, .int p2)]) hx hb dX12_goDrawn_86 hl (k := 1) rfl (by rw [ev14924]; rfl) (by decide) rfl (fun ls hl => ?_)
          refine lv_goto (tgt := 27) hx hb dX12_goDrawn_89 (by decide) ?_
          have tv14924 : v14924.toInt = (i14904 : Int32).toInt + (1 : Int32).toInt := add_i ev14924 (by omega) (by omega)
          exact ih_27 (i14904 := v14924) (i14905 := v14912) (w14906 := (u14916.1 0)) (w14907 := (u14916.1 1)) (w14908 := v14923) (hi_27 := by omega) (hx_27 := by omega) (r15_27 := by omega) (r16_27 := by omega) (H := H) (locs := locs) (ls := ls) (hn_27 := by omega) (hP := hP) (hD := hD) (hS := hS) (hl := lv_sub hl [0, 1, 2, 3, 4, 5] rfl)
  · refine lv_if_eq (tgt := 20) hx hb dX12_goDrawn_13 (by decide) (fun h => absurd h (by decide)) (fun _ => ?_)
    refine lv_iconst (v := 1) hx hb dX12_goDrawn_16 (by decide) ?_
    refine lv_goto (tgt := 21) hx hb dX12_goDrawn_17 (by decide) ?_
    refine va_put (D := D) (ci := 11) (v := .int 1) (ty := .int) (C := RX12) (T := TX12) (N := 53) hx hb hts in_X12 tyX12 tyX12_ok nmX12 hown hE.1 hP hD hS 0 rfl rfl 48 (by decide) (hts _ w_1133) (fun _ h9 => h9) rfl (by decide +kernel) rfl rfl (Nat.le_of_ble_eq_true rfl) dX12_goDrawn_21 (fun H locs hP hD hS => ?_)
    replace hP : va_P D vwCl [(md, .inr (11, [.int mn0, .ref ma1, .ref ma2, .ref ma3, .ref ma4, .int mn5, .ref ma6, .int mn7, .int mn8, .int mn9, .int mn10, .int mn11, .int mn12, .int mn13, .ref ma14, .int (u14882.1 0), .int (u14882.1 1), .int (u14882.1 2), .int mn18, .int mn19, .int mn20, .ref ma21, .ref ma22, .ref ma23, .ref ma24, .int mn25, .ref ma26, .ref ma27, .ref ma28, .ref ma29, .ref ma30, .ref ma31, .ref ma32, .ref ma33, .ref ma34, .ref ma35, .ref ma36, .int mn37, .int mn38, .int mn39, .ref ma40, .ref ma41, .ref ma42, .int mn43, .int mn44, .ref ma45, .ref ma46, .ref ma47, .int 1, .ref ma49, .ref ma50, .ref ma51, .ref ma52])), (ma1, .inl (K 1, 262, .inl mf1))] H := hP
    replace hD : va_D A [(md, .inr (11, [.int mn0, .ref ma1, .ref ma2, .ref ma3, .ref ma4, .int mn5, .ref ma6, .int mn7, .int mn8, .int mn9, .int mn10, .int mn11, .int mn12, .int mn13, .ref ma14, .int (u14882.1 0), .int (u14882.1 1), .int (u14882.1 2), .int mn18, .int mn19, .int mn20, .ref ma21, .ref ma22, .ref ma23, .ref ma24, .int mn25, .ref ma26, .ref ma27, .ref ma28, .ref ma29, .ref ma30, .ref ma31, .ref ma32, .ref ma33, .ref ma34, .ref ma35, .ref ma36, .int mn37, .int mn38, .int mn39, .ref ma40, .ref ma41, .ref ma42, .int mn43, .int mn44, .ref ma45, .ref ma46, .ref ma47, .int 1, .ref ma49, .ref ma50, .ref ma51, .ref ma52])), (ma1, .inl (K 1, 262, .inl mf1))] := hD
    refine lv_iconst (v := 0) hx hb dX12_goDrawn_24 (by decide) ?_
    refine lv_istore (lv' := [(7, .int 0), (5, .long p0), (0, .ref md), (1, .long p0), (3, .int p1), (4, .int p2)]) hx hb dX12_goDrawn_25 hl (by decide) rfl (fun ls hl => ?_)
    have hl' := hl; have hP' := hP; have hD' := hD; clear hl hP hD
    obtain ⟨i14941, i14942, w14943, w14944, w14945, hi_27, hx_27, r15_27, r16_27, hl, hP, hD⟩ : ∃ (i14941 : Int32) (i14942 : Int64) (w14943 : Int32) (w14944 : Int32) (w14945 : Int32), ((0 : Int) ≤ i14941.toInt) ∧ (0 ≤ i14942.toInt ∧ i14942.toInt ≤ 2147483647) ∧ (0 ≤ w14943.toInt ∧ w14943.toInt ≤ 9) ∧ (0 ≤ w14944.toInt ∧ w14944.toInt ≤ 1023) ∧ lv_has ls 8 [(7, .int i14941), (5, .long i14942), (0, .ref md), (1, .long p0), (3, .int p1), (4, .int p2)] ∧ va_P D vwCl [(md, .inr (11, [.int mn0, .ref ma1, .ref ma2, .ref ma3, .ref ma4, .int mn5, .ref ma6, .int mn7, .int mn8, .int mn9, .int mn10, .int mn11, .int mn12, .int mn13, .ref ma14, .int w14943, .int w14944, .int (u14882.1 2), .int mn18, .int mn19, .int mn20, .ref ma21, .ref ma22, .ref ma23, .ref ma24, .int mn25, .ref ma26, .ref ma27, .ref ma28, .ref ma29, .ref ma30, .ref ma31, .ref ma32, .ref ma33, .ref ma34, .ref ma35, .ref ma36, .int mn37, .int mn38, .int mn39, .ref ma40, .ref ma41, .ref ma42, .int mn43, .int mn44, .ref ma45, .ref ma46, .ref ma47, .int w14945, .ref ma49, .ref ma50, .ref ma51, .ref ma52])), (ma1, .inl (K 1, 262, .inl mf1))] H ∧ va_D A [(md, .inr (11, [.int mn0, .ref ma1, .ref ma2, .ref ma3, .ref ma4, .int mn5, .ref ma6, .int mn7, .int mn8, .int mn9, .int mn10, .int mn11, .int mn12, .int mn13, .ref ma14, .int w14943, .int w14944, .int (u14882.1 2), .int mn18, .int mn19, .int mn20, .ref ma21, .ref ma22, .ref ma23, .ref ma24, .int mn25, .ref ma26, .ref ma27, .ref ma28, .ref ma29, .ref ma30, .ref ma31, .ref ma32, .ref ma33, .ref ma34, .ref ma35, .ref ma36, .int mn37, .int mn38, .int mn39, .ref ma40, .ref ma41, .ref ma42, .int mn43, .int mn44, .ref ma45, .ref ma46, .ref ma47, .int w14945, .ref ma49, .ref ma50, .ref ma51, .ref ma52])), (ma1, .inl (K 1, 262, .inl mf1))] := ⟨_, _, _, _, _, by omega, by omega, by omega, by omega, hl', hP', hD'⟩
    clear hl' hP' hD'
    have hb_27 := i32_hi p2
    obtain ⟨n_27, hn_27⟩ : ∃ n : Nat, (p2.toInt - i14941.toInt).toNat < n := ⟨_, Nat.lt_succ_self _⟩
    induction n_27 generalizing i14941 i14942 w14943 w14944 w14945 H locs ls with
    | zero => exact absurd hn_27 (Nat.not_lt_zero _)
    | succ n_27 ih_27 =>
      refine lv_iload hx hb dX12_goDrawn_27 (lv_at hl 0 rfl) ?_
      refine lv_iload hx hb dX12_goDrawn_29 (lv_at hl 5 rfl) ?_
      refine lv_icmp_ge (tgt := 92) hx hb dX12_goDrawn_31 (by decide) (fun c14946 => ?_) (fun c14946 => ?_)
      · replace c14946 := le_i c14946
        refine W.widen (k := 0) (n := 0) (by decide) (by decide) ?_
        exact ch_vret hC hr hk hS dX12_goDrawn_92 ((fun k => [w14943, w14944, (u14882.1 2), w14945].getD k 0, fun k => [].getD k (fun _ => 0), fun k => [].getD k (fun _ => 0)) : ((Nat → Int32) × (Nat → Nat → Int32) × (Nat → Nat → Int64))) ⟨(show 0 ≤ (w14943 : Int32).toInt ∧ (w14943 : Int32).toInt ≤ 9 from by omega), (show 0 ≤ (w14944 : Int32).toInt ∧ (w14944 : Int32).toInt ≤ 1023 from by omega), (show 0 ≤ ((u14882.1 2) : Int32).toInt ∧ ((u14882.1 2) : Int32).toInt ≤ 3 from by omega)⟩ (hP.sub [0, 1] rfl) (hD.sub [0, 1] (by decide) rfl)
      · replace c14946 := nle_i c14946
        refine lv_ldc2 (v := 1103515245) hx hb hown (hts _ w_1134) dX12_goDrawn_34 ?_
        refine lv_lload hx hb dX12_goDrawn_37 (lv_at hl 1 rfl) ?_
        refine lv_lmul hx hb dX12_goDrawn_39 ?_
        refine lv_topl (fun v14947 ev14947 => ?_)
        refine lv_ldc2 (v := 12345) hx hb hown (hts _ w_1135) dX12_goDrawn_40 ?_
        refine lv_ladd hx hb dX12_goDrawn_43 ?_
        refine lv_topl (fun v14948 ev14948 => ?_)
        refine lv_ldc2 (v := 2147483648) hx hb hown (hts _ w_1136) dX12_goDrawn_44 ?_
        refine lv_lrem hx hb dX12_goDrawn_47 (by decide) ?_
        refine lv_topl (fun v14949 ev14949 => ?_)
        refine lv_lstore (lv' := [(5, .long v14949), (7, .int i14941), (0, .ref md), (1, .long p0), (3, .int p1), (4, .int p2)]) hx hb dX12_goDrawn_48 hl (by decide) rfl (fun ls hl => ?_)
        refine lv_aload_n hx hb dX12_goDrawn_50 rfl (lv_at hl 2 rfl) ?_
        refine lv_lload hx hb dX12_goDrawn_51 (lv_at hl 0 rfl) ?_
        refine lv_ldc2 (v := 65536) hx hb hown (hts _ w_1137) dX12_goDrawn_53 ?_
        refine lv_ldiv hx hb dX12_goDrawn_56 (by decide) ?_
        refine lv_topl (fun v14950 ev14950 => ?_)
        refine lv_ldc2 (v := 4) hx hb hown (hts _ w_1075) dX12_goDrawn_57 ?_
        refine lv_lrem hx hb dX12_goDrawn_60 (by decide) ?_
        refine lv_topl (fun v14951 ev14951 => ?_)
        refine lv_l2i hx hb dX12_goDrawn_61 rfl ?_
        refine lv_topi (fun v14952 ev14952 => ?_)
        have tv14947 : v14947.toInt = 1103515245 * i14942.toInt := lmul_i ev14947 (by decide) rfl (by omega) (by omega)
        have tv14948 : v14948.toInt = v14947.toInt + 12345 := ladd_i ev14948 rfl (by decide) (by omega) (by omega)
        have tv14949 := lrem_i (n := 2147483648) ev14949 (by decide) (by decide) (by omega)
        have tv14950 := ldiv_i (n := 65536) ev14950 (by decide) (by decide) (by omega)
        have tv14951 := lrem_i (n := 4) ev14951 (by decide) (by decide) (by omega)
        have tv14952 : v14952.toInt = v14951.toInt := l2i_i ev14952 (by omega) (by omega)
        refine cv_V (As := [.int v14952]) (rest := []) (wc := [(md, .inr (11, [.int mn0, .ref ma1, .ref ma2, .ref ma3, .ref ma4, .int mn5, .ref ma6, .int mn7, .int mn8, .int mn9, .int mn10, .int mn11, .int mn12, .int mn13, .ref ma14, .int w14943, .int w14944, .int (u14882.1 2), .int mn18, .int mn19, .int mn20, .ref ma21, .ref ma22, .ref ma23, .ref ma24, .int mn25, .ref ma26, .ref ma27, .ref ma28, .ref ma29, .ref ma30, .ref ma31, .ref ma32, .ref ma33, .ref ma34, .ref ma35, .ref ma36, .int mn37, .int mn38, .int mn39, .ref ma40, .ref ma41, .ref ma42, .int mn43, .int mn44, .ref ma45, .ref ma46, .ref ma47, .int w14945, .ref ma49, .ref ma50, .ref ma51, .ref ma52])), (ma1, .inl (K 1, 262, .inl mf1))]) (wr := []) hC hE kV_X12_325 (c_X12_step l D K md ma1 ma2 ma3 ma4 ma6 ma14 ma21 ma22 ma23 ma24 ma26 ma27 ma28 ma29 ma30 ma31 ma32 ma33 ma34 ma35 ma36 ma40 ma41 ma42 ma45 ma46 ma47 ma49 ma50 ma51 ma52 mn0 mn5 mn7 mn8 mn9 mn10 mn11 mn12 mn13 w14943 w14944 (u14882.1 2) mn18 mn19 mn20 mn25 mn37 mn38 mn39 mn43 mn44 w14945 mf1 v14952 hs1_0 (by omega) (by omega) (by omega) (by omega)) hP hD hS hA [0, 1] [] rfl rfl rfl (by decide) (by decide) (by decide) 0 11 rfl rfl rfl hl.1 rfl (Nat.le_of_ble_eq_true rfl) (by decide) (by decide) dX12_goDrawn_62 (fun u14953 H locs hw hP hD hS => ?_)
        replace hP : va_P D vwCl [(md, .inr (11, [.int mn0, .ref ma1, .ref ma2, .ref ma3, .ref ma4, .int mn5, .ref ma6, .int mn7, .int mn8, .int mn9, .int mn10, .int mn11, .int mn12, .int mn13, .ref ma14, .int (u14953.1 0), .int (u14953.1 1), .int (u14882.1 2), .int mn18, .int mn19, .int mn20, .ref ma21, .ref ma22, .ref ma23, .ref ma24, .int mn25, .ref ma26, .ref ma27, .ref ma28, .ref ma29, .ref ma30, .ref ma31, .ref ma32, .ref ma33, .ref ma34, .ref ma35, .ref ma36, .int mn37, .int mn38, .int mn39, .ref ma40, .ref ma41, .ref ma42, .int mn43, .int mn44, .ref ma45, .ref ma46, .ref ma47, .int w14945, .ref ma49, .ref ma50, .ref ma51, .ref ma52])), (ma1, .inl (K 1, 262, .inl mf1))] H := hP
        replace hD : va_D A [(md, .inr (11, [.int mn0, .ref ma1, .ref ma2, .ref ma3, .ref ma4, .int mn5, .ref ma6, .int mn7, .int mn8, .int mn9, .int mn10, .int mn11, .int mn12, .int mn13, .ref ma14, .int (u14953.1 0), .int (u14953.1 1), .int (u14882.1 2), .int mn18, .int mn19, .int mn20, .ref ma21, .ref ma22, .ref ma23, .ref ma24, .int mn25, .ref ma26, .ref ma27, .ref ma28, .ref ma29, .ref ma30, .ref ma31, .ref ma32, .ref ma33, .ref ma34, .ref ma35, .ref ma36, .int mn37, .int mn38, .int mn39, .ref ma40, .ref ma41, .ref ma42, .int mn43, .int mn44, .ref ma45, .ref ma46, .ref ma47, .int w14945, .ref ma49, .ref ma50, .ref ma51, .ref ma52])), (ma1, .inl (K 1, 262, .inl mf1))] := hD
        replace hP : va_P D vwCl [(md, .inr (11, [.int mn0, .ref ma1, .ref ma2, .ref ma3, .ref ma4, .int mn5, .ref ma6, .int mn7, .int mn8, .int mn9, .int mn10, .int mn11, .int mn12, .int mn13, .ref ma14, .int (u14953.1 0), .int (u14953.1 1), .int (u14882.1 2), .int mn18, .int mn19, .int mn20, .ref ma21, .ref ma22, .ref ma23, .ref ma24, .int mn25, .ref ma26, .ref ma27, .ref ma28, .ref ma29, .ref ma30, .ref ma31, .ref ma32, .ref ma33, .ref ma34, .ref ma35, .ref ma36, .int mn37, .int mn38, .int mn39, .ref ma40, .ref ma41, .ref ma42, .int mn43, .int mn44, .ref ma45, .ref ma46, .ref ma47, .int w14945, .ref ma49, .ref ma50, .ref ma51, .ref ma52])), (ma1, .inl (K 1, 262, .inl mf1))] H := hP.sub [0, 1] rfl
        replace hD : va_D A [(md, .inr (11, [.int mn0, .ref ma1, .ref ma2, .ref ma3, .ref ma4, .int mn5, .ref ma6, .int mn7, .int mn8, .int mn9, .int mn10, .int mn11, .int mn12, .int mn13, .ref ma14, .int (u14953.1 0), .int (u14953.1 1), .int (u14882.1 2), .int mn18, .int mn19, .int mn20, .ref ma21, .ref ma22, .ref ma23, .ref ma24, .int mn25, .ref ma26, .ref ma27, .ref ma28, .ref ma29, .ref ma30, .ref ma31, .ref ma32, .ref ma33, .ref ma34, .ref ma35, .ref ma36, .int mn37, .int mn38, .int mn39, .ref ma40, .ref ma41, .ref ma42, .int mn43, .int mn44, .ref ma45, .ref ma46, .ref ma47, .int w14945, .ref ma49, .ref ma50, .ref ma51, .ref ma52])), (ma1, .inl (K 1, 262, .inl mf1))] := hD.sub [0, 1] (by decide) rfl
        refine W.widen (k := 0) (n := 0) (by decide) (by decide) ?_
        have hf := hw
        have f14955 : 0 ≤ (u14953.1 0).toInt ∧ (u14953.1 0).toInt ≤ 9 := hf.1
        have f14956 : 0 ≤ (u14953.1 1).toInt ∧ (u14953.1 1).toInt ≤ 1023 := hf.2
        refine lv_aload_n hx hb dX12_goDrawn_65 rfl (lv_at hl 2 rfl) ?_
        refine lv_dup hx hb dX12_goDrawn_66 rfl ?_
        refine va_get (D := D) (ci := 11) (v := .int w14945) (C := RX12) (T := TX12) (N := 53) hx hb hts in_X12 hown hE.1 hP 0 rfl rfl 48 (by decide) (hts _ w_1133) (fun _ h9 => h9) rfl dX12_goDrawn_67 ?_
        refine lv_aload_n hx hb dX12_goDrawn_70 rfl (lv_at hl 2 rfl) ?_
        refine ro_V (As := []) (rest := [.int w14945, .ref md]) hC hE kV_X12_319 (c_X12_isKnowing l D K md ma1 ma2 ma3 ma4 ma6 ma14 ma21 ma22 ma23 ma24 ma26 ma27 ma28 ma29 ma30 ma31 ma32 ma33 ma34 ma35 ma36 ma40 ma41 ma42 ma45 ma46 ma47 ma49 ma50 ma51 ma52 mn0 mn5 mn7 mn8 mn9 mn10 mn11 mn12 mn13 (u14953.1 0) (u14953.1 1) (u14882.1 2) mn18 mn19 mn20 mn25 mn37 mn38 mn39 mn43 mn44 w14945) (hP.sub (ws' := [(md, .inr (11, [.int mn0, .ref ma1, .ref ma2, .ref ma3, .ref ma4, .int mn5, .ref ma6, .int mn7, .int mn8, .int mn9, .int mn10, .int mn11, .int mn12, .int mn13, .ref ma14, .int (u14953.1 0), .int (u14953.1 1), .int (u14882.1 2), .int mn18, .int mn19, .int mn20, .ref ma21, .ref ma22, .ref ma23, .ref ma24, .int mn25, .ref ma26, .ref ma27, .ref ma28, .ref ma29, .ref ma30, .ref ma31, .ref ma32, .ref ma33, .ref ma34, .ref ma35, .ref ma36, .int mn37, .int mn38, .int mn39, .ref ma40, .ref ma41, .ref ma42, .int mn43, .int mn44, .ref ma45, .ref ma46, .ref ma47, .int w14945, .ref ma49, .ref ma50, .ref ma51, .ref ma52]))]) [0] rfl) 0 11 rfl rfl rfl hl.1 rfl (Nat.le_of_ble_eq_true rfl) (by decide) (by decide) dX12_goDrawn_71 (fun r14957 hq => ?_)
        rcases hq with rfl | rfl
        · refine lv_if_eq (tgt := 81) hx hb dX12_goDrawn_74 (by decide) (fun _ => ?_) (fun h => absurd h (by decide))
          refine lv_iconst (v := 0) hx hb dX12_goDrawn_81 (by decide) ?_
          refine lv_iadd hx hb dX12_goDrawn_82 ?_
          refine lv_topi (fun v14958 ev14958 => ?_)
          refine va_put (D := D) (ci := 11) (v := .int v14958) (ty := .int) (C := RX12) (T := TX12) (N := 53) hx hb hts in_X12 tyX12 tyX12_ok nmX12 hown hE.1 hP hD hS 0 rfl rfl 48 (by decide) (hts _ w_1133) (fun _ h9 => h9) rfl (by decide +kernel) rfl rfl (Nat.le_of_ble_eq_true rfl) dX12_goDrawn_83 (fun H locs hP hD hS => ?_)
          replace hP : va_P D vwCl [(md, .inr (11, [.int mn0, .ref ma1, .ref ma2, .ref ma3, .ref ma4, .int mn5, .ref ma6, .int mn7, .int mn8, .int mn9, .int mn10, .int mn11, .int mn12, .int mn13, .ref ma14, .int (u14953.1 0), .int (u14953.1 1), .int (u14882.1 2), .int mn18, .int mn19, .int mn20, .ref ma21, .ref ma22, .ref ma23, .ref ma24, .int mn25, .ref ma26, .ref ma27, .ref ma28, .ref ma29, .ref ma30, .ref ma31, .ref ma32, .ref ma33, .ref ma34, .ref ma35, .ref ma36, .int mn37, .int mn38, .int mn39, .ref ma40, .ref ma41, .ref ma42, .int mn43, .int mn44, .ref ma45, .ref ma46, .ref ma47, .int v14958, .ref ma49, .ref ma50, .ref ma51, .ref ma52])), (ma1, .inl (K 1, 262, .inl mf1))] H := hP
          replace hD : va_D A [(md, .inr (11, [.int mn0, .ref ma1, .ref ma2, .ref ma3, .ref ma4, .int mn5, .ref ma6, .int mn7, .int mn8, .int mn9, .int mn10, .int mn11, .int mn12, .int mn13, .ref ma14, .int (u14953.1 0), .int (u14953.1 1), .int (u14882.1 2), .int mn18, .int mn19, .int mn20, .ref ma21, .ref ma22, .ref ma23, .ref ma24, .int mn25, .ref ma26, .ref ma27, .ref ma28, .ref ma29, .ref ma30, .ref ma31, .ref ma32, .ref ma33, .ref ma34, .ref ma35, .ref ma36, .int mn37, .int mn38, .int mn39, .ref ma40, .ref ma41, .ref ma42, .int mn43, .int mn44, .ref ma45, .ref ma46, .ref ma47, .int v14958, .ref ma49, .ref ma50, .ref ma51, .ref ma52])), (ma1, .inl (K 1, 262, .inl mf1))] := hD
          obtain ⟨v14959, ev14959⟩ : ∃ z : Int32, z = i14941 + 1 := ⟨_, rfl⟩
          refine lv_iinc (v := v14959) (lv' := [(7, .int v14959), (5, .long v14949), (0, .ref md), (1, .long p0), (3, .int p1), (4, .int p2)]) hx hb dX12_goDrawn_86 hl (k := 1) rfl (by rw [ev14959]; rfl) (by decide) rfl (fun ls hl => ?_)
          refine lv_goto (tgt := 27) hx hb dX12_goDrawn_89 (by decide) ?_
          have tv14959 : v14959.toInt = (i14941 : Int32).toInt + (1 : Int32).toInt := add_i ev14959 (by omega) (by omega)
          exact ih_27 (i14941 := v14959) (i14942 := v14949) (w14943 := (u14953.1 0)) (w14944 := (u14953.1 1)) (w14945 := v14958) (hi_27 := by omega) (hx_27 := by omega) (r15_27 := by omega) (r16_27 := by omega) (H := H) (locs := locs) (ls := ls) (hn_27 := by omega) (hP := hP) (hD := hD) (hS := hS) (hl := lv_sub hl [0, 1, 2, 3, 4, 5] rfl)
        · refine lv_if_eq (tgt := 81) hx hb dX12_goDrawn_74 (by decide) (fun h => absurd h (by decide)) (fun _ => ?_)
          refine lv_iconst (v := 1) hx hb dX12_goDrawn_77 (by decide) ?_
          refine lv_goto (tgt := 82) hx hb dX12_goDrawn_78 (by decide) ?_
          refine lv_iadd hx hb dX12_goDrawn_82 ?_
          refine lv_topi (fun v14960 ev14960 => ?_)
          refine va_put (D := D) (ci := 11) (v := .int v14960) (ty := .int) (C := RX12) (T := TX12) (N := 53) hx hb hts in_X12 tyX12 tyX12_ok nmX12 hown hE.1 hP hD hS 0 rfl rfl 48 (by decide) (hts _ w_1133) (fun _ h9 => h9) rfl (by decide +kernel) rfl rfl (Nat.le_of_ble_eq_true rfl) dX12_goDrawn_83 (fun H locs hP hD hS => ?_)
          replace hP : va_P D vwCl [(md, .inr (11, [.int mn0, .ref ma1, .ref ma2, .ref ma3, .ref ma4, .int mn5, .ref ma6, .int mn7, .int mn8, .int mn9, .int mn10, .int mn11, .int mn12, .int mn13, .ref ma14, .int (u14953.1 0), .int (u14953.1 1), .int (u14882.1 2), .int mn18, .int mn19, .int mn20, .ref ma21, .ref ma22, .ref ma23, .ref ma24, .int mn25, .ref ma26, .ref ma27, .ref ma28, .ref ma29, .ref ma30, .ref ma31, .ref ma32, .ref ma33, .ref ma34, .ref ma35, .ref ma36, .int mn37, .int mn38, .int mn39, .ref ma40, .ref ma41, .ref ma42, .int mn43, .int mn44, .ref ma45, .ref ma46, .ref ma47, .int v14960, .ref ma49, .ref ma50, .ref ma51, .ref ma52])), (ma1, .inl (K 1, 262, .inl mf1))] H := hP
          replace hD : va_D A [(md, .inr (11, [.int mn0, .ref ma1, .ref ma2, .ref ma3, .ref ma4, .int mn5, .ref ma6, .int mn7, .int mn8, .int mn9, .int mn10, .int mn11, .int mn12, .int mn13, .ref ma14, .int (u14953.1 0), .int (u14953.1 1), .int (u14882.1 2), .int mn18, .int mn19, .int mn20, .ref ma21, .ref ma22, .ref ma23, .ref ma24, .int mn25, .ref ma26, .ref ma27, .ref ma28, .ref ma29, .ref ma30, .ref ma31, .ref ma32, .ref ma33, .ref ma34, .ref ma35, .ref ma36, .int mn37, .int mn38, .int mn39, .ref ma40, .ref ma41, .ref ma42, .int mn43, .int mn44, .ref ma45, .ref ma46, .ref ma47, .int v14960, .ref ma49, .ref ma50, .ref ma51, .ref ma52])), (ma1, .inl (K 1, 262, .inl mf1))] := hD
          obtain ⟨v14961, ev14961⟩ : ∃ z : Int32, z = i14941 + 1 := ⟨_, rfl⟩
          refine lv_iinc (v := v14961) (lv' := [(7, .int v14961), (5, .long v14949), (0, .ref md), (1, .long p0), (3, .int p1), (4, .int p2)]) hx hb dX12_goDrawn_86 hl (k := 1) rfl (by rw [ev14961]; rfl) (by decide) rfl (fun ls hl => ?_)
          refine lv_goto (tgt := 27) hx hb dX12_goDrawn_89 (by decide) ?_
          have tv14961 : v14961.toInt = (i14941 : Int32).toInt + (1 : Int32).toInt := add_i ev14961 (by omega) (by omega)
          exact ih_27 (i14941 := v14961) (i14942 := v14949) (w14943 := (u14953.1 0)) (w14944 := (u14953.1 1)) (w14945 := v14960) (hi_27 := by omega) (hx_27 := by omega) (r15_27 := by omega) (r16_27 := by omega) (H := H) (locs := locs) (ls := ls) (hn_27 := by omega) (hP := hP) (hD := hD) (hS := hS) (hl := lv_sub hl [0, 1, 2, 3, 4, 5] rfl)
set_option maxRecDepth 40000 in
set_option maxHeartbeats 4000000 in
theorem c_X12_isDrawn (l : Launch) (D : va_G) (K : Nat → ClassId) (md : Nat) (ma1 : Nat) (ma2 : Nat) (ma3 : Nat) (ma4 : Nat) (ma6 : Nat) (ma14 : Nat) (ma21 : Nat) (ma22 : Nat) (ma23 : Nat) (ma24 : Nat) (ma26 : Nat) (ma27 : Nat) (ma28 : Nat) (ma29 : Nat) (ma30 : Nat) (ma31 : Nat) (ma32 : Nat) (ma33 : Nat) (ma34 : Nat) (ma35 : Nat) (ma36 : Nat) (ma40 : Nat) (ma41 : Nat) (ma42 : Nat) (ma45 : Nat) (ma46 : Nat) (ma47 : Nat) (ma49 : Nat) (ma50 : Nat) (ma51 : Nat) (ma52 : Nat) (mn0 : Int32) (mn5 : Int32) (mn7 : Int32) (mn8 : Int32) (mn9 : Int32) (mn10 : Int32) (mn11 : Int32) (mn12 : Int32) (mn13 : Int32) (mn15 : Int32) (mn16 : Int32) (mn17 : Int32) (mn18 : Int32) (mn19 : Int32) (mn20 : Int32) (mn25 : Int32) (mn37 : Int32) (mn38 : Int32) (mn39 : Int32) (mn43 : Int32) (mn44 : Int32) (mn48 : Int32) (mf1 : Nat → Int32) (p0 : Int32) (p1 : Int32) (p2 : Int32) (hs1_0 : GW mf1) : Ro l D K yX12_isDrawn cX12_isDrawn 4 (some .boolean) 2 46 [.ref md, .int p0, .int p1, .int p2] [(md, .inr (11, [.int mn0, .ref ma1, .ref ma2, .ref ma3, .ref ma4, .int mn5, .ref ma6, .int mn7, .int mn8, .int mn9, .int mn10, .int mn11, .int mn12, .int mn13, .ref ma14, .int mn15, .int mn16, .int mn17, .int mn18, .int mn19, .int mn20, .ref ma21, .ref ma22, .ref ma23, .ref ma24, .int mn25, .ref ma26, .ref ma27, .ref ma28, .ref ma29, .ref ma30, .ref ma31, .ref ma32, .ref ma33, .ref ma34, .ref ma35, .ref ma36, .int mn37, .int mn38, .int mn39, .ref ma40, .ref ma41, .ref ma42, .int mn43, .int mn44, .ref ma45, .ref ma46, .ref ma47, .int mn48, .ref ma49, .ref ma50, .ref ma51, .ref ma52])), (ma1, .inl (K 1, 262, .inl mf1))] (fun r => (r = 0) ∨ (r = 1 ∧ (0 ≤ p0.toInt) ∧ (p0.toInt ≤ 2000000000) ∧ (0 ≤ p1.toInt) ∧ (p1.toInt ≤ 3) ∧ (0 ≤ p2.toInt) ∧ (p2.toInt ≤ 40))) := by
  refine ro_of (by decide) (Nat.le_of_ble_eq_true rfl) ?_
  intro p e s m below meth c hC hr hk hE hP ls hl
  replace hC : CallFix p m c cX12_isDrawn 4 s [.ref md, .int p0, .int p1, .int p2].toArray wl RX12 := hC
  have hx := hC.1
  have hb := hC.2.1
  have hml := hC.2.2.1
  have hown := hC.2.2.2.1
  have hts := hC.2.2.2.2
  replace hl : lv_has ls 4 [(0, .ref md), (1, .int p0), (2, .int p1), (3, .int p2)] := hl
  have kl_0 : (0 : Int64).toInt = 0 := by decide
  have kl_40 : (40 : Int64).toInt = 40 := by decide
  have kl_2000000000 : (2000000000 : Int64).toInt = 2000000000 := by decide
  have hW0 := gwn_0 hs1_0; have hW1 := gwn_1 hs1_0; have hW2 := gwn_2 hs1_0; have hW4 := gwn_4 hs1_0
  refine lv_iload_n hx hb dX12_isDrawn_0 rfl (lv_at hl 1 rfl) ?_
  refine lv_i2l hx hb dX12_isDrawn_1 rfl ?_
  refine lv_topl (fun v14962 ev14962 => ?_)
  refine lv_lconst (v := 0) hx hb dX12_isDrawn_2 (by decide) ?_
  refine lv_ldc2 (v := 2000000000) hx hb hown (hts _ w_1138) dX12_isDrawn_3 ?_
  have tv14962 : v14962.toInt = (p0 : Int32).toInt := i2l_i ev14962
  refine ro_S (As := [.long v14962, .long 0, .long 2000000000]) (rest := []) hC hE kS_X12_115 (c_X12_in l D K v14962 0 2000000000) (hP.sub (ws' := []) [] rfl) rfl hl.1 rfl (Nat.le_of_ble_eq_true rfl) (by decide) (by decide) dX12_isDrawn_6 (fun r14966 hq => ?_)
  rcases hq with ⟨rfl, h14963⟩ | ⟨rfl, h14964, h14965⟩
  · refine lv_if_eq (tgt := 36) hx hb dX12_isDrawn_9 (by decide) (fun _ => ?_) (fun h => absurd h (by decide))
    refine lv_iconst (v := 0) hx hb dX12_isDrawn_36 (by decide) ?_
    exact ro_zret hC hr hk dX12_isDrawn_37 rfl (Or.inl rfl)
  · refine lv_if_eq (tgt := 36) hx hb dX12_isDrawn_9 (by decide) (fun h => absurd h (by decide)) (fun _ => ?_)
    refine lv_aload_n hx hb dX12_isDrawn_12 rfl (lv_at hl 0 rfl) ?_
    refine lv_iload_n hx hb dX12_isDrawn_13 rfl (lv_at hl 2 rfl) ?_
    refine ro_V (As := [.int p1]) (rest := []) hC hE kV_X12_310 (c_X12_isPupil l D K md ma1 ma2 ma3 ma4 ma6 ma14 ma21 ma22 ma23 ma24 ma26 ma27 ma28 ma29 ma30 ma31 ma32 ma33 ma34 ma35 ma36 ma40 ma41 ma42 ma45 ma46 ma47 ma49 ma50 ma51 ma52 mn0 mn5 mn7 mn8 mn9 mn10 mn11 mn12 mn13 mn15 mn16 mn17 mn18 mn19 mn20 mn25 mn37 mn38 mn39 mn43 mn44 mn48 mf1 p1 hs1_0) (hP.sub (ws' := [(md, .inr (11, [.int mn0, .ref ma1, .ref ma2, .ref ma3, .ref ma4, .int mn5, .ref ma6, .int mn7, .int mn8, .int mn9, .int mn10, .int mn11, .int mn12, .int mn13, .ref ma14, .int mn15, .int mn16, .int mn17, .int mn18, .int mn19, .int mn20, .ref ma21, .ref ma22, .ref ma23, .ref ma24, .int mn25, .ref ma26, .ref ma27, .ref ma28, .ref ma29, .ref ma30, .ref ma31, .ref ma32, .ref ma33, .ref ma34, .ref ma35, .ref ma36, .int mn37, .int mn38, .int mn39, .ref ma40, .ref ma41, .ref ma42, .int mn43, .int mn44, .ref ma45, .ref ma46, .ref ma47, .int mn48, .ref ma49, .ref ma50, .ref ma51, .ref ma52])), (ma1, .inl (K 1, 262, .inl mf1))]) [0, 1] rfl) 0 11 rfl rfl rfl hl.1 rfl (Nat.le_of_ble_eq_true rfl) (by decide) (by decide) dX12_isDrawn_14 (fun r14970 hq => ?_)
    rcases hq with rfl | ⟨rfl, h14967, h14968, h14969⟩
    · refine lv_if_eq (tgt := 36) hx hb dX12_isDrawn_17 (by decide) (fun _ => ?_) (fun h => absurd h (by decide))
      refine lv_iconst (v := 0) hx hb dX12_isDrawn_36 (by decide) ?_
      exact ro_zret hC hr hk dX12_isDrawn_37 rfl (Or.inl rfl)
    · refine lv_if_eq (tgt := 36) hx hb dX12_isDrawn_17 (by decide) (fun h => absurd h (by decide)) (fun _ => ?_)
      refine lv_iload_n hx hb dX12_isDrawn_20 rfl (lv_at hl 3 rfl) ?_
      refine lv_i2l hx hb dX12_isDrawn_21 rfl ?_
      refine lv_topl (fun v14971 ev14971 => ?_)
      refine lv_lconst (v := 0) hx hb dX12_isDrawn_22 (by decide) ?_
      refine lv_ldc2 (v := 40) hx hb hown (hts _ w_1139) dX12_isDrawn_23 ?_
      have tv14971 : v14971.toInt = (p2 : Int32).toInt := i2l_i ev14971
      refine ro_S (As := [.long v14971, .long 0, .long 40]) (rest := []) hC hE kS_X12_115 (c_X12_in l D K v14971 0 40) (hP.sub (ws' := []) [] rfl) rfl hl.1 rfl (Nat.le_of_ble_eq_true rfl) (by decide) (by decide) dX12_isDrawn_26 (fun r14975 hq => ?_)
      rcases hq with ⟨rfl, h14972⟩ | ⟨rfl, h14973, h14974⟩
      · refine lv_if_eq (tgt := 36) hx hb dX12_isDrawn_29 (by decide) (fun _ => ?_) (fun h => absurd h (by decide))
        refine lv_iconst (v := 0) hx hb dX12_isDrawn_36 (by decide) ?_
        exact ro_zret hC hr hk dX12_isDrawn_37 rfl (Or.inl rfl)
      · refine lv_if_eq (tgt := 36) hx hb dX12_isDrawn_29 (by decide) (fun h => absurd h (by decide)) (fun _ => ?_)
        refine lv_iconst (v := 1) hx hb dX12_isDrawn_32 (by decide) ?_
        refine lv_goto (tgt := 37) hx hb dX12_isDrawn_33 (by decide) ?_
        exact ro_zret hC hr hk dX12_isDrawn_37 rfl (Or.inr ⟨rfl, (by omega), (by omega), (by omega), (by omega), (by omega), (by omega)⟩)
set_option maxRecDepth 40000 in
set_option maxHeartbeats 4000000 in
theorem c_X12_drawn (l : Launch) (D : va_G) (K : Nat → ClassId) (md : Nat) (ma1 : Nat) (ma2 : Nat) (ma3 : Nat) (ma4 : Nat) (ma6 : Nat) (ma14 : Nat) (ma21 : Nat) (ma22 : Nat) (ma23 : Nat) (ma24 : Nat) (ma26 : Nat) (ma27 : Nat) (ma28 : Nat) (ma29 : Nat) (ma30 : Nat) (ma31 : Nat) (ma32 : Nat) (ma33 : Nat) (ma34 : Nat) (ma35 : Nat) (ma36 : Nat) (ma40 : Nat) (ma41 : Nat) (ma42 : Nat) (ma45 : Nat) (ma46 : Nat) (ma47 : Nat) (ma49 : Nat) (ma50 : Nat) (ma51 : Nat) (ma52 : Nat) (mn0 : Int32) (mn5 : Int32) (mn7 : Int32) (mn8 : Int32) (mn9 : Int32) (mn10 : Int32) (mn11 : Int32) (mn12 : Int32) (mn13 : Int32) (mn15 : Int32) (mn16 : Int32) (mn17 : Int32) (mn18 : Int32) (mn19 : Int32) (mn20 : Int32) (mn25 : Int32) (mn37 : Int32) (mn38 : Int32) (mn39 : Int32) (mn43 : Int32) (mn44 : Int32) (mn48 : Int32) (mf1 : Nat → Int32) (p0 : Int32) (p1 : Int32) (p2 : Int32) (p3 : Int32) (hs1_0 : GW mf1) (hf15 : 0 ≤ mn15.toInt ∧ mn15.toInt ≤ 9) (hf16 : 0 ≤ mn16.toInt ∧ mn16.toInt ≤ 1023) (hf17 : 0 ≤ mn17.toInt ∧ mn17.toInt ≤ 3) : Ci (S := ((Nat → Int32) × (Nat → Nat → Int32) × (Nat → Nat → Int64))) l D K yX12_drawn cX12_drawn 5 (some .int) 4 95 0 0 [.ref md, .int p0, .int p1, .int p2, .int p3] [(md, .inr (11, [.int mn0, .ref ma1, .ref ma2, .ref ma3, .ref ma4, .int mn5, .ref ma6, .int mn7, .int mn8, .int mn9, .int mn10, .int mn11, .int mn12, .int mn13, .ref ma14, .int mn15, .int mn16, .int mn17, .int mn18, .int mn19, .int mn20, .ref ma21, .ref ma22, .ref ma23, .ref ma24, .int mn25, .ref ma26, .ref ma27, .ref ma28, .ref ma29, .ref ma30, .ref ma31, .ref ma32, .ref ma33, .ref ma34, .ref ma35, .ref ma36, .int mn37, .int mn38, .int mn39, .ref ma40, .ref ma41, .ref ma42, .int mn43, .int mn44, .ref ma45, .ref ma46, .ref ma47, .int mn48, .ref ma49, .ref ma50, .ref ma51, .ref ma52])), (ma1, .inl (K 1, 262, .inl mf1))] (fun r u => (0 ≤ (u.1 0).toInt ∧ (u.1 0).toInt ≤ 9) ∧ (0 ≤ (u.1 1).toInt ∧ (u.1 1).toInt ≤ 1023) ∧ (0 ≤ (u.1 2).toInt ∧ (u.1 2).toInt ≤ 3)) (fun u => [(md, .inr (11, [.int mn0, .ref ma1, .ref ma2, .ref ma3, .ref ma4, .int mn5, .ref ma6, .int mn7, .int mn8, .int mn9, .int mn10, .int mn11, .int mn12, .int mn13, .ref ma14, .int (u.1 0), .int (u.1 1), .int (u.1 2), .int mn18, .int mn19, .int mn20, .ref ma21, .ref ma22, .ref ma23, .ref ma24, .int mn25, .ref ma26, .ref ma27, .ref ma28, .ref ma29, .ref ma30, .ref ma31, .ref ma32, .ref ma33, .ref ma34, .ref ma35, .ref ma36, .int mn37, .int mn38, .int mn39, .ref ma40, .ref ma41, .ref ma42, .int mn43, .int mn44, .ref ma45, .ref ma46, .ref ma47, .int (u.1 3), .ref ma49, .ref ma50, .ref ma51, .ref ma52])), (ma1, .inl (K 1, 262, .inl mf1))]) := by
  intro sz
  refine ch_of (y := yX12_drawn) (cc := cX12_drawn) (maxL := 5) (ret := (some .int)) (av := [.ref md, .int p0, .int p1, .int p2, .int p3]) (ws := [(md, .inr (11, [.int mn0, .ref ma1, .ref ma2, .ref ma3, .ref ma4, .int mn5, .ref ma6, .int mn7, .int mn8, .int mn9, .int mn10, .int mn11, .int mn12, .int mn13, .ref ma14, .int mn15, .int mn16, .int mn17, .int mn18, .int mn19, .int mn20, .ref ma21, .ref ma22, .ref ma23, .ref ma24, .int mn25, .ref ma26, .ref ma27, .ref ma28, .ref ma29, .ref ma30, .ref ma31, .ref ma32, .ref ma33, .ref ma34, .ref ma35, .ref ma36, .int mn37, .int mn38, .int mn39, .ref ma40, .ref ma41, .ref ma42, .int mn43, .int mn44, .ref ma45, .ref ma46, .ref ma47, .int mn48, .ref ma49, .ref ma50, .ref ma51, .ref ma52])), (ma1, .inl (K 1, 262, .inl mf1))]) (D := D) (K := K) (Qc := fun A => va_Qi (S := ((Nat → Int32) × (Nat → Nat → Int32) × (Nat → Nat → Int64))) (fun r u => (0 ≤ (u.1 0).toInt ∧ (u.1 0).toInt ≤ 9) ∧ (0 ≤ (u.1 1).toInt ∧ (u.1 1).toInt ≤ 1023) ∧ (0 ≤ (u.1 2).toInt ∧ (u.1 2).toInt ≤ 3)) (chB D A (fun u => [(md, .inr (11, [.int mn0, .ref ma1, .ref ma2, .ref ma3, .ref ma4, .int mn5, .ref ma6, .int mn7, .int mn8, .int mn9, .int mn10, .int mn11, .int mn12, .int mn13, .ref ma14, .int (u.1 0), .int (u.1 1), .int (u.1 2), .int mn18, .int mn19, .int mn20, .ref ma21, .ref ma22, .ref ma23, .ref ma24, .int mn25, .ref ma26, .ref ma27, .ref ma28, .ref ma29, .ref ma30, .ref ma31, .ref ma32, .ref ma33, .ref ma34, .ref ma35, .ref ma36, .int mn37, .int mn38, .int mn39, .ref ma40, .ref ma41, .ref ma42, .int mn43, .int mn44, .ref ma45, .ref ma46, .ref ma47, .int (u.1 3), .ref ma49, .ref ma50, .ref ma51, .ref ma52])), (ma1, .inl (K 1, 262, .inl mf1))])) A) (by decide) (Nat.le_of_ble_eq_true rfl) ?_
  intro p e s m below meth c A hC hr hk hin hE hD hA H locs hP hS ls hl
  replace hC : CallFix p m c cX12_drawn 5 s [.ref md, .int p0, .int p1, .int p2, .int p3].toArray wl RX12 := hC
  have hx := hC.1
  have hb := hC.2.1
  have hml := hC.2.2.1
  have hown := hC.2.2.2.1
  have hts := hC.2.2.2.2
  replace hl : lv_has ls 5 [(0, .ref md), (1, .int p0), (2, .int p1), (3, .int p2), (4, .int p3)] := hl
  have kc_0 : (0 : Int32).toInt = 0 := by decide
  have kc_1 : (1 : Int32).toInt = 1 := by decide
  have kl_0 : (0 : Int64).toInt = 0 := by decide
  have kl_2 : (2 : Int64).toInt = 2 := by decide
  have hW0 := gwn_0 hs1_0; have hW1 := gwn_1 hs1_0; have hW2 := gwn_2 hs1_0; have hW4 := gwn_4 hs1_0
  refine lv_aload_n hx hb dX12_drawn_0 rfl (lv_at hl 0 rfl) ?_
  refine lv_iload_n hx hb dX12_drawn_1 rfl (lv_at hl 1 rfl) ?_
  refine lv_iload_n hx hb dX12_drawn_2 rfl (lv_at hl 2 rfl) ?_
  refine lv_iload_n hx hb dX12_drawn_3 rfl (lv_at hl 3 rfl) ?_
  refine ro_V (As := [.int p0, .int p1, .int p2]) (rest := []) hC hE kV_X12_485 (c_X12_isDrawn l D K md ma1 ma2 ma3 ma4 ma6 ma14 ma21 ma22 ma23 ma24 ma26 ma27 ma28 ma29 ma30 ma31 ma32 ma33 ma34 ma35 ma36 ma40 ma41 ma42 ma45 ma46 ma47 ma49 ma50 ma51 ma52 mn0 mn5 mn7 mn8 mn9 mn10 mn11 mn12 mn13 mn15 mn16 mn17 mn18 mn19 mn20 mn25 mn37 mn38 mn39 mn43 mn44 mn48 mf1 p0 p1 p2 hs1_0) (hP.sub (ws' := [(md, .inr (11, [.int mn0, .ref ma1, .ref ma2, .ref ma3, .ref ma4, .int mn5, .ref ma6, .int mn7, .int mn8, .int mn9, .int mn10, .int mn11, .int mn12, .int mn13, .ref ma14, .int mn15, .int mn16, .int mn17, .int mn18, .int mn19, .int mn20, .ref ma21, .ref ma22, .ref ma23, .ref ma24, .int mn25, .ref ma26, .ref ma27, .ref ma28, .ref ma29, .ref ma30, .ref ma31, .ref ma32, .ref ma33, .ref ma34, .ref ma35, .ref ma36, .int mn37, .int mn38, .int mn39, .ref ma40, .ref ma41, .ref ma42, .int mn43, .int mn44, .ref ma45, .ref ma46, .ref ma47, .int mn48, .ref ma49, .ref ma50, .ref ma51, .ref ma52])), (ma1, .inl (K 1, 262, .inl mf1))]) [0, 1] rfl) 0 11 rfl rfl rfl hl.1 rfl (Nat.le_of_ble_eq_true rfl) (by decide) (by decide) dX12_drawn_4 (fun r15002 hq => ?_)
  rcases hq with rfl | ⟨rfl, h14996, h14997, h14998, h14999, h15000, h15001⟩
  · refine lv_if_eq (tgt := 23) hx hb dX12_drawn_7 (by decide) (fun _ => ?_) (fun h => absurd h (by decide))
    refine lv_bipush (v := (-2)) hx hb dX12_drawn_23 (by decide) ?_
    refine W.widen (k := 0) (n := 0) (by decide) (by decide) ?_
    exact ch_iret hC hr hk hS dX12_drawn_25 ((fun k => [mn15, mn16, mn17, mn48].getD k 0, fun k => [].getD k (fun _ => 0), fun k => [].getD k (fun _ => 0)) : ((Nat → Int32) × (Nat → Nat → Int32) × (Nat → Nat → Int64))) ⟨(show 0 ≤ (mn15 : Int32).toInt ∧ (mn15 : Int32).toInt ≤ 9 from by omega), (show 0 ≤ (mn16 : Int32).toInt ∧ (mn16 : Int32).toInt ≤ 1023 from by omega), (show 0 ≤ (mn17 : Int32).toInt ∧ (mn17 : Int32).toInt ≤ 3 from by omega)⟩ (hP.sub [0, 1] rfl) (hD.sub [0, 1] (by decide) rfl)
  · refine lv_if_eq (tgt := 23) hx hb dX12_drawn_7 (by decide) (fun h => absurd h (by decide)) (fun _ => ?_)
    refine lv_iload hx hb dX12_drawn_10 (lv_at hl 4 rfl) ?_
    refine lv_i2l hx hb dX12_drawn_12 rfl ?_
    refine lv_topl (fun v15003 ev15003 => ?_)
    refine lv_lconst (v := 0) hx hb dX12_drawn_13 (by decide) ?_
    refine lv_ldc2 (v := 2) hx hb hown (hts _ w_1140) dX12_drawn_14 ?_
    have tv15003 : v15003.toInt = (p3 : Int32).toInt := i2l_i ev15003
    refine ro_S (As := [.long v15003, .long 0, .long 2]) (rest := []) hC hE kS_X12_115 (c_X12_in l D K v15003 0 2) (hP.sub (ws' := []) [] rfl) rfl hl.1 rfl (Nat.le_of_ble_eq_true rfl) (by decide) (by decide) dX12_drawn_17 (fun r15007 hq => ?_)
    rcases hq with ⟨rfl, h15004⟩ | ⟨rfl, h15005, h15006⟩
    · refine lv_if_ne (tgt := 26) hx hb dX12_drawn_20 (by decide) (fun h => absurd h (by decide)) (fun _ => ?_)
      refine lv_bipush (v := (-2)) hx hb dX12_drawn_23 (by decide) ?_
      refine W.widen (k := 0) (n := 0) (by decide) (by decide) ?_
      exact ch_iret hC hr hk hS dX12_drawn_25 ((fun k => [mn15, mn16, mn17, mn48].getD k 0, fun k => [].getD k (fun _ => 0), fun k => [].getD k (fun _ => 0)) : ((Nat → Int32) × (Nat → Nat → Int32) × (Nat → Nat → Int64))) ⟨(show 0 ≤ (mn15 : Int32).toInt ∧ (mn15 : Int32).toInt ≤ 9 from by omega), (show 0 ≤ (mn16 : Int32).toInt ∧ (mn16 : Int32).toInt ≤ 1023 from by omega), (show 0 ≤ (mn17 : Int32).toInt ∧ (mn17 : Int32).toInt ≤ 3 from by omega)⟩ (hP.sub [0, 1] rfl) (hD.sub [0, 1] (by decide) rfl)
    · refine lv_if_ne (tgt := 26) hx hb dX12_drawn_20 (by decide) (fun _ => ?_) (fun h => absurd h (by decide))
      refine lv_aload_n hx hb dX12_drawn_26 rfl (lv_at hl 0 rfl) ?_
      refine lv_iload_n hx hb dX12_drawn_27 rfl (lv_at hl 1 rfl) ?_
      refine lv_i2l hx hb dX12_drawn_28 rfl ?_
      refine lv_topl (fun v15008 ev15008 => ?_)
      refine lv_iload_n hx hb dX12_drawn_29 rfl (lv_at hl 2 rfl) ?_
      refine lv_iload_n hx hb dX12_drawn_30 rfl (lv_at hl 3 rfl) ?_
      have tv15008 : v15008.toInt = (p0 : Int32).toInt := i2l_i ev15008
      refine cv_V (As := [.long v15008, .int p1, .int p2]) (rest := []) (wc := [(md, .inr (11, [.int mn0, .ref ma1, .ref ma2, .ref ma3, .ref ma4, .int mn5, .ref ma6, .int mn7, .int mn8, .int mn9, .int mn10, .int mn11, .int mn12, .int mn13, .ref ma14, .int mn15, .int mn16, .int mn17, .int mn18, .int mn19, .int mn20, .ref ma21, .ref ma22, .ref ma23, .ref ma24, .int mn25, .ref ma26, .ref ma27, .ref ma28, .ref ma29, .ref ma30, .ref ma31, .ref ma32, .ref ma33, .ref ma34, .ref ma35, .ref ma36, .int mn37, .int mn38, .int mn39, .ref ma40, .ref ma41, .ref ma42, .int mn43, .int mn44, .ref ma45, .ref ma46, .ref ma47, .int mn48, .ref ma49, .ref ma50, .ref ma51, .ref ma52])), (ma1, .inl (K 1, 262, .inl mf1))]) (wr := []) hC hE kV_X12_489 (c_X12_goDrawn l D K md ma1 ma2 ma3 ma4 ma6 ma14 ma21 ma22 ma23 ma24 ma26 ma27 ma28 ma29 ma30 ma31 ma32 ma33 ma34 ma35 ma36 ma40 ma41 ma42 ma45 ma46 ma47 ma49 ma50 ma51 ma52 mn0 mn5 mn7 mn8 mn9 mn10 mn11 mn12 mn13 mn15 mn16 mn17 mn18 mn19 mn20 mn25 mn37 mn38 mn39 mn43 mn44 mn48 mf1 v15008 p1 p2 hs1_0 (by omega) (by omega) (by omega) (by omega) (by omega)) hP hD hS hA [0, 1] [] rfl rfl rfl (by decide) (by decide) (by decide) 0 11 rfl rfl rfl hl.1 rfl (Nat.le_of_ble_eq_true rfl) (by decide) (by decide) dX12_drawn_31 (fun u15009 H locs hw hP hD hS => ?_)
      replace hP : va_P D vwCl [(md, .inr (11, [.int mn0, .ref ma1, .ref ma2, .ref ma3, .ref ma4, .int mn5, .ref ma6, .int mn7, .int mn8, .int mn9, .int mn10, .int mn11, .int mn12, .int mn13, .ref ma14, .int (u15009.1 0), .int (u15009.1 1), .int (u15009.1 2), .int mn18, .int mn19, .int mn20, .ref ma21, .ref ma22, .ref ma23, .ref ma24, .int mn25, .ref ma26, .ref ma27, .ref ma28, .ref ma29, .ref ma30, .ref ma31, .ref ma32, .ref ma33, .ref ma34, .ref ma35, .ref ma36, .int mn37, .int mn38, .int mn39, .ref ma40, .ref ma41, .ref ma42, .int mn43, .int mn44, .ref ma45, .ref ma46, .ref ma47, .int (u15009.1 3), .ref ma49, .ref ma50, .ref ma51, .ref ma52])), (ma1, .inl (K 1, 262, .inl mf1))] H := hP
      replace hD : va_D A [(md, .inr (11, [.int mn0, .ref ma1, .ref ma2, .ref ma3, .ref ma4, .int mn5, .ref ma6, .int mn7, .int mn8, .int mn9, .int mn10, .int mn11, .int mn12, .int mn13, .ref ma14, .int (u15009.1 0), .int (u15009.1 1), .int (u15009.1 2), .int mn18, .int mn19, .int mn20, .ref ma21, .ref ma22, .ref ma23, .ref ma24, .int mn25, .ref ma26, .ref ma27, .ref ma28, .ref ma29, .ref ma30, .ref ma31, .ref ma32, .ref ma33, .ref ma34, .ref ma35, .ref ma36, .int mn37, .int mn38, .int mn39, .ref ma40, .ref ma41, .ref ma42, .int mn43, .int mn44, .ref ma45, .ref ma46, .ref ma47, .int (u15009.1 3), .ref ma49, .ref ma50, .ref ma51, .ref ma52])), (ma1, .inl (K 1, 262, .inl mf1))] := hD
      replace hP : va_P D vwCl [(md, .inr (11, [.int mn0, .ref ma1, .ref ma2, .ref ma3, .ref ma4, .int mn5, .ref ma6, .int mn7, .int mn8, .int mn9, .int mn10, .int mn11, .int mn12, .int mn13, .ref ma14, .int (u15009.1 0), .int (u15009.1 1), .int (u15009.1 2), .int mn18, .int mn19, .int mn20, .ref ma21, .ref ma22, .ref ma23, .ref ma24, .int mn25, .ref ma26, .ref ma27, .ref ma28, .ref ma29, .ref ma30, .ref ma31, .ref ma32, .ref ma33, .ref ma34, .ref ma35, .ref ma36, .int mn37, .int mn38, .int mn39, .ref ma40, .ref ma41, .ref ma42, .int mn43, .int mn44, .ref ma45, .ref ma46, .ref ma47, .int (u15009.1 3), .ref ma49, .ref ma50, .ref ma51, .ref ma52])), (ma1, .inl (K 1, 262, .inl mf1))] H := hP.sub [0, 1] rfl
      replace hD : va_D A [(md, .inr (11, [.int mn0, .ref ma1, .ref ma2, .ref ma3, .ref ma4, .int mn5, .ref ma6, .int mn7, .int mn8, .int mn9, .int mn10, .int mn11, .int mn12, .int mn13, .ref ma14, .int (u15009.1 0), .int (u15009.1 1), .int (u15009.1 2), .int mn18, .int mn19, .int mn20, .ref ma21, .ref ma22, .ref ma23, .ref ma24, .int mn25, .ref ma26, .ref ma27, .ref ma28, .ref ma29, .ref ma30, .ref ma31, .ref ma32, .ref ma33, .ref ma34, .ref ma35, .ref ma36, .int mn37, .int mn38, .int mn39, .ref ma40, .ref ma41, .ref ma42, .int mn43, .int mn44, .ref ma45, .ref ma46, .ref ma47, .int (u15009.1 3), .ref ma49, .ref ma50, .ref ma51, .ref ma52])), (ma1, .inl (K 1, 262, .inl mf1))] := hD.sub [0, 1] (by decide) rfl
      refine W.widen (k := 0) (n := 0) (by decide) (by decide) ?_
      have hf := hw
      have f15011 : 0 ≤ (u15009.1 0).toInt ∧ (u15009.1 0).toInt ≤ 9 := hf.1
      have f15012 : 0 ≤ (u15009.1 1).toInt ∧ (u15009.1 1).toInt ≤ 1023 := hf.2.1
      have f15013 : 0 ≤ (u15009.1 2).toInt ∧ (u15009.1 2).toInt ≤ 3 := hf.2.2
      refine lv_iload hx hb dX12_drawn_34 (lv_at hl 4 rfl) ?_
      refine lv_if_ne (tgt := 46) hx hb dX12_drawn_36 (by decide) (fun c15014 => ?_) (fun c15014 => ?_)
      · replace c15014 := ne_i c15014
        refine lv_iload hx hb dX12_drawn_46 (lv_at hl 4 rfl) ?_
        refine lv_iconst (v := 1) hx hb dX12_drawn_48 (by decide) ?_
        refine lv_icmp_ne (tgt := 59) hx hb dX12_drawn_49 (by decide) (fun c15015 => ?_) (fun c15015 => ?_)
        · replace c15015 := ne_i c15015
          refine lv_aload_n hx hb dX12_drawn_59 rfl (lv_at hl 0 rfl) ?_
          refine va_get (D := D) (ci := 11) (v := .int (u15009.1 3)) (C := RX12) (T := TX12) (N := 53) hx hb hts in_X12 hown hE.1 hP 0 rfl rfl 48 (by decide) (hts _ w_1133) (fun _ h9 => h9) rfl dX12_drawn_60 ?_
          refine W.widen (k := 0) (n := 0) (by decide) (by decide) ?_
          exact ch_iret hC hr hk hS dX12_drawn_63 ((fun k => [(u15009.1 0), (u15009.1 1), (u15009.1 2), (u15009.1 3)].getD k 0, fun k => [].getD k (fun _ => 0), fun k => [].getD k (fun _ => 0)) : ((Nat → Int32) × (Nat → Nat → Int32) × (Nat → Nat → Int64))) ⟨(show 0 ≤ ((u15009.1 0) : Int32).toInt ∧ ((u15009.1 0) : Int32).toInt ≤ 9 from by omega), (show 0 ≤ ((u15009.1 1) : Int32).toInt ∧ ((u15009.1 1) : Int32).toInt ≤ 1023 from by omega), (show 0 ≤ ((u15009.1 2) : Int32).toInt ∧ ((u15009.1 2) : Int32).toInt ≤ 3 from by omega)⟩ (hP.sub [0, 1] rfl) (hD.sub [0, 1] (by decide) rfl)
        · replace c15015 := eq_i c15015
          refine lv_aload_n hx hb dX12_drawn_52 rfl (lv_at hl 0 rfl) ?_
          refine va_get (D := D) (ci := 11) (v := .int (u15009.1 1)) (C := RX12) (T := TX12) (N := 53) hx hb hts in_X12 hown hE.1 hP 0 rfl rfl 16 (by decide) (hts _ w_953) (fun _ h9 => h9) rfl dX12_drawn_53 ?_
          refine lv_goto (tgt := 63) hx hb dX12_drawn_56 (by decide) ?_
          refine W.widen (k := 0) (n := 0) (by decide) (by decide) ?_
          exact ch_iret hC hr hk hS dX12_drawn_63 ((fun k => [(u15009.1 0), (u15009.1 1), (u15009.1 2), (u15009.1 3)].getD k 0, fun k => [].getD k (fun _ => 0), fun k => [].getD k (fun _ => 0)) : ((Nat → Int32) × (Nat → Nat → Int32) × (Nat → Nat → Int64))) ⟨(show 0 ≤ ((u15009.1 0) : Int32).toInt ∧ ((u15009.1 0) : Int32).toInt ≤ 9 from by omega), (show 0 ≤ ((u15009.1 1) : Int32).toInt ∧ ((u15009.1 1) : Int32).toInt ≤ 1023 from by omega), (show 0 ≤ ((u15009.1 2) : Int32).toInt ∧ ((u15009.1 2) : Int32).toInt ≤ 3 from by omega)⟩ (hP.sub [0, 1] rfl) (hD.sub [0, 1] (by decide) rfl)
      · replace c15014 := eq_i c15014
        refine lv_aload_n hx hb dX12_drawn_39 rfl (lv_at hl 0 rfl) ?_
        refine va_get (D := D) (ci := 11) (v := .int (u15009.1 0)) (C := RX12) (T := TX12) (N := 53) hx hb hts in_X12 hown hE.1 hP 0 rfl rfl 15 (by decide) (hts _ w_952) (fun _ h9 => h9) rfl dX12_drawn_40 ?_
        refine lv_goto (tgt := 63) hx hb dX12_drawn_43 (by decide) ?_
        refine W.widen (k := 0) (n := 0) (by decide) (by decide) ?_
        exact ch_iret hC hr hk hS dX12_drawn_63 ((fun k => [(u15009.1 0), (u15009.1 1), (u15009.1 2), (u15009.1 3)].getD k 0, fun k => [].getD k (fun _ => 0), fun k => [].getD k (fun _ => 0)) : ((Nat → Int32) × (Nat → Nat → Int32) × (Nat → Nat → Int64))) ⟨(show 0 ≤ ((u15009.1 0) : Int32).toInt ∧ ((u15009.1 0) : Int32).toInt ≤ 9 from by omega), (show 0 ≤ ((u15009.1 1) : Int32).toInt ∧ ((u15009.1 1) : Int32).toInt ≤ 1023 from by omega), (show 0 ≤ ((u15009.1 2) : Int32).toInt ∧ ((u15009.1 2) : Int32).toInt ≤ 3 from by omega)⟩ (hP.sub [0, 1] rfl) (hD.sub [0, 1] (by decide) rfl)
set_option maxRecDepth 40000 in
set_option maxHeartbeats 4000000 in
theorem c_X12_luck (l : Launch) (D : va_G) (K : Nat → ClassId) (md : Nat) (ma1 : Nat) (ma2 : Nat) (ma3 : Nat) (ma4 : Nat) (ma6 : Nat) (ma14 : Nat) (ma21 : Nat) (ma22 : Nat) (ma23 : Nat) (ma24 : Nat) (ma26 : Nat) (ma27 : Nat) (ma28 : Nat) (ma29 : Nat) (ma30 : Nat) (ma31 : Nat) (ma32 : Nat) (ma33 : Nat) (ma34 : Nat) (ma35 : Nat) (ma36 : Nat) (ma40 : Nat) (ma41 : Nat) (ma42 : Nat) (ma45 : Nat) (ma46 : Nat) (ma47 : Nat) (ma49 : Nat) (ma50 : Nat) (ma51 : Nat) (ma52 : Nat) (mn0 : Int32) (mn5 : Int32) (mn7 : Int32) (mn8 : Int32) (mn9 : Int32) (mn10 : Int32) (mn11 : Int32) (mn12 : Int32) (mn13 : Int32) (mn15 : Int32) (mn16 : Int32) (mn17 : Int32) (mn18 : Int32) (mn19 : Int32) (mn20 : Int32) (mn25 : Int32) (mn37 : Int32) (mn38 : Int32) (mn39 : Int32) (mn43 : Int32) (mn44 : Int32) (mn48 : Int32) (mf1 : Nat → Int32) (p0 : Int32) (p1 : Int32) (p2 : Int32) (p3 : Int32) (hs1_0 : GW mf1) (hf15 : 0 ≤ mn15.toInt ∧ mn15.toInt ≤ 9) (hf16 : 0 ≤ mn16.toInt ∧ mn16.toInt ≤ 1023) (hf17 : 0 ≤ mn17.toInt ∧ mn17.toInt ≤ 3) : Ci (S := ((Nat → Int32) × (Nat → Nat → Int32) × (Nat → Nat → Int64))) l D K yX12_luck cX12_luck 7 (some .int) 4 95 0 0 [.ref md, .int p0, .int p1, .int p2, .int p3] [(md, .inr (11, [.int mn0, .ref ma1, .ref ma2, .ref ma3, .ref ma4, .int mn5, .ref ma6, .int mn7, .int mn8, .int mn9, .int mn10, .int mn11, .int mn12, .int mn13, .ref ma14, .int mn15, .int mn16, .int mn17, .int mn18, .int mn19, .int mn20, .ref ma21, .ref ma22, .ref ma23, .ref ma24, .int mn25, .ref ma26, .ref ma27, .ref ma28, .ref ma29, .ref ma30, .ref ma31, .ref ma32, .ref ma33, .ref ma34, .ref ma35, .ref ma36, .int mn37, .int mn38, .int mn39, .ref ma40, .ref ma41, .ref ma42, .int mn43, .int mn44, .ref ma45, .ref ma46, .ref ma47, .int mn48, .ref ma49, .ref ma50, .ref ma51, .ref ma52])), (ma1, .inl (K 1, 262, .inl mf1))] (fun r u => (0 ≤ (u.1 0).toInt ∧ (u.1 0).toInt ≤ 9) ∧ (0 ≤ (u.1 1).toInt ∧ (u.1 1).toInt ≤ 1023) ∧ (0 ≤ (u.1 2).toInt ∧ (u.1 2).toInt ≤ 3)) (fun u => [(md, .inr (11, [.int mn0, .ref ma1, .ref ma2, .ref ma3, .ref ma4, .int mn5, .ref ma6, .int mn7, .int mn8, .int mn9, .int mn10, .int mn11, .int mn12, .int mn13, .ref ma14, .int (u.1 0), .int (u.1 1), .int (u.1 2), .int mn18, .int mn19, .int mn20, .ref ma21, .ref ma22, .ref ma23, .ref ma24, .int mn25, .ref ma26, .ref ma27, .ref ma28, .ref ma29, .ref ma30, .ref ma31, .ref ma32, .ref ma33, .ref ma34, .ref ma35, .ref ma36, .int mn37, .int mn38, .int mn39, .ref ma40, .ref ma41, .ref ma42, .int mn43, .int mn44, .ref ma45, .ref ma46, .ref ma47, .int (u.1 3), .ref ma49, .ref ma50, .ref ma51, .ref ma52])), (ma1, .inl (K 1, 262, .inl mf1))]) := by
  intro sz
  refine ch_of (y := yX12_luck) (cc := cX12_luck) (maxL := 7) (ret := (some .int)) (av := [.ref md, .int p0, .int p1, .int p2, .int p3]) (ws := [(md, .inr (11, [.int mn0, .ref ma1, .ref ma2, .ref ma3, .ref ma4, .int mn5, .ref ma6, .int mn7, .int mn8, .int mn9, .int mn10, .int mn11, .int mn12, .int mn13, .ref ma14, .int mn15, .int mn16, .int mn17, .int mn18, .int mn19, .int mn20, .ref ma21, .ref ma22, .ref ma23, .ref ma24, .int mn25, .ref ma26, .ref ma27, .ref ma28, .ref ma29, .ref ma30, .ref ma31, .ref ma32, .ref ma33, .ref ma34, .ref ma35, .ref ma36, .int mn37, .int mn38, .int mn39, .ref ma40, .ref ma41, .ref ma42, .int mn43, .int mn44, .ref ma45, .ref ma46, .ref ma47, .int mn48, .ref ma49, .ref ma50, .ref ma51, .ref ma52])), (ma1, .inl (K 1, 262, .inl mf1))]) (D := D) (K := K) (Qc := fun A => va_Qi (S := ((Nat → Int32) × (Nat → Nat → Int32) × (Nat → Nat → Int64))) (fun r u => (0 ≤ (u.1 0).toInt ∧ (u.1 0).toInt ≤ 9) ∧ (0 ≤ (u.1 1).toInt ∧ (u.1 1).toInt ≤ 1023) ∧ (0 ≤ (u.1 2).toInt ∧ (u.1 2).toInt ≤ 3)) (chB D A (fun u => [(md, .inr (11, [.int mn0, .ref ma1, .ref ma2, .ref ma3, .ref ma4, .int mn5, .ref ma6, .int mn7, .int mn8, .int mn9, .int mn10, .int mn11, .int mn12, .int mn13, .ref ma14, .int (u.1 0), .int (u.1 1), .int (u.1 2), .int mn18, .int mn19, .int mn20, .ref ma21, .ref ma22, .ref ma23, .ref ma24, .int mn25, .ref ma26, .ref ma27, .ref ma28, .ref ma29, .ref ma30, .ref ma31, .ref ma32, .ref ma33, .ref ma34, .ref ma35, .ref ma36, .int mn37, .int mn38, .int mn39, .ref ma40, .ref ma41, .ref ma42, .int mn43, .int mn44, .ref ma45, .ref ma46, .ref ma47, .int (u.1 3), .ref ma49, .ref ma50, .ref ma51, .ref ma52])), (ma1, .inl (K 1, 262, .inl mf1))])) A) (by decide) (Nat.le_of_ble_eq_true rfl) ?_
  intro p e s m below meth c A hC hr hk hin hE hD hA H locs hP hS ls hl
  replace hC : CallFix p m c cX12_luck 7 s [.ref md, .int p0, .int p1, .int p2, .int p3].toArray wl RX12 := hC
  have hx := hC.1
  have hb := hC.2.1
  have hml := hC.2.2.1
  have hown := hC.2.2.2.1
  have hts := hC.2.2.2.2
  replace hl : lv_has ls 7 [(0, .ref md), (1, .int p0), (2, .int p1), (3, .int p2), (4, .int p3)] := hl
  have kc_0 : (0 : Int32).toInt = 0 := by decide
  have kc_1 : (1 : Int32).toInt = 1 := by decide
  have kl_1 : (1 : Int64).toInt = 1 := by decide
  have kl_20 : (20 : Int64).toInt = 20 := by decide
  have hW0 := gwn_0 hs1_0; have hW1 := gwn_1 hs1_0; have hW2 := gwn_2 hs1_0; have hW4 := gwn_4 hs1_0
  refine lv_aload_n hx hb dX12_luck_0 rfl (lv_at hl 0 rfl) ?_
  refine lv_iload_n hx hb dX12_luck_1 rfl (lv_at hl 1 rfl) ?_
  refine lv_iload_n hx hb dX12_luck_2 rfl (lv_at hl 3 rfl) ?_
  refine lv_iload hx hb dX12_luck_3 (lv_at hl 4 rfl) ?_
  refine ro_V (As := [.int p0, .int p2, .int p3]) (rest := []) hC hE kV_X12_485 (c_X12_isDrawn l D K md ma1 ma2 ma3 ma4 ma6 ma14 ma21 ma22 ma23 ma24 ma26 ma27 ma28 ma29 ma30 ma31 ma32 ma33 ma34 ma35 ma36 ma40 ma41 ma42 ma45 ma46 ma47 ma49 ma50 ma51 ma52 mn0 mn5 mn7 mn8 mn9 mn10 mn11 mn12 mn13 mn15 mn16 mn17 mn18 mn19 mn20 mn25 mn37 mn38 mn39 mn43 mn44 mn48 mf1 p0 p2 p3 hs1_0) (hP.sub (ws' := [(md, .inr (11, [.int mn0, .ref ma1, .ref ma2, .ref ma3, .ref ma4, .int mn5, .ref ma6, .int mn7, .int mn8, .int mn9, .int mn10, .int mn11, .int mn12, .int mn13, .ref ma14, .int mn15, .int mn16, .int mn17, .int mn18, .int mn19, .int mn20, .ref ma21, .ref ma22, .ref ma23, .ref ma24, .int mn25, .ref ma26, .ref ma27, .ref ma28, .ref ma29, .ref ma30, .ref ma31, .ref ma32, .ref ma33, .ref ma34, .ref ma35, .ref ma36, .int mn37, .int mn38, .int mn39, .ref ma40, .ref ma41, .ref ma42, .int mn43, .int mn44, .ref ma45, .ref ma46, .ref ma47, .int mn48, .ref ma49, .ref ma50, .ref ma51, .ref ma52])), (ma1, .inl (K 1, 262, .inl mf1))]) [0, 1] rfl) 0 11 rfl rfl rfl hl.1 rfl (Nat.le_of_ble_eq_true rfl) (by decide) (by decide) dX12_luck_5 (fun r15050 hq => ?_)
  rcases hq with rfl | ⟨rfl, h15044, h15045, h15046, h15047, h15048, h15049⟩
  · refine lv_if_eq (tgt := 23) hx hb dX12_luck_8 (by decide) (fun _ => ?_) (fun h => absurd h (by decide))
    refine lv_bipush (v := (-2)) hx hb dX12_luck_23 (by decide) ?_
    refine W.widen (k := 0) (n := 0) (by decide) (by decide) ?_
    exact ch_iret hC hr hk hS dX12_luck_25 ((fun k => [mn15, mn16, mn17, mn48].getD k 0, fun k => [].getD k (fun _ => 0), fun k => [].getD k (fun _ => 0)) : ((Nat → Int32) × (Nat → Nat → Int32) × (Nat → Nat → Int64))) ⟨(show 0 ≤ (mn15 : Int32).toInt ∧ (mn15 : Int32).toInt ≤ 9 from by omega), (show 0 ≤ (mn16 : Int32).toInt ∧ (mn16 : Int32).toInt ≤ 1023 from by omega), (show 0 ≤ (mn17 : Int32).toInt ∧ (mn17 : Int32).toInt ≤ 3 from by omega)⟩ (hP.sub [0, 1] rfl) (hD.sub [0, 1] (by decide) rfl)
  · refine lv_if_eq (tgt := 23) hx hb dX12_luck_8 (by decide) (fun h => absurd h (by decide)) (fun _ => ?_)
    refine lv_iload_n hx hb dX12_luck_11 rfl (lv_at hl 2 rfl) ?_
    refine lv_i2l hx hb dX12_luck_12 rfl ?_
    refine lv_topl (fun v15051 ev15051 => ?_)
    refine lv_lconst (v := 1) hx hb dX12_luck_13 (by decide) ?_
    refine lv_ldc2 (v := 20) hx hb hown (hts _ w_1149) dX12_luck_14 ?_
    have tv15051 : v15051.toInt = (p1 : Int32).toInt := i2l_i ev15051
    refine ro_S (As := [.long v15051, .long 1, .long 20]) (rest := []) hC hE kS_X12_115 (c_X12_in l D K v15051 1 20) (hP.sub (ws' := []) [] rfl) rfl hl.1 rfl (Nat.le_of_ble_eq_true rfl) (by decide) (by decide) dX12_luck_17 (fun r15055 hq => ?_)
    rcases hq with ⟨rfl, h15052⟩ | ⟨rfl, h15053, h15054⟩
    · refine lv_if_ne (tgt := 26) hx hb dX12_luck_20 (by decide) (fun h => absurd h (by decide)) (fun _ => ?_)
      refine lv_bipush (v := (-2)) hx hb dX12_luck_23 (by decide) ?_
      refine W.widen (k := 0) (n := 0) (by decide) (by decide) ?_
      exact ch_iret hC hr hk hS dX12_luck_25 ((fun k => [mn15, mn16, mn17, mn48].getD k 0, fun k => [].getD k (fun _ => 0), fun k => [].getD k (fun _ => 0)) : ((Nat → Int32) × (Nat → Nat → Int32) × (Nat → Nat → Int64))) ⟨(show 0 ≤ (mn15 : Int32).toInt ∧ (mn15 : Int32).toInt ≤ 9 from by omega), (show 0 ≤ (mn16 : Int32).toInt ∧ (mn16 : Int32).toInt ≤ 1023 from by omega), (show 0 ≤ (mn17 : Int32).toInt ∧ (mn17 : Int32).toInt ≤ 3 from by omega)⟩ (hP.sub [0, 1] rfl) (hD.sub [0, 1] (by decide) rfl)
    · refine lv_if_ne (tgt := 26) hx hb dX12_luck_20 (by decide) (fun _ => ?_) (fun h => absurd h (by decide))
      refine lv_iconst (v := 0) hx hb dX12_luck_26 (by decide) ?_
      refine lv_istore (lv' := [(5, .int 0), (0, .ref md), (1, .int p0), (2, .int p1), (3, .int p2), (4, .int p3)]) hx hb dX12_luck_27 hl (by decide) rfl (fun ls hl => ?_)
      refine lv_iconst (v := 0) hx hb dX12_luck_29 (by decide) ?_
      refine lv_istore (lv' := [(6, .int 0), (5, .int 0), (0, .ref md), (1, .int p0), (2, .int p1), (3, .int p2), (4, .int p3)]) hx hb dX12_luck_30 hl (by decide) rfl (fun ls hl => ?_)
      have hl' := hl; have hP' := hP; have hD' := hD; clear hl hP hD
      obtain ⟨i15072, i15073, w15074, w15075, w15076, w15077, hi_32, r15_32, r16_32, r17_32, hl, hP, hD⟩ : ∃ (i15072 : Int32) (i15073 : Int32) (w15074 : Int32) (w15075 : Int32) (w15076 : Int32) (w15077 : Int32), ((0 : Int) ≤ i15072.toInt) ∧ (0 ≤ w15074.toInt ∧ w15074.toInt ≤ 9) ∧ (0 ≤ w15075.toInt ∧ w15075.toInt ≤ 1023) ∧ (0 ≤ w15076.toInt ∧ w15076.toInt ≤ 3) ∧ lv_has ls 7 [(6, .int i15072), (5, .int i15073), (0, .ref md), (1, .int p0), (2, .int p1), (3, .int p2), (4, .int p3)] ∧ va_P D vwCl [(md, .inr (11, [.int mn0, .ref ma1, .ref ma2, .ref ma3, .ref ma4, .int mn5, .ref ma6, .int mn7, .int mn8, .int mn9, .int mn10, .int mn11, .int mn12, .int mn13, .ref ma14, .int w15074, .int w15075, .int w15076, .int mn18, .int mn19, .int mn20, .ref ma21, .ref ma22, .ref ma23, .ref ma24, .int mn25, .ref ma26, .ref ma27, .ref ma28, .ref ma29, .ref ma30, .ref ma31, .ref ma32, .ref ma33, .ref ma34, .ref ma35, .ref ma36, .int mn37, .int mn38, .int mn39, .ref ma40, .ref ma41, .ref ma42, .int mn43, .int mn44, .ref ma45, .ref ma46, .ref ma47, .int w15077, .ref ma49, .ref ma50, .ref ma51, .ref ma52])), (ma1, .inl (K 1, 262, .inl mf1))] H ∧ va_D A [(md, .inr (11, [.int mn0, .ref ma1, .ref ma2, .ref ma3, .ref ma4, .int mn5, .ref ma6, .int mn7, .int mn8, .int mn9, .int mn10, .int mn11, .int mn12, .int mn13, .ref ma14, .int w15074, .int w15075, .int w15076, .int mn18, .int mn19, .int mn20, .ref ma21, .ref ma22, .ref ma23, .ref ma24, .int mn25, .ref ma26, .ref ma27, .ref ma28, .ref ma29, .ref ma30, .ref ma31, .ref ma32, .ref ma33, .ref ma34, .ref ma35, .ref ma36, .int mn37, .int mn38, .int mn39, .ref ma40, .ref ma41, .ref ma42, .int mn43, .int mn44, .ref ma45, .ref ma46, .ref ma47, .int w15077, .ref ma49, .ref ma50, .ref ma51, .ref ma52])), (ma1, .inl (K 1, 262, .inl mf1))] := ⟨_, _, _, _, _, _, by omega, by omega, by omega, by omega, hl', hP', hD'⟩
      clear hl' hP' hD'
      have hb_32 := i32_hi p1
      obtain ⟨n_32, hn_32⟩ : ∃ n : Nat, (p1.toInt - i15072.toInt).toNat < n := ⟨_, Nat.lt_succ_self _⟩
      induction n_32 generalizing i15072 i15073 w15074 w15075 w15076 w15077 H locs ls with
      | zero => exact absurd hn_32 (Nat.not_lt_zero _)
      | succ n_32 ih_32 =>
        refine lv_iload hx hb dX12_luck_32 (lv_at hl 0 rfl) ?_
        refine lv_iload_n hx hb dX12_luck_34 rfl (lv_at hl 4 rfl) ?_
        refine lv_icmp_ge (tgt := 74) hx hb dX12_luck_35 (by decide) (fun c15078 => ?_) (fun c15078 => ?_)
        · replace c15078 := le_i c15078
          refine lv_iload hx hb dX12_luck_74 (lv_at hl 1 rfl) ?_
          refine W.widen (k := 0) (n := 0) (by decide) (by decide) ?_
          exact ch_iret hC hr hk hS dX12_luck_76 ((fun k => [w15074, w15075, w15076, w15077].getD k 0, fun k => [].getD k (fun _ => 0), fun k => [].getD k (fun _ => 0)) : ((Nat → Int32) × (Nat → Nat → Int32) × (Nat → Nat → Int64))) ⟨(show 0 ≤ (w15074 : Int32).toInt ∧ (w15074 : Int32).toInt ≤ 9 from by omega), (show 0 ≤ (w15075 : Int32).toInt ∧ (w15075 : Int32).toInt ≤ 1023 from by omega), (show 0 ≤ (w15076 : Int32).toInt ∧ (w15076 : Int32).toInt ≤ 3 from by omega)⟩ (hP.sub [0, 1] rfl) (hD.sub [0, 1] (by decide) rfl)
        · replace c15078 := nle_i c15078
          refine lv_aload_n hx hb dX12_luck_38 rfl (lv_at hl 2 rfl) ?_
          refine lv_iload_n hx hb dX12_luck_39 rfl (lv_at hl 3 rfl) ?_
          refine lv_i2l hx hb dX12_luck_40 rfl ?_
          refine lv_topl (fun v15079 ev15079 => ?_)
          refine lv_iload hx hb dX12_luck_41 (lv_at hl 0 rfl) ?_
          refine lv_i2l hx hb dX12_luck_43 rfl ?_
          refine lv_topl (fun v15080 ev15080 => ?_)
          refine lv_ladd hx hb dX12_luck_44 ?_
          refine lv_topl (fun v15081 ev15081 => ?_)
          refine lv_iload_n hx hb dX12_luck_45 rfl (lv_at hl 5 rfl) ?_
          refine lv_iload hx hb dX12_luck_46 (lv_at hl 6 rfl) ?_
          have tv15079 : v15079.toInt = (p0 : Int32).toInt := i2l_i ev15079
          have tv15080 : v15080.toInt = (i15072 : Int32).toInt := i2l_i ev15080
          have tv15081 : v15081.toInt = v15079.toInt + v15080.toInt := ladd_i ev15081 rfl rfl (by omega) (by omega)
          refine cv_V (As := [.long v15081, .int p2, .int p3]) (rest := []) (wc := [(md, .inr (11, [.int mn0, .ref ma1, .ref ma2, .ref ma3, .ref ma4, .int mn5, .ref ma6, .int mn7, .int mn8, .int mn9, .int mn10, .int mn11, .int mn12, .int mn13, .ref ma14, .int w15074, .int w15075, .int w15076, .int mn18, .int mn19, .int mn20, .ref ma21, .ref ma22, .ref ma23, .ref ma24, .int mn25, .ref ma26, .ref ma27, .ref ma28, .ref ma29, .ref ma30, .ref ma31, .ref ma32, .ref ma33, .ref ma34, .ref ma35, .ref ma36, .int mn37, .int mn38, .int mn39, .ref ma40, .ref ma41, .ref ma42, .int mn43, .int mn44, .ref ma45, .ref ma46, .ref ma47, .int w15077, .ref ma49, .ref ma50, .ref ma51, .ref ma52])), (ma1, .inl (K 1, 262, .inl mf1))]) (wr := []) hC hE kV_X12_489 (c_X12_goDrawn l D K md ma1 ma2 ma3 ma4 ma6 ma14 ma21 ma22 ma23 ma24 ma26 ma27 ma28 ma29 ma30 ma31 ma32 ma33 ma34 ma35 ma36 ma40 ma41 ma42 ma45 ma46 ma47 ma49 ma50 ma51 ma52 mn0 mn5 mn7 mn8 mn9 mn10 mn11 mn12 mn13 w15074 w15075 w15076 mn18 mn19 mn20 mn25 mn37 mn38 mn39 mn43 mn44 w15077 mf1 v15081 p2 p3 hs1_0 (by omega) (by omega) (by omega) (by omega) (by omega)) hP hD hS hA [0, 1] [] rfl rfl rfl (by decide) (by decide) (by decide) 0 11 rfl rfl rfl hl.1 rfl (Nat.le_of_ble_eq_true rfl) (by decide) (by decide) dX12_luck_48 (fun u15082 H locs hw hP hD hS => ?_)
          replace hP : va_P D vwCl [(md, .inr (11, [.int mn0, .ref ma1, .ref ma2, .ref ma3, .ref ma4, .int mn5, .ref ma6, .int mn7, .int mn8, .int mn9, .int mn10, .int mn11, .int mn12, .int mn13, .ref ma14, .int (u15082.1 0), .int (u15082.1 1), .int (u15082.1 2), .int mn18, .int mn19, .int mn20, .ref ma21, .ref ma22, .ref ma23, .ref ma24, .int mn25, .ref ma26, .ref ma27, .ref ma28, .ref ma29, .ref ma30, .ref ma31, .ref ma32, .ref ma33, .ref ma34, .ref ma35, .ref ma36, .int mn37, .int mn38, .int mn39, .ref ma40, .ref ma41, .ref ma42, .int mn43, .int mn44, .ref ma45, .ref ma46, .ref ma47, .int (u15082.1 3), .ref ma49, .ref ma50, .ref ma51, .ref ma52])), (ma1, .inl (K 1, 262, .inl mf1))] H := hP
          replace hD : va_D A [(md, .inr (11, [.int mn0, .ref ma1, .ref ma2, .ref ma3, .ref ma4, .int mn5, .ref ma6, .int mn7, .int mn8, .int mn9, .int mn10, .int mn11, .int mn12, .int mn13, .ref ma14, .int (u15082.1 0), .int (u15082.1 1), .int (u15082.1 2), .int mn18, .int mn19, .int mn20, .ref ma21, .ref ma22, .ref ma23, .ref ma24, .int mn25, .ref ma26, .ref ma27, .ref ma28, .ref ma29, .ref ma30, .ref ma31, .ref ma32, .ref ma33, .ref ma34, .ref ma35, .ref ma36, .int mn37, .int mn38, .int mn39, .ref ma40, .ref ma41, .ref ma42, .int mn43, .int mn44, .ref ma45, .ref ma46, .ref ma47, .int (u15082.1 3), .ref ma49, .ref ma50, .ref ma51, .ref ma52])), (ma1, .inl (K 1, 262, .inl mf1))] := hD
          replace hP : va_P D vwCl [(md, .inr (11, [.int mn0, .ref ma1, .ref ma2, .ref ma3, .ref ma4, .int mn5, .ref ma6, .int mn7, .int mn8, .int mn9, .int mn10, .int mn11, .int mn12, .int mn13, .ref ma14, .int (u15082.1 0), .int (u15082.1 1), .int (u15082.1 2), .int mn18, .int mn19, .int mn20, .ref ma21, .ref ma22, .ref ma23, .ref ma24, .int mn25, .ref ma26, .ref ma27, .ref ma28, .ref ma29, .ref ma30, .ref ma31, .ref ma32, .ref ma33, .ref ma34, .ref ma35, .ref ma36, .int mn37, .int mn38, .int mn39, .ref ma40, .ref ma41, .ref ma42, .int mn43, .int mn44, .ref ma45, .ref ma46, .ref ma47, .int (u15082.1 3), .ref ma49, .ref ma50, .ref ma51, .ref ma52])), (ma1, .inl (K 1, 262, .inl mf1))] H := hP.sub [0, 1] rfl
          replace hD : va_D A [(md, .inr (11, [.int mn0, .ref ma1, .ref ma2, .ref ma3, .ref ma4, .int mn5, .ref ma6, .int mn7, .int mn8, .int mn9, .int mn10, .int mn11, .int mn12, .int mn13, .ref ma14, .int (u15082.1 0), .int (u15082.1 1), .int (u15082.1 2), .int mn18, .int mn19, .int mn20, .ref ma21, .ref ma22, .ref ma23, .ref ma24, .int mn25, .ref ma26, .ref ma27, .ref ma28, .ref ma29, .ref ma30, .ref ma31, .ref ma32, .ref ma33, .ref ma34, .ref ma35, .ref ma36, .int mn37, .int mn38, .int mn39, .ref ma40, .ref ma41, .ref ma42, .int mn43, .int mn44, .ref ma45, .ref ma46, .ref ma47, .int (u15082.1 3), .ref ma49, .ref ma50, .ref ma51, .ref ma52])), (ma1, .inl (K 1, 262, .inl mf1))] := hD.sub [0, 1] (by decide) rfl
          refine W.widen (k := 0) (n := 0) (by decide) (by decide) ?_
          have hf := hw
          have f15084 : 0 ≤ (u15082.1 0).toInt ∧ (u15082.1 0).toInt ≤ 9 := hf.1
          have f15085 : 0 ≤ (u15082.1 1).toInt ∧ (u15082.1 1).toInt ≤ 1023 := hf.2.1
          have f15086 : 0 ≤ (u15082.1 2).toInt ∧ (u15082.1 2).toInt ≤ 3 := hf.2.2
          refine lv_iload hx hb dX12_luck_51 (lv_at hl 1 rfl) ?_
          refine lv_aload_n hx hb dX12_luck_53 rfl (lv_at hl 2 rfl) ?_
          refine ro_V (As := []) (rest := [.int i15073]) hC hE kV_X12_319 (c_X12_isKnowing l D K md ma1 ma2 ma3 ma4 ma6 ma14 ma21 ma22 ma23 ma24 ma26 ma27 ma28 ma29 ma30 ma31 ma32 ma33 ma34 ma35 ma36 ma40 ma41 ma42 ma45 ma46 ma47 ma49 ma50 ma51 ma52 mn0 mn5 mn7 mn8 mn9 mn10 mn11 mn12 mn13 (u15082.1 0) (u15082.1 1) (u15082.1 2) mn18 mn19 mn20 mn25 mn37 mn38 mn39 mn43 mn44 (u15082.1 3)) (hP.sub (ws' := [(md, .inr (11, [.int mn0, .ref ma1, .ref ma2, .ref ma3, .ref ma4, .int mn5, .ref ma6, .int mn7, .int mn8, .int mn9, .int mn10, .int mn11, .int mn12, .int mn13, .ref ma14, .int (u15082.1 0), .int (u15082.1 1), .int (u15082.1 2), .int mn18, .int mn19, .int mn20, .ref ma21, .ref ma22, .ref ma23, .ref ma24, .int mn25, .ref ma26, .ref ma27, .ref ma28, .ref ma29, .ref ma30, .ref ma31, .ref ma32, .ref ma33, .ref ma34, .ref ma35, .ref ma36, .int mn37, .int mn38, .int mn39, .ref ma40, .ref ma41, .ref ma42, .int mn43, .int mn44, .ref ma45, .ref ma46, .ref ma47, .int (u15082.1 3), .ref ma49, .ref ma50, .ref ma51, .ref ma52]))]) [0] rfl) 0 11 rfl rfl rfl hl.1 rfl (Nat.le_of_ble_eq_true rfl) (by decide) (by decide) dX12_luck_54 (fun r15087 hq => ?_)
          rcases hq with rfl | rfl
          · refine lv_if_eq (tgt := 64) hx hb dX12_luck_57 (by decide) (fun _ => ?_) (fun h => absurd h (by decide))
            refine lv_iconst (v := 0) hx hb dX12_luck_64 (by decide) ?_
            refine lv_iadd hx hb dX12_luck_65 ?_
            refine lv_topi (fun v15088 ev15088 => ?_)
            refine lv_istore (lv' := [(5, .int v15088), (6, .int i15072), (0, .ref md), (1, .int p0), (2, .int p1), (3, .int p2), (4, .int p3)]) hx hb dX12_luck_66 hl (by decide) rfl (fun ls hl => ?_)
            obtain ⟨v15089, ev15089⟩ : ∃ z : Int32, z = i15072 + 1 := ⟨_, rfl⟩
            refine lv_iinc (v := v15089) (lv' := [(6, .int v15089), (5, .int v15088), (0, .ref md), (1, .int p0), (2, .int p1), (3, .int p2), (4, .int p3)]) hx hb dX12_luck_68 hl (k := 1) rfl (by rw [ev15089]; rfl) (by decide) rfl (fun ls hl => ?_)
            refine lv_goto (tgt := 32) hx hb dX12_luck_71 (by decide) ?_
            have tv15089 : v15089.toInt = (i15072 : Int32).toInt + (1 : Int32).toInt := add_i ev15089 (by omega) (by omega)
            exact ih_32 (i15072 := v15089) (i15073 := v15088) (w15074 := (u15082.1 0)) (w15075 := (u15082.1 1)) (w15076 := (u15082.1 2)) (w15077 := (u15082.1 3)) (hi_32 := by omega) (r15_32 := by omega) (r16_32 := by omega) (r17_32 := by omega) (H := H) (locs := locs) (ls := ls) (hn_32 := by omega) (hP := hP) (hD := hD) (hS := hS) (hl := lv_sub hl [0, 1, 2, 3, 4, 5, 6] rfl)
          · refine lv_if_eq (tgt := 64) hx hb dX12_luck_57 (by decide) (fun h => absurd h (by decide)) (fun _ => ?_)
            refine lv_iconst (v := 1) hx hb dX12_luck_60 (by decide) ?_
            refine lv_goto (tgt := 65) hx hb dX12_luck_61 (by decide) ?_
            refine lv_iadd hx hb dX12_luck_65 ?_
            refine lv_topi (fun v15090 ev15090 => ?_)
            refine lv_istore (lv' := [(5, .int v15090), (6, .int i15072), (0, .ref md), (1, .int p0), (2, .int p1), (3, .int p2), (4, .int p3)]) hx hb dX12_luck_66 hl (by decide) rfl (fun ls hl => ?_)
            obtain ⟨v15091, ev15091⟩ : ∃ z : Int32, z = i15072 + 1 := ⟨_, rfl⟩
            refine lv_iinc (v := v15091) (lv' := [(6, .int v15091), (5, .int v15090), (0, .ref md), (1, .int p0), (2, .int p1), (3, .int p2), (4, .int p3)]) hx hb dX12_luck_68 hl (k := 1) rfl (by rw [ev15091]; rfl) (by decide) rfl (fun ls hl => ?_)
            refine lv_goto (tgt := 32) hx hb dX12_luck_71 (by decide) ?_
            have tv15091 : v15091.toInt = (i15072 : Int32).toInt + (1 : Int32).toInt := add_i ev15091 (by omega) (by omega)
            exact ih_32 (i15072 := v15091) (i15073 := v15090) (w15074 := (u15082.1 0)) (w15075 := (u15082.1 1)) (w15076 := (u15082.1 2)) (w15077 := (u15082.1 3)) (hi_32 := by omega) (r15_32 := by omega) (r16_32 := by omega) (r17_32 := by omega) (H := H) (locs := locs) (ls := ls) (hn_32 := by omega) (hP := hP) (hD := hD) (hS := hS) (hl := lv_sub hl [0, 1, 2, 3, 4, 5, 6] rfl)
set_option maxRecDepth 40000 in
set_option maxHeartbeats 4000000 in
theorem c_X12_count (l : Launch) (D : va_G) (K : Nat → ClassId) (md : Nat) (ma1 : Nat) (ma2 : Nat) (ma3 : Nat) (ma4 : Nat) (ma6 : Nat) (ma14 : Nat) (ma21 : Nat) (ma22 : Nat) (ma23 : Nat) (ma24 : Nat) (ma26 : Nat) (ma27 : Nat) (ma28 : Nat) (ma29 : Nat) (ma30 : Nat) (ma31 : Nat) (ma32 : Nat) (ma33 : Nat) (ma34 : Nat) (ma35 : Nat) (ma36 : Nat) (ma40 : Nat) (ma41 : Nat) (ma42 : Nat) (ma45 : Nat) (ma46 : Nat) (ma47 : Nat) (ma49 : Nat) (ma50 : Nat) (ma51 : Nat) (ma52 : Nat) (mn0 : Int32) (mn5 : Int32) (mn7 : Int32) (mn8 : Int32) (mn9 : Int32) (mn10 : Int32) (mn11 : Int32) (mn12 : Int32) (mn13 : Int32) (mn15 : Int32) (mn16 : Int32) (mn17 : Int32) (mn18 : Int32) (mn19 : Int32) (mn20 : Int32) (mn25 : Int32) (mn37 : Int32) (mn38 : Int32) (mn39 : Int32) (mn43 : Int32) (mn44 : Int32) (mn48 : Int32) (mf1 : Nat → Int32) (mf49 : Nat → Int32) (p0 : Int32) (hs1_0 : GW mf1) (hs49_0 : Rg (-1) 60 4 mf49) : Ro l D K yX12_count cX12_count 5 (some .int) 1 22 [.ref md, .int p0] [(md, .inr (11, [.int mn0, .ref ma1, .ref ma2, .ref ma3, .ref ma4, .int mn5, .ref ma6, .int mn7, .int mn8, .int mn9, .int mn10, .int mn11, .int mn12, .int mn13, .ref ma14, .int mn15, .int mn16, .int mn17, .int mn18, .int mn19, .int mn20, .ref ma21, .ref ma22, .ref ma23, .ref ma24, .int mn25, .ref ma26, .ref ma27, .ref ma28, .ref ma29, .ref ma30, .ref ma31, .ref ma32, .ref ma33, .ref ma34, .ref ma35, .ref ma36, .int mn37, .int mn38, .int mn39, .ref ma40, .ref ma41, .ref ma42, .int mn43, .int mn44, .ref ma45, .ref ma46, .ref ma47, .int mn48, .ref ma49, .ref ma50, .ref ma51, .ref ma52])), (ma1, .inl (K 1, 262, .inl mf1)), (ma49, .inl (K 1, 4, .inl mf49))] (fun _ => True) := by
  refine ro_of (by decide) (Nat.le_of_ble_eq_true rfl) ?_
  intro p e s m below meth c hC hr hk hE hP ls hl
  replace hC : CallFix p m c cX12_count 5 s [.ref md, .int p0].toArray wl RX12 := hC
  have hx := hC.1
  have hb := hC.2.1
  have hml := hC.2.2.1
  have hown := hC.2.2.2.1
  have hts := hC.2.2.2.2
  replace hl : lv_has ls 5 [(0, .ref md), (1, .int p0)] := hl
  have kc_m1 : (-1 : Int32).toInt = -1 := by decide
  have kc_0 : (0 : Int32).toInt = 0 := by decide
  have kc_1 : (1 : Int32).toInt = 1 := by decide
  have kc_2 : (2 : Int32).toInt = 2 := by decide
  have kc_3 : (3 : Int32).toInt = 3 := by decide
  have kc_4 : (4 : Int32).toInt = 4 := by decide
  have kc_5 : (5 : Int32).toInt = 5 := by decide
  have kc_6 : (6 : Int32).toInt = 6 := by decide
  have kc_7 : (7 : Int32).toInt = 7 := by decide
  have kc_8 : (8 : Int32).toInt = 8 := by decide
  have hW0 := gwn_0 hs1_0; have hW1 := gwn_1 hs1_0; have hW2 := gwn_2 hs1_0; have hW4 := gwn_4 hs1_0
  refine lv_iconst (v := 0) hx hb dX12_count_0 (by decide) ?_
  refine lv_istore_n (lv' := [(2, .int 0), (0, .ref md), (1, .int p0)]) hx hb dX12_count_1 rfl hl (by decide) rfl (fun ls hl => ?_)
  refine lv_iload_n hx hb dX12_count_2 rfl (lv_at hl 2 rfl) ?_
  by_cases c15092 : p0 = 0
  · refine tc (y := 0) c15092 ?_
    refine lv_tableIn (off := 49) (tgt := 52) hx hb dX12_count_3 (by decide) (by decide) (by decide +kernel) (by decide) ?_
    refine lv_aload_n hx hb dX12_count_52 rfl (lv_at hl 1 rfl) ?_
    refine va_get (D := D) (ci := 11) (v := .ref ma1) (C := RX12) (T := TX12) (N := 53) hx hb hts in_X12 hown hE.1 hP 0 rfl rfl 1 (by decide) (hts _ w_821) (fun _ h9 => h9) rfl dX12_count_53 ?_
    refine lv_iconst (v := 0) hx hb dX12_count_56 (by decide) ?_
    refine va_iald hx hb hE.1 hP 1 1 rfl rfl (in_c (by decide)) dX12_count_57 ?_
    refine lv_topi (fun v15093 ev15093 => ?_)
    have tv15093 := gw_0 hs1_0 ev15093
    have zv15093 : v15093.toInt = (mf1 0).toInt := by rw [ev15093]; rfl
    exact ro_ret hC hr hk dX12_count_58 trivial
  · replace c15092 := ne_i c15092
    by_cases c15094 : p0 = 1
    · refine tc (y := 1) c15094 ?_
      refine lv_tableIn (off := 56) (tgt := 59) hx hb dX12_count_3 (by decide) (by decide) (by decide +kernel) (by decide) ?_
      refine lv_iconst (v := 0) hx hb dX12_count_59 (by decide) ?_
      refine lv_istore_n (lv' := [(3, .int 0), (2, .int 0), (0, .ref md), (1, .int p0)]) hx hb dX12_count_60 rfl hl (by decide) rfl (fun ls hl => ?_)
      have hl' := hl; clear hl
      obtain ⟨i15112, i15113, hi_61, hl⟩ : ∃ (i15112 : Int32) (i15113 : Int32), ((0 : Int) ≤ i15112.toInt) ∧ lv_has ls 5 [(3, .int i15112), (2, .int i15113), (0, .ref md), (1, .int p0)] := ⟨_, _, by omega, hl'⟩
      clear hl'
      obtain ⟨n_61, hn_61⟩ : ∃ n : Nat, (10 - i15112.toInt).toNat < n := ⟨_, Nat.lt_succ_self _⟩
      induction n_61 generalizing i15112 i15113 ls with
      | zero => exact absurd hn_61 (Nat.not_lt_zero _)
      | succ n_61 ih_61 =>
        refine lv_iload_n hx hb dX12_count_61 rfl (lv_at hl 0 rfl) ?_
        refine lv_aload_n hx hb dX12_count_62 rfl (lv_at hl 2 rfl) ?_
        refine va_get (D := D) (ci := 11) (v := .ref ma1) (C := RX12) (T := TX12) (N := 53) hx hb hts in_X12 hown hE.1 hP 0 rfl rfl 1 (by decide) (hts _ w_821) (fun _ h9 => h9) rfl dX12_count_63 ?_
        refine lv_iconst (v := 0) hx hb dX12_count_66 (by decide) ?_
        refine va_iald hx hb hE.1 hP 1 1 rfl rfl (in_c (by decide)) dX12_count_67 ?_
        refine lv_topi (fun v15114 ev15114 => ?_)
        have tv15114 := gw_0 hs1_0 ev15114
        have zv15114 : v15114.toInt = (mf1 0).toInt := by rw [ev15114]; rfl
        refine lv_icmp_ge (tgt := 111) hx hb dX12_count_68 (by decide) (fun c15115 => ?_) (fun c15115 => ?_)
        · replace c15115 := le_i c15115
          refine lv_iload_n hx hb dX12_count_111 rfl (lv_at hl 1 rfl) ?_
          exact ro_ret hC hr hk dX12_count_112 trivial
        · replace c15115 := nle_i c15115
          refine lv_iconst (v := 0) hx hb dX12_count_71 (by decide) ?_
          refine lv_istore (lv' := [(4, .int 0), (3, .int i15112), (2, .int i15113), (0, .ref md), (1, .int p0)]) hx hb dX12_count_72 hl (by decide) rfl (fun ls hl => ?_)
          have hl' := hl; clear hl
          obtain ⟨i15128, i15129, hi_74, hl⟩ : ∃ (i15128 : Int32) (i15129 : Int32), ((0 : Int) ≤ i15128.toInt) ∧ lv_has ls 5 [(4, .int i15128), (3, .int i15112), (2, .int i15129), (0, .ref md), (1, .int p0)] := ⟨_, _, by omega, hl'⟩
          clear hl'
          obtain ⟨n_74, hn_74⟩ : ∃ n : Nat, (4 - i15128.toInt).toNat < n := ⟨_, Nat.lt_succ_self _⟩
          induction n_74 generalizing i15128 i15129 ls with
          | zero => exact absurd hn_74 (Nat.not_lt_zero _)
          | succ n_74 ih_74 =>
            refine lv_iload hx hb dX12_count_74 (lv_at hl 0 rfl) ?_
            refine lv_iconst (v := 4) hx hb dX12_count_76 (by decide) ?_
            refine lv_icmp_ge (tgt := 105) hx hb dX12_count_77 (by decide) (fun c15130 => ?_) (fun c15130 => ?_)
            · replace c15130 := le_i c15130
              obtain ⟨v15131, ev15131⟩ : ∃ z : Int32, z = i15112 + 1 := ⟨_, rfl⟩
              refine lv_iinc (v := v15131) (lv' := [(3, .int v15131), (4, .int i15128), (2, .int i15129), (0, .ref md), (1, .int p0)]) hx hb dX12_count_105 hl (k := 1) rfl (by rw [ev15131]; rfl) (by decide) rfl (fun ls hl => ?_)
              refine lv_goto (tgt := 61) hx hb dX12_count_108 (by decide) ?_
              have tv15131 : v15131.toInt = (i15112 : Int32).toInt + (1 : Int32).toInt := add_i ev15131 (by omega) (by omega)
              exact ih_61 (i15112 := v15131) (i15113 := i15129) (hi_61 := by omega) (ls := ls) (hn_61 := by omega) (hl := lv_sub hl [0, 2, 3, 4] rfl)
            · replace c15130 := nle_i c15130
              refine lv_iload_n hx hb dX12_count_80 rfl (lv_at hl 2 rfl) ?_
              refine lv_aload_n hx hb dX12_count_81 rfl (lv_at hl 3 rfl) ?_
              refine lv_iload_n hx hb dX12_count_82 rfl (lv_at hl 1 rfl) ?_
              refine lv_iload hx hb dX12_count_83 (lv_at hl 0 rfl) ?_
              refine ro_V (As := [.int i15112, .int i15128]) (rest := [.int i15129]) hC hE kV_X12_273 (c_X12_leadsTo l D K md ma1 ma2 ma3 ma4 ma6 ma14 ma21 ma22 ma23 ma24 ma26 ma27 ma28 ma29 ma30 ma31 ma32 ma33 ma34 ma35 ma36 ma40 ma41 ma42 ma45 ma46 ma47 ma49 ma50 ma51 ma52 mn0 mn5 mn7 mn8 mn9 mn10 mn11 mn12 mn13 mn15 mn16 mn17 mn18 mn19 mn20 mn25 mn37 mn38 mn39 mn43 mn44 mn48 mf1 i15112 i15128 hs1_0 (by omega) (by omega)) (hP.sub (ws' := [(md, .inr (11, [.int mn0, .ref ma1, .ref ma2, .ref ma3, .ref ma4, .int mn5, .ref ma6, .int mn7, .int mn8, .int mn9, .int mn10, .int mn11, .int mn12, .int mn13, .ref ma14, .int mn15, .int mn16, .int mn17, .int mn18, .int mn19, .int mn20, .ref ma21, .ref ma22, .ref ma23, .ref ma24, .int mn25, .ref ma26, .ref ma27, .ref ma28, .ref ma29, .ref ma30, .ref ma31, .ref ma32, .ref ma33, .ref ma34, .ref ma35, .ref ma36, .int mn37, .int mn38, .int mn39, .ref ma40, .ref ma41, .ref ma42, .int mn43, .int mn44, .ref ma45, .ref ma46, .ref ma47, .int mn48, .ref ma49, .ref ma50, .ref ma51, .ref ma52])), (ma1, .inl (K 1, 262, .inl mf1))]) [0, 1] rfl) 0 11 rfl rfl rfl hl.1 rfl (Nat.le_of_ble_eq_true rfl) (by decide) (by decide) dX12_count_85 (fun r15135 hq => ?_)
              obtain ⟨h15132, h15133, h15134⟩ := hq
              refine lv_iload_n hx hb dX12_count_88 rfl (lv_at hl 1 rfl) ?_
              refine lv_icmp_ne (tgt := 96) hx hb dX12_count_89 (by decide) (fun c15136 => ?_) (fun c15136 => ?_)
              · replace c15136 := ne_i c15136
                refine lv_iconst (v := 1) hx hb dX12_count_96 (by decide) ?_
                refine lv_iadd hx hb dX12_count_97 ?_
                refine lv_topi (fun v15137 ev15137 => ?_)
                refine lv_istore_n (lv' := [(2, .int v15137), (4, .int i15128), (3, .int i15112), (0, .ref md), (1, .int p0)]) hx hb dX12_count_98 rfl hl (by decide) rfl (fun ls hl => ?_)
                obtain ⟨v15138, ev15138⟩ : ∃ z : Int32, z = i15128 + 1 := ⟨_, rfl⟩
                refine lv_iinc (v := v15138) (lv' := [(4, .int v15138), (2, .int v15137), (3, .int i15112), (0, .ref md), (1, .int p0)]) hx hb dX12_count_99 hl (k := 1) rfl (by rw [ev15138]; rfl) (by decide) rfl (fun ls hl => ?_)
                refine lv_goto (tgt := 74) hx hb dX12_count_102 (by decide) ?_
                have tv15138 : v15138.toInt = (i15128 : Int32).toInt + (1 : Int32).toInt := add_i ev15138 (by omega) (by omega)
                exact ih_74 (i15128 := v15138) (i15129 := v15137) (hi_74 := by omega) (ls := ls) (hn_74 := by omega) (hl := lv_sub hl [0, 2, 1, 3, 4] rfl)
              · replace c15136 := eq_i c15136
                refine lv_iconst (v := 0) hx hb dX12_count_92 (by decide) ?_
                refine lv_goto (tgt := 97) hx hb dX12_count_93 (by decide) ?_
                refine lv_iadd hx hb dX12_count_97 ?_
                refine lv_topi (fun v15139 ev15139 => ?_)
                refine lv_istore_n (lv' := [(2, .int v15139), (4, .int i15128), (3, .int i15112), (0, .ref md), (1, .int p0)]) hx hb dX12_count_98 rfl hl (by decide) rfl (fun ls hl => ?_)
                obtain ⟨v15140, ev15140⟩ : ∃ z : Int32, z = i15128 + 1 := ⟨_, rfl⟩
                refine lv_iinc (v := v15140) (lv' := [(4, .int v15140), (2, .int v15139), (3, .int i15112), (0, .ref md), (1, .int p0)]) hx hb dX12_count_99 hl (k := 1) rfl (by rw [ev15140]; rfl) (by decide) rfl (fun ls hl => ?_)
                refine lv_goto (tgt := 74) hx hb dX12_count_102 (by decide) ?_
                have tv15140 : v15140.toInt = (i15128 : Int32).toInt + (1 : Int32).toInt := add_i ev15140 (by omega) (by omega)
                exact ih_74 (i15128 := v15140) (i15129 := v15139) (hi_74 := by omega) (ls := ls) (hn_74 := by omega) (hl := lv_sub hl [0, 2, 1, 3, 4] rfl)
    · replace c15094 := ne_i c15094
      by_cases c15141 : p0 = 2
      · refine tc (y := 2) c15141 ?_
        refine lv_tableIn (off := 110) (tgt := 113) hx hb dX12_count_3 (by decide) (by decide) (by decide +kernel) (by decide) ?_
        refine lv_iconst (v := 0) hx hb dX12_count_113 (by decide) ?_
        refine lv_istore_n (lv' := [(3, .int 0), (2, .int 0), (0, .ref md), (1, .int p0)]) hx hb dX12_count_114 rfl hl (by decide) rfl (fun ls hl => ?_)
        have hl' := hl; clear hl
        obtain ⟨i15155, i15156, hi_115, hl⟩ : ∃ (i15155 : Int32) (i15156 : Int32), ((0 : Int) ≤ i15155.toInt) ∧ lv_has ls 5 [(3, .int i15155), (2, .int i15156), (0, .ref md), (1, .int p0)] := ⟨_, _, by omega, hl'⟩
        clear hl'
        obtain ⟨n_115, hn_115⟩ : ∃ n : Nat, (10 - i15155.toInt).toNat < n := ⟨_, Nat.lt_succ_self _⟩
        induction n_115 generalizing i15155 i15156 ls with
        | zero => exact absurd hn_115 (Nat.not_lt_zero _)
        | succ n_115 ih_115 =>
          refine lv_iload_n hx hb dX12_count_115 rfl (lv_at hl 0 rfl) ?_
          refine lv_aload_n hx hb dX12_count_116 rfl (lv_at hl 2 rfl) ?_
          refine va_get (D := D) (ci := 11) (v := .ref ma1) (C := RX12) (T := TX12) (N := 53) hx hb hts in_X12 hown hE.1 hP 0 rfl rfl 1 (by decide) (hts _ w_821) (fun _ h9 => h9) rfl dX12_count_117 ?_
          refine lv_iconst (v := 0) hx hb dX12_count_120 (by decide) ?_
          refine va_iald hx hb hE.1 hP 1 1 rfl rfl (in_c (by decide)) dX12_count_121 ?_
          refine lv_topi (fun v15157 ev15157 => ?_)
          have tv15157 := gw_0 hs1_0 ev15157
          have zv15157 : v15157.toInt = (mf1 0).toInt := by rw [ev15157]; rfl
          refine lv_icmp_ge (tgt := 147) hx hb dX12_count_122 (by decide) (fun c15158 => ?_) (fun c15158 => ?_)
          · replace c15158 := le_i c15158
            refine lv_iload_n hx hb dX12_count_147 rfl (lv_at hl 1 rfl) ?_
            exact ro_ret hC hr hk dX12_count_148 trivial
          · replace c15158 := nle_i c15158
            refine lv_iload_n hx hb dX12_count_125 rfl (lv_at hl 1 rfl) ?_
            refine lv_aload_n hx hb dX12_count_126 rfl (lv_at hl 2 rfl) ?_
            refine lv_iload_n hx hb dX12_count_127 rfl (lv_at hl 0 rfl) ?_
            refine ro_V (As := [.int i15155]) (rest := [.int i15156]) hC hE kV_X12_276 (c_X12_markOf l D K md ma1 ma2 ma3 ma4 ma6 ma14 ma21 ma22 ma23 ma24 ma26 ma27 ma28 ma29 ma30 ma31 ma32 ma33 ma34 ma35 ma36 ma40 ma41 ma42 ma45 ma46 ma47 ma49 ma50 ma51 ma52 mn0 mn5 mn7 mn8 mn9 mn10 mn11 mn12 mn13 mn15 mn16 mn17 mn18 mn19 mn20 mn25 mn37 mn38 mn39 mn43 mn44 mn48 mf1 i15155 hs1_0 (by omega)) (hP.sub (ws' := [(md, .inr (11, [.int mn0, .ref ma1, .ref ma2, .ref ma3, .ref ma4, .int mn5, .ref ma6, .int mn7, .int mn8, .int mn9, .int mn10, .int mn11, .int mn12, .int mn13, .ref ma14, .int mn15, .int mn16, .int mn17, .int mn18, .int mn19, .int mn20, .ref ma21, .ref ma22, .ref ma23, .ref ma24, .int mn25, .ref ma26, .ref ma27, .ref ma28, .ref ma29, .ref ma30, .ref ma31, .ref ma32, .ref ma33, .ref ma34, .ref ma35, .ref ma36, .int mn37, .int mn38, .int mn39, .ref ma40, .ref ma41, .ref ma42, .int mn43, .int mn44, .ref ma45, .ref ma46, .ref ma47, .int mn48, .ref ma49, .ref ma50, .ref ma51, .ref ma52])), (ma1, .inl (K 1, 262, .inl mf1))]) [0, 1] rfl) 0 11 rfl rfl rfl hl.1 rfl (Nat.le_of_ble_eq_true rfl) (by decide) (by decide) dX12_count_128 (fun r15162 hq => ?_)
            obtain ⟨h15159, h15160, h15161⟩ := hq
            refine lv_if_ne (tgt := 138) hx hb dX12_count_131 (by decide) (fun c15163 => ?_) (fun c15163 => ?_)
            · replace c15163 := ne_i c15163
              refine lv_iconst (v := 1) hx hb dX12_count_138 (by decide) ?_
              refine lv_iadd hx hb dX12_count_139 ?_
              refine lv_topi (fun v15164 ev15164 => ?_)
              refine lv_istore_n (lv' := [(2, .int v15164), (3, .int i15155), (0, .ref md), (1, .int p0)]) hx hb dX12_count_140 rfl hl (by decide) rfl (fun ls hl => ?_)
              obtain ⟨v15165, ev15165⟩ : ∃ z : Int32, z = i15155 + 1 := ⟨_, rfl⟩
              refine lv_iinc (v := v15165) (lv' := [(3, .int v15165), (2, .int v15164), (0, .ref md), (1, .int p0)]) hx hb dX12_count_141 hl (k := 1) rfl (by rw [ev15165]; rfl) (by decide) rfl (fun ls hl => ?_)
              refine lv_goto (tgt := 115) hx hb dX12_count_144 (by decide) ?_
              have tv15165 : v15165.toInt = (i15155 : Int32).toInt + (1 : Int32).toInt := add_i ev15165 (by omega) (by omega)
              exact ih_115 (i15155 := v15165) (i15156 := v15164) (hi_115 := by omega) (ls := ls) (hn_115 := by omega) (hl := lv_sub hl [0, 1, 2, 3] rfl)
            · replace c15163 := eq_i c15163
              refine lv_iconst (v := 0) hx hb dX12_count_134 (by decide) ?_
              refine lv_goto (tgt := 139) hx hb dX12_count_135 (by decide) ?_
              refine lv_iadd hx hb dX12_count_139 ?_
              refine lv_topi (fun v15166 ev15166 => ?_)
              refine lv_istore_n (lv' := [(2, .int v15166), (3, .int i15155), (0, .ref md), (1, .int p0)]) hx hb dX12_count_140 rfl hl (by decide) rfl (fun ls hl => ?_)
              obtain ⟨v15167, ev15167⟩ : ∃ z : Int32, z = i15155 + 1 := ⟨_, rfl⟩
              refine lv_iinc (v := v15167) (lv' := [(3, .int v15167), (2, .int v15166), (0, .ref md), (1, .int p0)]) hx hb dX12_count_141 hl (k := 1) rfl (by rw [ev15167]; rfl) (by decide) rfl (fun ls hl => ?_)
              refine lv_goto (tgt := 115) hx hb dX12_count_144 (by decide) ?_
              have tv15167 : v15167.toInt = (i15155 : Int32).toInt + (1 : Int32).toInt := add_i ev15167 (by omega) (by omega)
              exact ih_115 (i15155 := v15167) (i15156 := v15166) (hi_115 := by omega) (ls := ls) (hn_115 := by omega) (hl := lv_sub hl [0, 1, 2, 3] rfl)
      · replace c15141 := ne_i c15141
        by_cases c15168 : p0 = 3
        · refine tc (y := 3) c15168 ?_
          refine lv_tableIn (off := 146) (tgt := 149) hx hb dX12_count_3 (by decide) (by decide) (by decide +kernel) (by decide) ?_
          refine lv_aload_n hx hb dX12_count_149 rfl (lv_at hl 1 rfl) ?_
          refine va_get (D := D) (ci := 11) (v := .ref ma1) (C := RX12) (T := TX12) (N := 53) hx hb hts in_X12 hown hE.1 hP 0 rfl rfl 1 (by decide) (hts _ w_821) (fun _ h9 => h9) rfl dX12_count_150 ?_
          refine lv_iconst (v := 1) hx hb dX12_count_153 (by decide) ?_
          refine va_iald hx hb hE.1 hP 1 1 rfl rfl (in_c (by decide)) dX12_count_154 ?_
          refine lv_topi (fun v15169 ev15169 => ?_)
          have tv15169 := gw_1 hs1_0 ev15169
          have zv15169 : v15169.toInt = (mf1 1).toInt := by rw [ev15169]; rfl
          exact ro_ret hC hr hk dX12_count_155 trivial
        · replace c15168 := ne_i c15168
          by_cases c15170 : p0 = 4
          · refine tc (y := 4) c15170 ?_
            refine lv_tableIn (off := 153) (tgt := 156) hx hb dX12_count_3 (by decide) (by decide) (by decide +kernel) (by decide) ?_
            refine lv_aload_n hx hb dX12_count_156 rfl (lv_at hl 1 rfl) ?_
            refine va_get (D := D) (ci := 11) (v := .ref ma1) (C := RX12) (T := TX12) (N := 53) hx hb hts in_X12 hown hE.1 hP 0 rfl rfl 1 (by decide) (hts _ w_821) (fun _ h9 => h9) rfl dX12_count_157 ?_
            refine lv_iconst (v := 2) hx hb dX12_count_160 (by decide) ?_
            refine va_iald hx hb hE.1 hP 1 1 rfl rfl (in_c (by decide)) dX12_count_161 ?_
            refine lv_topi (fun v15171 ev15171 => ?_)
            have tv15171 := gw_2 hs1_0 ev15171
            have zv15171 : v15171.toInt = (mf1 2).toInt := by rw [ev15171]; rfl
            exact ro_ret hC hr hk dX12_count_162 trivial
          · replace c15170 := ne_i c15170
            by_cases c15172 : p0 = 5
            · refine tc (y := 5) c15172 ?_
              refine lv_tableIn (off := 160) (tgt := 163) hx hb dX12_count_3 (by decide) (by decide) (by decide +kernel) (by decide) ?_
              refine lv_aload_n hx hb dX12_count_163 rfl (lv_at hl 1 rfl) ?_
              refine va_get (D := D) (ci := 11) (v := .ref ma1) (C := RX12) (T := TX12) (N := 53) hx hb hts in_X12 hown hE.1 hP 0 rfl rfl 1 (by decide) (hts _ w_821) (fun _ h9 => h9) rfl dX12_count_164 ?_
              refine lv_iconst (v := 3) hx hb dX12_count_167 (by decide) ?_
              refine va_iald hx hb hE.1 hP 1 1 rfl rfl (in_c (by decide)) dX12_count_168 ?_
              refine lv_topi (fun v15173 ev15173 => ?_)
              have zv15173 : v15173.toInt = (mf1 3).toInt := by rw [ev15173]; rfl
              exact ro_ret hC hr hk dX12_count_169 trivial
            · replace c15172 := ne_i c15172
              by_cases c15174 : p0 = 6
              · refine tc (y := 6) c15174 ?_
                refine lv_tableIn (off := 167) (tgt := 170) hx hb dX12_count_3 (by decide) (by decide) (by decide +kernel) (by decide) ?_
                refine lv_aload_n hx hb dX12_count_170 rfl (lv_at hl 1 rfl) ?_
                refine va_get (D := D) (ci := 11) (v := .int mn5) (C := RX12) (T := TX12) (N := 53) hx hb hts in_X12 hown hE.1 hP 0 rfl rfl 5 (by decide) (hts _ w_836) (fun _ h9 => h9) rfl dX12_count_171 ?_
                exact ro_ret hC hr hk dX12_count_174 trivial
              · replace c15174 := ne_i c15174
                by_cases c15175 : p0 = 7
                · refine tc (y := 7) c15175 ?_
                  refine lv_tableIn (off := 172) (tgt := 175) hx hb dX12_count_3 (by decide) (by decide) (by decide +kernel) (by decide) ?_
                  refine lv_aload_n hx hb dX12_count_175 rfl (lv_at hl 1 rfl) ?_
                  refine va_get (D := D) (ci := 11) (v := .ref ma1) (C := RX12) (T := TX12) (N := 53) hx hb hts in_X12 hown hE.1 hP 0 rfl rfl 1 (by decide) (hts _ w_821) (fun _ h9 => h9) rfl dX12_count_176 ?_
                  refine lv_iconst (v := 4) hx hb dX12_count_179 (by decide) ?_
                  refine va_iald hx hb hE.1 hP 1 1 rfl rfl (in_c (by decide)) dX12_count_180 ?_
                  refine lv_topi (fun v15176 ev15176 => ?_)
                  have tv15176 := gw_4 hs1_0 ev15176
                  have zv15176 : v15176.toInt = (mf1 4).toInt := by rw [ev15176]; rfl
                  exact ro_ret hC hr hk dX12_count_181 trivial
                · replace c15175 := ne_i c15175
                  by_cases c15177 : p0 = 8
                  · refine tc (y := 8) c15177 ?_
                    refine lv_tableIn (off := 179) (tgt := 182) hx hb dX12_count_3 (by decide) (by decide) (by decide +kernel) (by decide) ?_
                    refine lv_iconst (v := 0) hx hb dX12_count_182 (by decide) ?_
                    refine lv_istore_n (lv' := [(3, .int 0), (2, .int 0), (0, .ref md), (1, .int p0)]) hx hb dX12_count_183 rfl hl (by decide) rfl (fun ls hl => ?_)
                    have hl' := hl; clear hl
                    obtain ⟨i15187, i15188, hi_184, hl⟩ : ∃ (i15187 : Int32) (i15188 : Int32), ((0 : Int) ≤ i15187.toInt) ∧ lv_has ls 5 [(3, .int i15187), (2, .int i15188), (0, .ref md), (1, .int p0)] := ⟨_, _, by omega, hl'⟩
                    clear hl'
                    obtain ⟨n_184, hn_184⟩ : ∃ n : Nat, (4 - i15187.toInt).toNat < n := ⟨_, Nat.lt_succ_self _⟩
                    induction n_184 generalizing i15187 i15188 ls with
                    | zero => exact absurd hn_184 (Nat.not_lt_zero _)
                    | succ n_184 ih_184 =>
                      refine lv_iload_n hx hb dX12_count_184 rfl (lv_at hl 0 rfl) ?_
                      refine lv_iconst (v := 4) hx hb dX12_count_185 (by decide) ?_
                      refine lv_icmp_ge (tgt := 213) hx hb dX12_count_186 (by decide) (fun c15189 => ?_) (fun c15189 => ?_)
                      · replace c15189 := le_i c15189
                        refine lv_iload_n hx hb dX12_count_213 rfl (lv_at hl 1 rfl) ?_
                        exact ro_ret hC hr hk dX12_count_214 trivial
                      · replace c15189 := nle_i c15189
                        refine lv_iload_n hx hb dX12_count_189 rfl (lv_at hl 1 rfl) ?_
                        refine lv_aload_n hx hb dX12_count_190 rfl (lv_at hl 2 rfl) ?_
                        refine va_get (D := D) (ci := 11) (v := .ref ma49) (C := RX12) (T := TX12) (N := 53) hx hb hts in_X12 hown hE.1 hP 0 rfl rfl 49 (by decide) (hts _ w_999) (fun _ h9 => h9) rfl dX12_count_191 ?_
                        refine lv_iload_n hx hb dX12_count_194 rfl (lv_at hl 0 rfl) ?_
                        refine va_iald hx hb hE.1 hP 2 1 rfl rfl (vp_in_iff.mpr (by omega)) dX12_count_195 ?_
                        refine lv_topi (fun v15190 ev15190 => ?_)
                        have zv15190 : v15190.toInt = (mf49 i15187.toInt.toNat).toInt := by rw [ev15190]; rfl
                        have tv15190 := rg_at hs49_0 ev15190 (in_lt (i := i15187) (vp_in_iff.mpr (by omega)))
                        refine lv_iconst (v := (-1)) hx hb dX12_count_196 (by decide) ?_
                        refine lv_icmp_ne (tgt := 204) hx hb dX12_count_197 (by decide) (fun c15191 => ?_) (fun c15191 => ?_)
                        · replace c15191 := ne_i c15191
                          refine lv_iconst (v := 1) hx hb dX12_count_204 (by decide) ?_
                          refine lv_iadd hx hb dX12_count_205 ?_
                          refine lv_topi (fun v15192 ev15192 => ?_)
                          refine lv_istore_n (lv' := [(2, .int v15192), (3, .int i15187), (0, .ref md), (1, .int p0)]) hx hb dX12_count_206 rfl hl (by decide) rfl (fun ls hl => ?_)
                          obtain ⟨v15193, ev15193⟩ : ∃ z : Int32, z = i15187 + 1 := ⟨_, rfl⟩
                          refine lv_iinc (v := v15193) (lv' := [(3, .int v15193), (2, .int v15192), (0, .ref md), (1, .int p0)]) hx hb dX12_count_207 hl (k := 1) rfl (by rw [ev15193]; rfl) (by decide) rfl (fun ls hl => ?_)
                          refine lv_goto (tgt := 184) hx hb dX12_count_210 (by decide) ?_
                          have tv15193 : v15193.toInt = (i15187 : Int32).toInt + (1 : Int32).toInt := add_i ev15193 (by omega) (by omega)
                          exact ih_184 (i15187 := v15193) (i15188 := v15192) (hi_184 := by omega) (ls := ls) (hn_184 := by omega) (hl := lv_sub hl [0, 1, 2, 3] rfl)
                        · replace c15191 := eq_i c15191
                          refine lv_iconst (v := 0) hx hb dX12_count_200 (by decide) ?_
                          refine lv_goto (tgt := 205) hx hb dX12_count_201 (by decide) ?_
                          refine lv_iadd hx hb dX12_count_205 ?_
                          refine lv_topi (fun v15194 ev15194 => ?_)
                          refine lv_istore_n (lv' := [(2, .int v15194), (3, .int i15187), (0, .ref md), (1, .int p0)]) hx hb dX12_count_206 rfl hl (by decide) rfl (fun ls hl => ?_)
                          obtain ⟨v15195, ev15195⟩ : ∃ z : Int32, z = i15187 + 1 := ⟨_, rfl⟩
                          refine lv_iinc (v := v15195) (lv' := [(3, .int v15195), (2, .int v15194), (0, .ref md), (1, .int p0)]) hx hb dX12_count_207 hl (k := 1) rfl (by rw [ev15195]; rfl) (by decide) rfl (fun ls hl => ?_)
                          refine lv_goto (tgt := 184) hx hb dX12_count_210 (by decide) ?_
                          have tv15195 : v15195.toInt = (i15187 : Int32).toInt + (1 : Int32).toInt := add_i ev15195 (by omega) (by omega)
                          exact ih_184 (i15187 := v15195) (i15188 := v15194) (hi_184 := by omega) (ls := ls) (hn_184 := by omega) (hl := lv_sub hl [0, 1, 2, 3] rfl)
                  · replace c15177 := ne_i c15177
                    refine lv_tableOut (tgt := 215) hx hb dX12_count_3 (by omega) (by decide) ?_
                    refine lv_iconst (v := (-1)) hx hb dX12_count_215 (by decide) ?_
                    exact ro_ret hC hr hk dX12_count_216 trivial
