set_option maxRecDepth 40000 in
set_option maxHeartbeats 4000000 in
theorem c_X12_sameOn (l : Launch) (D : va_G) (K : Nat → ClassId) (md : Nat) (ma1 : Nat) (ma2 : Nat) (ma3 : Nat) (ma4 : Nat) (ma6 : Nat) (ma14 : Nat) (ma21 : Nat) (ma22 : Nat) (ma23 : Nat) (ma24 : Nat) (ma26 : Nat) (ma27 : Nat) (ma28 : Nat) (ma29 : Nat) (ma30 : Nat) (ma31 : Nat) (ma32 : Nat) (ma33 : Nat) (ma34 : Nat) (ma35 : Nat) (ma36 : Nat) (ma40 : Nat) (ma41 : Nat) (ma42 : Nat) (ma45 : Nat) (ma46 : Nat) (ma47 : Nat) (ma49 : Nat) (ma50 : Nat) (ma51 : Nat) (ma52 : Nat) (mn0 : Int32) (mn5 : Int32) (mn7 : Int32) (mn8 : Int32) (mn9 : Int32) (mn10 : Int32) (mn11 : Int32) (mn12 : Int32) (mn13 : Int32) (mn15 : Int32) (mn16 : Int32) (mn17 : Int32) (mn18 : Int32) (mn19 : Int32) (mn20 : Int32) (mn25 : Int32) (mn37 : Int32) (mn38 : Int32) (mn39 : Int32) (mn43 : Int32) (mn44 : Int32) (mn48 : Int32) (mf1 : Nat → Int32) (mf27 : Nat → Int32) (p0 : Int32) (p1 : Int32) (hs1_0 : GW mf1) (ha0 : 0 ≤ p0.toInt ∧ p0.toInt ≤ 9) (ha1 : 0 ≤ p1.toInt ∧ p1.toInt ≤ 9) : Ro l D K yX12_sameOn cX12_sameOn 5 (some .boolean) 1 22 [.ref md, .int p0, .int p1] [(md, .inr (11, [.int mn0, .ref ma1, .ref ma2, .ref ma3, .ref ma4, .int mn5, .ref ma6, .int mn7, .int mn8, .int mn9, .int mn10, .int mn11, .int mn12, .int mn13, .ref ma14, .int mn15, .int mn16, .int mn17, .int mn18, .int mn19, .int mn20, .ref ma21, .ref ma22, .ref ma23, .ref ma24, .int mn25, .ref ma26, .ref ma27, .ref ma28, .ref ma29, .ref ma30, .ref ma31, .ref ma32, .ref ma33, .ref ma34, .ref ma35, .ref ma36, .int mn37, .int mn38, .int mn39, .ref ma40, .ref ma41, .ref ma42, .int mn43, .int mn44, .ref ma45, .ref ma46, .ref ma47, .int mn48, .ref ma49, .ref ma50, .ref ma51, .ref ma52])), (ma1, .inl (K 1, 262, .inl mf1)), (ma27, .inl (K 1, 10, .inl mf27))] (fun r => (r = 0) ∨ (r = 1 ∧ ((mf27 p0.toInt.toNat).toInt = (mf27 p1.toInt.toNat).toInt))) := by
  refine ro_of (by decide) (Nat.le_of_ble_eq_true rfl) ?_
  intro p e s m below meth c hC hr hk hE hP ls hl
  replace hC : CallFix p m c cX12_sameOn 5 s [.ref md, .int p0, .int p1].toArray wl RX12 := hC
  have hx := hC.1
  have hb := hC.2.1
  have hml := hC.2.2.1
  have hown := hC.2.2.2.1
  have hts := hC.2.2.2.2
  replace hl : lv_has ls 5 [(0, .ref md), (1, .int p0), (2, .int p1)] := hl
  have kc_0 : (0 : Int32).toInt = 0 := by decide
  have kc_1 : (1 : Int32).toInt = 1 := by decide
  have kc_4 : (4 : Int32).toInt = 4 := by decide
  have hW0 := gwn_0 hs1_0; have hW1 := gwn_1 hs1_0; have hW2 := gwn_2 hs1_0; have hW4 := gwn_4 hs1_0
  refine lv_aload_n hx hb dX12_sameOn_0 rfl (lv_at hl 0 rfl) ?_
  refine va_get (D := D) (ci := 11) (v := .ref ma27) (C := RX12) (T := TX12) (N := 53) hx hb hts in_X12 hown hE.1 hP 0 rfl rfl 27 (by decide) (hts _ w_1168) (fun _ h9 => h9) rfl dX12_sameOn_1 ?_
  refine lv_iload_n hx hb dX12_sameOn_4 rfl (lv_at hl 1 rfl) ?_
  refine va_iald hx hb hE.1 hP 2 1 rfl rfl (vp_in_iff.mpr (by omega)) dX12_sameOn_5 ?_
  refine lv_topi (fun v15809 ev15809 => ?_)
  have zv15809 : v15809.toInt = (mf27 p0.toInt.toNat).toInt := by rw [ev15809]; rfl
  refine lv_aload_n hx hb dX12_sameOn_6 rfl (lv_at hl 0 rfl) ?_
  refine va_get (D := D) (ci := 11) (v := .ref ma27) (C := RX12) (T := TX12) (N := 53) hx hb hts in_X12 hown hE.1 hP 0 rfl rfl 27 (by decide) (hts _ w_1168) (fun _ h9 => h9) rfl dX12_sameOn_7 ?_
  refine lv_iload_n hx hb dX12_sameOn_10 rfl (lv_at hl 2 rfl) ?_
  refine va_iald hx hb hE.1 hP 2 1 rfl rfl (vp_in_iff.mpr (by omega)) dX12_sameOn_11 ?_
  refine lv_topi (fun v15810 ev15810 => ?_)
  have zv15810 : v15810.toInt = (mf27 p1.toInt.toNat).toInt := by rw [ev15810]; rfl
  refine lv_icmp_ne (tgt := 19) hx hb dX12_sameOn_12 (by decide) (fun c15811 => ?_) (fun c15811 => ?_)
  · replace c15811 := ne_i c15811
    refine lv_iconst (v := 0) hx hb dX12_sameOn_19 (by decide) ?_
    refine lv_istore_n (lv' := [(3, .int 0), (0, .ref md), (1, .int p0), (2, .int p1)]) hx hb dX12_sameOn_20 rfl hl (by decide) rfl (fun ls hl => ?_)
    refine lv_iconst (v := 0) hx hb dX12_sameOn_21 (by decide) ?_
    refine lv_istore (lv' := [(4, .int 0), (3, .int 0), (0, .ref md), (1, .int p0), (2, .int p1)]) hx hb dX12_sameOn_22 hl (by decide) rfl (fun ls hl => ?_)
    have hl' := hl; clear hl
    obtain ⟨i15829, i15830, hi_24, hv_24, hl⟩ : ∃ (i15829 : Int32) (i15830 : Int32), ((0 : Int) ≤ i15829.toInt) ∧ (i15830.toInt = 0 ∨ (i15830.toInt = 1 ∧ (mf27 p0.toInt.toNat).toInt = (mf27 p1.toInt.toNat).toInt)) ∧ lv_has ls 5 [(4, .int i15829), (3, .int i15830), (0, .ref md), (1, .int p0), (2, .int p1)] := ⟨_, _, by omega, by omega, hl'⟩
    clear hl'
    obtain ⟨n_24, hn_24⟩ : ∃ n : Nat, (4 - i15829.toInt).toNat < n := ⟨_, Nat.lt_succ_self _⟩
    induction n_24 generalizing i15829 i15830 ls with
    | zero => exact absurd hn_24 (Nat.not_lt_zero _)
    | succ n_24 ih_24 =>
      refine lv_iload hx hb dX12_sameOn_24 (lv_at hl 0 rfl) ?_
      refine lv_iconst (v := 4) hx hb dX12_sameOn_26 (by decide) ?_
      refine lv_icmp_ge (tgt := 73) hx hb dX12_sameOn_27 (by decide) (fun c15831 => ?_) (fun c15831 => ?_)
      · replace c15831 := le_i c15831
        refine lv_iload_n hx hb dX12_sameOn_73 rfl (lv_at hl 1 rfl) ?_
        rcases b01 (show (i15830 : Int32).toInt = 0 ∨ (i15830 : Int32).toInt = 1 by omega) with hb15832 | hb15832
        · refine tc (y := 0) hb15832 ?_
          have hb15832i := eq_i hb15832
          exact ro_zret hC hr hk dX12_sameOn_74 rfl (Or.inl rfl)
        · refine tc (y := 1) hb15832 ?_
          have hb15832i := eq_i hb15832
          exact ro_zret hC hr hk dX12_sameOn_74 rfl (Or.inr ⟨rfl, (by omega)⟩)
      · replace c15831 := nle_i c15831
        refine lv_iload_n hx hb dX12_sameOn_30 rfl (lv_at hl 1 rfl) ?_
        refine lv_if_eq (tgt := 73) hx hb dX12_sameOn_31 (by decide) (fun c15833 => ?_) (fun c15833 => ?_)
        · replace c15833 := eq_i c15833
          refine lv_iload_n hx hb dX12_sameOn_73 rfl (lv_at hl 1 rfl) ?_
          rcases b01 (show (i15830 : Int32).toInt = 0 ∨ (i15830 : Int32).toInt = 1 by omega) with hb15834 | hb15834
          · refine tc (y := 0) hb15834 ?_
            have hb15834i := eq_i hb15834
            exact ro_zret hC hr hk dX12_sameOn_74 rfl (Or.inl rfl)
          · refine tc (y := 1) hb15834 ?_
            have hb15834i := eq_i hb15834
            exact ro_zret hC hr hk dX12_sameOn_74 rfl (Or.inr ⟨rfl, (by omega)⟩)
        · replace c15833 := ne_i c15833
          refine lv_aload_n hx hb dX12_sameOn_34 rfl (lv_at hl 2 rfl) ?_
          refine va_get (D := D) (ci := 11) (v := .ref ma27) (C := RX12) (T := TX12) (N := 53) hx hb hts in_X12 hown hE.1 hP 0 rfl rfl 27 (by decide) (hts _ w_1168) (fun _ h9 => h9) rfl dX12_sameOn_35 ?_
          refine lv_aload_n hx hb dX12_sameOn_38 rfl (lv_at hl 2 rfl) ?_
          refine lv_iload_n hx hb dX12_sameOn_39 rfl (lv_at hl 3 rfl) ?_
          refine lv_iload hx hb dX12_sameOn_40 (lv_at hl 0 rfl) ?_
          refine ro_V (As := [.int p0, .int i15829]) (rest := [.ref ma27]) hC hE kV_X12_273 (c_X12_leadsTo l D K md ma1 ma2 ma3 ma4 ma6 ma14 ma21 ma22 ma23 ma24 ma26 ma27 ma28 ma29 ma30 ma31 ma32 ma33 ma34 ma35 ma36 ma40 ma41 ma42 ma45 ma46 ma47 ma49 ma50 ma51 ma52 mn0 mn5 mn7 mn8 mn9 mn10 mn11 mn12 mn13 mn15 mn16 mn17 mn18 mn19 mn20 mn25 mn37 mn38 mn39 mn43 mn44 mn48 mf1 p0 i15829 hs1_0 (by omega) (by omega)) (hP.sub (ws' := [(md, .inr (11, [.int mn0, .ref ma1, .ref ma2, .ref ma3, .ref ma4, .int mn5, .ref ma6, .int mn7, .int mn8, .int mn9, .int mn10, .int mn11, .int mn12, .int mn13, .ref ma14, .int mn15, .int mn16, .int mn17, .int mn18, .int mn19, .int mn20, .ref ma21, .ref ma22, .ref ma23, .ref ma24, .int mn25, .ref ma26, .ref ma27, .ref ma28, .ref ma29, .ref ma30, .ref ma31, .ref ma32, .ref ma33, .ref ma34, .ref ma35, .ref ma36, .int mn37, .int mn38, .int mn39, .ref ma40, .ref ma41, .ref ma42, .int mn43, .int mn44, .ref ma45, .ref ma46, .ref ma47, .int mn48, .ref ma49, .ref ma50, .ref ma51, .ref ma52])), (ma1, .inl (K 1, 262, .inl mf1))]) [0, 1] rfl) 0 11 rfl rfl rfl hl.1 rfl (Nat.le_of_ble_eq_true rfl) (by decide) (by decide) dX12_sameOn_42 (fun r15838 hq => ?_)
          obtain ⟨h15835, h15836, h15837⟩ := hq
          refine va_iald hx hb hE.1 hP 2 1 rfl rfl (vp_in_iff.mpr (by omega)) dX12_sameOn_45 ?_
          refine lv_topi (fun v15839 ev15839 => ?_)
          have zv15839 : v15839.toInt = (mf27 r15838.toInt.toNat).toInt := by rw [ev15839]; rfl
          refine lv_aload_n hx hb dX12_sameOn_46 rfl (lv_at hl 2 rfl) ?_
          refine va_get (D := D) (ci := 11) (v := .ref ma27) (C := RX12) (T := TX12) (N := 53) hx hb hts in_X12 hown hE.1 hP 0 rfl rfl 27 (by decide) (hts _ w_1168) (fun _ h9 => h9) rfl dX12_sameOn_47 ?_
          refine lv_aload_n hx hb dX12_sameOn_50 rfl (lv_at hl 2 rfl) ?_
          refine lv_iload_n hx hb dX12_sameOn_51 rfl (lv_at hl 4 rfl) ?_
          refine lv_iload hx hb dX12_sameOn_52 (lv_at hl 0 rfl) ?_
          refine ro_V (As := [.int p1, .int i15829]) (rest := [.ref ma27, .int v15839]) hC hE kV_X12_273 (c_X12_leadsTo l D K md ma1 ma2 ma3 ma4 ma6 ma14 ma21 ma22 ma23 ma24 ma26 ma27 ma28 ma29 ma30 ma31 ma32 ma33 ma34 ma35 ma36 ma40 ma41 ma42 ma45 ma46 ma47 ma49 ma50 ma51 ma52 mn0 mn5 mn7 mn8 mn9 mn10 mn11 mn12 mn13 mn15 mn16 mn17 mn18 mn19 mn20 mn25 mn37 mn38 mn39 mn43 mn44 mn48 mf1 p1 i15829 hs1_0 (by omega) (by omega)) (hP.sub (ws' := [(md, .inr (11, [.int mn0, .ref ma1, .ref ma2, .ref ma3, .ref ma4, .int mn5, .ref ma6, .int mn7, .int mn8, .int mn9, .int mn10, .int mn11, .int mn12, .int mn13, .ref ma14, .int mn15, .int mn16, .int mn17, .int mn18, .int mn19, .int mn20, .ref ma21, .ref ma22, .ref ma23, .ref ma24, .int mn25, .ref ma26, .ref ma27, .ref ma28, .ref ma29, .ref ma30, .ref ma31, .ref ma32, .ref ma33, .ref ma34, .ref ma35, .ref ma36, .int mn37, .int mn38, .int mn39, .ref ma40, .ref ma41, .ref ma42, .int mn43, .int mn44, .ref ma45, .ref ma46, .ref ma47, .int mn48, .ref ma49, .ref ma50, .ref ma51, .ref ma52])), (ma1, .inl (K 1, 262, .inl mf1))]) [0, 1] rfl) 0 11 rfl rfl rfl hl.1 rfl (Nat.le_of_ble_eq_true rfl) (by decide) (by decide) dX12_sameOn_54 (fun r15843 hq => ?_)
          obtain ⟨h15840, h15841, h15842⟩ := hq
          refine va_iald hx hb hE.1 hP 2 1 rfl rfl (vp_in_iff.mpr (by omega)) dX12_sameOn_57 ?_
          refine lv_topi (fun v15844 ev15844 => ?_)
          have zv15844 : v15844.toInt = (mf27 r15843.toInt.toNat).toInt := by rw [ev15844]; rfl
          refine lv_icmp_ne (tgt := 65) hx hb dX12_sameOn_58 (by decide) (fun c15845 => ?_) (fun c15845 => ?_)
          · replace c15845 := ne_i c15845
            refine lv_iconst (v := 0) hx hb dX12_sameOn_65 (by decide) ?_
            refine lv_istore_n (lv' := [(3, .int 0), (4, .int i15829), (0, .ref md), (1, .int p0), (2, .int p1)]) hx hb dX12_sameOn_66 rfl hl (by decide) rfl (fun ls hl => ?_)
            obtain ⟨v15846, ev15846⟩ : ∃ z : Int32, z = i15829 + 1 := ⟨_, rfl⟩
            refine lv_iinc (v := v15846) (lv' := [(4, .int v15846), (3, .int 0), (0, .ref md), (1, .int p0), (2, .int p1)]) hx hb dX12_sameOn_67 hl (k := 1) rfl (by rw [ev15846]; rfl) (by decide) rfl (fun ls hl => ?_)
            refine lv_goto (tgt := 24) hx hb dX12_sameOn_70 (by decide) ?_
            have tv15846 : v15846.toInt = (i15829 : Int32).toInt + (1 : Int32).toInt := add_i ev15846 (by omega) (by omega)
            exact ih_24 (i15829 := v15846) (i15830 := 0) (hi_24 := by omega) (hv_24 := by omega) (ls := ls) (hn_24 := by omega) (hl := lv_sub hl [0, 1, 2, 3, 4] rfl)
          · replace c15845 := eq_i c15845
            refine lv_iconst (v := 1) hx hb dX12_sameOn_61 (by decide) ?_
            refine lv_goto (tgt := 66) hx hb dX12_sameOn_62 (by decide) ?_
            refine lv_istore_n (lv' := [(3, .int 1), (4, .int i15829), (0, .ref md), (1, .int p0), (2, .int p1)]) hx hb dX12_sameOn_66 rfl hl (by decide) rfl (fun ls hl => ?_)
            obtain ⟨v15847, ev15847⟩ : ∃ z : Int32, z = i15829 + 1 := ⟨_, rfl⟩
            refine lv_iinc (v := v15847) (lv' := [(4, .int v15847), (3, .int 1), (0, .ref md), (1, .int p0), (2, .int p1)]) hx hb dX12_sameOn_67 hl (k := 1) rfl (by rw [ev15847]; rfl) (by decide) rfl (fun ls hl => ?_)
            refine lv_goto (tgt := 24) hx hb dX12_sameOn_70 (by decide) ?_
            have tv15847 : v15847.toInt = (i15829 : Int32).toInt + (1 : Int32).toInt := add_i ev15847 (by omega) (by omega)
            exact ih_24 (i15829 := v15847) (i15830 := 1) (hi_24 := by omega) (hv_24 := by omega) (ls := ls) (hn_24 := by omega) (hl := lv_sub hl [0, 1, 2, 3, 4] rfl)
  · replace c15811 := eq_i c15811
    refine lv_iconst (v := 1) hx hb dX12_sameOn_15 (by decide) ?_
    refine lv_goto (tgt := 20) hx hb dX12_sameOn_16 (by decide) ?_
    refine lv_istore_n (lv' := [(3, .int 1), (0, .ref md), (1, .int p0), (2, .int p1)]) hx hb dX12_sameOn_20 rfl hl (by decide) rfl (fun ls hl => ?_)
    refine lv_iconst (v := 0) hx hb dX12_sameOn_21 (by decide) ?_
    refine lv_istore (lv' := [(4, .int 0), (3, .int 1), (0, .ref md), (1, .int p0), (2, .int p1)]) hx hb dX12_sameOn_22 hl (by decide) rfl (fun ls hl => ?_)
    have hl' := hl; clear hl
    obtain ⟨i15865, i15866, hi_24, hv_24, hl⟩ : ∃ (i15865 : Int32) (i15866 : Int32), ((0 : Int) ≤ i15865.toInt) ∧ (i15866.toInt = 0 ∨ (i15866.toInt = 1 ∧ (mf27 p0.toInt.toNat).toInt = (mf27 p1.toInt.toNat).toInt)) ∧ lv_has ls 5 [(4, .int i15865), (3, .int i15866), (0, .ref md), (1, .int p0), (2, .int p1)] := ⟨_, _, by omega, by omega, hl'⟩
    clear hl'
    obtain ⟨n_24, hn_24⟩ : ∃ n : Nat, (4 - i15865.toInt).toNat < n := ⟨_, Nat.lt_succ_self _⟩
    induction n_24 generalizing i15865 i15866 ls with
    | zero => exact absurd hn_24 (Nat.not_lt_zero _)
    | succ n_24 ih_24 =>
      refine lv_iload hx hb dX12_sameOn_24 (lv_at hl 0 rfl) ?_
      refine lv_iconst (v := 4) hx hb dX12_sameOn_26 (by decide) ?_
      refine lv_icmp_ge (tgt := 73) hx hb dX12_sameOn_27 (by decide) (fun c15867 => ?_) (fun c15867 => ?_)
      · replace c15867 := le_i c15867
        refine lv_iload_n hx hb dX12_sameOn_73 rfl (lv_at hl 1 rfl) ?_
        rcases b01 (show (i15866 : Int32).toInt = 0 ∨ (i15866 : Int32).toInt = 1 by omega) with hb15868 | hb15868
        · refine tc (y := 0) hb15868 ?_
          have hb15868i := eq_i hb15868
          exact ro_zret hC hr hk dX12_sameOn_74 rfl (Or.inl rfl)
        · refine tc (y := 1) hb15868 ?_
          have hb15868i := eq_i hb15868
          exact ro_zret hC hr hk dX12_sameOn_74 rfl (Or.inr ⟨rfl, (by omega)⟩)
      · replace c15867 := nle_i c15867
        refine lv_iload_n hx hb dX12_sameOn_30 rfl (lv_at hl 1 rfl) ?_
        refine lv_if_eq (tgt := 73) hx hb dX12_sameOn_31 (by decide) (fun c15869 => ?_) (fun c15869 => ?_)
        · replace c15869 := eq_i c15869
          refine lv_iload_n hx hb dX12_sameOn_73 rfl (lv_at hl 1 rfl) ?_
          rcases b01 (show (i15866 : Int32).toInt = 0 ∨ (i15866 : Int32).toInt = 1 by omega) with hb15870 | hb15870
          · refine tc (y := 0) hb15870 ?_
            have hb15870i := eq_i hb15870
            exact ro_zret hC hr hk dX12_sameOn_74 rfl (Or.inl rfl)
          · refine tc (y := 1) hb15870 ?_
            have hb15870i := eq_i hb15870
            exact ro_zret hC hr hk dX12_sameOn_74 rfl (Or.inr ⟨rfl, (by omega)⟩)
        · replace c15869 := ne_i c15869
          refine lv_aload_n hx hb dX12_sameOn_34 rfl (lv_at hl 2 rfl) ?_
          refine va_get (D := D) (ci := 11) (v := .ref ma27) (C := RX12) (T := TX12) (N := 53) hx hb hts in_X12 hown hE.1 hP 0 rfl rfl 27 (by decide) (hts _ w_1168) (fun _ h9 => h9) rfl dX12_sameOn_35 ?_
          refine lv_aload_n hx hb dX12_sameOn_38 rfl (lv_at hl 2 rfl) ?_
          refine lv_iload_n hx hb dX12_sameOn_39 rfl (lv_at hl 3 rfl) ?_
          refine lv_iload hx hb dX12_sameOn_40 (lv_at hl 0 rfl) ?_
          refine ro_V (As := [.int p0, .int i15865]) (rest := [.ref ma27]) hC hE kV_X12_273 (c_X12_leadsTo l D K md ma1 ma2 ma3 ma4 ma6 ma14 ma21 ma22 ma23 ma24 ma26 ma27 ma28 ma29 ma30 ma31 ma32 ma33 ma34 ma35 ma36 ma40 ma41 ma42 ma45 ma46 ma47 ma49 ma50 ma51 ma52 mn0 mn5 mn7 mn8 mn9 mn10 mn11 mn12 mn13 mn15 mn16 mn17 mn18 mn19 mn20 mn25 mn37 mn38 mn39 mn43 mn44 mn48 mf1 p0 i15865 hs1_0 (by omega) (by omega)) (hP.sub (ws' := [(md, .inr (11, [.int mn0, .ref ma1, .ref ma2, .ref ma3, .ref ma4, .int mn5, .ref ma6, .int mn7, .int mn8, .int mn9, .int mn10, .int mn11, .int mn12, .int mn13, .ref ma14, .int mn15, .int mn16, .int mn17, .int mn18, .int mn19, .int mn20, .ref ma21, .ref ma22, .ref ma23, .ref ma24, .int mn25, .ref ma26, .ref ma27, .ref ma28, .ref ma29, .ref ma30, .ref ma31, .ref ma32, .ref ma33, .ref ma34, .ref ma35, .ref ma36, .int mn37, .int mn38, .int mn39, .ref ma40, .ref ma41, .ref ma42, .int mn43, .int mn44, .ref ma45, .ref ma46, .ref ma47, .int mn48, .ref ma49, .ref ma50, .ref ma51, .ref ma52])), (ma1, .inl (K 1, 262, .inl mf1))]) [0, 1] rfl) 0 11 rfl rfl rfl hl.1 rfl (Nat.le_of_ble_eq_true rfl) (by decide) (by decide) dX12_sameOn_42 (fun r15874 hq => ?_)
          obtain ⟨h15871, h15872, h15873⟩ := hq
          refine va_iald hx hb hE.1 hP 2 1 rfl rfl (vp_in_iff.mpr (by omega)) dX12_sameOn_45 ?_
          refine lv_topi (fun v15875 ev15875 => ?_)
          have zv15875 : v15875.toInt = (mf27 r15874.toInt.toNat).toInt := by rw [ev15875]; rfl
          refine lv_aload_n hx hb dX12_sameOn_46 rfl (lv_at hl 2 rfl) ?_
          refine va_get (D := D) (ci := 11) (v := .ref ma27) (C := RX12) (T := TX12) (N := 53) hx hb hts in_X12 hown hE.1 hP 0 rfl rfl 27 (by decide) (hts _ w_1168) (fun _ h9 => h9) rfl dX12_sameOn_47 ?_
          refine lv_aload_n hx hb dX12_sameOn_50 rfl (lv_at hl 2 rfl) ?_
          refine lv_iload_n hx hb dX12_sameOn_51 rfl (lv_at hl 4 rfl) ?_
          refine lv_iload hx hb dX12_sameOn_52 (lv_at hl 0 rfl) ?_
          refine ro_V (As := [.int p1, .int i15865]) (rest := [.ref ma27, .int v15875]) hC hE kV_X12_273 (c_X12_leadsTo l D K md ma1 ma2 ma3 ma4 ma6 ma14 ma21 ma22 ma23 ma24 ma26 ma27 ma28 ma29 ma30 ma31 ma32 ma33 ma34 ma35 ma36 ma40 ma41 ma42 ma45 ma46 ma47 ma49 ma50 ma51 ma52 mn0 mn5 mn7 mn8 mn9 mn10 mn11 mn12 mn13 mn15 mn16 mn17 mn18 mn19 mn20 mn25 mn37 mn38 mn39 mn43 mn44 mn48 mf1 p1 i15865 hs1_0 (by omega) (by omega)) (hP.sub (ws' := [(md, .inr (11, [.int mn0, .ref ma1, .ref ma2, .ref ma3, .ref ma4, .int mn5, .ref ma6, .int mn7, .int mn8, .int mn9, .int mn10, .int mn11, .int mn12, .int mn13, .ref ma14, .int mn15, .int mn16, .int mn17, .int mn18, .int mn19, .int mn20, .ref ma21, .ref ma22, .ref ma23, .ref ma24, .int mn25, .ref ma26, .ref ma27, .ref ma28, .ref ma29, .ref ma30, .ref ma31, .ref ma32, .ref ma33, .ref ma34, .ref ma35, .ref ma36, .int mn37, .int mn38, .int mn39, .ref ma40, .ref ma41, .ref ma42, .int mn43, .int mn44, .ref ma45, .ref ma46, .ref ma47, .int mn48, .ref ma49, .ref ma50, .ref ma51, .ref ma52])), (ma1, .inl (K 1, 262, .inl mf1))]) [0, 1] rfl) 0 11 rfl rfl rfl hl.1 rfl (Nat.le_of_ble_eq_true rfl) (by decide) (by decide) dX12_sameOn_54 (fun r15879 hq => ?_)
          obtain ⟨h15876, h15877, h15878⟩ := hq
          refine va_iald hx hb hE.1 hP 2 1 rfl rfl (vp_in_iff.mpr (by omega)) dX12_sameOn_57 ?_
          refine lv_topi (fun v15880 ev15880 => ?_)
          have zv15880 : v15880.toInt = (mf27 r15879.toInt.toNat).toInt := by rw [ev15880]; rfl
          refine lv_icmp_ne (tgt := 65) hx hb dX12_sameOn_58 (by decide) (fun c15881 => ?_) (fun c15881 => ?_)
          · replace c15881 := ne_i c15881
            refine lv_iconst (v := 0) hx hb dX12_sameOn_65 (by decide) ?_
            refine lv_istore_n (lv' := [(3, .int 0), (4, .int i15865), (0, .ref md), (1, .int p0), (2, .int p1)]) hx hb dX12_sameOn_66 rfl hl (by decide) rfl (fun ls hl => ?_)
            obtain ⟨v15882, ev15882⟩ : ∃ z : Int32, z = i15865 + 1 := ⟨_, rfl⟩
            refine lv_iinc (v := v15882) (lv' := [(4, .int v15882), (3, .int 0), (0, .ref md), (1, .int p0), (2, .int p1)]) hx hb dX12_sameOn_67 hl (k := 1) rfl (by rw [ev15882]; rfl) (by decide) rfl (fun ls hl => ?_)
            refine lv_goto (tgt := 24) hx hb dX12_sameOn_70 (by decide) ?_
            have tv15882 : v15882.toInt = (i15865 : Int32).toInt + (1 : Int32).toInt := add_i ev15882 (by omega) (by omega)
            exact ih_24 (i15865 := v15882) (i15866 := 0) (hi_24 := by omega) (hv_24 := by omega) (ls := ls) (hn_24 := by omega) (hl := lv_sub hl [0, 1, 2, 3, 4] rfl)
          · replace c15881 := eq_i c15881
            refine lv_iconst (v := 1) hx hb dX12_sameOn_61 (by decide) ?_
            refine lv_goto (tgt := 66) hx hb dX12_sameOn_62 (by decide) ?_
            refine lv_istore_n (lv' := [(3, .int 1), (4, .int i15865), (0, .ref md), (1, .int p0), (2, .int p1)]) hx hb dX12_sameOn_66 rfl hl (by decide) rfl (fun ls hl => ?_)
            obtain ⟨v15883, ev15883⟩ : ∃ z : Int32, z = i15865 + 1 := ⟨_, rfl⟩
            refine lv_iinc (v := v15883) (lv' := [(4, .int v15883), (3, .int 1), (0, .ref md), (1, .int p0), (2, .int p1)]) hx hb dX12_sameOn_67 hl (k := 1) rfl (by rw [ev15883]; rfl) (by decide) rfl (fun ls hl => ?_)
            refine lv_goto (tgt := 24) hx hb dX12_sameOn_70 (by decide) ?_
            have tv15883 : v15883.toInt = (i15865 : Int32).toInt + (1 : Int32).toInt := add_i ev15883 (by omega) (by omega)
            exact ih_24 (i15865 := v15883) (i15866 := 1) (hi_24 := by omega) (hv_24 := by omega) (ls := ls) (hn_24 := by omega) (hl := lv_sub hl [0, 1, 2, 3, 4] rfl)
set_option maxRecDepth 40000 in
set_option maxHeartbeats 4000000 in
theorem c_X12_fillKinds (l : Launch) (D : va_G) (K : Nat → ClassId) (md : Nat) (ma1 : Nat) (ma2 : Nat) (ma3 : Nat) (ma4 : Nat) (ma6 : Nat) (ma14 : Nat) (ma21 : Nat) (ma22 : Nat) (ma23 : Nat) (ma24 : Nat) (ma26 : Nat) (ma27 : Nat) (ma28 : Nat) (ma29 : Nat) (ma30 : Nat) (ma31 : Nat) (ma32 : Nat) (ma33 : Nat) (ma34 : Nat) (ma35 : Nat) (ma36 : Nat) (ma40 : Nat) (ma41 : Nat) (ma42 : Nat) (ma45 : Nat) (ma46 : Nat) (ma47 : Nat) (ma49 : Nat) (ma50 : Nat) (ma51 : Nat) (ma52 : Nat) (mn0 : Int32) (mn5 : Int32) (mn7 : Int32) (mn8 : Int32) (mn9 : Int32) (mn10 : Int32) (mn11 : Int32) (mn12 : Int32) (mn13 : Int32) (mn15 : Int32) (mn16 : Int32) (mn17 : Int32) (mn18 : Int32) (mn19 : Int32) (mn20 : Int32) (mn25 : Int32) (mn37 : Int32) (mn38 : Int32) (mn39 : Int32) (mn43 : Int32) (mn44 : Int32) (mn48 : Int32) (mf1 : Nat → Int32) (mf27 : Nat → Int32) (mf28 : Nat → Int32) (p0 : Int32) (hs1_0 : GW mf1) : Ci (S := ((Nat → Int32) × (Nat → Nat → Int32) × (Nat → Nat → Int64))) l D K yX12_fillKinds cX12_fillKinds 6 (some .int) 2 46 0 0 [.ref md, .int p0] [(md, .inr (11, [.int mn0, .ref ma1, .ref ma2, .ref ma3, .ref ma4, .int mn5, .ref ma6, .int mn7, .int mn8, .int mn9, .int mn10, .int mn11, .int mn12, .int mn13, .ref ma14, .int mn15, .int mn16, .int mn17, .int mn18, .int mn19, .int mn20, .ref ma21, .ref ma22, .ref ma23, .ref ma24, .int mn25, .ref ma26, .ref ma27, .ref ma28, .ref ma29, .ref ma30, .ref ma31, .ref ma32, .ref ma33, .ref ma34, .ref ma35, .ref ma36, .int mn37, .int mn38, .int mn39, .ref ma40, .ref ma41, .ref ma42, .int mn43, .int mn44, .ref ma45, .ref ma46, .ref ma47, .int mn48, .ref ma49, .ref ma50, .ref ma51, .ref ma52])), (ma1, .inl (K 1, 262, .inl mf1)), (ma27, .inl (K 1, 10, .inl mf27)), (ma28, .inl (K 1, 10, .inl mf28))] (fun _ _ => True) (fun u => [(md, .inr (11, [.int mn0, .ref ma1, .ref ma2, .ref ma3, .ref ma4, .int mn5, .ref ma6, .int mn7, .int mn8, .int mn9, .int mn10, .int mn11, .int mn12, .int mn13, .ref ma14, .int mn15, .int mn16, .int mn17, .int mn18, .int mn19, .int mn20, .ref ma21, .ref ma22, .ref ma23, .ref ma24, .int mn25, .ref ma26, .ref ma27, .ref ma28, .ref ma29, .ref ma30, .ref ma31, .ref ma32, .ref ma33, .ref ma34, .ref ma35, .ref ma36, .int mn37, .int mn38, .int mn39, .ref ma40, .ref ma41, .ref ma42, .int mn43, .int mn44, .ref ma45, .ref ma46, .ref ma47, .int mn48, .ref ma49, .ref ma50, .ref ma51, .ref ma52])), (ma1, .inl (K 1, 262, .inl mf1)), (ma27, .inl (K 1, 10, .inl (u.2.1 0))), (ma28, .inl (K 1, 10, .inl (u.2.1 1)))]) := by
  intro sz
  refine ch_of (y := yX12_fillKinds) (cc := cX12_fillKinds) (maxL := 6) (ret := (some .int)) (av := [.ref md, .int p0]) (ws := [(md, .inr (11, [.int mn0, .ref ma1, .ref ma2, .ref ma3, .ref ma4, .int mn5, .ref ma6, .int mn7, .int mn8, .int mn9, .int mn10, .int mn11, .int mn12, .int mn13, .ref ma14, .int mn15, .int mn16, .int mn17, .int mn18, .int mn19, .int mn20, .ref ma21, .ref ma22, .ref ma23, .ref ma24, .int mn25, .ref ma26, .ref ma27, .ref ma28, .ref ma29, .ref ma30, .ref ma31, .ref ma32, .ref ma33, .ref ma34, .ref ma35, .ref ma36, .int mn37, .int mn38, .int mn39, .ref ma40, .ref ma41, .ref ma42, .int mn43, .int mn44, .ref ma45, .ref ma46, .ref ma47, .int mn48, .ref ma49, .ref ma50, .ref ma51, .ref ma52])), (ma1, .inl (K 1, 262, .inl mf1)), (ma27, .inl (K 1, 10, .inl mf27)), (ma28, .inl (K 1, 10, .inl mf28))]) (D := D) (K := K) (Qc := fun A => va_Qi (S := ((Nat → Int32) × (Nat → Nat → Int32) × (Nat → Nat → Int64))) (fun _ _ => True) (chB D A (fun u => [(md, .inr (11, [.int mn0, .ref ma1, .ref ma2, .ref ma3, .ref ma4, .int mn5, .ref ma6, .int mn7, .int mn8, .int mn9, .int mn10, .int mn11, .int mn12, .int mn13, .ref ma14, .int mn15, .int mn16, .int mn17, .int mn18, .int mn19, .int mn20, .ref ma21, .ref ma22, .ref ma23, .ref ma24, .int mn25, .ref ma26, .ref ma27, .ref ma28, .ref ma29, .ref ma30, .ref ma31, .ref ma32, .ref ma33, .ref ma34, .ref ma35, .ref ma36, .int mn37, .int mn38, .int mn39, .ref ma40, .ref ma41, .ref ma42, .int mn43, .int mn44, .ref ma45, .ref ma46, .ref ma47, .int mn48, .ref ma49, .ref ma50, .ref ma51, .ref ma52])), (ma1, .inl (K 1, 262, .inl mf1)), (ma27, .inl (K 1, 10, .inl (u.2.1 0))), (ma28, .inl (K 1, 10, .inl (u.2.1 1)))])) A) (by decide) (Nat.le_of_ble_eq_true rfl) ?_
  intro p e s m below meth c A hC hr hk hin hE hD hA H locs hP hS ls hl
  replace hC : CallFix p m c cX12_fillKinds 6 s [.ref md, .int p0].toArray wl RX12 := hC
  have hx := hC.1
  have hb := hC.2.1
  have hml := hC.2.2.1
  have hown := hC.2.2.2.1
  have hts := hC.2.2.2.2
  replace hl : lv_has ls 6 [(0, .ref md), (1, .int p0)] := hl
  have kc_0 : (0 : Int32).toInt = 0 := by decide
  have kc_1 : (1 : Int32).toInt = 1 := by decide
  have hW0 := gwn_0 hs1_0; have hW1 := gwn_1 hs1_0; have hW2 := gwn_2 hs1_0; have hW4 := gwn_4 hs1_0
  refine lv_iconst (v := 0) hx hb dX12_fillKinds_0 (by decide) ?_
  refine lv_istore_n (lv' := [(2, .int 0), (0, .ref md), (1, .int p0)]) hx hb dX12_fillKinds_1 rfl hl (by decide) rfl (fun ls hl => ?_)
  have hl' := hl; have hP' := hP; have hD' := hD; clear hl hP hD
  obtain ⟨i15961, g15962, hi_2, hl, hP, hD⟩ : ∃ (i15961 : Int32) (g15962 : Nat → Int32), ((0 : Int) ≤ i15961.toInt) ∧ lv_has ls 6 [(2, .int i15961), (0, .ref md), (1, .int p0)] ∧ va_P D vwCl [(md, .inr (11, [.int mn0, .ref ma1, .ref ma2, .ref ma3, .ref ma4, .int mn5, .ref ma6, .int mn7, .int mn8, .int mn9, .int mn10, .int mn11, .int mn12, .int mn13, .ref ma14, .int mn15, .int mn16, .int mn17, .int mn18, .int mn19, .int mn20, .ref ma21, .ref ma22, .ref ma23, .ref ma24, .int mn25, .ref ma26, .ref ma27, .ref ma28, .ref ma29, .ref ma30, .ref ma31, .ref ma32, .ref ma33, .ref ma34, .ref ma35, .ref ma36, .int mn37, .int mn38, .int mn39, .ref ma40, .ref ma41, .ref ma42, .int mn43, .int mn44, .ref ma45, .ref ma46, .ref ma47, .int mn48, .ref ma49, .ref ma50, .ref ma51, .ref ma52])), (ma1, .inl (K 1, 262, .inl mf1)), (ma27, .inl (K 1, 10, .inl g15962)), (ma28, .inl (K 1, 10, .inl mf28))] H ∧ va_D A [(md, .inr (11, [.int mn0, .ref ma1, .ref ma2, .ref ma3, .ref ma4, .int mn5, .ref ma6, .int mn7, .int mn8, .int mn9, .int mn10, .int mn11, .int mn12, .int mn13, .ref ma14, .int mn15, .int mn16, .int mn17, .int mn18, .int mn19, .int mn20, .ref ma21, .ref ma22, .ref ma23, .ref ma24, .int mn25, .ref ma26, .ref ma27, .ref ma28, .ref ma29, .ref ma30, .ref ma31, .ref ma32, .ref ma33, .ref ma34, .ref ma35, .ref ma36, .int mn37, .int mn38, .int mn39, .ref ma40, .ref ma41, .ref ma42, .int mn43, .int mn44, .ref ma45, .ref ma46, .ref ma47, .int mn48, .ref ma49, .ref ma50, .ref ma51, .ref ma52])), (ma1, .inl (K 1, 262, .inl mf1)), (ma27, .inl (K 1, 10, .inl g15962)), (ma28, .inl (K 1, 10, .inl mf28))] := ⟨_, _, by omega, hl', hP', hD'⟩
  clear hl' hP' hD'
  obtain ⟨n_2, hn_2⟩ : ∃ n : Nat, (10 - i15961.toInt).toNat < n := ⟨_, Nat.lt_succ_self _⟩
  induction n_2 generalizing i15961 g15962 H locs ls with
  | zero => exact absurd hn_2 (Nat.not_lt_zero _)
  | succ n_2 ih_2 =>
    refine lv_iload_n hx hb dX12_fillKinds_2 rfl (lv_at hl 0 rfl) ?_
    refine lv_aload_n hx hb dX12_fillKinds_3 rfl (lv_at hl 1 rfl) ?_
    refine va_get (D := D) (ci := 11) (v := .ref ma1) (C := RX12) (T := TX12) (N := 53) hx hb hts in_X12 hown hE.1 hP 0 rfl rfl 1 (by decide) (hts _ w_821) (fun _ h9 => h9) rfl dX12_fillKinds_4 ?_
    refine lv_iconst (v := 0) hx hb dX12_fillKinds_7 (by decide) ?_
    refine va_iald hx hb hE.1 hP 1 1 rfl rfl (in_c (by decide)) dX12_fillKinds_8 ?_
    refine lv_topi (fun v15963 ev15963 => ?_)
    have tv15963 := gw_0 hs1_0 ev15963
    have zv15963 : v15963.toInt = (mf1 0).toInt := by rw [ev15963]; rfl
    refine lv_icmp_ge (tgt := 42) hx hb dX12_fillKinds_9 (by decide) (fun c15964 => ?_) (fun c15964 => ?_)
    · replace c15964 := le_i c15964
      refine lv_iconst (v := 0) hx hb dX12_fillKinds_42 (by decide) ?_
      refine lv_istore_n (lv' := [(2, .int 0), (0, .ref md), (1, .int p0)]) hx hb dX12_fillKinds_43 rfl hl (by decide) rfl (fun ls hl => ?_)
      have hl' := hl; have hP' := hP; have hD' := hD; clear hl hP hD
      obtain ⟨i16010, g16011, g16012, ho_44, hl, hP, hD⟩ : ∃ (i16010 : Int32) (g16011 : Nat → Int32) (g16012 : Nat → Int32), (0 ≤ i16010.toInt ∧ i16010.toInt ≤ (cnw g16011 (mf1 0).toInt.toNat : Int)) ∧ lv_has ls 6 [(2, .int i16010), (0, .ref md), (1, .int p0)] ∧ va_P D vwCl [(md, .inr (11, [.int mn0, .ref ma1, .ref ma2, .ref ma3, .ref ma4, .int mn5, .ref ma6, .int mn7, .int mn8, .int mn9, .int mn10, .int mn11, .int mn12, .int mn13, .ref ma14, .int mn15, .int mn16, .int mn17, .int mn18, .int mn19, .int mn20, .ref ma21, .ref ma22, .ref ma23, .ref ma24, .int mn25, .ref ma26, .ref ma27, .ref ma28, .ref ma29, .ref ma30, .ref ma31, .ref ma32, .ref ma33, .ref ma34, .ref ma35, .ref ma36, .int mn37, .int mn38, .int mn39, .ref ma40, .ref ma41, .ref ma42, .int mn43, .int mn44, .ref ma45, .ref ma46, .ref ma47, .int mn48, .ref ma49, .ref ma50, .ref ma51, .ref ma52])), (ma1, .inl (K 1, 262, .inl mf1)), (ma27, .inl (K 1, 10, .inl g16011)), (ma28, .inl (K 1, 10, .inl g16012))] H ∧ va_D A [(md, .inr (11, [.int mn0, .ref ma1, .ref ma2, .ref ma3, .ref ma4, .int mn5, .ref ma6, .int mn7, .int mn8, .int mn9, .int mn10, .int mn11, .int mn12, .int mn13, .ref ma14, .int mn15, .int mn16, .int mn17, .int mn18, .int mn19, .int mn20, .ref ma21, .ref ma22, .ref ma23, .ref ma24, .int mn25, .ref ma26, .ref ma27, .ref ma28, .ref ma29, .ref ma30, .ref ma31, .ref ma32, .ref ma33, .ref ma34, .ref ma35, .ref ma36, .int mn37, .int mn38, .int mn39, .ref ma40, .ref ma41, .ref ma42, .int mn43, .int mn44, .ref ma45, .ref ma46, .ref ma47, .int mn48, .ref ma49, .ref ma50, .ref ma51, .ref ma52])), (ma1, .inl (K 1, 262, .inl mf1)), (ma27, .inl (K 1, 10, .inl g16011)), (ma28, .inl (K 1, 10, .inl g16012))] := ⟨_, _, _, by omega, hl', hP', hD'⟩
      clear hl' hP' hD'
      obtain ⟨n_44, hn_44⟩ : ∃ n : Nat, (11 - i16010.toInt).toNat < n := ⟨_, Nat.lt_succ_self _⟩
      induction n_44 generalizing i16010 g16011 g16012 H locs ls with
      | zero => exact absurd hn_44 (Nat.not_lt_zero _)
      | succ n_44 ih_44 =>
        have hcl_44 := cnw_le g16011 (mf1 0).toInt.toNat
        refine lv_iconst (v := 0) hx hb dX12_fillKinds_44 (by decide) ?_
        refine lv_istore_n (lv' := [(3, .int 0), (2, .int i16010), (0, .ref md), (1, .int p0)]) hx hb dX12_fillKinds_45 rfl hl (by decide) rfl (fun ls hl => ?_)
        refine lv_iconst (v := 0) hx hb dX12_fillKinds_46 (by decide) ?_
        refine lv_istore (lv' := [(4, .int 0), (3, .int 0), (2, .int i16010), (0, .ref md), (1, .int p0)]) hx hb dX12_fillKinds_47 hl (by decide) rfl (fun ls hl => ?_)
        have hl' := hl; have hP' := hP; have hD' := hD; clear hl hP hD
        obtain ⟨i16050, i16051, g16052, hi_49, hk_49, hki_49, hl, hP, hD⟩ : ∃ (i16050 : Int32) (i16051 : Int32) (g16052 : Nat → Int32), ((0 : Int) ≤ i16050.toInt) ∧ (i16050.toInt ≤ (mf1 0).toInt) ∧ (KI g16011 g16052 i16050.toInt i16051.toInt) ∧ lv_has ls 6 [(4, .int i16050), (3, .int i16051), (2, .int i16010), (0, .ref md), (1, .int p0)] ∧ va_P D vwCl [(md, .inr (11, [.int mn0, .ref ma1, .ref ma2, .ref ma3, .ref ma4, .int mn5, .ref ma6, .int mn7, .int mn8, .int mn9, .int mn10, .int mn11, .int mn12, .int mn13, .ref ma14, .int mn15, .int mn16, .int mn17, .int mn18, .int mn19, .int mn20, .ref ma21, .ref ma22, .ref ma23, .ref ma24, .int mn25, .ref ma26, .ref ma27, .ref ma28, .ref ma29, .ref ma30, .ref ma31, .ref ma32, .ref ma33, .ref ma34, .ref ma35, .ref ma36, .int mn37, .int mn38, .int mn39, .ref ma40, .ref ma41, .ref ma42, .int mn43, .int mn44, .ref ma45, .ref ma46, .ref ma47, .int mn48, .ref ma49, .ref ma50, .ref ma51, .ref ma52])), (ma1, .inl (K 1, 262, .inl mf1)), (ma27, .inl (K 1, 10, .inl g16011)), (ma28, .inl (K 1, 10, .inl g16052))] H ∧ va_D A [(md, .inr (11, [.int mn0, .ref ma1, .ref ma2, .ref ma3, .ref ma4, .int mn5, .ref ma6, .int mn7, .int mn8, .int mn9, .int mn10, .int mn11, .int mn12, .int mn13, .ref ma14, .int mn15, .int mn16, .int mn17, .int mn18, .int mn19, .int mn20, .ref ma21, .ref ma22, .ref ma23, .ref ma24, .int mn25, .ref ma26, .ref ma27, .ref ma28, .ref ma29, .ref ma30, .ref ma31, .ref ma32, .ref ma33, .ref ma34, .ref ma35, .ref ma36, .int mn37, .int mn38, .int mn39, .ref ma40, .ref ma41, .ref ma42, .int mn43, .int mn44, .ref ma45, .ref ma46, .ref ma47, .int mn48, .ref ma49, .ref ma50, .ref ma51, .ref ma52])), (ma1, .inl (K 1, 262, .inl mf1)), (ma27, .inl (K 1, 10, .inl g16011)), (ma28, .inl (K 1, 10, .inl g16052))] := ⟨_, _, _, by omega, by omega, (by rw [show ((0 : Int32).toInt) = 0 from by decide]; exact ki_0 _ _), hl', hP', hD'⟩
        clear hl' hP' hD'
        obtain ⟨n_49, hn_49⟩ : ∃ n : Nat, (10 - i16050.toInt).toNat < n := ⟨_, Nat.lt_succ_self _⟩
        induction n_49 generalizing i16050 i16051 g16052 H locs ls with
        | zero => exact absurd hn_49 (Nat.not_lt_zero _)
        | succ n_49 ih_49 =>
          refine lv_iload hx hb dX12_fillKinds_49 (lv_at hl 0 rfl) ?_
          refine lv_aload_n hx hb dX12_fillKinds_51 rfl (lv_at hl 3 rfl) ?_
          refine va_get (D := D) (ci := 11) (v := .ref ma1) (C := RX12) (T := TX12) (N := 53) hx hb hts in_X12 hown hE.1 hP 0 rfl rfl 1 (by decide) (hts _ w_821) (fun _ h9 => h9) rfl dX12_fillKinds_52 ?_
          refine lv_iconst (v := 0) hx hb dX12_fillKinds_55 (by decide) ?_
          refine va_iald hx hb hE.1 hP 1 1 rfl rfl (in_c (by decide)) dX12_fillKinds_56 ?_
          refine lv_topi (fun v16053 ev16053 => ?_)
          have tv16053 := gw_0 hs1_0 ev16053
          have zv16053 : v16053.toInt = (mf1 0).toInt := by rw [ev16053]; rfl
          refine lv_icmp_ge (tgt := 133) hx hb dX12_fillKinds_57 (by decide) (fun c16054 => ?_) (fun c16054 => ?_)
          · replace c16054 := le_i c16054
            refine lv_iconst (v := 0) hx hb dX12_fillKinds_133 (by decide) ?_
            refine lv_istore (lv' := [(4, .int 0), (3, .int i16051), (2, .int i16010), (0, .ref md), (1, .int p0)]) hx hb dX12_fillKinds_134 hl (by decide) rfl (fun ls hl => ?_)
            have hl' := hl; have hP' := hP; have hD' := hD; clear hl hP hD
            obtain ⟨i16061, g16062, hi_136, hk_136, hc_136, hl, hP, hD⟩ : ∃ (i16061 : Int32) (g16062 : Nat → Int32), ((0 : Int) ≤ i16061.toInt) ∧ (i16061.toInt ≤ (mf1 0).toInt) ∧ (∀ j : Nat, (j : Int) < i16061.toInt → g16062 j = g16052 j) ∧ lv_has ls 6 [(4, .int i16061), (3, .int i16051), (2, .int i16010), (0, .ref md), (1, .int p0)] ∧ va_P D vwCl [(md, .inr (11, [.int mn0, .ref ma1, .ref ma2, .ref ma3, .ref ma4, .int mn5, .ref ma6, .int mn7, .int mn8, .int mn9, .int mn10, .int mn11, .int mn12, .int mn13, .ref ma14, .int mn15, .int mn16, .int mn17, .int mn18, .int mn19, .int mn20, .ref ma21, .ref ma22, .ref ma23, .ref ma24, .int mn25, .ref ma26, .ref ma27, .ref ma28, .ref ma29, .ref ma30, .ref ma31, .ref ma32, .ref ma33, .ref ma34, .ref ma35, .ref ma36, .int mn37, .int mn38, .int mn39, .ref ma40, .ref ma41, .ref ma42, .int mn43, .int mn44, .ref ma45, .ref ma46, .ref ma47, .int mn48, .ref ma49, .ref ma50, .ref ma51, .ref ma52])), (ma1, .inl (K 1, 262, .inl mf1)), (ma27, .inl (K 1, 10, .inl g16062)), (ma28, .inl (K 1, 10, .inl g16052))] H ∧ va_D A [(md, .inr (11, [.int mn0, .ref ma1, .ref ma2, .ref ma3, .ref ma4, .int mn5, .ref ma6, .int mn7, .int mn8, .int mn9, .int mn10, .int mn11, .int mn12, .int mn13, .ref ma14, .int mn15, .int mn16, .int mn17, .int mn18, .int mn19, .int mn20, .ref ma21, .ref ma22, .ref ma23, .ref ma24, .int mn25, .ref ma26, .ref ma27, .ref ma28, .ref ma29, .ref ma30, .ref ma31, .ref ma32, .ref ma33, .ref ma34, .ref ma35, .ref ma36, .int mn37, .int mn38, .int mn39, .ref ma40, .ref ma41, .ref ma42, .int mn43, .int mn44, .ref ma45, .ref ma46, .ref ma47, .int mn48, .ref ma49, .ref ma50, .ref ma51, .ref ma52])), (ma1, .inl (K 1, 262, .inl mf1)), (ma27, .inl (K 1, 10, .inl g16062)), (ma28, .inl (K 1, 10, .inl g16052))] := ⟨_, _, by omega, by omega, fun j hj => absurd hj (by omega), hl', hP', hD'⟩
            clear hl' hP' hD'
            obtain ⟨n_136, hn_136⟩ : ∃ n : Nat, (10 - i16061.toInt).toNat < n := ⟨_, Nat.lt_succ_self _⟩
            induction n_136 generalizing i16061 g16062 H locs ls with
            | zero => exact absurd hn_136 (Nat.not_lt_zero _)
            | succ n_136 ih_136 =>
              refine lv_iload hx hb dX12_fillKinds_136 (lv_at hl 0 rfl) ?_
              refine lv_aload_n hx hb dX12_fillKinds_138 rfl (lv_at hl 3 rfl) ?_
              refine va_get (D := D) (ci := 11) (v := .ref ma1) (C := RX12) (T := TX12) (N := 53) hx hb hts in_X12 hown hE.1 hP 0 rfl rfl 1 (by decide) (hts _ w_821) (fun _ h9 => h9) rfl dX12_fillKinds_139 ?_
              refine lv_iconst (v := 0) hx hb dX12_fillKinds_142 (by decide) ?_
              refine va_iald hx hb hE.1 hP 1 1 rfl rfl (in_c (by decide)) dX12_fillKinds_143 ?_
              refine lv_topi (fun v16063 ev16063 => ?_)
              have tv16063 := gw_0 hs1_0 ev16063
              have zv16063 : v16063.toInt = (mf1 0).toInt := by rw [ev16063]; rfl
              refine lv_icmp_ge (tgt := 167) hx hb dX12_fillKinds_144 (by decide) (fun c16064 => ?_) (fun c16064 => ?_)
              · replace c16064 := le_i c16064
                refine lv_iload_n hx hb dX12_fillKinds_167 rfl (lv_at hl 1 rfl) ?_
                refine lv_iload_n hx hb dX12_fillKinds_168 rfl (lv_at hl 2 rfl) ?_
                refine lv_icmp_ne (tgt := 174) hx hb dX12_fillKinds_169 (by decide) (fun c16065 => ?_) (fun c16065 => ?_)
                · replace c16065 := ne_i c16065
                  refine lv_iload_n hx hb dX12_fillKinds_174 rfl (lv_at hl 1 rfl) ?_
                  refine lv_istore_n (lv' := [(2, .int i16051), (4, .int i16061), (3, .int i16051), (0, .ref md), (1, .int p0)]) hx hb dX12_fillKinds_175 rfl hl (by decide) rfl (fun ls hl => ?_)
                  refine lv_goto (tgt := 44) hx hb dX12_fillKinds_176 (by decide) ?_
                  have hkn := kn_of hki_49 hc_136 (by omega) (by omega)
                  rw [show i16050.toInt.toNat = (mf1 0).toInt.toNat from by omega] at hkn
                  exact ih_44 (i16010 := i16051) (g16011 := g16062) (g16012 := g16052) (ho_44 := by omega) (H := H) (locs := locs) (ls := ls) (hn_44 := by omega) (hP := hP) (hD := hD) (hS := hS) (hl := lv_sub hl [0, 3, 4] rfl)
                · replace c16065 := eq_i c16065
                  refine lv_iload_n hx hb dX12_fillKinds_172 rfl (lv_at hl 2 rfl) ?_
                  refine W.widen (k := 0) (n := 0) (by decide) (by decide) ?_
                  exact ch_iret hC hr hk hS dX12_fillKinds_173 ((fun k => [].getD k 0, fun k => [g16062, g16052].getD k (fun _ => 0), fun k => [].getD k (fun _ => 0)) : ((Nat → Int32) × (Nat → Nat → Int32) × (Nat → Nat → Int64))) trivial (hP.sub [0, 1, 2, 3] rfl) (hD.sub [0, 1, 2, 3] (by decide) rfl)
              · replace c16064 := nle_i c16064
                refine lv_aload_n hx hb dX12_fillKinds_147 rfl (lv_at hl 3 rfl) ?_
                refine va_get (D := D) (ci := 11) (v := .ref ma27) (C := RX12) (T := TX12) (N := 53) hx hb hts in_X12 hown hE.1 hP 0 rfl rfl 27 (by decide) (hts _ w_1168) (fun _ h9 => h9) rfl dX12_fillKinds_148 ?_
                refine lv_iload hx hb dX12_fillKinds_151 (lv_at hl 0 rfl) ?_
                refine lv_aload_n hx hb dX12_fillKinds_153 rfl (lv_at hl 3 rfl) ?_
                refine va_get (D := D) (ci := 11) (v := .ref ma28) (C := RX12) (T := TX12) (N := 53) hx hb hts in_X12 hown hE.1 hP 0 rfl rfl 28 (by decide) (hts _ w_1169) (fun _ h9 => h9) rfl dX12_fillKinds_154 ?_
                refine lv_iload hx hb dX12_fillKinds_157 (lv_at hl 0 rfl) ?_
                refine va_iald hx hb hE.1 hP 3 1 rfl rfl (vp_in_iff.mpr (by omega)) dX12_fillKinds_159 ?_
                refine lv_topi (fun v16066 ev16066 => ?_)
                refine sti hx hb hE.1 hP hD hS 2 1 rfl rfl (vp_in_iff.mpr (by omega)) dX12_fillKinds_160 (fun g16067 eg16067 H locs hP hD hS => ?_)
                replace hP : va_P D vwCl [(md, .inr (11, [.int mn0, .ref ma1, .ref ma2, .ref ma3, .ref ma4, .int mn5, .ref ma6, .int mn7, .int mn8, .int mn9, .int mn10, .int mn11, .int mn12, .int mn13, .ref ma14, .int mn15, .int mn16, .int mn17, .int mn18, .int mn19, .int mn20, .ref ma21, .ref ma22, .ref ma23, .ref ma24, .int mn25, .ref ma26, .ref ma27, .ref ma28, .ref ma29, .ref ma30, .ref ma31, .ref ma32, .ref ma33, .ref ma34, .ref ma35, .ref ma36, .int mn37, .int mn38, .int mn39, .ref ma40, .ref ma41, .ref ma42, .int mn43, .int mn44, .ref ma45, .ref ma46, .ref ma47, .int mn48, .ref ma49, .ref ma50, .ref ma51, .ref ma52])), (ma1, .inl (K 1, 262, .inl mf1)), (ma27, .inl (K 1, 10, .inl g16067)), (ma28, .inl (K 1, 10, .inl g16052))] H := hP
                replace hD : va_D A [(md, .inr (11, [.int mn0, .ref ma1, .ref ma2, .ref ma3, .ref ma4, .int mn5, .ref ma6, .int mn7, .int mn8, .int mn9, .int mn10, .int mn11, .int mn12, .int mn13, .ref ma14, .int mn15, .int mn16, .int mn17, .int mn18, .int mn19, .int mn20, .ref ma21, .ref ma22, .ref ma23, .ref ma24, .int mn25, .ref ma26, .ref ma27, .ref ma28, .ref ma29, .ref ma30, .ref ma31, .ref ma32, .ref ma33, .ref ma34, .ref ma35, .ref ma36, .int mn37, .int mn38, .int mn39, .ref ma40, .ref ma41, .ref ma42, .int mn43, .int mn44, .ref ma45, .ref ma46, .ref ma47, .int mn48, .ref ma49, .ref ma50, .ref ma51, .ref ma52])), (ma1, .inl (K 1, 262, .inl mf1)), (ma27, .inl (K 1, 10, .inl g16067)), (ma28, .inl (K 1, 10, .inl g16052))] := hD
                obtain ⟨v16068, ev16068⟩ : ∃ z : Int32, z = i16061 + 1 := ⟨_, rfl⟩
                refine lv_iinc (v := v16068) (lv' := [(4, .int v16068), (3, .int i16051), (2, .int i16010), (0, .ref md), (1, .int p0)]) hx hb dX12_fillKinds_161 hl (k := 0) rfl (by rw [ev16068]; rfl) (by decide) rfl (fun ls hl => ?_)
                refine lv_goto (tgt := 136) hx hb dX12_fillKinds_164 (by decide) ?_
                have tv16068 : v16068.toInt = (i16061 : Int32).toInt + (1 : Int32).toInt := add_i ev16068 (by omega) (by omega)
                exact ih_136 (i16061 := v16068) (g16062 := g16067) (hi_136 := by omega) (hk_136 := by omega) (hc_136 := kc_more hc_136 (by omega) eg16067 ev16066 (by omega)) (H := H) (locs := locs) (ls := ls) (hn_136 := by omega) (hP := hP) (hD := hD) (hS := hS) (hl := lv_sub hl [0, 1, 2, 3, 4] rfl)
          · replace c16054 := nle_i c16054
            refine lv_iconst (v := 0) hx hb dX12_fillKinds_60 (by decide) ?_
            refine lv_istore (lv' := [(5, .int 0), (4, .int i16050), (3, .int i16051), (2, .int i16010), (0, .ref md), (1, .int p0)]) hx hb dX12_fillKinds_61 hl (by decide) rfl (fun ls hl => ?_)
            have hl' := hl; have hP' := hP; have hD' := hD; clear hl hP hD
            obtain ⟨i16074, hi_63, hl_63, hl, hP, hD⟩ : ∃ (i16074 : Int32), ((0 : Int) ≤ i16074.toInt) ∧ (i16074.toInt ≤ i16050.toInt) ∧ lv_has ls 6 [(5, .int i16074), (4, .int i16050), (3, .int i16051), (2, .int i16010), (0, .ref md), (1, .int p0)] ∧ va_P D vwCl [(md, .inr (11, [.int mn0, .ref ma1, .ref ma2, .ref ma3, .ref ma4, .int mn5, .ref ma6, .int mn7, .int mn8, .int mn9, .int mn10, .int mn11, .int mn12, .int mn13, .ref ma14, .int mn15, .int mn16, .int mn17, .int mn18, .int mn19, .int mn20, .ref ma21, .ref ma22, .ref ma23, .ref ma24, .int mn25, .ref ma26, .ref ma27, .ref ma28, .ref ma29, .ref ma30, .ref ma31, .ref ma32, .ref ma33, .ref ma34, .ref ma35, .ref ma36, .int mn37, .int mn38, .int mn39, .ref ma40, .ref ma41, .ref ma42, .int mn43, .int mn44, .ref ma45, .ref ma46, .ref ma47, .int mn48, .ref ma49, .ref ma50, .ref ma51, .ref ma52])), (ma1, .inl (K 1, 262, .inl mf1)), (ma27, .inl (K 1, 10, .inl g16011)), (ma28, .inl (K 1, 10, .inl g16052))] H ∧ va_D A [(md, .inr (11, [.int mn0, .ref ma1, .ref ma2, .ref ma3, .ref ma4, .int mn5, .ref ma6, .int mn7, .int mn8, .int mn9, .int mn10, .int mn11, .int mn12, .int mn13, .ref ma14, .int mn15, .int mn16, .int mn17, .int mn18, .int mn19, .int mn20, .ref ma21, .ref ma22, .ref ma23, .ref ma24, .int mn25, .ref ma26, .ref ma27, .ref ma28, .ref ma29, .ref ma30, .ref ma31, .ref ma32, .ref ma33, .ref ma34, .ref ma35, .ref ma36, .int mn37, .int mn38, .int mn39, .ref ma40, .ref ma41, .ref ma42, .int mn43, .int mn44, .ref ma45, .ref ma46, .ref ma47, .int mn48, .ref ma49, .ref ma50, .ref ma51, .ref ma52])), (ma1, .inl (K 1, 262, .inl mf1)), (ma27, .inl (K 1, 10, .inl g16011)), (ma28, .inl (K 1, 10, .inl g16052))] := ⟨_, by omega, by omega, hl', hP', hD'⟩
            clear hl' hP' hD'
            have hb_63 := i32_hi i16050
            obtain ⟨n_63, hn_63⟩ : ∃ n : Nat, (i16050.toInt - i16074.toInt).toNat < n := ⟨_, Nat.lt_succ_self _⟩
            induction n_63 generalizing i16074 H locs ls with
            | zero => exact absurd hn_63 (Nat.not_lt_zero _)
            | succ n_63 ih_63 =>
              refine lv_iload hx hb dX12_fillKinds_63 (lv_at hl 0 rfl) ?_
              refine lv_iload hx hb dX12_fillKinds_65 (lv_at hl 1 rfl) ?_
              refine lv_icmp_ge (tgt := 87) hx hb dX12_fillKinds_67 (by decide) (fun c16075 => ?_) (fun c16075 => ?_)
              · replace c16075 := le_i c16075
                refine lv_aload_n hx hb dX12_fillKinds_87 rfl (lv_at hl 4 rfl) ?_
                refine va_get (D := D) (ci := 11) (v := .ref ma28) (C := RX12) (T := TX12) (N := 53) hx hb hts in_X12 hown hE.1 hP 0 rfl rfl 28 (by decide) (hts _ w_1169) (fun _ h9 => h9) rfl dX12_fillKinds_88 ?_
                refine lv_iload hx hb dX12_fillKinds_91 (lv_at hl 1 rfl) ?_
                refine lv_iload hx hb dX12_fillKinds_93 (lv_at hl 0 rfl) ?_
                refine lv_iload hx hb dX12_fillKinds_95 (lv_at hl 1 rfl) ?_
                refine lv_icmp_ge (tgt := 110) hx hb dX12_fillKinds_97 (by decide) (fun c16076 => ?_) (fun c16076 => ?_)
                · replace c16076 := le_i c16076
                  refine lv_iload_n hx hb dX12_fillKinds_110 rfl (lv_at hl 2 rfl) ?_
                  refine sti hx hb hE.1 hP hD hS 3 1 rfl rfl (vp_in_iff.mpr (by omega)) dX12_fillKinds_111 (fun g16077 eg16077 H locs hP hD hS => ?_)
                  replace hP : va_P D vwCl [(md, .inr (11, [.int mn0, .ref ma1, .ref ma2, .ref ma3, .ref ma4, .int mn5, .ref ma6, .int mn7, .int mn8, .int mn9, .int mn10, .int mn11, .int mn12, .int mn13, .ref ma14, .int mn15, .int mn16, .int mn17, .int mn18, .int mn19, .int mn20, .ref ma21, .ref ma22, .ref ma23, .ref ma24, .int mn25, .ref ma26, .ref ma27, .ref ma28, .ref ma29, .ref ma30, .ref ma31, .ref ma32, .ref ma33, .ref ma34, .ref ma35, .ref ma36, .int mn37, .int mn38, .int mn39, .ref ma40, .ref ma41, .ref ma42, .int mn43, .int mn44, .ref ma45, .ref ma46, .ref ma47, .int mn48, .ref ma49, .ref ma50, .ref ma51, .ref ma52])), (ma1, .inl (K 1, 262, .inl mf1)), (ma27, .inl (K 1, 10, .inl g16011)), (ma28, .inl (K 1, 10, .inl g16077))] H := hP
                  replace hD : va_D A [(md, .inr (11, [.int mn0, .ref ma1, .ref ma2, .ref ma3, .ref ma4, .int mn5, .ref ma6, .int mn7, .int mn8, .int mn9, .int mn10, .int mn11, .int mn12, .int mn13, .ref ma14, .int mn15, .int mn16, .int mn17, .int mn18, .int mn19, .int mn20, .ref ma21, .ref ma22, .ref ma23, .ref ma24, .int mn25, .ref ma26, .ref ma27, .ref ma28, .ref ma29, .ref ma30, .ref ma31, .ref ma32, .ref ma33, .ref ma34, .ref ma35, .ref ma36, .int mn37, .int mn38, .int mn39, .ref ma40, .ref ma41, .ref ma42, .int mn43, .int mn44, .ref ma45, .ref ma46, .ref ma47, .int mn48, .ref ma49, .ref ma50, .ref ma51, .ref ma52])), (ma1, .inl (K 1, 262, .inl mf1)), (ma27, .inl (K 1, 10, .inl g16011)), (ma28, .inl (K 1, 10, .inl g16077))] := hD
                  refine lv_iload_n hx hb dX12_fillKinds_112 rfl (lv_at hl 2 rfl) ?_
                  refine lv_iload hx hb dX12_fillKinds_113 (lv_at hl 0 rfl) ?_
                  refine lv_iload hx hb dX12_fillKinds_115 (lv_at hl 1 rfl) ?_
                  refine lv_icmp_ge (tgt := 124) hx hb dX12_fillKinds_117 (by decide) (fun c16078 => ?_) (fun c16078 => ?_)
                  · replace c16078 := le_i c16078
                    refine lv_iconst (v := 1) hx hb dX12_fillKinds_124 (by decide) ?_
                    refine lv_iadd hx hb dX12_fillKinds_125 ?_
                    refine lv_topi (fun v16079 ev16079 => ?_)
                    refine lv_istore_n (lv' := [(3, .int v16079), (5, .int i16074), (4, .int i16050), (2, .int i16010), (0, .ref md), (1, .int p0)]) hx hb dX12_fillKinds_126 rfl hl (by decide) rfl (fun ls hl => ?_)
                    obtain ⟨v16080, ev16080⟩ : ∃ z : Int32, z = i16050 + 1 := ⟨_, rfl⟩
                    refine lv_iinc (v := v16080) (lv' := [(4, .int v16080), (3, .int v16079), (5, .int i16074), (2, .int i16010), (0, .ref md), (1, .int p0)]) hx hb dX12_fillKinds_127 hl (k := 2) rfl (by rw [ev16080]; rfl) (by decide) rfl (fun ls hl => ?_)
                    refine lv_goto (tgt := 49) hx hb dX12_fillKinds_130 (by decide) ?_
                    have tv16080 : v16080.toInt = (i16050 : Int32).toInt + (1 : Int32).toInt := add_i ev16080 (by omega) (by omega)
                    have tv16079 : v16079.toInt = (i16051 : Int32).toInt + (1 : Int32).toInt := add_i ev16079 (by omega) (by omega)
                    exact ih_49 (i16050 := v16080) (i16051 := v16079) (g16052 := g16077) (hi_49 := by omega) (hk_49 := by omega) (hki_49 := ki_new2 hki_49 (by omega) rfl eg16077 (by omega) (by omega)) (H := H) (locs := locs) (ls := ls) (hn_49 := by omega) (hP := hP) (hD := hD) (hS := hS) (hl := lv_sub hl [0, 1, 3, 4, 5] rfl)
                  · replace c16078 := nle_i c16078
                    refine lv_iconst (v := 0) hx hb dX12_fillKinds_120 (by decide) ?_
                    refine lv_goto (tgt := 125) hx hb dX12_fillKinds_121 (by decide) ?_
                    refine lv_iadd hx hb dX12_fillKinds_125 ?_
                    refine lv_topi (fun v16081 ev16081 => ?_)
                    refine lv_istore_n (lv' := [(3, .int v16081), (5, .int i16074), (4, .int i16050), (2, .int i16010), (0, .ref md), (1, .int p0)]) hx hb dX12_fillKinds_126 rfl hl (by decide) rfl (fun ls hl => ?_)
                    obtain ⟨v16082, ev16082⟩ : ∃ z : Int32, z = i16050 + 1 := ⟨_, rfl⟩
                    refine lv_iinc (v := v16082) (lv' := [(4, .int v16082), (3, .int v16081), (5, .int i16074), (2, .int i16010), (0, .ref md), (1, .int p0)]) hx hb dX12_fillKinds_127 hl (k := 2) rfl (by rw [ev16082]; rfl) (by decide) rfl (fun ls hl => ?_)
                    refine lv_goto (tgt := 49) hx hb dX12_fillKinds_130 (by decide) ?_
                    have tv16082 : v16082.toInt = (i16050 : Int32).toInt + (1 : Int32).toInt := add_i ev16082 (by omega) (by omega)
                    have tv16081 : v16081.toInt = (i16051 : Int32).toInt + (0 : Int32).toInt := add_i ev16081 (by omega) (by omega)
                    exact ih_49 (i16050 := v16082) (i16051 := v16081) (g16052 := g16077) (hi_49 := by omega) (hk_49 := by omega) (hki_49 := ki_new2 hki_49 (by omega) rfl eg16077 (by omega) (by omega)) (H := H) (locs := locs) (ls := ls) (hn_49 := by omega) (hP := hP) (hD := hD) (hS := hS) (hl := lv_sub hl [0, 1, 3, 4, 5] rfl)
                · replace c16076 := nle_i c16076
                  refine lv_aload_n hx hb dX12_fillKinds_100 rfl (lv_at hl 4 rfl) ?_
                  refine va_get (D := D) (ci := 11) (v := .ref ma28) (C := RX12) (T := TX12) (N := 53) hx hb hts in_X12 hown hE.1 hP 0 rfl rfl 28 (by decide) (hts _ w_1169) (fun _ h9 => h9) rfl dX12_fillKinds_101 ?_
                  refine lv_iload hx hb dX12_fillKinds_104 (lv_at hl 0 rfl) ?_
                  refine va_iald hx hb hE.1 hP 3 1 rfl rfl (vp_in_iff.mpr (by omega)) dX12_fillKinds_106 ?_
                  refine lv_topi (fun v16083 ev16083 => ?_)
                  refine lv_goto (tgt := 111) hx hb dX12_fillKinds_107 (by decide) ?_
                  refine sti hx hb hE.1 hP hD hS 3 1 rfl rfl (vp_in_iff.mpr (by omega)) dX12_fillKinds_111 (fun g16084 eg16084 H locs hP hD hS => ?_)
                  replace hP : va_P D vwCl [(md, .inr (11, [.int mn0, .ref ma1, .ref ma2, .ref ma3, .ref ma4, .int mn5, .ref ma6, .int mn7, .int mn8, .int mn9, .int mn10, .int mn11, .int mn12, .int mn13, .ref ma14, .int mn15, .int mn16, .int mn17, .int mn18, .int mn19, .int mn20, .ref ma21, .ref ma22, .ref ma23, .ref ma24, .int mn25, .ref ma26, .ref ma27, .ref ma28, .ref ma29, .ref ma30, .ref ma31, .ref ma32, .ref ma33, .ref ma34, .ref ma35, .ref ma36, .int mn37, .int mn38, .int mn39, .ref ma40, .ref ma41, .ref ma42, .int mn43, .int mn44, .ref ma45, .ref ma46, .ref ma47, .int mn48, .ref ma49, .ref ma50, .ref ma51, .ref ma52])), (ma1, .inl (K 1, 262, .inl mf1)), (ma27, .inl (K 1, 10, .inl g16011)), (ma28, .inl (K 1, 10, .inl g16084))] H := hP
                  replace hD : va_D A [(md, .inr (11, [.int mn0, .ref ma1, .ref ma2, .ref ma3, .ref ma4, .int mn5, .ref ma6, .int mn7, .int mn8, .int mn9, .int mn10, .int mn11, .int mn12, .int mn13, .ref ma14, .int mn15, .int mn16, .int mn17, .int mn18, .int mn19, .int mn20, .ref ma21, .ref ma22, .ref ma23, .ref ma24, .int mn25, .ref ma26, .ref ma27, .ref ma28, .ref ma29, .ref ma30, .ref ma31, .ref ma32, .ref ma33, .ref ma34, .ref ma35, .ref ma36, .int mn37, .int mn38, .int mn39, .ref ma40, .ref ma41, .ref ma42, .int mn43, .int mn44, .ref ma45, .ref ma46, .ref ma47, .int mn48, .ref ma49, .ref ma50, .ref ma51, .ref ma52])), (ma1, .inl (K 1, 262, .inl mf1)), (ma27, .inl (K 1, 10, .inl g16011)), (ma28, .inl (K 1, 10, .inl g16084))] := hD
                  refine lv_iload_n hx hb dX12_fillKinds_112 rfl (lv_at hl 2 rfl) ?_
                  refine lv_iload hx hb dX12_fillKinds_113 (lv_at hl 0 rfl) ?_
                  refine lv_iload hx hb dX12_fillKinds_115 (lv_at hl 1 rfl) ?_
                  refine lv_icmp_ge (tgt := 124) hx hb dX12_fillKinds_117 (by decide) (fun c16085 => ?_) (fun c16085 => ?_)
                  · replace c16085 := le_i c16085
                    refine lv_iconst (v := 1) hx hb dX12_fillKinds_124 (by decide) ?_
                    refine lv_iadd hx hb dX12_fillKinds_125 ?_
                    refine lv_topi (fun v16086 ev16086 => ?_)
                    refine lv_istore_n (lv' := [(3, .int v16086), (5, .int i16074), (4, .int i16050), (2, .int i16010), (0, .ref md), (1, .int p0)]) hx hb dX12_fillKinds_126 rfl hl (by decide) rfl (fun ls hl => ?_)
                    obtain ⟨v16087, ev16087⟩ : ∃ z : Int32, z = i16050 + 1 := ⟨_, rfl⟩
                    refine lv_iinc (v := v16087) (lv' := [(4, .int v16087), (3, .int v16086), (5, .int i16074), (2, .int i16010), (0, .ref md), (1, .int p0)]) hx hb dX12_fillKinds_127 hl (k := 2) rfl (by rw [ev16087]; rfl) (by decide) rfl (fun ls hl => ?_)
                    refine lv_goto (tgt := 49) hx hb dX12_fillKinds_130 (by decide) ?_
                    have tv16087 : v16087.toInt = (i16050 : Int32).toInt + (1 : Int32).toInt := add_i ev16087 (by omega) (by omega)
                    have tv16086 : v16086.toInt = (i16051 : Int32).toInt + (1 : Int32).toInt := add_i ev16086 (by omega) (by omega)
                    exact ih_49 (i16050 := v16087) (i16051 := v16086) (g16052 := g16084) (hi_49 := by omega) (hk_49 := by omega) (hki_49 := (by exfalso; omega)) (H := H) (locs := locs) (ls := ls) (hn_49 := by omega) (hP := hP) (hD := hD) (hS := hS) (hl := lv_sub hl [0, 1, 3, 4, 5] rfl)
                  · replace c16085 := nle_i c16085
                    refine lv_iconst (v := 0) hx hb dX12_fillKinds_120 (by decide) ?_
                    refine lv_goto (tgt := 125) hx hb dX12_fillKinds_121 (by decide) ?_
                    refine lv_iadd hx hb dX12_fillKinds_125 ?_
                    refine lv_topi (fun v16088 ev16088 => ?_)
                    refine lv_istore_n (lv' := [(3, .int v16088), (5, .int i16074), (4, .int i16050), (2, .int i16010), (0, .ref md), (1, .int p0)]) hx hb dX12_fillKinds_126 rfl hl (by decide) rfl (fun ls hl => ?_)
                    obtain ⟨v16089, ev16089⟩ : ∃ z : Int32, z = i16050 + 1 := ⟨_, rfl⟩
                    refine lv_iinc (v := v16089) (lv' := [(4, .int v16089), (3, .int v16088), (5, .int i16074), (2, .int i16010), (0, .ref md), (1, .int p0)]) hx hb dX12_fillKinds_127 hl (k := 2) rfl (by rw [ev16089]; rfl) (by decide) rfl (fun ls hl => ?_)
                    refine lv_goto (tgt := 49) hx hb dX12_fillKinds_130 (by decide) ?_
                    have tv16089 : v16089.toInt = (i16050 : Int32).toInt + (1 : Int32).toInt := add_i ev16089 (by omega) (by omega)
                    have tv16088 : v16088.toInt = (i16051 : Int32).toInt + (0 : Int32).toInt := add_i ev16088 (by omega) (by omega)
                    exact ih_49 (i16050 := v16089) (i16051 := v16088) (g16052 := g16084) (hi_49 := by omega) (hk_49 := by omega) (hki_49 := (by exfalso; omega)) (H := H) (locs := locs) (ls := ls) (hn_49 := by omega) (hP := hP) (hD := hD) (hS := hS) (hl := lv_sub hl [0, 1, 3, 4, 5] rfl)
              · replace c16075 := nle_i c16075
                refine lv_aload_n hx hb dX12_fillKinds_70 rfl (lv_at hl 4 rfl) ?_
                refine lv_iload hx hb dX12_fillKinds_71 (lv_at hl 0 rfl) ?_
                refine lv_iload hx hb dX12_fillKinds_73 (lv_at hl 1 rfl) ?_
                refine ro_V (As := [.int i16074, .int i16050]) (rest := []) hC hE kV_X12_390 (c_X12_sameOn l D K md ma1 ma2 ma3 ma4 ma6 ma14 ma21 ma22 ma23 ma24 ma26 ma27 ma28 ma29 ma30 ma31 ma32 ma33 ma34 ma35 ma36 ma40 ma41 ma42 ma45 ma46 ma47 ma49 ma50 ma51 ma52 mn0 mn5 mn7 mn8 mn9 mn10 mn11 mn12 mn13 mn15 mn16 mn17 mn18 mn19 mn20 mn25 mn37 mn38 mn39 mn43 mn44 mn48 mf1 g16011 i16074 i16050 hs1_0 (by omega) (by omega)) (hP.sub (ws' := [(md, .inr (11, [.int mn0, .ref ma1, .ref ma2, .ref ma3, .ref ma4, .int mn5, .ref ma6, .int mn7, .int mn8, .int mn9, .int mn10, .int mn11, .int mn12, .int mn13, .ref ma14, .int mn15, .int mn16, .int mn17, .int mn18, .int mn19, .int mn20, .ref ma21, .ref ma22, .ref ma23, .ref ma24, .int mn25, .ref ma26, .ref ma27, .ref ma28, .ref ma29, .ref ma30, .ref ma31, .ref ma32, .ref ma33, .ref ma34, .ref ma35, .ref ma36, .int mn37, .int mn38, .int mn39, .ref ma40, .ref ma41, .ref ma42, .int mn43, .int mn44, .ref ma45, .ref ma46, .ref ma47, .int mn48, .ref ma49, .ref ma50, .ref ma51, .ref ma52])), (ma1, .inl (K 1, 262, .inl mf1)), (ma27, .inl (K 1, 10, .inl g16011))]) [0, 1, 2] rfl) 0 11 rfl rfl rfl hl.1 rfl (Nat.le_of_ble_eq_true rfl) (by decide) (by decide) dX12_fillKinds_75 (fun r16091 hq => ?_)
                rcases hq with rfl | ⟨rfl, h16090⟩
                · refine lv_if_ne (tgt := 87) hx hb dX12_fillKinds_78 (by decide) (fun h => absurd h (by decide)) (fun _ => ?_)
                  obtain ⟨v16092, ev16092⟩ : ∃ z : Int32, z = i16074 + 1 := ⟨_, rfl⟩
                  refine lv_iinc (v := v16092) (lv' := [(5, .int v16092), (4, .int i16050), (3, .int i16051), (2, .int i16010), (0, .ref md), (1, .int p0)]) hx hb dX12_fillKinds_81 hl (k := 0) rfl (by rw [ev16092]; rfl) (by decide) rfl (fun ls hl => ?_)
                  refine lv_goto (tgt := 63) hx hb dX12_fillKinds_84 (by decide) ?_
                  have tv16092 : v16092.toInt = (i16074 : Int32).toInt + (1 : Int32).toInt := add_i ev16092 (by omega) (by omega)
                  exact ih_63 (i16074 := v16092) (hi_63 := by omega) (hl_63 := by omega) (H := H) (locs := locs) (ls := ls) (hn_63 := by omega) (hP := hP) (hS := hS) (hl := lv_sub hl [0, 1, 2, 3, 4, 5] rfl)
                · refine lv_if_ne (tgt := 87) hx hb dX12_fillKinds_78 (by decide) (fun _ => ?_) (fun h => absurd h (by decide))
                  refine lv_aload_n hx hb dX12_fillKinds_87 rfl (lv_at hl 4 rfl) ?_
                  refine va_get (D := D) (ci := 11) (v := .ref ma28) (C := RX12) (T := TX12) (N := 53) hx hb hts in_X12 hown hE.1 hP 0 rfl rfl 28 (by decide) (hts _ w_1169) (fun _ h9 => h9) rfl dX12_fillKinds_88 ?_
                  refine lv_iload hx hb dX12_fillKinds_91 (lv_at hl 1 rfl) ?_
                  refine lv_iload hx hb dX12_fillKinds_93 (lv_at hl 0 rfl) ?_
                  refine lv_iload hx hb dX12_fillKinds_95 (lv_at hl 1 rfl) ?_
                  refine lv_icmp_ge (tgt := 110) hx hb dX12_fillKinds_97 (by decide) (fun c16093 => ?_) (fun c16093 => ?_)
                  · replace c16093 := le_i c16093
                    refine lv_iload_n hx hb dX12_fillKinds_110 rfl (lv_at hl 2 rfl) ?_
                    refine sti hx hb hE.1 hP hD hS 3 1 rfl rfl (vp_in_iff.mpr (by omega)) dX12_fillKinds_111 (fun g16094 eg16094 H locs hP hD hS => ?_)
                    replace hP : va_P D vwCl [(md, .inr (11, [.int mn0, .ref ma1, .ref ma2, .ref ma3, .ref ma4, .int mn5, .ref ma6, .int mn7, .int mn8, .int mn9, .int mn10, .int mn11, .int mn12, .int mn13, .ref ma14, .int mn15, .int mn16, .int mn17, .int mn18, .int mn19, .int mn20, .ref ma21, .ref ma22, .ref ma23, .ref ma24, .int mn25, .ref ma26, .ref ma27, .ref ma28, .ref ma29, .ref ma30, .ref ma31, .ref ma32, .ref ma33, .ref ma34, .ref ma35, .ref ma36, .int mn37, .int mn38, .int mn39, .ref ma40, .ref ma41, .ref ma42, .int mn43, .int mn44, .ref ma45, .ref ma46, .ref ma47, .int mn48, .ref ma49, .ref ma50, .ref ma51, .ref ma52])), (ma1, .inl (K 1, 262, .inl mf1)), (ma27, .inl (K 1, 10, .inl g16011)), (ma28, .inl (K 1, 10, .inl g16094))] H := hP
                    replace hD : va_D A [(md, .inr (11, [.int mn0, .ref ma1, .ref ma2, .ref ma3, .ref ma4, .int mn5, .ref ma6, .int mn7, .int mn8, .int mn9, .int mn10, .int mn11, .int mn12, .int mn13, .ref ma14, .int mn15, .int mn16, .int mn17, .int mn18, .int mn19, .int mn20, .ref ma21, .ref ma22, .ref ma23, .ref ma24, .int mn25, .ref ma26, .ref ma27, .ref ma28, .ref ma29, .ref ma30, .ref ma31, .ref ma32, .ref ma33, .ref ma34, .ref ma35, .ref ma36, .int mn37, .int mn38, .int mn39, .ref ma40, .ref ma41, .ref ma42, .int mn43, .int mn44, .ref ma45, .ref ma46, .ref ma47, .int mn48, .ref ma49, .ref ma50, .ref ma51, .ref ma52])), (ma1, .inl (K 1, 262, .inl mf1)), (ma27, .inl (K 1, 10, .inl g16011)), (ma28, .inl (K 1, 10, .inl g16094))] := hD
                    refine lv_iload_n hx hb dX12_fillKinds_112 rfl (lv_at hl 2 rfl) ?_
                    refine lv_iload hx hb dX12_fillKinds_113 (lv_at hl 0 rfl) ?_
                    refine lv_iload hx hb dX12_fillKinds_115 (lv_at hl 1 rfl) ?_
                    refine lv_icmp_ge (tgt := 124) hx hb dX12_fillKinds_117 (by decide) (fun c16095 => ?_) (fun c16095 => ?_)
                    · replace c16095 := le_i c16095
                      refine lv_iconst (v := 1) hx hb dX12_fillKinds_124 (by decide) ?_
                      refine lv_iadd hx hb dX12_fillKinds_125 ?_
                      refine lv_topi (fun v16096 ev16096 => ?_)
                      refine lv_istore_n (lv' := [(3, .int v16096), (5, .int i16074), (4, .int i16050), (2, .int i16010), (0, .ref md), (1, .int p0)]) hx hb dX12_fillKinds_126 rfl hl (by decide) rfl (fun ls hl => ?_)
                      obtain ⟨v16097, ev16097⟩ : ∃ z : Int32, z = i16050 + 1 := ⟨_, rfl⟩
                      refine lv_iinc (v := v16097) (lv' := [(4, .int v16097), (3, .int v16096), (5, .int i16074), (2, .int i16010), (0, .ref md), (1, .int p0)]) hx hb dX12_fillKinds_127 hl (k := 2) rfl (by rw [ev16097]; rfl) (by decide) rfl (fun ls hl => ?_)
                      refine lv_goto (tgt := 49) hx hb dX12_fillKinds_130 (by decide) ?_
                      have tv16097 : v16097.toInt = (i16050 : Int32).toInt + (1 : Int32).toInt := add_i ev16097 (by omega) (by omega)
                      have tv16096 : v16096.toInt = (i16051 : Int32).toInt + (1 : Int32).toInt := add_i ev16096 (by omega) (by omega)
                      exact ih_49 (i16050 := v16097) (i16051 := v16096) (g16052 := g16094) (hi_49 := by omega) (hk_49 := by omega) (hki_49 := (by exfalso; omega)) (H := H) (locs := locs) (ls := ls) (hn_49 := by omega) (hP := hP) (hD := hD) (hS := hS) (hl := lv_sub hl [0, 1, 3, 4, 5] rfl)
                    · replace c16095 := nle_i c16095
                      refine lv_iconst (v := 0) hx hb dX12_fillKinds_120 (by decide) ?_
                      refine lv_goto (tgt := 125) hx hb dX12_fillKinds_121 (by decide) ?_
                      refine lv_iadd hx hb dX12_fillKinds_125 ?_
                      refine lv_topi (fun v16098 ev16098 => ?_)
                      refine lv_istore_n (lv' := [(3, .int v16098), (5, .int i16074), (4, .int i16050), (2, .int i16010), (0, .ref md), (1, .int p0)]) hx hb dX12_fillKinds_126 rfl hl (by decide) rfl (fun ls hl => ?_)
                      obtain ⟨v16099, ev16099⟩ : ∃ z : Int32, z = i16050 + 1 := ⟨_, rfl⟩
                      refine lv_iinc (v := v16099) (lv' := [(4, .int v16099), (3, .int v16098), (5, .int i16074), (2, .int i16010), (0, .ref md), (1, .int p0)]) hx hb dX12_fillKinds_127 hl (k := 2) rfl (by rw [ev16099]; rfl) (by decide) rfl (fun ls hl => ?_)
                      refine lv_goto (tgt := 49) hx hb dX12_fillKinds_130 (by decide) ?_
                      have tv16099 : v16099.toInt = (i16050 : Int32).toInt + (1 : Int32).toInt := add_i ev16099 (by omega) (by omega)
                      have tv16098 : v16098.toInt = (i16051 : Int32).toInt + (0 : Int32).toInt := add_i ev16098 (by omega) (by omega)
                      exact ih_49 (i16050 := v16099) (i16051 := v16098) (g16052 := g16094) (hi_49 := by omega) (hk_49 := by omega) (hki_49 := (by exfalso; omega)) (H := H) (locs := locs) (ls := ls) (hn_49 := by omega) (hP := hP) (hD := hD) (hS := hS) (hl := lv_sub hl [0, 1, 3, 4, 5] rfl)
                  · replace c16093 := nle_i c16093
                    refine lv_aload_n hx hb dX12_fillKinds_100 rfl (lv_at hl 4 rfl) ?_
                    refine va_get (D := D) (ci := 11) (v := .ref ma28) (C := RX12) (T := TX12) (N := 53) hx hb hts in_X12 hown hE.1 hP 0 rfl rfl 28 (by decide) (hts _ w_1169) (fun _ h9 => h9) rfl dX12_fillKinds_101 ?_
                    refine lv_iload hx hb dX12_fillKinds_104 (lv_at hl 0 rfl) ?_
                    refine va_iald hx hb hE.1 hP 3 1 rfl rfl (vp_in_iff.mpr (by omega)) dX12_fillKinds_106 ?_
                    refine lv_topi (fun v16100 ev16100 => ?_)
                    refine lv_goto (tgt := 111) hx hb dX12_fillKinds_107 (by decide) ?_
                    refine sti hx hb hE.1 hP hD hS 3 1 rfl rfl (vp_in_iff.mpr (by omega)) dX12_fillKinds_111 (fun g16101 eg16101 H locs hP hD hS => ?_)
                    replace hP : va_P D vwCl [(md, .inr (11, [.int mn0, .ref ma1, .ref ma2, .ref ma3, .ref ma4, .int mn5, .ref ma6, .int mn7, .int mn8, .int mn9, .int mn10, .int mn11, .int mn12, .int mn13, .ref ma14, .int mn15, .int mn16, .int mn17, .int mn18, .int mn19, .int mn20, .ref ma21, .ref ma22, .ref ma23, .ref ma24, .int mn25, .ref ma26, .ref ma27, .ref ma28, .ref ma29, .ref ma30, .ref ma31, .ref ma32, .ref ma33, .ref ma34, .ref ma35, .ref ma36, .int mn37, .int mn38, .int mn39, .ref ma40, .ref ma41, .ref ma42, .int mn43, .int mn44, .ref ma45, .ref ma46, .ref ma47, .int mn48, .ref ma49, .ref ma50, .ref ma51, .ref ma52])), (ma1, .inl (K 1, 262, .inl mf1)), (ma27, .inl (K 1, 10, .inl g16011)), (ma28, .inl (K 1, 10, .inl g16101))] H := hP
                    replace hD : va_D A [(md, .inr (11, [.int mn0, .ref ma1, .ref ma2, .ref ma3, .ref ma4, .int mn5, .ref ma6, .int mn7, .int mn8, .int mn9, .int mn10, .int mn11, .int mn12, .int mn13, .ref ma14, .int mn15, .int mn16, .int mn17, .int mn18, .int mn19, .int mn20, .ref ma21, .ref ma22, .ref ma23, .ref ma24, .int mn25, .ref ma26, .ref ma27, .ref ma28, .ref ma29, .ref ma30, .ref ma31, .ref ma32, .ref ma33, .ref ma34, .ref ma35, .ref ma36, .int mn37, .int mn38, .int mn39, .ref ma40, .ref ma41, .ref ma42, .int mn43, .int mn44, .ref ma45, .ref ma46, .ref ma47, .int mn48, .ref ma49, .ref ma50, .ref ma51, .ref ma52])), (ma1, .inl (K 1, 262, .inl mf1)), (ma27, .inl (K 1, 10, .inl g16011)), (ma28, .inl (K 1, 10, .inl g16101))] := hD
                    refine lv_iload_n hx hb dX12_fillKinds_112 rfl (lv_at hl 2 rfl) ?_
                    refine lv_iload hx hb dX12_fillKinds_113 (lv_at hl 0 rfl) ?_
                    refine lv_iload hx hb dX12_fillKinds_115 (lv_at hl 1 rfl) ?_
                    refine lv_icmp_ge (tgt := 124) hx hb dX12_fillKinds_117 (by decide) (fun c16102 => ?_) (fun c16102 => ?_)
                    · replace c16102 := le_i c16102
                      refine lv_iconst (v := 1) hx hb dX12_fillKinds_124 (by decide) ?_
                      refine lv_iadd hx hb dX12_fillKinds_125 ?_
                      refine lv_topi (fun v16103 ev16103 => ?_)
                      refine lv_istore_n (lv' := [(3, .int v16103), (5, .int i16074), (4, .int i16050), (2, .int i16010), (0, .ref md), (1, .int p0)]) hx hb dX12_fillKinds_126 rfl hl (by decide) rfl (fun ls hl => ?_)
                      obtain ⟨v16104, ev16104⟩ : ∃ z : Int32, z = i16050 + 1 := ⟨_, rfl⟩
                      refine lv_iinc (v := v16104) (lv' := [(4, .int v16104), (3, .int v16103), (5, .int i16074), (2, .int i16010), (0, .ref md), (1, .int p0)]) hx hb dX12_fillKinds_127 hl (k := 2) rfl (by rw [ev16104]; rfl) (by decide) rfl (fun ls hl => ?_)
                      refine lv_goto (tgt := 49) hx hb dX12_fillKinds_130 (by decide) ?_
                      have tv16104 : v16104.toInt = (i16050 : Int32).toInt + (1 : Int32).toInt := add_i ev16104 (by omega) (by omega)
                      have tv16103 : v16103.toInt = (i16051 : Int32).toInt + (1 : Int32).toInt := add_i ev16103 (by omega) (by omega)
                      exact ih_49 (i16050 := v16104) (i16051 := v16103) (g16052 := g16101) (hi_49 := by omega) (hk_49 := by omega) (hki_49 := ki_old2 hki_49 (by omega) (q := i16074.toInt.toNat) (by omega) h16090 (by rw [ev16100]; rfl) eg16101 (by omega) (by omega)) (H := H) (locs := locs) (ls := ls) (hn_49 := by omega) (hP := hP) (hD := hD) (hS := hS) (hl := lv_sub hl [0, 1, 3, 4, 5] rfl)
                    · replace c16102 := nle_i c16102
                      refine lv_iconst (v := 0) hx hb dX12_fillKinds_120 (by decide) ?_
                      refine lv_goto (tgt := 125) hx hb dX12_fillKinds_121 (by decide) ?_
                      refine lv_iadd hx hb dX12_fillKinds_125 ?_
                      refine lv_topi (fun v16105 ev16105 => ?_)
                      refine lv_istore_n (lv' := [(3, .int v16105), (5, .int i16074), (4, .int i16050), (2, .int i16010), (0, .ref md), (1, .int p0)]) hx hb dX12_fillKinds_126 rfl hl (by decide) rfl (fun ls hl => ?_)
                      obtain ⟨v16106, ev16106⟩ : ∃ z : Int32, z = i16050 + 1 := ⟨_, rfl⟩
                      refine lv_iinc (v := v16106) (lv' := [(4, .int v16106), (3, .int v16105), (5, .int i16074), (2, .int i16010), (0, .ref md), (1, .int p0)]) hx hb dX12_fillKinds_127 hl (k := 2) rfl (by rw [ev16106]; rfl) (by decide) rfl (fun ls hl => ?_)
                      refine lv_goto (tgt := 49) hx hb dX12_fillKinds_130 (by decide) ?_
                      have tv16106 : v16106.toInt = (i16050 : Int32).toInt + (1 : Int32).toInt := add_i ev16106 (by omega) (by omega)
                      have tv16105 : v16105.toInt = (i16051 : Int32).toInt + (0 : Int32).toInt := add_i ev16105 (by omega) (by omega)
                      exact ih_49 (i16050 := v16106) (i16051 := v16105) (g16052 := g16101) (hi_49 := by omega) (hk_49 := by omega) (hki_49 := ki_old2 hki_49 (by omega) (q := i16074.toInt.toNat) (by omega) h16090 (by rw [ev16100]; rfl) eg16101 (by omega) (by omega)) (H := H) (locs := locs) (ls := ls) (hn_49 := by omega) (hP := hP) (hD := hD) (hS := hS) (hl := lv_sub hl [0, 1, 3, 4, 5] rfl)
    · replace c15964 := nle_i c15964
      refine lv_aload_n hx hb dX12_fillKinds_12 rfl (lv_at hl 1 rfl) ?_
      refine va_get (D := D) (ci := 11) (v := .ref ma27) (C := RX12) (T := TX12) (N := 53) hx hb hts in_X12 hown hE.1 hP 0 rfl rfl 27 (by decide) (hts _ w_1168) (fun _ h9 => h9) rfl dX12_fillKinds_13 ?_
      refine lv_iload_n hx hb dX12_fillKinds_16 rfl (lv_at hl 0 rfl) ?_
      refine lv_iload_n hx hb dX12_fillKinds_17 rfl (lv_at hl 2 rfl) ?_
      refine lv_iload_n hx hb dX12_fillKinds_18 rfl (lv_at hl 0 rfl) ?_
      refine ro_S (As := [.int p0, .int i15961]) (rest := [.int i15961, .ref ma27]) hC hE kS_X12_270 (c_X12_bit l D K p0 i15961) (hP.sub (ws' := []) [] rfl) rfl hl.1 rfl (Nat.le_of_ble_eq_true rfl) (by decide) (by decide) dX12_fillKinds_19 (fun r16110 hq => ?_)
      obtain ⟨h16107, h16108, h16109⟩ := hq
      refine lv_iconst (v := 1) hx hb dX12_fillKinds_22 (by decide) ?_
      refine lv_icmp_ne (tgt := 30) hx hb dX12_fillKinds_23 (by decide) (fun c16111 => ?_) (fun c16111 => ?_)
      · replace c16111 := ne_i c16111
        refine lv_aload_n hx hb dX12_fillKinds_30 rfl (lv_at hl 1 rfl) ?_
        refine lv_iload_n hx hb dX12_fillKinds_31 rfl (lv_at hl 0 rfl) ?_
        refine ro_V (As := [.int i15961]) (rest := [.int i15961, .ref ma27]) hC hE kV_X12_276 (c_X12_markOf l D K md ma1 ma2 ma3 ma4 ma6 ma14 ma21 ma22 ma23 ma24 ma26 ma27 ma28 ma29 ma30 ma31 ma32 ma33 ma34 ma35 ma36 ma40 ma41 ma42 ma45 ma46 ma47 ma49 ma50 ma51 ma52 mn0 mn5 mn7 mn8 mn9 mn10 mn11 mn12 mn13 mn15 mn16 mn17 mn18 mn19 mn20 mn25 mn37 mn38 mn39 mn43 mn44 mn48 mf1 i15961 hs1_0 (by omega)) (hP.sub (ws' := [(md, .inr (11, [.int mn0, .ref ma1, .ref ma2, .ref ma3, .ref ma4, .int mn5, .ref ma6, .int mn7, .int mn8, .int mn9, .int mn10, .int mn11, .int mn12, .int mn13, .ref ma14, .int mn15, .int mn16, .int mn17, .int mn18, .int mn19, .int mn20, .ref ma21, .ref ma22, .ref ma23, .ref ma24, .int mn25, .ref ma26, .ref ma27, .ref ma28, .ref ma29, .ref ma30, .ref ma31, .ref ma32, .ref ma33, .ref ma34, .ref ma35, .ref ma36, .int mn37, .int mn38, .int mn39, .ref ma40, .ref ma41, .ref ma42, .int mn43, .int mn44, .ref ma45, .ref ma46, .ref ma47, .int mn48, .ref ma49, .ref ma50, .ref ma51, .ref ma52])), (ma1, .inl (K 1, 262, .inl mf1))]) [0, 1] rfl) 0 11 rfl rfl rfl hl.1 rfl (Nat.le_of_ble_eq_true rfl) (by decide) (by decide) dX12_fillKinds_32 (fun r16115 hq => ?_)
        obtain ⟨h16112, h16113, h16114⟩ := hq
        refine sti hx hb hE.1 hP hD hS 2 1 rfl rfl (vp_in_iff.mpr (by omega)) dX12_fillKinds_35 (fun g16116 eg16116 H locs hP hD hS => ?_)
        replace hP : va_P D vwCl [(md, .inr (11, [.int mn0, .ref ma1, .ref ma2, .ref ma3, .ref ma4, .int mn5, .ref ma6, .int mn7, .int mn8, .int mn9, .int mn10, .int mn11, .int mn12, .int mn13, .ref ma14, .int mn15, .int mn16, .int mn17, .int mn18, .int mn19, .int mn20, .ref ma21, .ref ma22, .ref ma23, .ref ma24, .int mn25, .ref ma26, .ref ma27, .ref ma28, .ref ma29, .ref ma30, .ref ma31, .ref ma32, .ref ma33, .ref ma34, .ref ma35, .ref ma36, .int mn37, .int mn38, .int mn39, .ref ma40, .ref ma41, .ref ma42, .int mn43, .int mn44, .ref ma45, .ref ma46, .ref ma47, .int mn48, .ref ma49, .ref ma50, .ref ma51, .ref ma52])), (ma1, .inl (K 1, 262, .inl mf1)), (ma27, .inl (K 1, 10, .inl g16116)), (ma28, .inl (K 1, 10, .inl mf28))] H := hP
        replace hD : va_D A [(md, .inr (11, [.int mn0, .ref ma1, .ref ma2, .ref ma3, .ref ma4, .int mn5, .ref ma6, .int mn7, .int mn8, .int mn9, .int mn10, .int mn11, .int mn12, .int mn13, .ref ma14, .int mn15, .int mn16, .int mn17, .int mn18, .int mn19, .int mn20, .ref ma21, .ref ma22, .ref ma23, .ref ma24, .int mn25, .ref ma26, .ref ma27, .ref ma28, .ref ma29, .ref ma30, .ref ma31, .ref ma32, .ref ma33, .ref ma34, .ref ma35, .ref ma36, .int mn37, .int mn38, .int mn39, .ref ma40, .ref ma41, .ref ma42, .int mn43, .int mn44, .ref ma45, .ref ma46, .ref ma47, .int mn48, .ref ma49, .ref ma50, .ref ma51, .ref ma52])), (ma1, .inl (K 1, 262, .inl mf1)), (ma27, .inl (K 1, 10, .inl g16116)), (ma28, .inl (K 1, 10, .inl mf28))] := hD
        obtain ⟨v16117, ev16117⟩ : ∃ z : Int32, z = i15961 + 1 := ⟨_, rfl⟩
        refine lv_iinc (v := v16117) (lv' := [(2, .int v16117), (0, .ref md), (1, .int p0)]) hx hb dX12_fillKinds_36 hl (k := 0) rfl (by rw [ev16117]; rfl) (by decide) rfl (fun ls hl => ?_)
        refine lv_goto (tgt := 2) hx hb dX12_fillKinds_39 (by decide) ?_
        have tv16117 : v16117.toInt = (i15961 : Int32).toInt + (1 : Int32).toInt := add_i ev16117 (by omega) (by omega)
        exact ih_2 (i15961 := v16117) (g15962 := g16116) (hi_2 := by omega) (H := H) (locs := locs) (ls := ls) (hn_2 := by omega) (hP := hP) (hD := hD) (hS := hS) (hl := lv_sub hl [0, 1, 2] rfl)
      · replace c16111 := eq_i c16111
        refine lv_iconst (v := 0) hx hb dX12_fillKinds_26 (by decide) ?_
        refine lv_goto (tgt := 35) hx hb dX12_fillKinds_27 (by decide) ?_
        refine sti hx hb hE.1 hP hD hS 2 1 rfl rfl (vp_in_iff.mpr (by omega)) dX12_fillKinds_35 (fun g16118 eg16118 H locs hP hD hS => ?_)
        replace hP : va_P D vwCl [(md, .inr (11, [.int mn0, .ref ma1, .ref ma2, .ref ma3, .ref ma4, .int mn5, .ref ma6, .int mn7, .int mn8, .int mn9, .int mn10, .int mn11, .int mn12, .int mn13, .ref ma14, .int mn15, .int mn16, .int mn17, .int mn18, .int mn19, .int mn20, .ref ma21, .ref ma22, .ref ma23, .ref ma24, .int mn25, .ref ma26, .ref ma27, .ref ma28, .ref ma29, .ref ma30, .ref ma31, .ref ma32, .ref ma33, .ref ma34, .ref ma35, .ref ma36, .int mn37, .int mn38, .int mn39, .ref ma40, .ref ma41, .ref ma42, .int mn43, .int mn44, .ref ma45, .ref ma46, .ref ma47, .int mn48, .ref ma49, .ref ma50, .ref ma51, .ref ma52])), (ma1, .inl (K 1, 262, .inl mf1)), (ma27, .inl (K 1, 10, .inl g16118)), (ma28, .inl (K 1, 10, .inl mf28))] H := hP
        replace hD : va_D A [(md, .inr (11, [.int mn0, .ref ma1, .ref ma2, .ref ma3, .ref ma4, .int mn5, .ref ma6, .int mn7, .int mn8, .int mn9, .int mn10, .int mn11, .int mn12, .int mn13, .ref ma14, .int mn15, .int mn16, .int mn17, .int mn18, .int mn19, .int mn20, .ref ma21, .ref ma22, .ref ma23, .ref ma24, .int mn25, .ref ma26, .ref ma27, .ref ma28, .ref ma29, .ref ma30, .ref ma31, .ref ma32, .ref ma33, .ref ma34, .ref ma35, .ref ma36, .int mn37, .int mn38, .int mn39, .ref ma40, .ref ma41, .ref ma42, .int mn43, .int mn44, .ref ma45, .ref ma46, .ref ma47, .int mn48, .ref ma49, .ref ma50, .ref ma51, .ref ma52])), (ma1, .inl (K 1, 262, .inl mf1)), (ma27, .inl (K 1, 10, .inl g16118)), (ma28, .inl (K 1, 10, .inl mf28))] := hD
        obtain ⟨v16119, ev16119⟩ : ∃ z : Int32, z = i15961 + 1 := ⟨_, rfl⟩
        refine lv_iinc (v := v16119) (lv' := [(2, .int v16119), (0, .ref md), (1, .int p0)]) hx hb dX12_fillKinds_36 hl (k := 0) rfl (by rw [ev16119]; rfl) (by decide) rfl (fun ls hl => ?_)
        refine lv_goto (tgt := 2) hx hb dX12_fillKinds_39 (by decide) ?_
        have tv16119 : v16119.toInt = (i15961 : Int32).toInt + (1 : Int32).toInt := add_i ev16119 (by omega) (by omega)
        exact ih_2 (i15961 := v16119) (g15962 := g16118) (hi_2 := by omega) (H := H) (locs := locs) (ls := ls) (hn_2 := by omega) (hP := hP) (hD := hD) (hS := hS) (hl := lv_sub hl [0, 1, 2] rfl)
set_option maxRecDepth 40000 in
set_option maxHeartbeats 4000000 in
theorem c_X12_alike (l : Launch) (D : va_G) (K : Nat → ClassId) (md : Nat) (ma1 : Nat) (ma2 : Nat) (ma3 : Nat) (ma4 : Nat) (ma6 : Nat) (ma14 : Nat) (ma21 : Nat) (ma22 : Nat) (ma23 : Nat) (ma24 : Nat) (ma26 : Nat) (ma27 : Nat) (ma28 : Nat) (ma29 : Nat) (ma30 : Nat) (ma31 : Nat) (ma32 : Nat) (ma33 : Nat) (ma34 : Nat) (ma35 : Nat) (ma36 : Nat) (ma40 : Nat) (ma41 : Nat) (ma42 : Nat) (ma45 : Nat) (ma46 : Nat) (ma47 : Nat) (ma49 : Nat) (ma50 : Nat) (ma51 : Nat) (ma52 : Nat) (mn0 : Int32) (mn5 : Int32) (mn7 : Int32) (mn8 : Int32) (mn9 : Int32) (mn10 : Int32) (mn11 : Int32) (mn12 : Int32) (mn13 : Int32) (mn15 : Int32) (mn16 : Int32) (mn17 : Int32) (mn18 : Int32) (mn19 : Int32) (mn20 : Int32) (mn25 : Int32) (mn37 : Int32) (mn38 : Int32) (mn39 : Int32) (mn43 : Int32) (mn44 : Int32) (mn48 : Int32) (mf1 : Nat → Int32) (mf27 : Nat → Int32) (mf28 : Nat → Int32) (p0 : Int32) (p1 : Int32) (hs1_0 : GW mf1) : Ci (S := ((Nat → Int32) × (Nat → Nat → Int32) × (Nat → Nat → Int64))) l D K yX12_alike cX12_alike 3 (some .int) 3 71 0 0 [.ref md, .int p0, .int p1] [(md, .inr (11, [.int mn0, .ref ma1, .ref ma2, .ref ma3, .ref ma4, .int mn5, .ref ma6, .int mn7, .int mn8, .int mn9, .int mn10, .int mn11, .int mn12, .int mn13, .ref ma14, .int mn15, .int mn16, .int mn17, .int mn18, .int mn19, .int mn20, .ref ma21, .ref ma22, .ref ma23, .ref ma24, .int mn25, .ref ma26, .ref ma27, .ref ma28, .ref ma29, .ref ma30, .ref ma31, .ref ma32, .ref ma33, .ref ma34, .ref ma35, .ref ma36, .int mn37, .int mn38, .int mn39, .ref ma40, .ref ma41, .ref ma42, .int mn43, .int mn44, .ref ma45, .ref ma46, .ref ma47, .int mn48, .ref ma49, .ref ma50, .ref ma51, .ref ma52])), (ma1, .inl (K 1, 262, .inl mf1)), (ma27, .inl (K 1, 10, .inl mf27)), (ma28, .inl (K 1, 10, .inl mf28))] (fun _ _ => True) (fun u => [(md, .inr (11, [.int mn0, .ref ma1, .ref ma2, .ref ma3, .ref ma4, .int mn5, .ref ma6, .int mn7, .int mn8, .int mn9, .int mn10, .int mn11, .int mn12, .int mn13, .ref ma14, .int mn15, .int mn16, .int mn17, .int mn18, .int mn19, .int mn20, .ref ma21, .ref ma22, .ref ma23, .ref ma24, .int mn25, .ref ma26, .ref ma27, .ref ma28, .ref ma29, .ref ma30, .ref ma31, .ref ma32, .ref ma33, .ref ma34, .ref ma35, .ref ma36, .int mn37, .int mn38, .int mn39, .ref ma40, .ref ma41, .ref ma42, .int mn43, .int mn44, .ref ma45, .ref ma46, .ref ma47, .int mn48, .ref ma49, .ref ma50, .ref ma51, .ref ma52])), (ma1, .inl (K 1, 262, .inl mf1)), (ma27, .inl (K 1, 10, .inl (u.2.1 0))), (ma28, .inl (K 1, 10, .inl (u.2.1 1)))]) := by
  intro sz
  refine ch_of (y := yX12_alike) (cc := cX12_alike) (maxL := 3) (ret := (some .int)) (av := [.ref md, .int p0, .int p1]) (ws := [(md, .inr (11, [.int mn0, .ref ma1, .ref ma2, .ref ma3, .ref ma4, .int mn5, .ref ma6, .int mn7, .int mn8, .int mn9, .int mn10, .int mn11, .int mn12, .int mn13, .ref ma14, .int mn15, .int mn16, .int mn17, .int mn18, .int mn19, .int mn20, .ref ma21, .ref ma22, .ref ma23, .ref ma24, .int mn25, .ref ma26, .ref ma27, .ref ma28, .ref ma29, .ref ma30, .ref ma31, .ref ma32, .ref ma33, .ref ma34, .ref ma35, .ref ma36, .int mn37, .int mn38, .int mn39, .ref ma40, .ref ma41, .ref ma42, .int mn43, .int mn44, .ref ma45, .ref ma46, .ref ma47, .int mn48, .ref ma49, .ref ma50, .ref ma51, .ref ma52])), (ma1, .inl (K 1, 262, .inl mf1)), (ma27, .inl (K 1, 10, .inl mf27)), (ma28, .inl (K 1, 10, .inl mf28))]) (D := D) (K := K) (Qc := fun A => va_Qi (S := ((Nat → Int32) × (Nat → Nat → Int32) × (Nat → Nat → Int64))) (fun _ _ => True) (chB D A (fun u => [(md, .inr (11, [.int mn0, .ref ma1, .ref ma2, .ref ma3, .ref ma4, .int mn5, .ref ma6, .int mn7, .int mn8, .int mn9, .int mn10, .int mn11, .int mn12, .int mn13, .ref ma14, .int mn15, .int mn16, .int mn17, .int mn18, .int mn19, .int mn20, .ref ma21, .ref ma22, .ref ma23, .ref ma24, .int mn25, .ref ma26, .ref ma27, .ref ma28, .ref ma29, .ref ma30, .ref ma31, .ref ma32, .ref ma33, .ref ma34, .ref ma35, .ref ma36, .int mn37, .int mn38, .int mn39, .ref ma40, .ref ma41, .ref ma42, .int mn43, .int mn44, .ref ma45, .ref ma46, .ref ma47, .int mn48, .ref ma49, .ref ma50, .ref ma51, .ref ma52])), (ma1, .inl (K 1, 262, .inl mf1)), (ma27, .inl (K 1, 10, .inl (u.2.1 0))), (ma28, .inl (K 1, 10, .inl (u.2.1 1)))])) A) (by decide) (Nat.le_of_ble_eq_true rfl) ?_
  intro p e s m below meth c A hC hr hk hin hE hD hA H locs hP hS ls hl
  replace hC : CallFix p m c cX12_alike 3 s [.ref md, .int p0, .int p1].toArray wl RX12 := hC
  have hx := hC.1
  have hb := hC.2.1
  have hml := hC.2.2.1
  have hown := hC.2.2.2.1
  have hts := hC.2.2.2.2
  replace hl : lv_has ls 3 [(0, .ref md), (1, .int p0), (2, .int p1)] := hl
  have kc_0 : (0 : Int32).toInt = 0 := by decide
  have hW0 := gwn_0 hs1_0; have hW1 := gwn_1 hs1_0; have hW2 := gwn_2 hs1_0; have hW4 := gwn_4 hs1_0
  refine lv_aload_n hx hb dX12_alike_0 rfl (lv_at hl 0 rfl) ?_
  refine lv_iload_n hx hb dX12_alike_1 rfl (lv_at hl 1 rfl) ?_
  refine lv_iload_n hx hb dX12_alike_2 rfl (lv_at hl 2 rfl) ?_
  refine ro_V (As := [.int p0, .int p1]) (rest := []) hC hE kV_X12_394 (c_X12_areTwo l D K md ma1 ma2 ma3 ma4 ma6 ma14 ma21 ma22 ma23 ma24 ma26 ma27 ma28 ma29 ma30 ma31 ma32 ma33 ma34 ma35 ma36 ma40 ma41 ma42 ma45 ma46 ma47 ma49 ma50 ma51 ma52 mn0 mn5 mn7 mn8 mn9 mn10 mn11 mn12 mn13 mn15 mn16 mn17 mn18 mn19 mn20 mn25 mn37 mn38 mn39 mn43 mn44 mn48 mf1 p0 p1 hs1_0) (hP.sub (ws' := [(md, .inr (11, [.int mn0, .ref ma1, .ref ma2, .ref ma3, .ref ma4, .int mn5, .ref ma6, .int mn7, .int mn8, .int mn9, .int mn10, .int mn11, .int mn12, .int mn13, .ref ma14, .int mn15, .int mn16, .int mn17, .int mn18, .int mn19, .int mn20, .ref ma21, .ref ma22, .ref ma23, .ref ma24, .int mn25, .ref ma26, .ref ma27, .ref ma28, .ref ma29, .ref ma30, .ref ma31, .ref ma32, .ref ma33, .ref ma34, .ref ma35, .ref ma36, .int mn37, .int mn38, .int mn39, .ref ma40, .ref ma41, .ref ma42, .int mn43, .int mn44, .ref ma45, .ref ma46, .ref ma47, .int mn48, .ref ma49, .ref ma50, .ref ma51, .ref ma52])), (ma1, .inl (K 1, 262, .inl mf1))]) [0, 1] rfl) 0 11 rfl rfl rfl hl.1 rfl (Nat.le_of_ble_eq_true rfl) (by decide) (by decide) dX12_alike_3 (fun r16136 hq => ?_)
  rcases hq with rfl | ⟨rfl, h16131, h16132, h16133, h16134, h16135⟩
  · refine lv_if_ne (tgt := 12) hx hb dX12_alike_6 (by decide) (fun h => absurd h (by decide)) (fun _ => ?_)
    refine lv_bipush (v := (-2)) hx hb dX12_alike_9 (by decide) ?_
    refine W.widen (k := 0) (n := 0) (by decide) (by decide) ?_
    exact ch_iret hC hr hk hS dX12_alike_11 ((fun k => [].getD k 0, fun k => [mf27, mf28].getD k (fun _ => 0), fun k => [].getD k (fun _ => 0)) : ((Nat → Int32) × (Nat → Nat → Int32) × (Nat → Nat → Int64))) trivial (hP.sub [0, 1, 2, 3] rfl) (hD.sub [0, 1, 2, 3] (by decide) rfl)
  · refine lv_if_ne (tgt := 12) hx hb dX12_alike_6 (by decide) (fun _ => ?_) (fun h => absurd h (by decide))
    refine lv_aload_n hx hb dX12_alike_12 rfl (lv_at hl 0 rfl) ?_
    refine lv_iconst (v := 0) hx hb dX12_alike_13 (by decide) ?_
    refine ci_V (As := [.int 0]) (rest := []) (wc := [(md, .inr (11, [.int mn0, .ref ma1, .ref ma2, .ref ma3, .ref ma4, .int mn5, .ref ma6, .int mn7, .int mn8, .int mn9, .int mn10, .int mn11, .int mn12, .int mn13, .ref ma14, .int mn15, .int mn16, .int mn17, .int mn18, .int mn19, .int mn20, .ref ma21, .ref ma22, .ref ma23, .ref ma24, .int mn25, .ref ma26, .ref ma27, .ref ma28, .ref ma29, .ref ma30, .ref ma31, .ref ma32, .ref ma33, .ref ma34, .ref ma35, .ref ma36, .int mn37, .int mn38, .int mn39, .ref ma40, .ref ma41, .ref ma42, .int mn43, .int mn44, .ref ma45, .ref ma46, .ref ma47, .int mn48, .ref ma49, .ref ma50, .ref ma51, .ref ma52])), (ma1, .inl (K 1, 262, .inl mf1)), (ma27, .inl (K 1, 10, .inl mf27)), (ma28, .inl (K 1, 10, .inl mf28))]) (wr := []) hC hE kV_X12_397 (c_X12_fillKinds l D K md ma1 ma2 ma3 ma4 ma6 ma14 ma21 ma22 ma23 ma24 ma26 ma27 ma28 ma29 ma30 ma31 ma32 ma33 ma34 ma35 ma36 ma40 ma41 ma42 ma45 ma46 ma47 ma49 ma50 ma51 ma52 mn0 mn5 mn7 mn8 mn9 mn10 mn11 mn12 mn13 mn15 mn16 mn17 mn18 mn19 mn20 mn25 mn37 mn38 mn39 mn43 mn44 mn48 mf1 mf27 mf28 0 hs1_0) hP hD hS hA [0, 1, 2, 3] [] rfl rfl rfl (by decide) (by decide) (by decide) 0 11 rfl rfl rfl hl.1 rfl (Nat.le_of_ble_eq_true rfl) (by decide) (by decide) dX12_alike_14 (fun r16138 u16137 H locs hw hP hD hS => ?_)
    replace hP : va_P D vwCl [(md, .inr (11, [.int mn0, .ref ma1, .ref ma2, .ref ma3, .ref ma4, .int mn5, .ref ma6, .int mn7, .int mn8, .int mn9, .int mn10, .int mn11, .int mn12, .int mn13, .ref ma14, .int mn15, .int mn16, .int mn17, .int mn18, .int mn19, .int mn20, .ref ma21, .ref ma22, .ref ma23, .ref ma24, .int mn25, .ref ma26, .ref ma27, .ref ma28, .ref ma29, .ref ma30, .ref ma31, .ref ma32, .ref ma33, .ref ma34, .ref ma35, .ref ma36, .int mn37, .int mn38, .int mn39, .ref ma40, .ref ma41, .ref ma42, .int mn43, .int mn44, .ref ma45, .ref ma46, .ref ma47, .int mn48, .ref ma49, .ref ma50, .ref ma51, .ref ma52])), (ma1, .inl (K 1, 262, .inl mf1)), (ma27, .inl (K 1, 10, .inl (u16137.2.1 0))), (ma28, .inl (K 1, 10, .inl (u16137.2.1 1)))] H := hP
    replace hD : va_D A [(md, .inr (11, [.int mn0, .ref ma1, .ref ma2, .ref ma3, .ref ma4, .int mn5, .ref ma6, .int mn7, .int mn8, .int mn9, .int mn10, .int mn11, .int mn12, .int mn13, .ref ma14, .int mn15, .int mn16, .int mn17, .int mn18, .int mn19, .int mn20, .ref ma21, .ref ma22, .ref ma23, .ref ma24, .int mn25, .ref ma26, .ref ma27, .ref ma28, .ref ma29, .ref ma30, .ref ma31, .ref ma32, .ref ma33, .ref ma34, .ref ma35, .ref ma36, .int mn37, .int mn38, .int mn39, .ref ma40, .ref ma41, .ref ma42, .int mn43, .int mn44, .ref ma45, .ref ma46, .ref ma47, .int mn48, .ref ma49, .ref ma50, .ref ma51, .ref ma52])), (ma1, .inl (K 1, 262, .inl mf1)), (ma27, .inl (K 1, 10, .inl (u16137.2.1 0))), (ma28, .inl (K 1, 10, .inl (u16137.2.1 1)))] := hD
    replace hP : va_P D vwCl [(md, .inr (11, [.int mn0, .ref ma1, .ref ma2, .ref ma3, .ref ma4, .int mn5, .ref ma6, .int mn7, .int mn8, .int mn9, .int mn10, .int mn11, .int mn12, .int mn13, .ref ma14, .int mn15, .int mn16, .int mn17, .int mn18, .int mn19, .int mn20, .ref ma21, .ref ma22, .ref ma23, .ref ma24, .int mn25, .ref ma26, .ref ma27, .ref ma28, .ref ma29, .ref ma30, .ref ma31, .ref ma32, .ref ma33, .ref ma34, .ref ma35, .ref ma36, .int mn37, .int mn38, .int mn39, .ref ma40, .ref ma41, .ref ma42, .int mn43, .int mn44, .ref ma45, .ref ma46, .ref ma47, .int mn48, .ref ma49, .ref ma50, .ref ma51, .ref ma52])), (ma1, .inl (K 1, 262, .inl mf1)), (ma27, .inl (K 1, 10, .inl (u16137.2.1 0))), (ma28, .inl (K 1, 10, .inl (u16137.2.1 1)))] H := hP.sub [0, 1, 2, 3] rfl
    replace hD : va_D A [(md, .inr (11, [.int mn0, .ref ma1, .ref ma2, .ref ma3, .ref ma4, .int mn5, .ref ma6, .int mn7, .int mn8, .int mn9, .int mn10, .int mn11, .int mn12, .int mn13, .ref ma14, .int mn15, .int mn16, .int mn17, .int mn18, .int mn19, .int mn20, .ref ma21, .ref ma22, .ref ma23, .ref ma24, .int mn25, .ref ma26, .ref ma27, .ref ma28, .ref ma29, .ref ma30, .ref ma31, .ref ma32, .ref ma33, .ref ma34, .ref ma35, .ref ma36, .int mn37, .int mn38, .int mn39, .ref ma40, .ref ma41, .ref ma42, .int mn43, .int mn44, .ref ma45, .ref ma46, .ref ma47, .int mn48, .ref ma49, .ref ma50, .ref ma51, .ref ma52])), (ma1, .inl (K 1, 262, .inl mf1)), (ma27, .inl (K 1, 10, .inl (u16137.2.1 0))), (ma28, .inl (K 1, 10, .inl (u16137.2.1 1)))] := hD.sub [0, 1, 2, 3] (by decide) rfl
    refine W.widen (k := 0) (n := 0) (by decide) (by decide) ?_
    refine lv_pop hx hb dX12_alike_17 rfl ?_
    refine lv_aload_n hx hb dX12_alike_18 rfl (lv_at hl 0 rfl) ?_
    refine va_get (D := D) (ci := 11) (v := .ref ma27) (C := RX12) (T := TX12) (N := 53) hx hb hts in_X12 hown hE.1 hP 0 rfl rfl 27 (by decide) (hts _ w_1168) (fun _ h9 => h9) rfl dX12_alike_19 ?_
    refine lv_iload_n hx hb dX12_alike_22 rfl (lv_at hl 1 rfl) ?_
    refine va_iald hx hb hE.1 hP 2 1 rfl rfl (vp_in_iff.mpr (by omega)) dX12_alike_23 ?_
    refine lv_topi (fun v16139 ev16139 => ?_)
    refine lv_aload_n hx hb dX12_alike_24 rfl (lv_at hl 0 rfl) ?_
    refine va_get (D := D) (ci := 11) (v := .ref ma27) (C := RX12) (T := TX12) (N := 53) hx hb hts in_X12 hown hE.1 hP 0 rfl rfl 27 (by decide) (hts _ w_1168) (fun _ h9 => h9) rfl dX12_alike_25 ?_
    refine lv_iload_n hx hb dX12_alike_28 rfl (lv_at hl 2 rfl) ?_
    refine va_iald hx hb hE.1 hP 2 1 rfl rfl (vp_in_iff.mpr (by omega)) dX12_alike_29 ?_
    refine lv_topi (fun v16140 ev16140 => ?_)
    refine lv_icmp_ne (tgt := 37) hx hb dX12_alike_30 (by decide) (fun c16141 => ?_) (fun c16141 => ?_)
    · replace c16141 := ne_i c16141
      refine lv_iconst (v := 0) hx hb dX12_alike_37 (by decide) ?_
      refine W.widen (k := 0) (n := 0) (by decide) (by decide) ?_
      exact ch_iret hC hr hk hS dX12_alike_38 ((fun k => [].getD k 0, fun k => [(u16137.2.1 0), (u16137.2.1 1)].getD k (fun _ => 0), fun k => [].getD k (fun _ => 0)) : ((Nat → Int32) × (Nat → Nat → Int32) × (Nat → Nat → Int64))) trivial (hP.sub [0, 1, 2, 3] rfl) (hD.sub [0, 1, 2, 3] (by decide) rfl)
    · replace c16141 := eq_i c16141
      refine lv_iconst (v := 1) hx hb dX12_alike_33 (by decide) ?_
      refine lv_goto (tgt := 38) hx hb dX12_alike_34 (by decide) ?_
      refine W.widen (k := 0) (n := 0) (by decide) (by decide) ?_
      exact ch_iret hC hr hk hS dX12_alike_38 ((fun k => [].getD k 0, fun k => [(u16137.2.1 0), (u16137.2.1 1)].getD k (fun _ => 0), fun k => [].getD k (fun _ => 0)) : ((Nat → Int32) × (Nat → Nat → Int32) × (Nat → Nat → Int64))) trivial (hP.sub [0, 1, 2, 3] rfl) (hD.sub [0, 1, 2, 3] (by decide) rfl)
set_option maxRecDepth 40000 in
set_option maxHeartbeats 4000000 in
theorem c_X12_kinds (l : Launch) (D : va_G) (K : Nat → ClassId) (md : Nat) (ma1 : Nat) (ma2 : Nat) (ma3 : Nat) (ma4 : Nat) (ma6 : Nat) (ma14 : Nat) (ma21 : Nat) (ma22 : Nat) (ma23 : Nat) (ma24 : Nat) (ma26 : Nat) (ma27 : Nat) (ma28 : Nat) (ma29 : Nat) (ma30 : Nat) (ma31 : Nat) (ma32 : Nat) (ma33 : Nat) (ma34 : Nat) (ma35 : Nat) (ma36 : Nat) (ma40 : Nat) (ma41 : Nat) (ma42 : Nat) (ma45 : Nat) (ma46 : Nat) (ma47 : Nat) (ma49 : Nat) (ma50 : Nat) (ma51 : Nat) (ma52 : Nat) (mn0 : Int32) (mn5 : Int32) (mn7 : Int32) (mn8 : Int32) (mn9 : Int32) (mn10 : Int32) (mn11 : Int32) (mn12 : Int32) (mn13 : Int32) (mn15 : Int32) (mn16 : Int32) (mn17 : Int32) (mn18 : Int32) (mn19 : Int32) (mn20 : Int32) (mn25 : Int32) (mn37 : Int32) (mn38 : Int32) (mn39 : Int32) (mn43 : Int32) (mn44 : Int32) (mn48 : Int32) (mf1 : Nat → Int32) (mf27 : Nat → Int32) (mf28 : Nat → Int32) (hs1_0 : GW mf1) : Ci (S := ((Nat → Int32) × (Nat → Nat → Int32) × (Nat → Nat → Int64))) l D K yX12_kinds cX12_kinds 1 (some .int) 3 71 0 0 [.ref md] [(md, .inr (11, [.int mn0, .ref ma1, .ref ma2, .ref ma3, .ref ma4, .int mn5, .ref ma6, .int mn7, .int mn8, .int mn9, .int mn10, .int mn11, .int mn12, .int mn13, .ref ma14, .int mn15, .int mn16, .int mn17, .int mn18, .int mn19, .int mn20, .ref ma21, .ref ma22, .ref ma23, .ref ma24, .int mn25, .ref ma26, .ref ma27, .ref ma28, .ref ma29, .ref ma30, .ref ma31, .ref ma32, .ref ma33, .ref ma34, .ref ma35, .ref ma36, .int mn37, .int mn38, .int mn39, .ref ma40, .ref ma41, .ref ma42, .int mn43, .int mn44, .ref ma45, .ref ma46, .ref ma47, .int mn48, .ref ma49, .ref ma50, .ref ma51, .ref ma52])), (ma1, .inl (K 1, 262, .inl mf1)), (ma27, .inl (K 1, 10, .inl mf27)), (ma28, .inl (K 1, 10, .inl mf28))] (fun _ _ => True) (fun u => [(md, .inr (11, [.int mn0, .ref ma1, .ref ma2, .ref ma3, .ref ma4, .int mn5, .ref ma6, .int mn7, .int mn8, .int mn9, .int mn10, .int mn11, .int mn12, .int mn13, .ref ma14, .int mn15, .int mn16, .int mn17, .int mn18, .int mn19, .int mn20, .ref ma21, .ref ma22, .ref ma23, .ref ma24, .int mn25, .ref ma26, .ref ma27, .ref ma28, .ref ma29, .ref ma30, .ref ma31, .ref ma32, .ref ma33, .ref ma34, .ref ma35, .ref ma36, .int mn37, .int mn38, .int mn39, .ref ma40, .ref ma41, .ref ma42, .int mn43, .int mn44, .ref ma45, .ref ma46, .ref ma47, .int mn48, .ref ma49, .ref ma50, .ref ma51, .ref ma52])), (ma1, .inl (K 1, 262, .inl mf1)), (ma27, .inl (K 1, 10, .inl (u.2.1 0))), (ma28, .inl (K 1, 10, .inl (u.2.1 1)))]) := by
  intro sz
  refine ch_of (y := yX12_kinds) (cc := cX12_kinds) (maxL := 1) (ret := (some .int)) (av := [.ref md]) (ws := [(md, .inr (11, [.int mn0, .ref ma1, .ref ma2, .ref ma3, .ref ma4, .int mn5, .ref ma6, .int mn7, .int mn8, .int mn9, .int mn10, .int mn11, .int mn12, .int mn13, .ref ma14, .int mn15, .int mn16, .int mn17, .int mn18, .int mn19, .int mn20, .ref ma21, .ref ma22, .ref ma23, .ref ma24, .int mn25, .ref ma26, .ref ma27, .ref ma28, .ref ma29, .ref ma30, .ref ma31, .ref ma32, .ref ma33, .ref ma34, .ref ma35, .ref ma36, .int mn37, .int mn38, .int mn39, .ref ma40, .ref ma41, .ref ma42, .int mn43, .int mn44, .ref ma45, .ref ma46, .ref ma47, .int mn48, .ref ma49, .ref ma50, .ref ma51, .ref ma52])), (ma1, .inl (K 1, 262, .inl mf1)), (ma27, .inl (K 1, 10, .inl mf27)), (ma28, .inl (K 1, 10, .inl mf28))]) (D := D) (K := K) (Qc := fun A => va_Qi (S := ((Nat → Int32) × (Nat → Nat → Int32) × (Nat → Nat → Int64))) (fun _ _ => True) (chB D A (fun u => [(md, .inr (11, [.int mn0, .ref ma1, .ref ma2, .ref ma3, .ref ma4, .int mn5, .ref ma6, .int mn7, .int mn8, .int mn9, .int mn10, .int mn11, .int mn12, .int mn13, .ref ma14, .int mn15, .int mn16, .int mn17, .int mn18, .int mn19, .int mn20, .ref ma21, .ref ma22, .ref ma23, .ref ma24, .int mn25, .ref ma26, .ref ma27, .ref ma28, .ref ma29, .ref ma30, .ref ma31, .ref ma32, .ref ma33, .ref ma34, .ref ma35, .ref ma36, .int mn37, .int mn38, .int mn39, .ref ma40, .ref ma41, .ref ma42, .int mn43, .int mn44, .ref ma45, .ref ma46, .ref ma47, .int mn48, .ref ma49, .ref ma50, .ref ma51, .ref ma52])), (ma1, .inl (K 1, 262, .inl mf1)), (ma27, .inl (K 1, 10, .inl (u.2.1 0))), (ma28, .inl (K 1, 10, .inl (u.2.1 1)))])) A) (by decide) (Nat.le_of_ble_eq_true rfl) ?_
  intro p e s m below meth c A hC hr hk hin hE hD hA H locs hP hS ls hl
  replace hC : CallFix p m c cX12_kinds 1 s [.ref md].toArray wl RX12 := hC
  have hx := hC.1
  have hb := hC.2.1
  have hml := hC.2.2.1
  have hown := hC.2.2.2.1
  have hts := hC.2.2.2.2
  replace hl : lv_has ls 1 [(0, .ref md)] := hl
  have kc_0 : (0 : Int32).toInt = 0 := by decide
  have hW0 := gwn_0 hs1_0; have hW1 := gwn_1 hs1_0; have hW2 := gwn_2 hs1_0; have hW4 := gwn_4 hs1_0
  refine lv_aload_n hx hb dX12_kinds_0 rfl (lv_at hl 0 rfl) ?_
  refine ro_V (As := []) (rest := []) hC hE kV_X12_125 (c_X12_isWood l D K md ma1 ma2 ma3 ma4 ma6 ma14 ma21 ma22 ma23 ma24 ma26 ma27 ma28 ma29 ma30 ma31 ma32 ma33 ma34 ma35 ma36 ma40 ma41 ma42 ma45 ma46 ma47 ma49 ma50 ma51 ma52 mn0 mn5 mn7 mn8 mn9 mn10 mn11 mn12 mn13 mn15 mn16 mn17 mn18 mn19 mn20 mn25 mn37 mn38 mn39 mn43 mn44 mn48 mf1 hs1_0) (hP.sub (ws' := [(md, .inr (11, [.int mn0, .ref ma1, .ref ma2, .ref ma3, .ref ma4, .int mn5, .ref ma6, .int mn7, .int mn8, .int mn9, .int mn10, .int mn11, .int mn12, .int mn13, .ref ma14, .int mn15, .int mn16, .int mn17, .int mn18, .int mn19, .int mn20, .ref ma21, .ref ma22, .ref ma23, .ref ma24, .int mn25, .ref ma26, .ref ma27, .ref ma28, .ref ma29, .ref ma30, .ref ma31, .ref ma32, .ref ma33, .ref ma34, .ref ma35, .ref ma36, .int mn37, .int mn38, .int mn39, .ref ma40, .ref ma41, .ref ma42, .int mn43, .int mn44, .ref ma45, .ref ma46, .ref ma47, .int mn48, .ref ma49, .ref ma50, .ref ma51, .ref ma52])), (ma1, .inl (K 1, 262, .inl mf1))]) [0, 1] rfl) 0 11 rfl rfl rfl hl.1 rfl (Nat.le_of_ble_eq_true rfl) (by decide) (by decide) dX12_kinds_1 (fun r16145 hq => ?_)
  rcases hq with rfl | rfl
  · refine lv_if_eq (tgt := 15) hx hb dX12_kinds_4 (by decide) (fun _ => ?_) (fun h => absurd h (by decide))
    refine lv_bipush (v := (-2)) hx hb dX12_kinds_15 (by decide) ?_
    refine W.widen (k := 0) (n := 0) (by decide) (by decide) ?_
    exact ch_iret hC hr hk hS dX12_kinds_17 ((fun k => [].getD k 0, fun k => [mf27, mf28].getD k (fun _ => 0), fun k => [].getD k (fun _ => 0)) : ((Nat → Int32) × (Nat → Nat → Int32) × (Nat → Nat → Int64))) trivial (hP.sub [0, 1, 2, 3] rfl) (hD.sub [0, 1, 2, 3] (by decide) rfl)
  · refine lv_if_eq (tgt := 15) hx hb dX12_kinds_4 (by decide) (fun h => absurd h (by decide)) (fun _ => ?_)
    refine lv_aload_n hx hb dX12_kinds_7 rfl (lv_at hl 0 rfl) ?_
    refine lv_iconst (v := 0) hx hb dX12_kinds_8 (by decide) ?_
    refine ci_V (As := [.int 0]) (rest := []) (wc := [(md, .inr (11, [.int mn0, .ref ma1, .ref ma2, .ref ma3, .ref ma4, .int mn5, .ref ma6, .int mn7, .int mn8, .int mn9, .int mn10, .int mn11, .int mn12, .int mn13, .ref ma14, .int mn15, .int mn16, .int mn17, .int mn18, .int mn19, .int mn20, .ref ma21, .ref ma22, .ref ma23, .ref ma24, .int mn25, .ref ma26, .ref ma27, .ref ma28, .ref ma29, .ref ma30, .ref ma31, .ref ma32, .ref ma33, .ref ma34, .ref ma35, .ref ma36, .int mn37, .int mn38, .int mn39, .ref ma40, .ref ma41, .ref ma42, .int mn43, .int mn44, .ref ma45, .ref ma46, .ref ma47, .int mn48, .ref ma49, .ref ma50, .ref ma51, .ref ma52])), (ma1, .inl (K 1, 262, .inl mf1)), (ma27, .inl (K 1, 10, .inl mf27)), (ma28, .inl (K 1, 10, .inl mf28))]) (wr := []) hC hE kV_X12_397 (c_X12_fillKinds l D K md ma1 ma2 ma3 ma4 ma6 ma14 ma21 ma22 ma23 ma24 ma26 ma27 ma28 ma29 ma30 ma31 ma32 ma33 ma34 ma35 ma36 ma40 ma41 ma42 ma45 ma46 ma47 ma49 ma50 ma51 ma52 mn0 mn5 mn7 mn8 mn9 mn10 mn11 mn12 mn13 mn15 mn16 mn17 mn18 mn19 mn20 mn25 mn37 mn38 mn39 mn43 mn44 mn48 mf1 mf27 mf28 0 hs1_0) hP hD hS hA [0, 1, 2, 3] [] rfl rfl rfl (by decide) (by decide) (by decide) 0 11 rfl rfl rfl hl.1 rfl (Nat.le_of_ble_eq_true rfl) (by decide) (by decide) dX12_kinds_9 (fun r16147 u16146 H locs hw hP hD hS => ?_)
    replace hP : va_P D vwCl [(md, .inr (11, [.int mn0, .ref ma1, .ref ma2, .ref ma3, .ref ma4, .int mn5, .ref ma6, .int mn7, .int mn8, .int mn9, .int mn10, .int mn11, .int mn12, .int mn13, .ref ma14, .int mn15, .int mn16, .int mn17, .int mn18, .int mn19, .int mn20, .ref ma21, .ref ma22, .ref ma23, .ref ma24, .int mn25, .ref ma26, .ref ma27, .ref ma28, .ref ma29, .ref ma30, .ref ma31, .ref ma32, .ref ma33, .ref ma34, .ref ma35, .ref ma36, .int mn37, .int mn38, .int mn39, .ref ma40, .ref ma41, .ref ma42, .int mn43, .int mn44, .ref ma45, .ref ma46, .ref ma47, .int mn48, .ref ma49, .ref ma50, .ref ma51, .ref ma52])), (ma1, .inl (K 1, 262, .inl mf1)), (ma27, .inl (K 1, 10, .inl (u16146.2.1 0))), (ma28, .inl (K 1, 10, .inl (u16146.2.1 1)))] H := hP
    replace hD : va_D A [(md, .inr (11, [.int mn0, .ref ma1, .ref ma2, .ref ma3, .ref ma4, .int mn5, .ref ma6, .int mn7, .int mn8, .int mn9, .int mn10, .int mn11, .int mn12, .int mn13, .ref ma14, .int mn15, .int mn16, .int mn17, .int mn18, .int mn19, .int mn20, .ref ma21, .ref ma22, .ref ma23, .ref ma24, .int mn25, .ref ma26, .ref ma27, .ref ma28, .ref ma29, .ref ma30, .ref ma31, .ref ma32, .ref ma33, .ref ma34, .ref ma35, .ref ma36, .int mn37, .int mn38, .int mn39, .ref ma40, .ref ma41, .ref ma42, .int mn43, .int mn44, .ref ma45, .ref ma46, .ref ma47, .int mn48, .ref ma49, .ref ma50, .ref ma51, .ref ma52])), (ma1, .inl (K 1, 262, .inl mf1)), (ma27, .inl (K 1, 10, .inl (u16146.2.1 0))), (ma28, .inl (K 1, 10, .inl (u16146.2.1 1)))] := hD
    replace hP : va_P D vwCl [(md, .inr (11, [.int mn0, .ref ma1, .ref ma2, .ref ma3, .ref ma4, .int mn5, .ref ma6, .int mn7, .int mn8, .int mn9, .int mn10, .int mn11, .int mn12, .int mn13, .ref ma14, .int mn15, .int mn16, .int mn17, .int mn18, .int mn19, .int mn20, .ref ma21, .ref ma22, .ref ma23, .ref ma24, .int mn25, .ref ma26, .ref ma27, .ref ma28, .ref ma29, .ref ma30, .ref ma31, .ref ma32, .ref ma33, .ref ma34, .ref ma35, .ref ma36, .int mn37, .int mn38, .int mn39, .ref ma40, .ref ma41, .ref ma42, .int mn43, .int mn44, .ref ma45, .ref ma46, .ref ma47, .int mn48, .ref ma49, .ref ma50, .ref ma51, .ref ma52])), (ma1, .inl (K 1, 262, .inl mf1)), (ma27, .inl (K 1, 10, .inl (u16146.2.1 0))), (ma28, .inl (K 1, 10, .inl (u16146.2.1 1)))] H := hP.sub [0, 1, 2, 3] rfl
    replace hD : va_D A [(md, .inr (11, [.int mn0, .ref ma1, .ref ma2, .ref ma3, .ref ma4, .int mn5, .ref ma6, .int mn7, .int mn8, .int mn9, .int mn10, .int mn11, .int mn12, .int mn13, .ref ma14, .int mn15, .int mn16, .int mn17, .int mn18, .int mn19, .int mn20, .ref ma21, .ref ma22, .ref ma23, .ref ma24, .int mn25, .ref ma26, .ref ma27, .ref ma28, .ref ma29, .ref ma30, .ref ma31, .ref ma32, .ref ma33, .ref ma34, .ref ma35, .ref ma36, .int mn37, .int mn38, .int mn39, .ref ma40, .ref ma41, .ref ma42, .int mn43, .int mn44, .ref ma45, .ref ma46, .ref ma47, .int mn48, .ref ma49, .ref ma50, .ref ma51, .ref ma52])), (ma1, .inl (K 1, 262, .inl mf1)), (ma27, .inl (K 1, 10, .inl (u16146.2.1 0))), (ma28, .inl (K 1, 10, .inl (u16146.2.1 1)))] := hD.sub [0, 1, 2, 3] (by decide) rfl
    refine W.widen (k := 0) (n := 0) (by decide) (by decide) ?_
    refine lv_goto (tgt := 17) hx hb dX12_kinds_12 (by decide) ?_
    refine W.widen (k := 0) (n := 0) (by decide) (by decide) ?_
    exact ch_iret hC hr hk hS dX12_kinds_17 ((fun k => [].getD k 0, fun k => [(u16146.2.1 0), (u16146.2.1 1)].getD k (fun _ => 0), fun k => [].getD k (fun _ => 0)) : ((Nat → Int32) × (Nat → Nat → Int32) × (Nat → Nat → Int64))) trivial (hP.sub [0, 1, 2, 3] rfl) (hD.sub [0, 1, 2, 3] (by decide) rfl)
set_option maxRecDepth 40000 in
set_option maxHeartbeats 4000000 in
theorem c_X12_baredOf (l : Launch) (D : va_G) (K : Nat → ClassId) (md : Nat) (ma1 : Nat) (ma2 : Nat) (ma3 : Nat) (ma4 : Nat) (ma6 : Nat) (ma14 : Nat) (ma21 : Nat) (ma22 : Nat) (ma23 : Nat) (ma24 : Nat) (ma26 : Nat) (ma27 : Nat) (ma28 : Nat) (ma29 : Nat) (ma30 : Nat) (ma31 : Nat) (ma32 : Nat) (ma33 : Nat) (ma34 : Nat) (ma35 : Nat) (ma36 : Nat) (ma40 : Nat) (ma41 : Nat) (ma42 : Nat) (ma45 : Nat) (ma46 : Nat) (ma47 : Nat) (ma49 : Nat) (ma50 : Nat) (ma51 : Nat) (ma52 : Nat) (mn0 : Int32) (mn5 : Int32) (mn7 : Int32) (mn8 : Int32) (mn9 : Int32) (mn10 : Int32) (mn11 : Int32) (mn12 : Int32) (mn13 : Int32) (mn15 : Int32) (mn16 : Int32) (mn17 : Int32) (mn18 : Int32) (mn19 : Int32) (mn20 : Int32) (mn25 : Int32) (mn37 : Int32) (mn38 : Int32) (mn39 : Int32) (mn43 : Int32) (mn44 : Int32) (mn48 : Int32) (mf1 : Nat → Int32) (mf27 : Nat → Int32) (mf28 : Nat → Int32) (p0 : Int32) (p1 : Int32) (hs1_0 : GW mf1) (ha0 : 0 ≤ p0.toInt ∧ p0.toInt ≤ 9) (ha1 : 0 ≤ p1.toInt ∧ p1.toInt ≤ 9) : Ci (S := ((Nat → Int32) × (Nat → Nat → Int32) × (Nat → Nat → Int64))) l D K yX12_baredOf cX12_baredOf 6 (some .int) 3 71 0 0 [.ref md, .int p0, .int p1] [(md, .inr (11, [.int mn0, .ref ma1, .ref ma2, .ref ma3, .ref ma4, .int mn5, .ref ma6, .int mn7, .int mn8, .int mn9, .int mn10, .int mn11, .int mn12, .int mn13, .ref ma14, .int mn15, .int mn16, .int mn17, .int mn18, .int mn19, .int mn20, .ref ma21, .ref ma22, .ref ma23, .ref ma24, .int mn25, .ref ma26, .ref ma27, .ref ma28, .ref ma29, .ref ma30, .ref ma31, .ref ma32, .ref ma33, .ref ma34, .ref ma35, .ref ma36, .int mn37, .int mn38, .int mn39, .ref ma40, .ref ma41, .ref ma42, .int mn43, .int mn44, .ref ma45, .ref ma46, .ref ma47, .int mn48, .ref ma49, .ref ma50, .ref ma51, .ref ma52])), (ma1, .inl (K 1, 262, .inl mf1)), (ma27, .inl (K 1, 10, .inl mf27)), (ma28, .inl (K 1, 10, .inl mf28))] (fun _ _ => True) (fun u => [(md, .inr (11, [.int mn0, .ref ma1, .ref ma2, .ref ma3, .ref ma4, .int mn5, .ref ma6, .int mn7, .int mn8, .int mn9, .int mn10, .int mn11, .int mn12, .int mn13, .ref ma14, .int mn15, .int mn16, .int mn17, .int mn18, .int mn19, .int mn20, .ref ma21, .ref ma22, .ref ma23, .ref ma24, .int mn25, .ref ma26, .ref ma27, .ref ma28, .ref ma29, .ref ma30, .ref ma31, .ref ma32, .ref ma33, .ref ma34, .ref ma35, .ref ma36, .int mn37, .int mn38, .int mn39, .ref ma40, .ref ma41, .ref ma42, .int mn43, .int mn44, .ref ma45, .ref ma46, .ref ma47, .int mn48, .ref ma49, .ref ma50, .ref ma51, .ref ma52])), (ma1, .inl (K 1, 262, .inl mf1)), (ma27, .inl (K 1, 10, .inl (u.2.1 0))), (ma28, .inl (K 1, 10, .inl (u.2.1 1)))]) := by
  intro sz
  refine ch_of (y := yX12_baredOf) (cc := cX12_baredOf) (maxL := 6) (ret := (some .int)) (av := [.ref md, .int p0, .int p1]) (ws := [(md, .inr (11, [.int mn0, .ref ma1, .ref ma2, .ref ma3, .ref ma4, .int mn5, .ref ma6, .int mn7, .int mn8, .int mn9, .int mn10, .int mn11, .int mn12, .int mn13, .ref ma14, .int mn15, .int mn16, .int mn17, .int mn18, .int mn19, .int mn20, .ref ma21, .ref ma22, .ref ma23, .ref ma24, .int mn25, .ref ma26, .ref ma27, .ref ma28, .ref ma29, .ref ma30, .ref ma31, .ref ma32, .ref ma33, .ref ma34, .ref ma35, .ref ma36, .int mn37, .int mn38, .int mn39, .ref ma40, .ref ma41, .ref ma42, .int mn43, .int mn44, .ref ma45, .ref ma46, .ref ma47, .int mn48, .ref ma49, .ref ma50, .ref ma51, .ref ma52])), (ma1, .inl (K 1, 262, .inl mf1)), (ma27, .inl (K 1, 10, .inl mf27)), (ma28, .inl (K 1, 10, .inl mf28))]) (D := D) (K := K) (Qc := fun A => va_Qi (S := ((Nat → Int32) × (Nat → Nat → Int32) × (Nat → Nat → Int64))) (fun _ _ => True) (chB D A (fun u => [(md, .inr (11, [.int mn0, .ref ma1, .ref ma2, .ref ma3, .ref ma4, .int mn5, .ref ma6, .int mn7, .int mn8, .int mn9, .int mn10, .int mn11, .int mn12, .int mn13, .ref ma14, .int mn15, .int mn16, .int mn17, .int mn18, .int mn19, .int mn20, .ref ma21, .ref ma22, .ref ma23, .ref ma24, .int mn25, .ref ma26, .ref ma27, .ref ma28, .ref ma29, .ref ma30, .ref ma31, .ref ma32, .ref ma33, .ref ma34, .ref ma35, .ref ma36, .int mn37, .int mn38, .int mn39, .ref ma40, .ref ma41, .ref ma42, .int mn43, .int mn44, .ref ma45, .ref ma46, .ref ma47, .int mn48, .ref ma49, .ref ma50, .ref ma51, .ref ma52])), (ma1, .inl (K 1, 262, .inl mf1)), (ma27, .inl (K 1, 10, .inl (u.2.1 0))), (ma28, .inl (K 1, 10, .inl (u.2.1 1)))])) A) (by decide) (Nat.le_of_ble_eq_true rfl) ?_
  intro p e s m below meth c A hC hr hk hin hE hD hA H locs hP hS ls hl
  replace hC : CallFix p m c cX12_baredOf 6 s [.ref md, .int p0, .int p1].toArray wl RX12 := hC
  have hx := hC.1
  have hb := hC.2.1
  have hml := hC.2.2.1
  have hown := hC.2.2.2.1
  have hts := hC.2.2.2.2
  replace hl : lv_has ls 6 [(0, .ref md), (1, .int p0), (2, .int p1)] := hl
  have kc_m1 : (-1 : Int32).toInt = -1 := by decide
  have kc_0 : (0 : Int32).toInt = 0 := by decide
  have kc_1 : (1 : Int32).toInt = 1 := by decide
  have hW0 := gwn_0 hs1_0; have hW1 := gwn_1 hs1_0; have hW2 := gwn_2 hs1_0; have hW4 := gwn_4 hs1_0
  refine lv_iconst (v := 0) hx hb dX12_baredOf_0 (by decide) ?_
  refine lv_istore_n (lv' := [(3, .int 0), (0, .ref md), (1, .int p0), (2, .int p1)]) hx hb dX12_baredOf_1 rfl hl (by decide) rfl (fun ls hl => ?_)
  refine lv_iconst (v := 0) hx hb dX12_baredOf_2 (by decide) ?_
  refine lv_istore (lv' := [(4, .int 0), (3, .int 0), (0, .ref md), (1, .int p0), (2, .int p1)]) hx hb dX12_baredOf_3 hl (by decide) rfl (fun ls hl => ?_)
  have hl' := hl; have hP' := hP; have hD' := hD; clear hl hP hD
  obtain ⟨i16194, i16195, hi_5, hb_5, hl, hP, hD⟩ : ∃ (i16194 : Int32) (i16195 : Int32), ((0 : Int) ≤ i16194.toInt) ∧ (0 ≤ i16195.toInt ∧ i16195.toInt ≤ 1023) ∧ lv_has ls 6 [(4, .int i16194), (3, .int i16195), (0, .ref md), (1, .int p0), (2, .int p1)] ∧ va_P D vwCl [(md, .inr (11, [.int mn0, .ref ma1, .ref ma2, .ref ma3, .ref ma4, .int mn5, .ref ma6, .int mn7, .int mn8, .int mn9, .int mn10, .int mn11, .int mn12, .int mn13, .ref ma14, .int mn15, .int mn16, .int mn17, .int mn18, .int mn19, .int mn20, .ref ma21, .ref ma22, .ref ma23, .ref ma24, .int mn25, .ref ma26, .ref ma27, .ref ma28, .ref ma29, .ref ma30, .ref ma31, .ref ma32, .ref ma33, .ref ma34, .ref ma35, .ref ma36, .int mn37, .int mn38, .int mn39, .ref ma40, .ref ma41, .ref ma42, .int mn43, .int mn44, .ref ma45, .ref ma46, .ref ma47, .int mn48, .ref ma49, .ref ma50, .ref ma51, .ref ma52])), (ma1, .inl (K 1, 262, .inl mf1)), (ma27, .inl (K 1, 10, .inl mf27)), (ma28, .inl (K 1, 10, .inl mf28))] H ∧ va_D A [(md, .inr (11, [.int mn0, .ref ma1, .ref ma2, .ref ma3, .ref ma4, .int mn5, .ref ma6, .int mn7, .int mn8, .int mn9, .int mn10, .int mn11, .int mn12, .int mn13, .ref ma14, .int mn15, .int mn16, .int mn17, .int mn18, .int mn19, .int mn20, .ref ma21, .ref ma22, .ref ma23, .ref ma24, .int mn25, .ref ma26, .ref ma27, .ref ma28, .ref ma29, .ref ma30, .ref ma31, .ref ma32, .ref ma33, .ref ma34, .ref ma35, .ref ma36, .int mn37, .int mn38, .int mn39, .ref ma40, .ref ma41, .ref ma42, .int mn43, .int mn44, .ref ma45, .ref ma46, .ref ma47, .int mn48, .ref ma49, .ref ma50, .ref ma51, .ref ma52])), (ma1, .inl (K 1, 262, .inl mf1)), (ma27, .inl (K 1, 10, .inl mf27)), (ma28, .inl (K 1, 10, .inl mf28))] := ⟨_, _, by omega, by omega, hl', hP', hD'⟩
  clear hl' hP' hD'
  obtain ⟨n_5, hn_5⟩ : ∃ n : Nat, (10 - i16194.toInt).toNat < n := ⟨_, Nat.lt_succ_self _⟩
  induction n_5 generalizing i16194 i16195 H locs ls with
  | zero => exact absurd hn_5 (Nat.not_lt_zero _)
  | succ n_5 ih_5 =>
    refine lv_iload hx hb dX12_baredOf_5 (lv_at hl 0 rfl) ?_
    refine lv_aload_n hx hb dX12_baredOf_7 rfl (lv_at hl 2 rfl) ?_
    refine va_get (D := D) (ci := 11) (v := .ref ma1) (C := RX12) (T := TX12) (N := 53) hx hb hts in_X12 hown hE.1 hP 0 rfl rfl 1 (by decide) (hts _ w_821) (fun _ h9 => h9) rfl dX12_baredOf_8 ?_
    refine lv_iconst (v := 0) hx hb dX12_baredOf_11 (by decide) ?_
    refine va_iald hx hb hE.1 hP 1 1 rfl rfl (in_c (by decide)) dX12_baredOf_12 ?_
    refine lv_topi (fun v16196 ev16196 => ?_)
    have tv16196 := gw_0 hs1_0 ev16196
    have zv16196 : v16196.toInt = (mf1 0).toInt := by rw [ev16196]; rfl
    refine lv_icmp_ge (tgt := 42) hx hb dX12_baredOf_13 (by decide) (fun c16197 => ?_) (fun c16197 => ?_)
    · replace c16197 := le_i c16197
      refine lv_iload_n hx hb dX12_baredOf_42 rfl (lv_at hl 1 rfl) ?_
      refine lv_istore (lv' := [(4, .int i16195), (3, .int i16195), (0, .ref md), (1, .int p0), (2, .int p1)]) hx hb dX12_baredOf_43 hl (by decide) rfl (fun ls hl => ?_)
      refine lv_iload_n hx hb dX12_baredOf_45 rfl (lv_at hl 1 rfl) ?_
      refine lv_istore (lv' := [(5, .int i16195), (4, .int i16195), (3, .int i16195), (0, .ref md), (1, .int p0), (2, .int p1)]) hx hb dX12_baredOf_46 hl (by decide) rfl (fun ls hl => ?_)
      have hl' := hl; have hP' := hP; have hD' := hD; clear hl hP hD
      obtain ⟨i16216, i16217, g16218, g16219, hv_48, hl, hP, hD⟩ : ∃ (i16216 : Int32) (i16217 : Int32) (g16218 : Nat → Int32) (g16219 : Nat → Int32), (-1 ≤ i16216.toInt ∧ i16216.toInt ≤ 1023) ∧ lv_has ls 6 [(5, .int i16216), (4, .int i16217), (3, .int i16195), (0, .ref md), (1, .int p0), (2, .int p1)] ∧ va_P D vwCl [(md, .inr (11, [.int mn0, .ref ma1, .ref ma2, .ref ma3, .ref ma4, .int mn5, .ref ma6, .int mn7, .int mn8, .int mn9, .int mn10, .int mn11, .int mn12, .int mn13, .ref ma14, .int mn15, .int mn16, .int mn17, .int mn18, .int mn19, .int mn20, .ref ma21, .ref ma22, .ref ma23, .ref ma24, .int mn25, .ref ma26, .ref ma27, .ref ma28, .ref ma29, .ref ma30, .ref ma31, .ref ma32, .ref ma33, .ref ma34, .ref ma35, .ref ma36, .int mn37, .int mn38, .int mn39, .ref ma40, .ref ma41, .ref ma42, .int mn43, .int mn44, .ref ma45, .ref ma46, .ref ma47, .int mn48, .ref ma49, .ref ma50, .ref ma51, .ref ma52])), (ma1, .inl (K 1, 262, .inl mf1)), (ma27, .inl (K 1, 10, .inl g16218)), (ma28, .inl (K 1, 10, .inl g16219))] H ∧ va_D A [(md, .inr (11, [.int mn0, .ref ma1, .ref ma2, .ref ma3, .ref ma4, .int mn5, .ref ma6, .int mn7, .int mn8, .int mn9, .int mn10, .int mn11, .int mn12, .int mn13, .ref ma14, .int mn15, .int mn16, .int mn17, .int mn18, .int mn19, .int mn20, .ref ma21, .ref ma22, .ref ma23, .ref ma24, .int mn25, .ref ma26, .ref ma27, .ref ma28, .ref ma29, .ref ma30, .ref ma31, .ref ma32, .ref ma33, .ref ma34, .ref ma35, .ref ma36, .int mn37, .int mn38, .int mn39, .ref ma40, .ref ma41, .ref ma42, .int mn43, .int mn44, .ref ma45, .ref ma46, .ref ma47, .int mn48, .ref ma49, .ref ma50, .ref ma51, .ref ma52])), (ma1, .inl (K 1, 262, .inl mf1)), (ma27, .inl (K 1, 10, .inl g16218)), (ma28, .inl (K 1, 10, .inl g16219))] := ⟨_, _, _, _, by omega, hl', hP', hD'⟩
      clear hl' hP' hD'
      obtain ⟨n_48, hn_48⟩ : ∃ n : Nat, (i16216.toInt + 1).toNat < n := ⟨_, Nat.lt_succ_self _⟩
      induction n_48 generalizing i16216 i16217 g16218 g16219 H locs ls with
      | zero => exact absurd hn_48 (Nat.not_lt_zero _)
      | succ n_48 ih_48 =>
        refine lv_iload hx hb dX12_baredOf_48 (lv_at hl 0 rfl) ?_
        refine lv_if_lt (tgt := 115) hx hb dX12_baredOf_50 (by decide) (fun c16220 => ?_) (fun c16220 => ?_)
        · replace c16220 := lt_i c16220
          refine lv_iload hx hb dX12_baredOf_115 (lv_at hl 1 rfl) ?_
          refine W.widen (k := 0) (n := 0) (by decide) (by decide) ?_
          exact ch_iret hC hr hk hS dX12_baredOf_117 ((fun k => [].getD k 0, fun k => [g16218, g16219].getD k (fun _ => 0), fun k => [].getD k (fun _ => 0)) : ((Nat → Int32) × (Nat → Nat → Int32) × (Nat → Nat → Int64))) trivial (hP.sub [0, 1, 2, 3] rfl) (hD.sub [0, 1, 2, 3] (by decide) rfl)
        · replace c16220 := nlt_i c16220
          refine lv_iload hx hb dX12_baredOf_53 (lv_at hl 0 rfl) ?_
          refine lv_iload_n hx hb dX12_baredOf_55 rfl (lv_at hl 2 rfl) ?_
          refine lv_iconst (v := (-1)) hx hb dX12_baredOf_56 (by decide) ?_
          refine lv_ixor hx hb dX12_baredOf_57 ?_
          refine lv_topi (fun v16221 ev16221 => ?_)
          refine lv_iand hx hb dX12_baredOf_58 ?_
          refine lv_topi (fun v16222 ev16222 => ?_)
          refine lv_if_ne (tgt := 109) hx hb dX12_baredOf_59 (by decide) (fun c16223 => ?_) (fun c16223 => ?_)
          · replace c16223 := ne_i c16223
            obtain ⟨v16224, ev16224⟩ : ∃ z : Int32, z = i16216 + (-1) := ⟨_, rfl⟩
            refine lv_iinc (v := v16224) (lv' := [(5, .int v16224), (4, .int i16217), (3, .int i16195), (0, .ref md), (1, .int p0), (2, .int p1)]) hx hb dX12_baredOf_109 hl (k := 0) rfl (by rw [ev16224]; rfl) (by decide) rfl (fun ls hl => ?_)
            refine lv_goto (tgt := 48) hx hb dX12_baredOf_112 (by decide) ?_
            have tv16224 : v16224.toInt = (i16216 : Int32).toInt + ((-1) : Int32).toInt := add_i ev16224 (by omega) (by omega)
            exact ih_48 (i16216 := v16224) (i16217 := i16217) (g16218 := g16218) (g16219 := g16219) (hv_48 := by omega) (H := H) (locs := locs) (ls := ls) (hn_48 := by omega) (hP := hP) (hD := hD) (hS := hS) (hl := lv_sub hl [0, 1, 2, 3, 4, 5] rfl)
          · replace c16223 := eq_i c16223
            refine lv_iload hx hb dX12_baredOf_62 (lv_at hl 0 rfl) ?_
            refine ro_S (As := [.int i16216]) (rest := []) hC hE kS_X12_316 (c_X12_bits l D K i16216) (hP.sub (ws' := []) [] rfl) rfl hl.1 rfl (Nat.le_of_ble_eq_true rfl) (by decide) (by decide) dX12_baredOf_64 (fun r16225 _ => ?_)
            refine lv_iload hx hb dX12_baredOf_67 (lv_at hl 1 rfl) ?_
            refine ro_S (As := [.int i16217]) (rest := [.int r16225]) hC hE kS_X12_316 (c_X12_bits l D K i16217) (hP.sub (ws' := []) [] rfl) rfl hl.1 rfl (Nat.le_of_ble_eq_true rfl) (by decide) (by decide) dX12_baredOf_69 (fun r16226 _ => ?_)
            refine lv_icmp_le (tgt := 78) hx hb dX12_baredOf_72 (by decide) (fun c16227 => ?_) (fun c16227 => ?_)
            · replace c16227 := le_i c16227
              refine lv_aload_n hx hb dX12_baredOf_78 rfl (lv_at hl 3 rfl) ?_
              refine lv_iload hx hb dX12_baredOf_79 (lv_at hl 0 rfl) ?_
              refine ci_V (As := [.int i16216]) (rest := []) (wc := [(md, .inr (11, [.int mn0, .ref ma1, .ref ma2, .ref ma3, .ref ma4, .int mn5, .ref ma6, .int mn7, .int mn8, .int mn9, .int mn10, .int mn11, .int mn12, .int mn13, .ref ma14, .int mn15, .int mn16, .int mn17, .int mn18, .int mn19, .int mn20, .ref ma21, .ref ma22, .ref ma23, .ref ma24, .int mn25, .ref ma26, .ref ma27, .ref ma28, .ref ma29, .ref ma30, .ref ma31, .ref ma32, .ref ma33, .ref ma34, .ref ma35, .ref ma36, .int mn37, .int mn38, .int mn39, .ref ma40, .ref ma41, .ref ma42, .int mn43, .int mn44, .ref ma45, .ref ma46, .ref ma47, .int mn48, .ref ma49, .ref ma50, .ref ma51, .ref ma52])), (ma1, .inl (K 1, 262, .inl mf1)), (ma27, .inl (K 1, 10, .inl g16218)), (ma28, .inl (K 1, 10, .inl g16219))]) (wr := []) hC hE kV_X12_397 (c_X12_fillKinds l D K md ma1 ma2 ma3 ma4 ma6 ma14 ma21 ma22 ma23 ma24 ma26 ma27 ma28 ma29 ma30 ma31 ma32 ma33 ma34 ma35 ma36 ma40 ma41 ma42 ma45 ma46 ma47 ma49 ma50 ma51 ma52 mn0 mn5 mn7 mn8 mn9 mn10 mn11 mn12 mn13 mn15 mn16 mn17 mn18 mn19 mn20 mn25 mn37 mn38 mn39 mn43 mn44 mn48 mf1 g16218 g16219 i16216 hs1_0) hP hD hS hA [0, 1, 2, 3] [] rfl rfl rfl (by decide) (by decide) (by decide) 0 11 rfl rfl rfl hl.1 rfl (Nat.le_of_ble_eq_true rfl) (by decide) (by decide) dX12_baredOf_81 (fun r16229 u16228 H locs hw hP hD hS => ?_)
              replace hP : va_P D vwCl [(md, .inr (11, [.int mn0, .ref ma1, .ref ma2, .ref ma3, .ref ma4, .int mn5, .ref ma6, .int mn7, .int mn8, .int mn9, .int mn10, .int mn11, .int mn12, .int mn13, .ref ma14, .int mn15, .int mn16, .int mn17, .int mn18, .int mn19, .int mn20, .ref ma21, .ref ma22, .ref ma23, .ref ma24, .int mn25, .ref ma26, .ref ma27, .ref ma28, .ref ma29, .ref ma30, .ref ma31, .ref ma32, .ref ma33, .ref ma34, .ref ma35, .ref ma36, .int mn37, .int mn38, .int mn39, .ref ma40, .ref ma41, .ref ma42, .int mn43, .int mn44, .ref ma45, .ref ma46, .ref ma47, .int mn48, .ref ma49, .ref ma50, .ref ma51, .ref ma52])), (ma1, .inl (K 1, 262, .inl mf1)), (ma27, .inl (K 1, 10, .inl (u16228.2.1 0))), (ma28, .inl (K 1, 10, .inl (u16228.2.1 1)))] H := hP
              replace hD : va_D A [(md, .inr (11, [.int mn0, .ref ma1, .ref ma2, .ref ma3, .ref ma4, .int mn5, .ref ma6, .int mn7, .int mn8, .int mn9, .int mn10, .int mn11, .int mn12, .int mn13, .ref ma14, .int mn15, .int mn16, .int mn17, .int mn18, .int mn19, .int mn20, .ref ma21, .ref ma22, .ref ma23, .ref ma24, .int mn25, .ref ma26, .ref ma27, .ref ma28, .ref ma29, .ref ma30, .ref ma31, .ref ma32, .ref ma33, .ref ma34, .ref ma35, .ref ma36, .int mn37, .int mn38, .int mn39, .ref ma40, .ref ma41, .ref ma42, .int mn43, .int mn44, .ref ma45, .ref ma46, .ref ma47, .int mn48, .ref ma49, .ref ma50, .ref ma51, .ref ma52])), (ma1, .inl (K 1, 262, .inl mf1)), (ma27, .inl (K 1, 10, .inl (u16228.2.1 0))), (ma28, .inl (K 1, 10, .inl (u16228.2.1 1)))] := hD
              replace hP : va_P D vwCl [(md, .inr (11, [.int mn0, .ref ma1, .ref ma2, .ref ma3, .ref ma4, .int mn5, .ref ma6, .int mn7, .int mn8, .int mn9, .int mn10, .int mn11, .int mn12, .int mn13, .ref ma14, .int mn15, .int mn16, .int mn17, .int mn18, .int mn19, .int mn20, .ref ma21, .ref ma22, .ref ma23, .ref ma24, .int mn25, .ref ma26, .ref ma27, .ref ma28, .ref ma29, .ref ma30, .ref ma31, .ref ma32, .ref ma33, .ref ma34, .ref ma35, .ref ma36, .int mn37, .int mn38, .int mn39, .ref ma40, .ref ma41, .ref ma42, .int mn43, .int mn44, .ref ma45, .ref ma46, .ref ma47, .int mn48, .ref ma49, .ref ma50, .ref ma51, .ref ma52])), (ma1, .inl (K 1, 262, .inl mf1)), (ma27, .inl (K 1, 10, .inl (u16228.2.1 0))), (ma28, .inl (K 1, 10, .inl (u16228.2.1 1)))] H := hP.sub [0, 1, 2, 3] rfl
              replace hD : va_D A [(md, .inr (11, [.int mn0, .ref ma1, .ref ma2, .ref ma3, .ref ma4, .int mn5, .ref ma6, .int mn7, .int mn8, .int mn9, .int mn10, .int mn11, .int mn12, .int mn13, .ref ma14, .int mn15, .int mn16, .int mn17, .int mn18, .int mn19, .int mn20, .ref ma21, .ref ma22, .ref ma23, .ref ma24, .int mn25, .ref ma26, .ref ma27, .ref ma28, .ref ma29, .ref ma30, .ref ma31, .ref ma32, .ref ma33, .ref ma34, .ref ma35, .ref ma36, .int mn37, .int mn38, .int mn39, .ref ma40, .ref ma41, .ref ma42, .int mn43, .int mn44, .ref ma45, .ref ma46, .ref ma47, .int mn48, .ref ma49, .ref ma50, .ref ma51, .ref ma52])), (ma1, .inl (K 1, 262, .inl mf1)), (ma27, .inl (K 1, 10, .inl (u16228.2.1 0))), (ma28, .inl (K 1, 10, .inl (u16228.2.1 1)))] := hD.sub [0, 1, 2, 3] (by decide) rfl
              refine W.widen (k := 0) (n := 0) (by decide) (by decide) ?_
              refine lv_pop hx hb dX12_baredOf_84 rfl ?_
              refine lv_aload_n hx hb dX12_baredOf_85 rfl (lv_at hl 3 rfl) ?_
              refine va_get (D := D) (ci := 11) (v := .ref ma27) (C := RX12) (T := TX12) (N := 53) hx hb hts in_X12 hown hE.1 hP 0 rfl rfl 27 (by decide) (hts _ w_1168) (fun _ h9 => h9) rfl dX12_baredOf_86 ?_
              refine lv_iload_n hx hb dX12_baredOf_89 rfl (lv_at hl 4 rfl) ?_
              refine va_iald hx hb hE.1 hP 2 1 rfl rfl (vp_in_iff.mpr (by omega)) dX12_baredOf_90 ?_
              refine lv_topi (fun v16230 ev16230 => ?_)
              refine lv_aload_n hx hb dX12_baredOf_91 rfl (lv_at hl 3 rfl) ?_
              refine va_get (D := D) (ci := 11) (v := .ref ma27) (C := RX12) (T := TX12) (N := 53) hx hb hts in_X12 hown hE.1 hP 0 rfl rfl 27 (by decide) (hts _ w_1168) (fun _ h9 => h9) rfl dX12_baredOf_92 ?_
              refine lv_iload_n hx hb dX12_baredOf_95 rfl (lv_at hl 5 rfl) ?_
              refine va_iald hx hb hE.1 hP 2 1 rfl rfl (vp_in_iff.mpr (by omega)) dX12_baredOf_96 ?_
              refine lv_topi (fun v16231 ev16231 => ?_)
              refine lv_icmp_ne (tgt := 105) hx hb dX12_baredOf_97 (by decide) (fun c16232 => ?_) (fun c16232 => ?_)
              · replace c16232 := ne_i c16232
                refine lv_iload hx hb dX12_baredOf_105 (lv_at hl 1 rfl) ?_
                refine lv_istore (lv' := [(4, .int i16217), (5, .int i16216), (3, .int i16195), (0, .ref md), (1, .int p0), (2, .int p1)]) hx hb dX12_baredOf_107 hl (by decide) rfl (fun ls hl => ?_)
                obtain ⟨v16233, ev16233⟩ : ∃ z : Int32, z = i16216 + (-1) := ⟨_, rfl⟩
                refine lv_iinc (v := v16233) (lv' := [(5, .int v16233), (4, .int i16217), (3, .int i16195), (0, .ref md), (1, .int p0), (2, .int p1)]) hx hb dX12_baredOf_109 hl (k := 1) rfl (by rw [ev16233]; rfl) (by decide) rfl (fun ls hl => ?_)
                refine lv_goto (tgt := 48) hx hb dX12_baredOf_112 (by decide) ?_
                have tv16233 : v16233.toInt = (i16216 : Int32).toInt + ((-1) : Int32).toInt := add_i ev16233 (by omega) (by omega)
                exact ih_48 (i16216 := v16233) (i16217 := i16217) (g16218 := (u16228.2.1 0)) (g16219 := (u16228.2.1 1)) (hv_48 := by omega) (H := H) (locs := locs) (ls := ls) (hn_48 := by omega) (hP := hP) (hD := hD) (hS := hS) (hl := lv_sub hl [0, 1, 2, 3, 4, 5] rfl)
              · replace c16232 := eq_i c16232
                refine lv_iload hx hb dX12_baredOf_100 (lv_at hl 0 rfl) ?_
                refine lv_goto (tgt := 107) hx hb dX12_baredOf_102 (by decide) ?_
                refine lv_istore (lv' := [(4, .int i16216), (5, .int i16216), (3, .int i16195), (0, .ref md), (1, .int p0), (2, .int p1)]) hx hb dX12_baredOf_107 hl (by decide) rfl (fun ls hl => ?_)
                obtain ⟨v16234, ev16234⟩ : ∃ z : Int32, z = i16216 + (-1) := ⟨_, rfl⟩
                refine lv_iinc (v := v16234) (lv' := [(5, .int v16234), (4, .int i16216), (3, .int i16195), (0, .ref md), (1, .int p0), (2, .int p1)]) hx hb dX12_baredOf_109 hl (k := 1) rfl (by rw [ev16234]; rfl) (by decide) rfl (fun ls hl => ?_)
                refine lv_goto (tgt := 48) hx hb dX12_baredOf_112 (by decide) ?_
                have tv16234 : v16234.toInt = (i16216 : Int32).toInt + ((-1) : Int32).toInt := add_i ev16234 (by omega) (by omega)
                exact ih_48 (i16216 := v16234) (i16217 := i16216) (g16218 := (u16228.2.1 0)) (g16219 := (u16228.2.1 1)) (hv_48 := by omega) (H := H) (locs := locs) (ls := ls) (hn_48 := by omega) (hP := hP) (hD := hD) (hS := hS) (hl := lv_sub hl [0, 1, 2, 3, 4, 5] rfl)
            · replace c16227 := nle_i c16227
              refine lv_goto (tgt := 109) hx hb dX12_baredOf_75 (by decide) ?_
              obtain ⟨v16235, ev16235⟩ : ∃ z : Int32, z = i16216 + (-1) := ⟨_, rfl⟩
              refine lv_iinc (v := v16235) (lv' := [(5, .int v16235), (4, .int i16217), (3, .int i16195), (0, .ref md), (1, .int p0), (2, .int p1)]) hx hb dX12_baredOf_109 hl (k := 0) rfl (by rw [ev16235]; rfl) (by decide) rfl (fun ls hl => ?_)
              refine lv_goto (tgt := 48) hx hb dX12_baredOf_112 (by decide) ?_
              have tv16235 : v16235.toInt = (i16216 : Int32).toInt + ((-1) : Int32).toInt := add_i ev16235 (by omega) (by omega)
              exact ih_48 (i16216 := v16235) (i16217 := i16217) (g16218 := g16218) (g16219 := g16219) (hv_48 := by omega) (H := H) (locs := locs) (ls := ls) (hn_48 := by omega) (hP := hP) (hD := hD) (hS := hS) (hl := lv_sub hl [0, 1, 2, 3, 4, 5] rfl)
    · replace c16197 := nle_i c16197
      refine lv_iload_n hx hb dX12_baredOf_16 rfl (lv_at hl 1 rfl) ?_
      refine lv_aload_n hx hb dX12_baredOf_17 rfl (lv_at hl 2 rfl) ?_
      refine lv_iload hx hb dX12_baredOf_18 (lv_at hl 0 rfl) ?_
      refine ro_V (As := [.int i16194]) (rest := [.int i16195]) hC hE kV_X12_276 (c_X12_markOf l D K md ma1 ma2 ma3 ma4 ma6 ma14 ma21 ma22 ma23 ma24 ma26 ma27 ma28 ma29 ma30 ma31 ma32 ma33 ma34 ma35 ma36 ma40 ma41 ma42 ma45 ma46 ma47 ma49 ma50 ma51 ma52 mn0 mn5 mn7 mn8 mn9 mn10 mn11 mn12 mn13 mn15 mn16 mn17 mn18 mn19 mn20 mn25 mn37 mn38 mn39 mn43 mn44 mn48 mf1 i16194 hs1_0 (by omega)) (hP.sub (ws' := [(md, .inr (11, [.int mn0, .ref ma1, .ref ma2, .ref ma3, .ref ma4, .int mn5, .ref ma6, .int mn7, .int mn8, .int mn9, .int mn10, .int mn11, .int mn12, .int mn13, .ref ma14, .int mn15, .int mn16, .int mn17, .int mn18, .int mn19, .int mn20, .ref ma21, .ref ma22, .ref ma23, .ref ma24, .int mn25, .ref ma26, .ref ma27, .ref ma28, .ref ma29, .ref ma30, .ref ma31, .ref ma32, .ref ma33, .ref ma34, .ref ma35, .ref ma36, .int mn37, .int mn38, .int mn39, .ref ma40, .ref ma41, .ref ma42, .int mn43, .int mn44, .ref ma45, .ref ma46, .ref ma47, .int mn48, .ref ma49, .ref ma50, .ref ma51, .ref ma52])), (ma1, .inl (K 1, 262, .inl mf1))]) [0, 1] rfl) 0 11 rfl rfl rfl hl.1 rfl (Nat.le_of_ble_eq_true rfl) (by decide) (by decide) dX12_baredOf_20 (fun r16239 hq => ?_)
      obtain ⟨h16236, h16237, h16238⟩ := hq
      refine lv_if_le (tgt := 33) hx hb dX12_baredOf_23 (by decide) (fun c16240 => ?_) (fun c16240 => ?_)
      · replace c16240 := le_i c16240
        refine lv_iconst (v := 0) hx hb dX12_baredOf_33 (by decide) ?_
        refine lv_ior hx hb dX12_baredOf_34 ?_
        refine lv_topi (fun v16241 ev16241 => ?_)
        refine lv_istore_n (lv' := [(3, .int v16241), (4, .int i16194), (0, .ref md), (1, .int p0), (2, .int p1)]) hx hb dX12_baredOf_35 rfl hl (by decide) rfl (fun ls hl => ?_)
        obtain ⟨v16242, ev16242⟩ : ∃ z : Int32, z = i16194 + 1 := ⟨_, rfl⟩
        refine lv_iinc (v := v16242) (lv' := [(4, .int v16242), (3, .int v16241), (0, .ref md), (1, .int p0), (2, .int p1)]) hx hb dX12_baredOf_36 hl (k := 1) rfl (by rw [ev16242]; rfl) (by decide) rfl (fun ls hl => ?_)
        refine lv_goto (tgt := 5) hx hb dX12_baredOf_39 (by decide) ?_
        have tv16242 : v16242.toInt = (i16194 : Int32).toInt + (1 : Int32).toInt := add_i ev16242 (by omega) (by omega)
        have tv16241 := or_b ev16241 (by omega) (by omega) (by omega) (by omega)
        exact ih_5 (i16194 := v16242) (i16195 := v16241) (hi_5 := by omega) (hb_5 := by omega) (H := H) (locs := locs) (ls := ls) (hn_5 := by omega) (hP := hP) (hS := hS) (hl := lv_sub hl [0, 1, 2, 3, 4] rfl)
      · replace c16240 := nle_i c16240
        refine lv_iconst (v := 1) hx hb dX12_baredOf_26 (by decide) ?_
        refine lv_iload hx hb dX12_baredOf_27 (lv_at hl 0 rfl) ?_
        refine lv_ishl hx hb dX12_baredOf_29 ?_
        refine lv_topi (fun v16243 ev16243 => ?_)
        refine lv_goto (tgt := 34) hx hb dX12_baredOf_30 (by decide) ?_
        refine lv_ior hx hb dX12_baredOf_34 ?_
        refine lv_topi (fun v16244 ev16244 => ?_)
        refine lv_istore_n (lv' := [(3, .int v16244), (4, .int i16194), (0, .ref md), (1, .int p0), (2, .int p1)]) hx hb dX12_baredOf_35 rfl hl (by decide) rfl (fun ls hl => ?_)
        obtain ⟨v16245, ev16245⟩ : ∃ z : Int32, z = i16194 + 1 := ⟨_, rfl⟩
        refine lv_iinc (v := v16245) (lv' := [(4, .int v16245), (3, .int v16244), (0, .ref md), (1, .int p0), (2, .int p1)]) hx hb dX12_baredOf_36 hl (k := 1) rfl (by rw [ev16245]; rfl) (by decide) rfl (fun ls hl => ?_)
        refine lv_goto (tgt := 5) hx hb dX12_baredOf_39 (by decide) ?_
        have tv16245 : v16245.toInt = (i16194 : Int32).toInt + (1 : Int32).toInt := add_i ev16245 (by omega) (by omega)
        have tv16243 := shl1_b ev16243 (by omega) (by omega)
        have tv16244 := or_b ev16244 (by omega) (by omega) (by omega) (by omega)
        exact ih_5 (i16194 := v16245) (i16195 := v16244) (hi_5 := by omega) (hb_5 := by omega) (H := H) (locs := locs) (ls := ls) (hn_5 := by omega) (hP := hP) (hS := hS) (hl := lv_sub hl [0, 1, 2, 3, 4] rfl)
