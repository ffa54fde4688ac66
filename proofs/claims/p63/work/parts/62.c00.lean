set_option maxRecDepth 40000 in
set_option maxHeartbeats 4000000 in
theorem c_X12_sameOn (l : Launch) (D : va_G) (K : Nat → ClassId) (md : Nat) (ma1 : Nat) (ma2 : Nat) (ma3 : Nat) (ma4 : Nat) (ma6 : Nat) (ma14 : Nat) (ma21 : Nat) (ma22 : Nat) (ma23 : Nat) (ma24 : Nat) (ma26 : Nat) (ma27 : Nat) (ma28 : Nat) (ma29 : Nat) (ma30 : Nat) (ma31 : Nat) (ma32 : Nat) (ma33 : Nat) (ma34 : Nat) (ma35 : Nat) (ma36 : Nat) (ma40 : Nat) (ma41 : Nat) (ma42 : Nat) (ma45 : Nat) (ma46 : Nat) (ma47 : Nat) (ma49 : Nat) (ma50 : Nat) (ma51 : Nat) (ma52 : Nat) (mn0 : Int32) (mn5 : Int32) (mn7 : Int32) (mn8 : Int32) (mn9 : Int32) (mn10 : Int32) (mn11 : Int32) (mn12 : Int32) (mn13 : Int32) (mn15 : Int32) (mn16 : Int32) (mn17 : Int32) (mn18 : Int32) (mn19 : Int32) (mn20 : Int32) (mn25 : Int32) (mn37 : Int32) (mn38 : Int32) (mn39 : Int32) (mn43 : Int32) (mn44 : Int32) (mn48 : Int32) (mf1 : Nat → Int32) (mf27 : Nat → Int32) (p0 : Int32) (p1 : Int32) (hs1_0 : GW mf1) (ha0 : 0 ≤ p0.toInt ∧ p0.toInt ≤ 9) (ha1 : 0 ≤ p1.toInt ∧ p1.toInt ≤ 9) : Ro l D K yX12_sameOn cX12_sameOn 5 (some .boolean) 1 22 [.ref md, .int p0, .int p1] [(md, .inr (11, [.int mn0, .ref ma1, .ref ma2, .ref ma3, .ref ma4, .int mn5, .ref ma6, .int mn7, .int mn8, .int mn9, .int mn10, .int mn11, .int mn12, .int mn13, .ref ma14, .int mn15, .int mn16, .int mn17, .int mn18, .int mn19, .int mn20, .ref ma21, .ref ma22, .ref ma23, .ref ma24, .int mn25, .ref ma26, .ref ma27, .ref ma28, .ref ma29, .ref ma30, .ref ma31, .ref ma32, .ref ma33, .ref ma34, .ref ma35, .ref ma36, .int mn37, .int mn38, .int mn39, .ref ma40, .ref ma41, .ref ma42, .int mn43, .int mn44, .ref ma45, .ref ma46, .ref ma47, .int mn48, .ref ma49, .ref ma50, .ref ma51, .ref ma52])), (ma1, .inl (K 1, 262, .inl mf1)), (ma27, .inl (K 1, 10, .inl mf27))] (fun r => (r = 0) ∨ (r = 1 ∧ ((mf27 p0.toInt.toNat).toInt = (mf27 p1.toInt.toNat).toInt))) := by
  refine ro_of (by decide) (Nat.le_of_ble_eq_true rfl) ?_
  intro p e s m below meth c hC hr hk hE hP ls hl
  replace hC : CallFix p m c cX12_sameOn 5 s [.ref md, .int p0, .int p1].toArray wl RX12 := hC
  have hx := hC.1
  have hb := hC.2.1
  have hml := hC.2.2.1
  have hown := hC.2.2.2.1
  have hts := hC.2.2.2.2
  replace hl : lv_has ls 5 [(0, .ref md), (1, .int p0), (2, .int p1)] := hl
  have kc_0 : (0 : Int32).toInt = 0 := by decide
  have kc_1 : (1 : Int32).toInt = 1 := by decide
  have kc_4 : (4 : Int32).toInt = 4 := by decide
  have hW0 := gwn_0 hs1_0; have hW1 := gwn_1 hs1_0; have hW2 := gwn_2 hs1_0; have hW4 := gwn_4 hs1_0
  refine lv_aload_n hx hb dX12_sameOn_0 rfl (lv_at hl 0 rfl) ?_
  refine va_get (D := D) (ci := 11) (v := .ref ma27) (C := RX12) (T := TX12) (N := 53) hx hb hts in_X12 hown hE.1 hP 0 rfl rfl 27 (by decide) (hts _ w_1168) (fun _ h9 => h9) rfl dX12_sameOn_1 ?_
  refine lv_iload_n hx hb dX12_sameOn_4 rfl (lv_at hl 1 rfl) ?_
  refine va_iald hx hb hE.1 hP 2 1 rfl rfl (vp_in_iff.mpr (by omega)) dX12_sameOn_5 ?_
  refine lv_topi (fun v15817 ev15817 => ?_)
  have zv15817 : v15817.toInt = (mf27 p0.toInt.toNat).toInt := by rw [ev15817]; rfl
  refine lv_aload_n hx hb dX12_sameOn_6 rfl (lv_at hl 0 rfl) ?_
  refine va_get (D := D) (ci := 11) (v := .ref ma27) (C := RX12) (T := TX12) (N := 53) hx hb hts in_X12 hown hE.1 hP 0 rfl rfl 27 (by decide) (hts _ w_1168) (fun _ h9 => h9) rfl dX12_sameOn_7 ?_
  refine lv_iload_n hx hb dX12_sameOn_10 rfl (lv_at hl 2 rfl) ?_
  refine va_iald hx hb hE.1 hP 2 1 rfl rfl (vp_in_iff.mpr (by omega)) dX12_sameOn_11 ?_
  refine lv_topi (fun v15818 ev15818 => ?_)
  have zv15818 : v15818.toInt = (mf27 p1.toInt.toNat).toInt := by rw [ev15818]; rfl
  refine lv_icmp_ne (tgt := 19) hx hb dX12_sameOn_12 (by decide) (fun c15819 => ?_) (fun c15819 => ?_)
  · replace c15819 := ne_i c15819
    refine lv_iconst (v := 0) hx hb dX12_sameOn_19 (by decide) ?_
    refine lv_istore_n (lv' := [(3, .int 0), (0, .ref md), (1, .int p0), (2, .int p1)]) hx hb dX12_sameOn_20 rfl hl (by decide) rfl (fun ls hl => ?_)
    refine lv_iconst (v := 0) hx hb dX12_sameOn_21 (by decide) ?_
    refine lv_istore (lv' := [(4, .int 0), (3, .int 0), (0, .ref md), (1, .int p0), (2, .int p1)]) hx hb dX12_sameOn_22 hl (by decide) rfl (fun ls hl => ?_)
    have hl' := hl; clear hl
    obtain ⟨i15837, i15838, hi_24, hv_24, hl⟩ : ∃ (i15837 : Int32) (i15838 : Int32), ((0 : Int) ≤ i15837.toInt) ∧ (i15838.toInt = 0 ∨ (i15838.toInt = 1 ∧ (mf27 p0.toInt.toNat).toInt = (mf27 p1.toInt.toNat).toInt)) ∧ lv_has ls 5 [(4, .int i15837), (3, .int i15838), (0, .ref md), (1, .int p0), (2, .int p1)] := ⟨_, _, by omega, by omega, hl'⟩
    clear hl'
    obtain ⟨n_24, hn_24⟩ : ∃ n : Nat, (4 - i15837.toInt).toNat < n := ⟨_, Nat.lt_succ_self _⟩
    induction n_24 generalizing i15837 i15838 ls with
    | zero => exact absurd hn_24 (Nat.not_lt_zero _)
    | succ n_24 ih_24 =>
      refine lv_iload hx hb dX12_sameOn_24 (lv_at hl 0 rfl) ?_
      refine lv_iconst (v := 4) hx hb dX12_sameOn_26 (by decide) ?_
      refine lv_icmp_ge (tgt := 73) hx hb dX12_sameOn_27 (by decide) (fun c15839 => ?_) (fun c15839 => ?_)
      · replace c15839 := le_i c15839
        refine lv_iload_n hx hb dX12_sameOn_73 rfl (lv_at hl 1 rfl) ?_
        rcases b01 (show (i15838 : Int32).toInt = 0 ∨ (i15838 : Int32).toInt = 1 by omega) with hb15840 | hb15840
        · refine tc (y := 0) hb15840 ?_
          have hb15840i := eq_i hb15840
          exact ro_zret hC hr hk dX12_sameOn_74 rfl (Or.inl rfl)
        · refine tc (y := 1) hb15840 ?_
          have hb15840i := eq_i hb15840
          exact ro_zret hC hr hk dX12_sameOn_74 rfl (Or.inr ⟨rfl, (by omega)⟩)
      · replace c15839 := nle_i c15839
        refine lv_iload_n hx hb dX12_sameOn_30 rfl (lv_at hl 1 rfl) ?_
        refine lv_if_eq (tgt := 73) hx hb dX12_sameOn_31 (by decide) (fun c15841 => ?_) (fun c15841 => ?_)
        · replace c15841 := eq_i c15841
          refine lv_iload_n hx hb dX12_sameOn_73 rfl (lv_at hl 1 rfl) ?_
          rcases b01 (show (i15838 : Int32).toInt = 0 ∨ (i15838 : Int32).toInt = 1 by omega) with hb15842 | hb15842
          · refine tc (y := 0) hb15842 ?_
            have hb15842i := eq_i hb15842
            exact ro_zret hC hr hk dX12_sameOn_74 rfl (Or.inl rfl)
          · refine tc (y := 1) hb15842 ?_
            have hb15842i := eq_i hb15842
            exact ro_zret hC hr hk dX12_sameOn_74 rfl (Or.inr ⟨rfl, (by omega)⟩)
        · replace c15841 := ne_i c15841
          refine lv_aload_n hx hb dX12_sameOn_34 rfl (lv_at hl 2 rfl) ?_
          refine va_get (D := D) (ci := 11) (v := .ref ma27) (C := RX12) (T := TX12) (N := 53) hx hb hts in_X12 hown hE.1 hP 0 rfl rfl 27 (by decide) (hts _ w_1168) (fun _ h9 => h9) rfl dX12_sameOn_35 ?_
          refine lv_aload_n hx hb dX12_sameOn_38 rfl (lv_at hl 2 rfl) ?_
          refine lv_iload_n hx hb dX12_sameOn_39 rfl (lv_at hl 3 rfl) ?_
          refine lv_iload hx hb dX12_sameOn_40 (lv_at hl 0 rfl) ?_
          refine ro_V (As := [.int p0, .int i15837]) (rest := [.ref ma27]) hC hE kV_X12_273 (c_X12_leadsTo l D K md ma1 ma2 ma3 ma4 ma6 ma14 ma21 ma22 ma23 ma24 ma26 ma27 ma28 ma29 ma30 ma31 ma32 ma33 ma34 ma35 ma36 ma40 ma41 ma42 ma45 ma46 ma47 ma49 ma50 ma51 ma52 mn0 mn5 mn7 mn8 mn9 mn10 mn11 mn12 mn13 mn15 mn16 mn17 mn18 mn19 mn20 mn25 mn37 mn38 mn39 mn43 mn44 mn48 mf1 p0 i15837 hs1_0 (by omega) (by omega)) (hP.sub (ws' := [(md, .inr (11, [.int mn0, .ref ma1, .ref ma2, .ref ma3, .ref ma4, .int mn5, .ref ma6, .int mn7, .int mn8, .int mn9, .int mn10, .int mn11, .int mn12, .int mn13, .ref ma14, .int mn15, .int mn16, .int mn17, .int mn18, .int mn19, .int mn20, .ref ma21, .ref ma22, .ref ma23, .ref ma24, .int mn25, .ref ma26, .ref ma27, .ref ma28, .ref ma29, .ref ma30, .ref ma31, .ref ma32, .ref ma33, .ref ma34, .ref ma35, .ref ma36, .int mn37, .int mn38, .int mn39, .ref ma40, .ref ma41, .ref ma42, .int mn43, .int mn44, .ref ma45, .ref ma46, .ref ma47, .int mn48, .ref ma49, .ref ma50, .ref ma51, .ref ma52])), (ma1, .inl (K 1, 262, .inl mf1))]) [0, 1] rfl) 0 11 rfl rfl rfl hl.1 rfl (Nat.le_of_ble_eq_true rfl) (by decide) (by decide) dX12_sameOn_42 (fun r15846 hq => ?_)
          obtain ⟨h15843, h15844, h15845⟩ := hq
          refine va_iald hx hb hE.1 hP 2 1 rfl rfl (vp_in_iff.mpr (by omega)) dX12_sameOn_45 ?_
          refine lv_topi (fun v15847 ev15847 => ?_)
          have zv15847 : v15847.toInt = (mf27 r15846.toInt.toNat).toInt := by rw [ev15847]; rfl
          refine lv_aload_n hx hb dX12_sameOn_46 rfl (lv_at hl 2 rfl) ?_
          refine va_get (D := D) (ci := 11) (v := .ref ma27) (C := RX12) (T := TX12) (N := 53) hx hb hts in_X12 hown hE.1 hP 0 rfl rfl 27 (by decide) (hts _ w_1168) (fun _ h9 => h9) rfl dX12_sameOn_47 ?_
          refine lv_aload_n hx hb dX12_sameOn_50 rfl (lv_at hl 2 rfl) ?_
          refine lv_iload_n hx hb dX12_sameOn_51 rfl (lv_at hl 4 rfl) ?_
          refine lv_iload hx hb dX12_sameOn_52 (lv_at hl 0 rfl) ?_
          refine ro_V (As := [.int p1, .int i15837]) (rest := [.ref ma27, .int v15847]) hC hE kV_X12_273 (c_X12_leadsTo l D K md ma1 ma2 ma3 ma4 ma6 ma14 ma21 ma22 ma23 ma24 ma26 ma27 ma28 ma29 ma30 ma31 ma32 ma33 ma34 ma35 ma36 ma40 ma41 ma42 ma45 ma46 ma47 ma49 ma50 ma51 ma52 mn0 mn5 mn7 mn8 mn9 mn10 mn11 mn12 mn13 mn15 mn16 mn17 mn18 mn19 mn20 mn25 mn37 mn38 mn39 mn43 mn44 mn48 mf1 p1 i15837 hs1_0 (by omega) (by omega)) (hP.sub (ws' := [(md, .inr (11, [.int mn0, .ref ma1, .ref ma2, .ref ma3, .ref ma4, .int mn5, .ref ma6, .int mn7, .int mn8, .int mn9, .int mn10, .int mn11, .int mn12, .int mn13, .ref ma14, .int mn15, .int mn16, .int mn17, .int mn18, .int mn19, .int mn20, .ref ma21, .ref ma22, .ref ma23, .ref ma24, .int mn25, .ref ma26, .ref ma27, .ref ma28, .ref ma29, .ref ma30, .ref ma31, .ref ma32, .ref ma33, .ref ma34, .ref ma35, .ref ma36, .int mn37, .int mn38, .int mn39, .ref ma40, .ref ma41, .ref ma42, .int mn43, .int mn44, .ref ma45, .ref ma46, .ref ma47, .int mn48, .ref ma49, .ref ma50, .ref ma51, .ref ma52])), (ma1, .inl (K 1, 262, .inl mf1))]) [0, 1] rfl) 0 11 rfl rfl rfl hl.1 rfl (Nat.le_of_ble_eq_true rfl) (by decide) (by decide) dX12_sameOn_54 (fun r15851 hq => ?_)
          obtain ⟨h15848, h15849, h15850⟩ := hq
          refine va_iald hx hb hE.1 hP 2 1 rfl rfl (vp_in_iff.mpr (by omega)) dX12_sameOn_57 ?_
          refine lv_topi (fun v15852 ev15852 => ?_)
          have zv15852 : v15852.toInt = (mf27 r15851.toInt.toNat).toInt := by rw [ev15852]; rfl
          refine lv_icmp_ne (tgt := 65) hx hb dX12_sameOn_58 (by decide) (fun c15853 => ?_) (fun c15853 => ?_)
          · replace c15853 := ne_i c15853
            refine lv_iconst (v := 0) hx hb dX12_sameOn_65 (by decide) ?_
            refine lv_istore_n (lv' := [(3, .int 0), (4, .int i15837), (0, .ref md), (1, .int p0), (2, .int p1)]) hx hb dX12_sameOn_66 rfl hl (by decide) rfl (fun ls hl => ?_)
            obtain ⟨v15854, ev15854⟩ : ∃ z : Int32, z = i15837 + 1 := ⟨_, rfl⟩
            refine lv_iinc (v := v15854) (lv' := [(4, .int v15854), (3, .int 0), (0, .ref md), (1, .int p0), (2, .int p1)]) hx hb dX12_sameOn_67 hl (k := 1) rfl (by rw [ev15854]; rfl) (by decide) rfl (fun ls hl => ?_)
            refine lv_goto (tgt := 24) hx hb dX12_sameOn_70 (by decide) ?_
            have tv15854 : v15854.toInt = (i15837 : Int32).toInt + (1 : Int32).toInt := add_i ev15854 (by omega) (by omega)
            exact ih_24 (i15837 := v15854) (i15838 := 0) (hi_24 := by omega) (hv_24 := by omega) (ls := ls) (hn_24 := by omega) (hl := lv_sub hl [0, 1, 2, 3, 4] rfl)
          · replace c15853 := eq_i c15853
            refine lv_iconst (v := 1) hx hb dX12_sameOn_61 (by decide) ?_
            refine lv_goto (tgt := 66) hx hb dX12_sameOn_62 (by decide) ?_
            refine lv_istore_n (lv' := [(3, .int 1), (4, .int i15837), (0, .ref md), (1, .int p0), (2, .int p1)]) hx hb dX12_sameOn_66 rfl hl (by decide) rfl (fun ls hl => ?_)
            obtain ⟨v15855, ev15855⟩ : ∃ z : Int32, z = i15837 + 1 := ⟨_, rfl⟩
            refine lv_iinc (v := v15855) (lv' := [(4, .int v15855), (3, .int 1), (0, .ref md), (1, .int p0), (2, .int p1)]) hx hb dX12_sameOn_67 hl (k := 1) rfl (by rw [ev15855]; rfl) (by decide) rfl (fun ls hl => ?_)
            refine lv_goto (tgt := 24) hx hb dX12_sameOn_70 (by decide) ?_
            have tv15855 : v15855.toInt = (i15837 : Int32).toInt + (1 : Int32).toInt := add_i ev15855 (by omega) (by omega)
            exact ih_24 (i15837 := v15855) (i15838 := 1) (hi_24 := by omega) (hv_24 := by omega) (ls := ls) (hn_24 := by omega) (hl := lv_sub hl [0, 1, 2, 3, 4] rfl)
  · replace c15819 := eq_i c15819
    refine lv_iconst (v := 1) hx hb dX12_sameOn_15 (by decide) ?_
    refine lv_goto (tgt := 20) hx hb dX12_sameOn_16 (by decide) ?_
    refine lv_istore_n (lv' := [(3, .int 1), (0, .ref md), (1, .int p0), (2, .int p1)]) hx hb dX12_sameOn_20 rfl hl (by decide) rfl (fun ls hl => ?_)
    refine lv_iconst (v := 0) hx hb dX12_sameOn_21 (by decide) ?_
    refine lv_istore (lv' := [(4, .int 0), (3, .int 1), (0, .ref md), (1, .int p0), (2, .int p1)]) hx hb dX12_sameOn_22 hl (by decide) rfl (fun ls hl => ?_)
    have hl' := hl; clear hl
    obtain ⟨i15873, i15874, hi_24, hv_24, hl⟩ : ∃ (i15873 : Int32) (i15874 : Int32), ((0 : Int) ≤ i15873.toInt) ∧ (i15874.toInt = 0 ∨ (i15874.toInt = 1 ∧ (mf27 p0.toInt.toNat).toInt = (mf27 p1.toInt.toNat).toInt)) ∧ lv_has ls 5 [(4, .int i15873), (3, .int i15874), (0, .ref md), (1, .int p0), (2, .int p1)] := ⟨_, _, by omega, by omega, hl'⟩
    clear hl'
    obtain ⟨n_24, hn_24⟩ : ∃ n : Nat, (4 - i15873.toInt).toNat < n := ⟨_, Nat.lt_succ_self _⟩
    induction n_24 generalizing i15873 i15874 ls with
    | zero => exact absurd hn_24 (Nat.not_lt_zero _)
    | succ n_24 ih_24 =>
      refine lv_iload hx hb dX12_sameOn_24 (lv_at hl 0 rfl) ?_
      refine lv_iconst (v := 4) hx hb dX12_sameOn_26 (by decide) ?_
      refine lv_icmp_ge (tgt := 73) hx hb dX12_sameOn_27 (by decide) (fun c15875 => ?_) (fun c15875 => ?_)
      · replace c15875 := le_i c15875
        refine lv_iload_n hx hb dX12_sameOn_73 rfl (lv_at hl 1 rfl) ?_
        rcases b01 (show (i15874 : Int32).toInt = 0 ∨ (i15874 : Int32).toInt = 1 by omega) with hb15876 | hb15876
        · refine tc (y := 0) hb15876 ?_
          have hb15876i := eq_i hb15876
          exact ro_zret hC hr hk dX12_sameOn_74 rfl (Or.inl rfl)
        · refine tc (y := 1) hb15876 ?_
          have hb15876i := eq_i hb15876
          exact ro_zret hC hr hk dX12_sameOn_74 rfl (Or.inr ⟨rfl, (by omega)⟩)
      · replace c15875 := nle_i c15875
        refine lv_iload_n hx hb dX12_sameOn_30 rfl (lv_at hl 1 rfl) ?_
        refine lv_if_eq (tgt := 73) hx hb dX12_sameOn_31 (by decide) (fun c15877 => ?_) (fun c15877 => ?_)
        · replace c15877 := eq_i c15877
          refine lv_iload_n hx hb dX12_sameOn_73 rfl (lv_at hl 1 rfl) ?_
          rcases b01 (show (i15874 : Int32).toInt = 0 ∨ (i15874 : Int32).toInt = 1 by omega) with hb15878 | hb15878
          · refine tc (y := 0) hb15878 ?_
            have hb15878i := eq_i hb15878
            exact ro_zret hC hr hk dX12_sameOn_74 rfl (Or.inl rfl)
          · refine tc (y := 1) hb15878 ?_
            have hb15878i := eq_i hb15878
            exact ro_zret hC hr hk dX12_sameOn_74 rfl (Or.inr ⟨rfl, (by omega)⟩)
        · replace c15877 := ne_i c15877
          refine lv_aload_n hx hb dX12_sameOn_34 rfl (lv_at hl 2 rfl) ?_
          refine va_get (D := D) (ci := 11) (v := .ref ma27) (C := RX12) (T := TX12) (N := 53) hx hb hts in_X12 hown hE.1 hP 0 rfl rfl 27 (by decide) (hts _ w_1168) (fun _ h9 => h9) rfl dX12_sameOn_35 ?_
          refine lv_aload_n hx hb dX12_sameOn_38 rfl (lv_at hl 2 rfl) ?_
          refine lv_iload_n hx hb dX12_sameOn_39 rfl (lv_at hl 3 rfl) ?_
          refine lv_iload hx hb dX12_sameOn_40 (lv_at hl 0 rfl) ?_
          refine ro_V (As := [.int p0, .int i15873]) (rest := [.ref ma27]) hC hE kV_X12_273 (c_X12_leadsTo l D K md ma1 ma2 ma3 ma4 ma6 ma14 ma21 ma22 ma23 ma24 ma26 ma27 ma28 ma29 ma30 ma31 ma32 ma33 ma34 ma35 ma36 ma40 ma41 ma42 ma45 ma46 ma47 ma49 ma50 ma51 ma52 mn0 mn5 mn7 mn8 mn9 mn10 mn11 mn12 mn13 mn15 mn16 mn17 mn18 mn19 mn20 mn25 mn37 mn38 mn39 mn43 mn44 mn48 mf1 p0 i15873 hs1_0 (by omega) (by omega)) (hP.sub (ws' := [(md, .inr (11, [.int mn0, .ref ma1, .ref ma2, .ref ma3, .ref ma4, .int mn5, .ref ma6, .int mn7, .int mn8, .int mn9, .int mn10, .int mn11, .int mn12, .int mn13, .ref ma14, .int mn15, .int mn16, .int mn17, .int mn18, .int mn19, .int mn20, .ref ma21, .ref ma22, .ref ma23, .ref ma24, .int mn25, .ref ma26, .ref ma27, .ref ma28, .ref ma29, .ref ma30, .ref ma31, .ref ma32, .ref ma33, .ref ma34, .ref ma35, .ref ma36, .int mn37, .int mn38, .int mn39, .ref ma40, .ref ma41, .ref ma42, .int mn43, .int mn44, .ref ma45, .ref ma46, .ref ma47, .int mn48, .ref ma49, .ref ma50, .ref ma51, .ref ma52])), (ma1, .inl (K 1, 262, .inl mf1))]) [0, 1] rfl) 0 11 rfl rfl rfl hl.1 rfl (Nat.le_of_ble_eq_true rfl) (by decide) (by decide) dX12_sameOn_42 (fun r15882 hq => ?_)
          obtain ⟨h15879, h15880, h15881⟩ := hq
          refine va_iald hx hb hE.1 hP 2 1 rfl rfl (vp_in_iff.mpr (by omega)) dX12_sameOn_45 ?_
          refine lv_topi (fun v15883 ev15883 => ?_)
          have zv15883 : v15883.toInt = (mf27 r15882.toInt.toNat).toInt := by rw [ev15883]; rfl
          refine lv_aload_n hx hb dX12_sameOn_46 rfl (lv_at hl 2 rfl) ?_
          refine va_get (D := D) (ci := 11) (v := .ref ma27) (C := RX12) (T := TX12) (N := 53) hx hb hts in_X12 hown hE.1 hP 0 rfl rfl 27 (by decide) (hts _ w_1168) (fun _ h9 => h9) rfl dX12_sameOn_47 ?_
          refine lv_aload_n hx hb dX12_sameOn_50 rfl (lv_at hl 2 rfl) ?_
          refine lv_iload_n hx hb dX12_sameOn_51 rfl (lv_at hl 4 rfl) ?_
          refine lv_iload hx hb dX12_sameOn_52 (lv_at hl 0 rfl) ?_
          refine ro_V (As := [.int p1, .int i15873]) (rest := [.ref ma27, .int v15883]) hC hE kV_X12_273 (c_X12_leadsTo l D K md ma1 ma2 ma3 ma4 ma6 ma14 ma21 ma22 ma23 ma24 ma26 ma27 ma28 ma29 ma30 ma31 ma32 ma33 ma34 ma35 ma36 ma40 ma41 ma42 ma45 ma46 ma47 ma49 ma50 ma51 ma52 mn0 mn5 mn7 mn8 mn9 mn10 mn11 mn12 mn13 mn15 mn16 mn17 mn18 mn19 mn20 mn25 mn37 mn38 mn39 mn43 mn44 mn48 mf1 p1 i15873 hs1_0 (by omega) (by omega)) (hP.sub (ws' := [(md, .inr (11, [.int mn0, .ref ma1, .ref ma2, .ref ma3, .ref ma4, .int mn5, .ref ma6, .int mn7, .int mn8, .int mn9, .int mn10, .int mn11, .int mn12, .int mn13, .ref ma14, .int mn15, .int mn16, .int mn17, .int mn18, .int mn19, .int mn20, .ref ma21, .ref ma22, .ref ma23, .ref ma24, .int mn25, .ref ma26, .ref ma27, .ref ma28, .ref ma29, .ref ma30, .ref ma31, .ref ma32, .ref ma33, .ref ma34, .ref ma35, .ref ma36, .int mn37, .int mn38, .int mn39, .ref ma40, .ref ma41, .ref ma42, .int mn43, .int mn44, .ref ma45, .ref ma46, .ref ma47, .int mn48, .ref ma49, .ref ma50, .ref ma51, .ref ma52])), (ma1, .inl (K 1, 262, .inl mf1))]) [0, 1] rfl) 0 11 rfl rfl rfl hl.1 rfl (Nat.le_of_ble_eq_true rfl) (by decide) (by decide) dX12_sameOn_54 (fun r15887 hq => ?_)
          obtain ⟨h15884, h15885, h15886⟩ := hq
          refine va_iald hx hb hE.1 hP 2 1 rfl rfl (vp_in_iff.mpr (by omega)) dX12_sameOn_57 ?_
          refine lv_topi (fun v15888 ev15888 => ?_)
          have zv15888 : v15888.toInt = (mf27 r15887.toInt.toNat).toInt := by rw [ev15888]; rfl
          refine lv_icmp_ne (tgt := 65) hx hb dX12_sameOn_58 (by decide) (fun c15889 => ?_) (fun c15889 => ?_)
          · replace c15889 := ne_i c15889
            refine lv_iconst (v := 0) hx hb dX12_sameOn_65 (by decide) ?_
            refine lv_istore_n (lv' := [(3, .int 0), (4, .int i15873), (0, .ref md), (1, .int p0), (2, .int p1)]) hx hb dX12_sameOn_66 rfl hl (by decide) rfl (fun ls hl => ?_)
            obtain ⟨v15890, ev15890⟩ : ∃ z : Int32, z = i15873 + 1 := ⟨_, rfl⟩
            refine lv_iinc (v := v15890) (lv' := [(4, .int v15890), (3, .int 0), (0, .ref md), (1, .int p0), (2, .int p1)]) hx hb dX12_sameOn_67 hl (k := 1) rfl (by rw [ev15890]; rfl) (by decide) rfl (fun ls hl => ?_)
            refine lv_goto (tgt := 24) hx hb dX12_sameOn_70 (by decide) ?_
            have tv15890 : v15890.toInt = (i15873 : Int32).toInt + (1 : Int32).toInt := add_i ev15890 (by omega) (by omega)
            exact ih_24 (i15873 := v15890) (i15874 := 0) (hi_24 := by omega) (hv_24 := by omega) (ls := ls) (hn_24 := by omega) (hl := lv_sub hl [0, 1, 2, 3, 4] rfl)
          · replace c15889 := eq_i c15889
            refine lv_iconst (v := 1) hx hb dX12_sameOn_61 (by decide) ?_
            refine lv_goto (tgt := 66) hx hb dX12_sameOn_62 (by decide) ?_
            refine lv_istore_n (lv' := [(3, .int 1), (4, .int i15873), (0, .ref md), (1, .int p0), (2, .int p1)]) hx hb dX12_sameOn_66 rfl hl (by decide) rfl (fun ls hl => ?_)
            obtain ⟨v15891, ev15891⟩ : ∃ z : Int32, z = i15873 + 1 := ⟨_, rfl⟩
            refine lv_iinc (v := v15891) (lv' := [(4, .int v15891), (3, .int 1), (0, .ref md), (1, .int p0), (2, .int p1)]) hx hb dX12_sameOn_67 hl (k := 1) rfl (by rw [ev15891]; rfl) (by decide) rfl (fun ls hl => ?_)
            refine lv_goto (tgt := 24) hx hb dX12_sameOn_70 (by decide) ?_
            have tv15891 : v15891.toInt = (i15873 : Int32).toInt + (1 : Int32).toInt := add_i ev15891 (by omega) (by omega)
            exact ih_24 (i15873 := v15891) (i15874 := 1) (hi_24 := by omega) (hv_24 := by omega) (ls := ls) (hn_24 := by omega) (hl := lv_sub hl [0, 1, 2, 3, 4] rfl)
set_option maxRecDepth 40000 in
set_option maxHeartbeats 4000000 in
theorem c_X12_fillKinds (l : Launch) (D : va_G) (K : Nat → ClassId) (md : Nat) (ma1 : Nat) (ma2 : Nat) (ma3 : Nat) (ma4 : Nat) (ma6 : Nat) (ma14 : Nat) (ma21 : Nat) (ma22 : Nat) (ma23 : Nat) (ma24 : Nat) (ma26 : Nat) (ma27 : Nat) (ma28 : Nat) (ma29 : Nat) (ma30 : Nat) (ma31 : Nat) (ma32 : Nat) (ma33 : Nat) (ma34 : Nat) (ma35 : Nat) (ma36 : Nat) (ma40 : Nat) (ma41 : Nat) (ma42 : Nat) (ma45 : Nat) (ma46 : Nat) (ma47 : Nat) (ma49 : Nat) (ma50 : Nat) (ma51 : Nat) (ma52 : Nat) (mn0 : Int32) (mn5 : Int32) (mn7 : Int32) (mn8 : Int32) (mn9 : Int32) (mn10 : Int32) (mn11 : Int32) (mn12 : Int32) (mn13 : Int32) (mn15 : Int32) (mn16 : Int32) (mn17 : Int32) (mn18 : Int32) (mn19 : Int32) (mn20 : Int32) (mn25 : Int32) (mn37 : Int32) (mn38 : Int32) (mn39 : Int32) (mn43 : Int32) (mn44 : Int32) (mn48 : Int32) (mf1 : Nat → Int32) (mf27 : Nat → Int32) (mf28 : Nat → Int32) (p0 : Int32) (hs1_0 : GW mf1) : Ci (S := ((Nat → Int32) × (Nat → Nat → Int32) × (Nat → Nat → Int64))) l D K yX12_fillKinds cX12_fillKinds 6 (some .int) 2 46 0 0 [.ref md, .int p0] [(md, .inr (11, [.int mn0, .ref ma1, .ref ma2, .ref ma3, .ref ma4, .int mn5, .ref ma6, .int mn7, .int mn8, .int mn9, .int mn10, .int mn11, .int mn12, .int mn13, .ref ma14, .int mn15, .int mn16, .int mn17, .int mn18, .int mn19, .int mn20, .ref ma21, .ref ma22, .ref ma23, .ref ma24, .int mn25, .ref ma26, .ref ma27, .ref ma28, .ref ma29, .ref ma30, .ref ma31, .ref ma32, .ref ma33, .ref ma34, .ref ma35, .ref ma36, .int mn37, .int mn38, .int mn39, .ref ma40, .ref ma41, .ref ma42, .int mn43, .int mn44, .ref ma45, .ref ma46, .ref ma47, .int mn48, .ref ma49, .ref ma50, .ref ma51, .ref ma52])), (ma1, .inl (K 1, 262, .inl mf1)), (ma27, .inl (K 1, 10, .inl mf27)), (ma28, .inl (K 1, 10, .inl mf28))] (fun _ _ => True) (fun u => [(md, .inr (11, [.int mn0, .ref ma1, .ref ma2, .ref ma3, .ref ma4, .int mn5, .ref ma6, .int mn7, .int mn8, .int mn9, .int mn10, .int mn11, .int mn12, .int mn13, .ref ma14, .int mn15, .int mn16, .int mn17, .int mn18, .int mn19, .int mn20, .ref ma21, .ref ma22, .ref ma23, .ref ma24, .int mn25, .ref ma26, .ref ma27, .ref ma28, .ref ma29, .ref ma30, .ref ma31, .ref ma32, .ref ma33, .ref ma34, .ref ma35, .ref ma36, .int mn37, .int mn38, .int mn39, .ref ma40, .ref ma41, .ref ma42, .int mn43, .int mn44, .ref ma45, .ref ma46, .ref ma47, .int mn48, .ref ma49, .ref ma50, .ref ma51, .ref ma52])), (ma1, .inl (K 1, 262, .inl mf1)), (ma27, .inl (K 1, 10, .inl (u.2.1 0))), (ma28, .inl (K 1, 10, .inl (u.2.1 1)))]) := by
  intro sz
  refine ch_of (y := yX12_fillKinds) (cc := cX12_fillKinds) (maxL := 6) (ret := (some .int)) (av := [.ref md, .int p0]) (ws := [(md, .inr (11, [.int mn0, .ref ma1, .ref ma2, .ref ma3, .ref ma4, .int mn5, .ref ma6, .int mn7, .int mn8, .int mn9, .int mn10, .int mn11, .int mn12, .int mn13, .ref ma14, .int mn15, .int mn16, .int mn17, .int mn18, .int mn19, .int mn20, .ref ma21, .ref ma22, .ref ma23, .ref ma24, .int mn25, .ref ma26, .ref ma27, .ref ma28, .ref ma29, .ref ma30, .ref ma31, .ref ma32, .ref ma33, .ref ma34, .ref ma35, .ref ma36, .int mn37, .int mn38, .int mn39, .ref ma40, .ref ma41, .ref ma42, .int mn43, .int mn44, .ref ma45, .ref ma46, .ref ma47, .int mn48, .ref ma49, .ref ma50, .ref ma51, .ref ma52])), (ma1, .inl (K 1, 262, .inl mf1)), (ma27, .inl (K 1, 10, .inl mf27)), (ma28, .inl (K 1, 10, .inl mf28))]) (D := D) (K := K) (Qc := fun A => va_Qi (S := ((Nat → Int32) × (Nat → Nat → Int32) × (Nat → Nat → Int64))) (fun _ _ => True) (chB D A (fun u => [(md, .inr (11, [.int mn0, .ref ma1, .ref ma2, .ref ma3, .ref ma4, .int mn5, .ref ma6, .int mn7, .int mn8, .int mn9, .int mn10, .int mn11, .int mn12, .int mn13, .ref ma14, .int mn15, .int mn16, .int mn17, .int mn18, .int mn19, .int mn20, .ref ma21, .ref ma22, .ref ma23, .ref ma24, .int mn25, .ref ma26, .ref ma27, .ref ma28, .ref ma29, .ref ma30, .ref ma31, .ref ma32, .ref ma33, .ref ma34, .ref ma35, .ref ma36, .int mn37, .int mn38, .int mn39, .ref ma40, .ref ma41, .ref ma42, .int mn43, .int mn44, .ref ma45, .ref ma46, .ref ma47, .int mn48, .ref ma49, .ref ma50, .ref ma51, .ref ma52])), (ma1, .inl (K 1, 262, .inl mf1)), (ma27, .inl (K 1, 10, .inl (u.2.1 0))), (ma28, .inl (K 1, 10, .inl (u.2.1 1)))])) A) (by decide) (Nat.le_of_ble_eq_true rfl) ?_
  intro p e s m below meth c A hC hr hk hin hE hD hA H locs hP hS ls hl
  replace hC : CallFix p m c cX12_fillKinds 6 s [.ref md, .int p0].toArray wl RX12 := hC
  have hx := hC.1
  have hb := hC.2.1
  have hml := hC.2.2.1
  have hown := hC.2.2.2.1
  have hts := hC.2.2.2.2
  replace hl : lv_has ls 6 [(0, .ref md), (1, .int p0)] := hl
  have kc_0 : (0 : Int32).toInt = 0 := by decide
  have kc_1 : (1 : Int32).toInt = 1 := by decide
  have hW0 := gwn_0 hs1_0; have hW1 := gwn_1 hs1_0; have hW2 := gwn_2 hs1_0; have hW4 := gwn_4 hs1_0
  refine lv_iconst (v := 0) hx hb dX12_fillKinds_0 (by decide) ?_
  refine lv_istore_n (lv' := [(2, .int 0), (0, .ref md), (1, .int p0)]) hx hb dX12_fillKinds_1 rfl hl (by decide) rfl (fun ls hl => ?_)
  have hl' := hl; have hP' := hP; have hD' := hD; clear hl hP hD
  obtain ⟨i15969, g15970, hi_2, hl, hP, hD⟩ : ∃ (i15969 : Int32) (g15970 : Nat → Int32), ((0 : Int) ≤ i15969.toInt) ∧ lv_has ls 6 [(2, .int i15969), (0, .ref md), (1, .int p0)] ∧ va_P D vwCl [(md, .inr (11, [.int mn0, .ref ma1, .ref ma2, .ref ma3, .ref ma4, .int mn5, .ref ma6, .int mn7, .int mn8, .int mn9, .int mn10, .int mn11, .int mn12, .int mn13, .ref ma14, .int mn15, .int mn16, .int mn17, .int mn18, .int mn19, .int mn20, .ref ma21, .ref ma22, .ref ma23, .ref ma24, .int mn25, .ref ma26, .ref ma27, .ref ma28, .ref ma29, .ref ma30, .ref ma31, .ref ma32, .ref ma33, .ref ma34, .ref ma35, .ref ma36, .int mn37, .int mn38, .int mn39, .ref ma40, .ref ma41, .ref ma42, .int mn43, .int mn44, .ref ma45, .ref ma46, .ref ma47, .int mn48, .ref ma49, .ref ma50, .ref ma51, .ref ma52])), (ma1, .inl (K 1, 262, .inl mf1)), (ma27, .inl (K 1, 10, .inl g15970)), (ma28, .inl (K 1, 10, .inl mf28))] H ∧ va_D A [(md, .inr (11, [.int mn0, .ref ma1, .ref ma2, .ref ma3, .ref ma4, .int mn5, .ref ma6, .int mn7, .int mn8, .int mn9, .int mn10, .int mn11, .int mn12, .int mn13, .ref ma14, .int mn15, .int mn16, .int mn17, .int mn18, .int mn19, .int mn20, .ref ma21, .ref ma22, .ref ma23, .ref ma24, .int mn25, .ref ma26, .ref ma27, .ref ma28, .ref ma29, .ref ma30, .ref ma31, .ref ma32, .ref ma33, .ref ma34, .ref ma35, .ref ma36, .int mn37, .int mn38, .int mn39, .ref ma40, .ref ma41, .ref ma42, .int mn43, .int mn44, .ref ma45, .ref ma46, .ref ma47, .int mn48, .ref ma49, .ref ma50, .ref ma51, .ref ma52])), (ma1, .inl (K 1, 262, .inl mf1)), (ma27, .inl (K 1, 10, .inl g15970)), (ma28, .inl (K 1, 10, .inl mf28))] := ⟨_, _, by omega, hl', hP', hD'⟩
  clear hl' hP' hD'
  obtain ⟨n_2, hn_2⟩ : ∃ n : Nat, (10 - i15969.toInt).toNat < n := ⟨_, Nat.lt_succ_self _⟩
  induction n_2 generalizing i15969 g15970 H locs ls with
  | zero => exact absurd hn_2 (Nat.not_lt_zero _)
  | succ n_2 ih_2 =>
    refine lv_iload_n hx hb dX12_fillKinds_2 rfl (lv_at hl 0 rfl) ?_
    refine lv_aload_n hx hb dX12_fillKinds_3 rfl (lv_at hl 1 rfl) ?_
    refine va_get (D := D) (ci := 11) (v := .ref ma1) (C := RX12) (T := TX12) (N := 53) hx hb hts in_X12 hown hE.1 hP 0 rfl rfl 1 (by decide) (hts _ w_821) (fun _ h9 => h9) rfl dX12_fillKinds_4 ?_
    refine lv_iconst (v := 0) hx hb dX12_fillKinds_7 (by decide) ?_
    refine va_iald hx hb hE.1 hP 1 1 rfl rfl (in_c (by decide)) dX12_fillKinds_8 ?_
    refine lv_topi (fun v15971 ev15971 => ?_)
    have tv15971 := gw_0 hs1_0 ev15971
    have zv15971 : v15971.toInt = (mf1 0).toInt := by rw [ev15971]; rfl
    refine lv_icmp_ge (tgt := 42) hx hb dX12_fillKinds_9 (by decide) (fun c15972 => ?_) (fun c15972 => ?_)
    · replace c15972 := le_i c15972
      refine lv_iconst (v := 0) hx hb dX12_fillKinds_42 (by decide) ?_
      refine lv_istore_n (lv' := [(2, .int 0), (0, .ref md), (1, .int p0)]) hx hb dX12_fillKinds_43 rfl hl (by decide) rfl (fun ls hl => ?_)
      have hl' := hl; have hP' := hP; have hD' := hD; clear hl hP hD
      obtain ⟨i16018, g16019, g16020, ho_44, hl, hP, hD⟩ : ∃ (i16018 : Int32) (g16019 : Nat → Int32) (g16020 : Nat → Int32), (0 ≤ i16018.toInt ∧ i16018.toInt ≤ (cnw g16019 (mf1 0).toInt.toNat : Int)) ∧ lv_has ls 6 [(2, .int i16018), (0, .ref md), (1, .int p0)] ∧ va_P D vwCl [(md, .inr (11, [.int mn0, .ref ma1, .ref ma2, .ref ma3, .ref ma4, .int mn5, .ref ma6, .int mn7, .int mn8, .int mn9, .int mn10, .int mn11, .int mn12, .int mn13, .ref ma14, .int mn15, .int mn16, .int mn17, .int mn18, .int mn19, .int mn20, .ref ma21, .ref ma22, .ref ma23, .ref ma24, .int mn25, .ref ma26, .ref ma27, .ref ma28, .ref ma29, .ref ma30, .ref ma31, .ref ma32, .ref ma33, .ref ma34, .ref ma35, .ref ma36, .int mn37, .int mn38, .int mn39, .ref ma40, .ref ma41, .ref ma42, .int mn43, .int mn44, .ref ma45, .ref ma46, .ref ma47, .int mn48, .ref ma49, .ref ma50, .ref ma51, .ref ma52])), (ma1, .inl (K 1, 262, .inl mf1)), (ma27, .inl (K 1, 10, .inl g16019)), (ma28, .inl (K 1, 10, .inl g16020))] H ∧ va_D A [(md, .inr (11, [.int mn0, .ref ma1, .ref ma2, .ref ma3, .ref ma4, .int mn5, .ref ma6, .int mn7, .int mn8, .int mn9, .int mn10, .int mn11, .int mn12, .int mn13, .ref ma14, .int mn15, .int mn16, .int mn17, .int mn18, .int mn19, .int mn20, .ref ma21, .ref ma22, .ref ma23, .ref ma24, .int mn25, .ref ma26, .ref ma27, .ref ma28, .ref ma29, .ref ma30, .ref ma31, .ref ma32, .ref ma33, .ref ma34, .ref ma35, .ref ma36, .int mn37, .int mn38, .int mn39, .ref ma40, .ref ma41, .ref ma42, .int mn43, .int mn44, .ref ma45, .ref ma46, .ref ma47, .int mn48, .ref ma49, .ref ma50, .ref ma51, .ref ma52])), (ma1, .inl (K 1, 262, .inl mf1)), (ma27, .inl (K 1, 10, .inl g16019)), (ma28, .inl (K 1, 10, .inl g16020))] := ⟨_, _, _, by omega, hl', hP', hD'⟩
      clear hl' hP' hD'
      obtain ⟨n_44, hn_44⟩ : ∃ n : Nat, (11 - i16018.toInt).toNat < n := ⟨_, Nat.lt_succ_self _⟩
      induction n_44 generalizing i16018 g16019 g16020 H locs ls with
      | zero => exact absurd hn_44 (Nat.not_lt_zero _)
      | succ n_44 ih_44 =>
        have hcl_44 := cnw_le g16019 (mf1 0).toInt.toNat
        refine lv_iconst (v := 0) hx hb dX12_fillKinds_44 (by decide) ?_
        refine lv_istore_n (lv' := [(3, .int 0), (2, .int i16018), (0, .ref md), (1, .int p0)]) hx hb dX12_fillKinds_45 rfl hl (by decide) rfl (fun ls hl => ?_)
        refine lv_iconst (v := 0) hx hb dX12_fillKinds_46 (by decide) ?_
        refine lv_istore (lv' := [(4, .int 0), (3, .int 0), (2, .int i16018), (0, .ref md), (1, .int p0)]) hx hb dX12_fillKinds_47 hl (by decide) rfl (fun ls hl => ?_)
        have hl' := hl; have hP' := hP; have hD' := hD; clear hl hP hD
        obtain ⟨i16058, i16059, g16060, hi_49, hk_49, hki_49, hl, hP, hD⟩ : ∃ (i16058 : Int32) (i16059 : Int32) (g16060 : Nat → Int32), ((0 : Int) ≤ i16058.toInt) ∧ (i16058.toInt ≤ (mf1 0).toInt) ∧ (KI g16019 g16060 i16058.toInt i16059.toInt) ∧ lv_has ls 6 [(4, .int i16058), (3, .int i16059), (2, .int i16018), (0, .ref md), (1, .int p0)] ∧ va_P D vwCl [(md, .inr (11, [.int mn0, .ref ma1, .ref ma2, .ref ma3, .ref ma4, .int mn5, .ref ma6, .int mn7, .int mn8, .int mn9, .int mn10, .int mn11, .int mn12, .int mn13, .ref ma14, .int mn15, .int mn16, .int mn17, .int mn18, .int mn19, .int mn20, .ref ma21, .ref ma22, .ref ma23, .ref ma24, .int mn25, .ref ma26, .ref ma27, .ref ma28, .ref ma29, .ref ma30, .ref ma31, .ref ma32, .ref ma33, .ref ma34, .ref ma35, .ref ma36, .int mn37, .int mn38, .int mn39, .ref ma40, .ref ma41, .ref ma42, .int mn43, .int mn44, .ref ma45, .ref ma46, .ref ma47, .int mn48, .ref ma49, .ref ma50, .ref ma51, .ref ma52])), (ma1, .inl (K 1, 262, .inl mf1)), (ma27, .inl (K 1, 10, .inl g16019)), (ma28, .inl (K 1, 10, .inl g16060))] H ∧ va_D A [(md, .inr (11, [.int mn0, .ref ma1, .ref ma2, .ref ma3, .ref ma4, .int mn5, .ref ma6, .int mn7, .int mn8, .int mn9, .int mn10, .int mn11, .int mn12, .int mn13, .ref ma14, .int mn15, .int mn16, .int mn17, .int mn18, .int mn19, .int mn20, .ref ma21, .ref ma22, .ref ma23, .ref ma24, .int mn25, .ref ma26, .ref ma27, .ref ma28, .ref ma29, .ref ma30, .ref ma31, .ref ma32, .ref ma33, .ref ma34, .ref ma35, .ref ma36, .int mn37, .int mn38, .int mn39, .ref ma40, .ref ma41, .ref ma42, .int mn43, .int mn44, .ref ma45, .ref ma46, .ref ma47, .int mn48, .ref ma49, .ref ma50, .ref ma51, .ref ma52])), (ma1, .inl (K 1, 262, .inl mf1)), (ma27, .inl (K 1, 10, .inl g16019)), (ma28, .inl (K 1, 10, .inl g16060))] := ⟨_, _, _, by omega, by omega, (by rw [show ((0 : Int32).toInt) = 0 from by decide]; exact ki_0 _ _), hl', hP', hD'⟩
        clear hl' hP' hD'
        obtain ⟨n_49, hn_49⟩ : ∃ n : Nat, (10 - i16058.toInt).toNat < n := ⟨_, Nat.lt_succ_self _⟩
        induction n_49 generalizing i16058 i16059 g16060 H locs ls with
        | zero => exact absurd hn_49 (Nat.not_lt_zero _)
        | succ n_49 ih_49 =>
          have hkb_49 := (And.intro hki_49.1 hki_49.2.1)
          refine lv_iload hx hb dX12_fillKinds_49 (lv_at hl 0 rfl) ?_
          refine lv_aload_n hx hb dX12_fillKinds_51 rfl (lv_at hl 3 rfl) ?_
          refine va_get (D := D) (ci := 11) (v := .ref ma1) (C := RX12) (T := TX12) (N := 53) hx hb hts in_X12 hown hE.1 hP 0 rfl rfl 1 (by decide) (hts _ w_821) (fun _ h9 => h9) rfl dX12_fillKinds_52 ?_
          refine lv_iconst (v := 0) hx hb dX12_fillKinds_55 (by decide) ?_
          refine va_iald hx hb hE.1 hP 1 1 rfl rfl (in_c (by decide)) dX12_fillKinds_56 ?_
          refine lv_topi (fun v16061 ev16061 => ?_)
          have tv16061 := gw_0 hs1_0 ev16061
          have zv16061 : v16061.toInt = (mf1 0).toInt := by rw [ev16061]; rfl
          refine lv_icmp_ge (tgt := 133) hx hb dX12_fillKinds_57 (by decide) (fun c16062 => ?_) (fun c16062 => ?_)
          · replace c16062 := le_i c16062
            refine lv_iconst (v := 0) hx hb dX12_fillKinds_133 (by decide) ?_
            refine lv_istore (lv' := [(4, .int 0), (3, .int i16059), (2, .int i16018), (0, .ref md), (1, .int p0)]) hx hb dX12_fillKinds_134 hl (by decide) rfl (fun ls hl => ?_)
            have hl' := hl; have hP' := hP; have hD' := hD; clear hl hP hD
            obtain ⟨i16069, g16070, hi_136, hk_136, hc_136, hl, hP, hD⟩ : ∃ (i16069 : Int32) (g16070 : Nat → Int32), ((0 : Int) ≤ i16069.toInt) ∧ (i16069.toInt ≤ (mf1 0).toInt) ∧ (∀ j : Nat, (j : Int) < i16069.toInt → g16070 j = g16060 j) ∧ lv_has ls 6 [(4, .int i16069), (3, .int i16059), (2, .int i16018), (0, .ref md), (1, .int p0)] ∧ va_P D vwCl [(md, .inr (11, [.int mn0, .ref ma1, .ref ma2, .ref ma3, .ref ma4, .int mn5, .ref ma6, .int mn7, .int mn8, .int mn9, .int mn10, .int mn11, .int mn12, .int mn13, .ref ma14, .int mn15, .int mn16, .int mn17, .int mn18, .int mn19, .int mn20, .ref ma21, .ref ma22, .ref ma23, .ref ma24, .int mn25, .ref ma26, .ref ma27, .ref ma28, .ref ma29, .ref ma30, .ref ma31, .ref ma32, .ref ma33, .ref ma34, .ref ma35, .ref ma36, .int mn37, .int mn38, .int mn39, .ref ma40, .ref ma41, .ref ma42, .int mn43, .int mn44, .ref ma45, .ref ma46, .ref ma47, .int mn48, .ref ma49, .ref ma50, .ref ma51, .ref ma52])), (ma1, .inl (K 1, 262, .inl mf1)), (ma27, .inl (K 1, 10, .inl g16070)), (ma28, .inl (K 1, 10, .inl g16060))] H ∧ va_D A [(md, .inr (11, [.int mn0, .ref ma1, .ref ma2, .ref ma3, .ref ma4, .int mn5, .ref ma6, .int mn7, .int mn8, .int mn9, .int mn10, .int mn11, .int mn12, .int mn13, .ref ma14, .int mn15, .int mn16, .int mn17, .int mn18, .int mn19, .int mn20, .ref ma21, .ref ma22, .ref ma23, .ref ma24, .int mn25, .ref ma26, .ref ma27, .ref ma28, .ref ma29, .ref ma30, .ref ma31, .ref ma32, .ref ma33, .ref ma34, .ref ma35, .ref ma36, .int mn37, .int mn38, .int mn39, .ref ma40, .ref ma41, .ref ma42, .int mn43, .int mn44, .ref ma45, .ref ma46, .ref ma47, .int mn48, .ref ma49, .ref ma50, .ref ma51, .ref ma52])), (ma1, .inl (K 1, 262, .inl mf1)), (ma27, .inl (K 1, 10, .inl g16070)), (ma28, .inl (K 1, 10, .inl g16060))] := ⟨_, _, by omega, by omega, fun j hj => absurd hj (by omega), hl', hP', hD'⟩
            clear hl' hP' hD'
            obtain ⟨n_136, hn_136⟩ : ∃ n : Nat, (10 - i16069.toInt).toNat < n := ⟨_, Nat.lt_succ_self _⟩
            induction n_136 generalizing i16069 g16070 H locs ls with
            | zero => exact absurd hn_136 (Nat.not_lt_zero _)
            | succ n_136 ih_136 =>
              refine lv_iload hx hb dX12_fillKinds_136 (lv_at hl 0 rfl) ?_
              refine lv_aload_n hx hb dX12_fillKinds_138 rfl (lv_at hl 3 rfl) ?_
              refine va_get (D := D) (ci := 11) (v := .ref ma1) (C := RX12) (T := TX12) (N := 53) hx hb hts in_X12 hown hE.1 hP 0 rfl rfl 1 (by decide) (hts _ w_821) (fun _ h9 => h9) rfl dX12_fillKinds_139 ?_
              refine lv_iconst (v := 0) hx hb dX12_fillKinds_142 (by decide) ?_
              refine va_iald hx hb hE.1 hP 1 1 rfl rfl (in_c (by decide)) dX12_fillKinds_143 ?_
              refine lv_topi (fun v16071 ev16071 => ?_)
              have tv16071 := gw_0 hs1_0 ev16071
              have zv16071 : v16071.toInt = (mf1 0).toInt := by rw [ev16071]; rfl
              refine lv_icmp_ge (tgt := 167) hx hb dX12_fillKinds_144 (by decide) (fun c16072 => ?_) (fun c16072 => ?_)
              · replace c16072 := le_i c16072
                refine lv_iload_n hx hb dX12_fillKinds_167 rfl (lv_at hl 1 rfl) ?_
                refine lv_iload_n hx hb dX12_fillKinds_168 rfl (lv_at hl 2 rfl) ?_
                refine lv_icmp_ne (tgt := 174) hx hb dX12_fillKinds_169 (by decide) (fun c16073 => ?_) (fun c16073 => ?_)
                · replace c16073 := ne_i c16073
                  refine lv_iload_n hx hb dX12_fillKinds_174 rfl (lv_at hl 1 rfl) ?_
                  refine lv_istore_n (lv' := [(2, .int i16059), (4, .int i16069), (3, .int i16059), (0, .ref md), (1, .int p0)]) hx hb dX12_fillKinds_175 rfl hl (by decide) rfl (fun ls hl => ?_)
                  refine lv_goto (tgt := 44) hx hb dX12_fillKinds_176 (by decide) ?_
                  have hkn := kn_of hki_49 hc_136 (by omega) (by omega)
                  rw [show i16058.toInt.toNat = (mf1 0).toInt.toNat from by omega] at hkn
                  have hkm := hki_49.2.2.1
                  rw [show i16058.toInt.toNat = (mf1 0).toInt.toNat from by omega] at hkm
                  exact ih_44 (i16018 := i16059) (g16019 := g16070) (g16020 := g16060) (ho_44 := by omega) (H := H) (locs := locs) (ls := ls) (hn_44 := by omega) (hP := hP) (hD := hD) (hS := hS) (hl := lv_sub hl [0, 3, 4] rfl)
                · replace c16073 := eq_i c16073
                  refine lv_iload_n hx hb dX12_fillKinds_172 rfl (lv_at hl 2 rfl) ?_
                  refine W.widen (k := 0) (n := 0) (by decide) (by decide) ?_
                  exact ch_iret hC hr hk hS dX12_fillKinds_173 ((fun k => [].getD k 0, fun k => [g16070, g16060].getD k (fun _ => 0), fun k => [].getD k (fun _ => 0)) : ((Nat → Int32) × (Nat → Nat → Int32) × (Nat → Nat → Int64))) trivial (hP.sub [0, 1, 2, 3] rfl) (hD.sub [0, 1, 2, 3] (by decide) rfl)
              · replace c16072 := nle_i c16072
                refine lv_aload_n hx hb dX12_fillKinds_147 rfl (lv_at hl 3 rfl) ?_
                refine va_get (D := D) (ci := 11) (v := .ref ma27) (C := RX12) (T := TX12) (N := 53) hx hb hts in_X12 hown hE.1 hP 0 rfl rfl 27 (by decide) (hts _ w_1168) (fun _ h9 => h9) rfl dX12_fillKinds_148 ?_
                refine lv_iload hx hb dX12_fillKinds_151 (lv_at hl 0 rfl) ?_
                refine lv_aload_n hx hb dX12_fillKinds_153 rfl (lv_at hl 3 rfl) ?_
                refine va_get (D := D) (ci := 11) (v := .ref ma28) (C := RX12) (T := TX12) (N := 53) hx hb hts in_X12 hown hE.1 hP 0 rfl rfl 28 (by decide) (hts _ w_1169) (fun _ h9 => h9) rfl dX12_fillKinds_154 ?_
                refine lv_iload hx hb dX12_fillKinds_157 (lv_at hl 0 rfl) ?_
                refine va_iald hx hb hE.1 hP 3 1 rfl rfl (vp_in_iff.mpr (by omega)) dX12_fillKinds_159 ?_
                refine lv_topi (fun v16074 ev16074 => ?_)
                refine sti hx hb hE.1 hP hD hS 2 1 rfl rfl (vp_in_iff.mpr (by omega)) dX12_fillKinds_160 (fun g16075 eg16075 H locs hP hD hS => ?_)
                replace hP : va_P D vwCl [(md, .inr (11, [.int mn0, .ref ma1, .ref ma2, .ref ma3, .ref ma4, .int mn5, .ref ma6, .int mn7, .int mn8, .int mn9, .int mn10, .int mn11, .int mn12, .int mn13, .ref ma14, .int mn15, .int mn16, .int mn17, .int mn18, .int mn19, .int mn20, .ref ma21, .ref ma22, .ref ma23, .ref ma24, .int mn25, .ref ma26, .ref ma27, .ref ma28, .ref ma29, .ref ma30, .ref ma31, .ref ma32, .ref ma33, .ref ma34, .ref ma35, .ref ma36, .int mn37, .int mn38, .int mn39, .ref ma40, .ref ma41, .ref ma42, .int mn43, .int mn44, .ref ma45, .ref ma46, .ref ma47, .int mn48, .ref ma49, .ref ma50, .ref ma51, .ref ma52])), (ma1, .inl (K 1, 262, .inl mf1)), (ma27, .inl (K 1, 10, .inl g16075)), (ma28, .inl (K 1, 10, .inl g16060))] H := hP
                replace hD : va_D A [(md, .inr (11, [.int mn0, .ref ma1, .ref ma2, .ref ma3, .ref ma4, .int mn5, .ref ma6, .int mn7, .int mn8, .int mn9, .int mn10, .int mn11, .int mn12, .int mn13, .ref ma14, .int mn15, .int mn16, .int mn17, .int mn18, .int mn19, .int mn20, .ref ma21, .ref ma22, .ref ma23, .ref ma24, .int mn25, .ref ma26, .ref ma27, .ref ma28, .ref ma29, .ref ma30, .ref ma31, .ref ma32, .ref ma33, .ref ma34, .ref ma35, .ref ma36, .int mn37, .int mn38, .int mn39, .ref ma40, .ref ma41, .ref ma42, .int mn43, .int mn44, .ref ma45, .ref ma46, .ref ma47, .int mn48, .ref ma49, .ref ma50, .ref ma51, .ref ma52])), (ma1, .inl (K 1, 262, .inl mf1)), (ma27, .inl (K 1, 10, .inl g16075)), (ma28, .inl (K 1, 10, .inl g16060))] := hD
                obtain ⟨v16076, ev16076⟩ : ∃ z : Int32, z = i16069 + 1 := ⟨_, rfl⟩
                refine lv_iinc (v := v16076) (lv' := [(4, .int v16076), (3, .int i16059), (2, .int i16018), (0, .ref md), (1, .int p0)]) hx hb dX12_fillKinds_161 hl (k := 0) rfl (by rw [ev16076]; rfl) (by decide) rfl (fun ls hl => ?_)
                refine lv_goto (tgt := 136) hx hb dX12_fillKinds_164 (by decide) ?_
                have tv16076 : v16076.toInt = (i16069 : Int32).toInt + (1 : Int32).toInt := add_i ev16076 (by omega) (by omega)
                exact ih_136 (i16069 := v16076) (g16070 := g16075) (hi_136 := by omega) (hk_136 := by omega) (hc_136 := kc_more hc_136 (by omega) eg16075 ev16074 (by omega)) (H := H) (locs := locs) (ls := ls) (hn_136 := by omega) (hP := hP) (hD := hD) (hS := hS) (hl := lv_sub hl [0, 1, 2, 3, 4] rfl)
          · replace c16062 := nle_i c16062
            refine lv_iconst (v := 0) hx hb dX12_fillKinds_60 (by decide) ?_
            refine lv_istore (lv' := [(5, .int 0), (4, .int i16058), (3, .int i16059), (2, .int i16018), (0, .ref md), (1, .int p0)]) hx hb dX12_fillKinds_61 hl (by decide) rfl (fun ls hl => ?_)
            have hl' := hl; have hP' := hP; have hD' := hD; clear hl hP hD
            obtain ⟨i16082, hi_63, hl_63, hl, hP, hD⟩ : ∃ (i16082 : Int32), ((0 : Int) ≤ i16082.toInt) ∧ (i16082.toInt ≤ i16058.toInt) ∧ lv_has ls 6 [(5, .int i16082), (4, .int i16058), (3, .int i16059), (2, .int i16018), (0, .ref md), (1, .int p0)] ∧ va_P D vwCl [(md, .inr (11, [.int mn0, .ref ma1, .ref ma2, .ref ma3, .ref ma4, .int mn5, .ref ma6, .int mn7, .int mn8, .int mn9, .int mn10, .int mn11, .int mn12, .int mn13, .ref ma14, .int mn15, .int mn16, .int mn17, .int mn18, .int mn19, .int mn20, .ref ma21, .ref ma22, .ref ma23, .ref ma24, .int mn25, .ref ma26, .ref ma27, .ref ma28, .ref ma29, .ref ma30, .ref ma31, .ref ma32, .ref ma33, .ref ma34, .ref ma35, .ref ma36, .int mn37, .int mn38, .int mn39, .ref ma40, .ref ma41, .ref ma42, .int mn43, .int mn44, .ref ma45, .ref ma46, .ref ma47, .int mn48, .ref ma49, .ref ma50, .ref ma51, .ref ma52])), (ma1, .inl (K 1, 262, .inl mf1)), (ma27, .inl (K 1, 10, .inl g16019)), (ma28, .inl (K 1, 10, .inl g16060))] H ∧ va_D A [(md, .inr (11, [.int mn0, .ref ma1, .ref ma2, .ref ma3, .ref ma4, .int mn5, .ref ma6, .int mn7, .int mn8, .int mn9, .int mn10, .int mn11, .int mn12, .int mn13, .ref ma14, .int mn15, .int mn16, .int mn17, .int mn18, .int mn19, .int mn20, .ref ma21, .ref ma22, .ref ma23, .ref ma24, .int mn25, .ref ma26, .ref ma27, .ref ma28, .ref ma29, .ref ma30, .ref ma31, .ref ma32, .ref ma33, .ref ma34, .ref ma35, .ref ma36, .int mn37, .int mn38, .int mn39, .ref ma40, .ref ma41, .ref ma42, .int mn43, .int mn44, .ref ma45, .ref ma46, .ref ma47, .int mn48, .ref ma49, .ref ma50, .ref ma51, .ref ma52])), (ma1, .inl (K 1, 262, .inl mf1)), (ma27, .inl (K 1, 10, .inl g16019)), (ma28, .inl (K 1, 10, .inl g16060))] := ⟨_, by omega, by omega, hl', hP', hD'⟩
            clear hl' hP' hD'
            have hb_63 := i32_hi i16058
            obtain ⟨n_63, hn_63⟩ : ∃ n : Nat, (i16058.toInt - i16082.toInt).toNat < n := ⟨_, Nat.lt_succ_self _⟩
            induction n_63 generalizing i16082 H locs ls with
            | zero => exact absurd hn_63 (Nat.not_lt_zero _)
            | succ n_63 ih_63 =>
              refine lv_iload hx hb dX12_fillKinds_63 (lv_at hl 0 rfl) ?_
              refine lv_iload hx hb dX12_fillKinds_65 (lv_at hl 1 rfl) ?_
              refine lv_icmp_ge (tgt := 87) hx hb dX12_fillKinds_67 (by decide) (fun c16083 => ?_) (fun c16083 => ?_)
              · replace c16083 := le_i c16083
                refine lv_aload_n hx hb dX12_fillKinds_87 rfl (lv_at hl 4 rfl) ?_
                refine va_get (D := D) (ci := 11) (v := .ref ma28) (C := RX12) (T := TX12) (N := 53) hx hb hts in_X12 hown hE.1 hP 0 rfl rfl 28 (by decide) (hts _ w_1169) (fun _ h9 => h9) rfl dX12_fillKinds_88 ?_
                refine lv_iload hx hb dX12_fillKinds_91 (lv_at hl 1 rfl) ?_
                refine lv_iload hx hb dX12_fillKinds_93 (lv_at hl 0 rfl) ?_
                refine lv_iload hx hb dX12_fillKinds_95 (lv_at hl 1 rfl) ?_
                refine lv_icmp_ge (tgt := 110) hx hb dX12_fillKinds_97 (by decide) (fun c16084 => ?_) (fun c16084 => ?_)
                · replace c16084 := le_i c16084
                  refine lv_iload_n hx hb dX12_fillKinds_110 rfl (lv_at hl 2 rfl) ?_
                  refine sti hx hb hE.1 hP hD hS 3 1 rfl rfl (vp_in_iff.mpr (by omega)) dX12_fillKinds_111 (fun g16085 eg16085 H locs hP hD hS => ?_)
                  replace hP : va_P D vwCl [(md, .inr (11, [.int mn0, .ref ma1, .ref ma2, .ref ma3, .ref ma4, .int mn5, .ref ma6, .int mn7, .int mn8, .int mn9, .int mn10, .int mn11, .int mn12, .int mn13, .ref ma14, .int mn15, .int mn16, .int mn17, .int mn18, .int mn19, .int mn20, .ref ma21, .ref ma22, .ref ma23, .ref ma24, .int mn25, .ref ma26, .ref ma27, .ref ma28, .ref ma29, .ref ma30, .ref ma31, .ref ma32, .ref ma33, .ref ma34, .ref ma35, .ref ma36, .int mn37, .int mn38, .int mn39, .ref ma40, .ref ma41, .ref ma42, .int mn43, .int mn44, .ref ma45, .ref ma46, .ref ma47, .int mn48, .ref ma49, .ref ma50, .ref ma51, .ref ma52])), (ma1, .inl (K 1, 262, .inl mf1)), (ma27, .inl (K 1, 10, .inl g16019)), (ma28, .inl (K 1, 10, .inl g16085))] H := hP
                  replace hD : va_D A [(md, .inr (11, [.int mn0, .ref ma1, .ref ma2, .ref ma3, .ref ma4, .int mn5, .ref ma6, .int mn7, .int mn8, .int mn9, .int mn10, .int mn11, .int mn12, .int mn13, .ref ma14, .int mn15, .int mn16, .int mn17, .int mn18, .int mn19, .int mn20, .ref ma21, .ref ma22, .ref ma23, .ref ma24, .int mn25, .ref ma26, .ref ma27, .ref ma28, .ref ma29, .ref ma30, .ref ma31, .ref ma32, .ref ma33, .ref ma34, .ref ma35, .ref ma36, .int mn37, .int mn38, .int mn39, .ref ma40, .ref ma41, .ref ma42, .int mn43, .int mn44, .ref ma45, .ref ma46, .ref ma47, .int mn48, .ref ma49, .ref ma50, .ref ma51, .ref ma52])), (ma1, .inl (K 1, 262, .inl mf1)), (ma27, .inl (K 1, 10, .inl g16019)), (ma28, .inl (K 1, 10, .inl g16085))] := hD
                  refine lv_iload_n hx hb dX12_fillKinds_112 rfl (lv_at hl 2 rfl) ?_
                  refine lv_iload hx hb dX12_fillKinds_113 (lv_at hl 0 rfl) ?_
                  refine lv_iload hx hb dX12_fillKinds_115 (lv_at hl 1 rfl) ?_
                  refine lv_icmp_ge (tgt := 124) hx hb dX12_fillKinds_117 (by decide) (fun c16086 => ?_) (fun c16086 => ?_)
                  · replace c16086 := le_i c16086
                    refine lv_iconst (v := 1) hx hb dX12_fillKinds_124 (by decide) ?_
                    refine lv_iadd hx hb dX12_fillKinds_125 ?_
                    refine lv_topi (fun v16087 ev16087 => ?_)
                    refine lv_istore_n (lv' := [(3, .int v16087), (5, .int i16082), (4, .int i16058), (2, .int i16018), (0, .ref md), (1, .int p0)]) hx hb dX12_fillKinds_126 rfl hl (by decide) rfl (fun ls hl => ?_)
                    obtain ⟨v16088, ev16088⟩ : ∃ z : Int32, z = i16058 + 1 := ⟨_, rfl⟩
                    refine lv_iinc (v := v16088) (lv' := [(4, .int v16088), (3, .int v16087), (5, .int i16082), (2, .int i16018), (0, .ref md), (1, .int p0)]) hx hb dX12_fillKinds_127 hl (k := 2) rfl (by rw [ev16088]; rfl) (by decide) rfl (fun ls hl => ?_)
                    refine lv_goto (tgt := 49) hx hb dX12_fillKinds_130 (by decide) ?_
                    have tv16088 : v16088.toInt = (i16058 : Int32).toInt + (1 : Int32).toInt := add_i ev16088 (by omega) (by omega)
                    have tv16087 : v16087.toInt = (i16059 : Int32).toInt + (1 : Int32).toInt := add_i ev16087 (by omega) (by omega)
                    exact ih_49 (i16058 := v16088) (i16059 := v16087) (g16060 := g16085) (hi_49 := by omega) (hk_49 := by omega) (hki_49 := ki_new2 hki_49 (by omega) rfl eg16085 (by omega) (by omega)) (H := H) (locs := locs) (ls := ls) (hn_49 := by omega) (hP := hP) (hD := hD) (hS := hS) (hl := lv_sub hl [0, 1, 3, 4, 5] rfl)
                  · replace c16086 := nle_i c16086
                    refine lv_iconst (v := 0) hx hb dX12_fillKinds_120 (by decide) ?_
                    refine lv_goto (tgt := 125) hx hb dX12_fillKinds_121 (by decide) ?_
                    refine lv_iadd hx hb dX12_fillKinds_125 ?_
                    refine lv_topi (fun v16089 ev16089 => ?_)
                    refine lv_istore_n (lv' := [(3, .int v16089), (5, .int i16082), (4, .int i16058), (2, .int i16018), (0, .ref md), (1, .int p0)]) hx hb dX12_fillKinds_126 rfl hl (by decide) rfl (fun ls hl => ?_)
                    obtain ⟨v16090, ev16090⟩ : ∃ z : Int32, z = i16058 + 1 := ⟨_, rfl⟩
                    refine lv_iinc (v := v16090) (lv' := [(4, .int v16090), (3, .int v16089), (5, .int i16082), (2, .int i16018), (0, .ref md), (1, .int p0)]) hx hb dX12_fillKinds_127 hl (k := 2) rfl (by rw [ev16090]; rfl) (by decide) rfl (fun ls hl => ?_)
                    refine lv_goto (tgt := 49) hx hb dX12_fillKinds_130 (by decide) ?_
                    have tv16090 : v16090.toInt = (i16058 : Int32).toInt + (1 : Int32).toInt := add_i ev16090 (by omega) (by omega)
                    have tv16089 : v16089.toInt = (i16059 : Int32).toInt + (0 : Int32).toInt := add_i ev16089 (by omega) (by omega)
                    exact ih_49 (i16058 := v16090) (i16059 := v16089) (g16060 := g16085) (hi_49 := by omega) (hk_49 := by omega) (hki_49 := ki_new2 hki_49 (by omega) rfl eg16085 (by omega) (by omega)) (H := H) (locs := locs) (ls := ls) (hn_49 := by omega) (hP := hP) (hD := hD) (hS := hS) (hl := lv_sub hl [0, 1, 3, 4, 5] rfl)
                · replace c16084 := nle_i c16084
                  refine lv_aload_n hx hb dX12_fillKinds_100 rfl (lv_at hl 4 rfl) ?_
                  refine va_get (D := D) (ci := 11) (v := .ref ma28) (C := RX12) (T := TX12) (N := 53) hx hb hts in_X12 hown hE.1 hP 0 rfl rfl 28 (by decide) (hts _ w_1169) (fun _ h9 => h9) rfl dX12_fillKinds_101 ?_
                  refine lv_iload hx hb dX12_fillKinds_104 (lv_at hl 0 rfl) ?_
                  refine va_iald hx hb hE.1 hP 3 1 rfl rfl (vp_in_iff.mpr (by omega)) dX12_fillKinds_106 ?_
                  refine lv_topi (fun v16091 ev16091 => ?_)
                  refine lv_goto (tgt := 111) hx hb dX12_fillKinds_107 (by decide) ?_
                  refine sti hx hb hE.1 hP hD hS 3 1 rfl rfl (vp_in_iff.mpr (by omega)) dX12_fillKinds_111 (fun g16092 eg16092 H locs hP hD hS => ?_)
                  replace hP : va_P D vwCl [(md, .inr (11, [.int mn0, .ref ma1, .ref ma2, .ref ma3, .ref ma4, .int mn5, .ref ma6, .int mn7, .int mn8, .int mn9, .int mn10, .int mn11, .int mn12, .int mn13, .ref ma14, .int mn15, .int mn16, .int mn17, .int mn18, .int mn19, .int mn20, .ref ma21, .ref ma22, .ref ma23, .ref ma24, .int mn25, .ref ma26, .ref ma27, .ref ma28, .ref ma29, .ref ma30, .ref ma31, .ref ma32, .ref ma33, .ref ma34, .ref ma35, .ref ma36, .int mn37, .int mn38, .int mn39, .ref ma40, .ref ma41, .ref ma42, .int mn43, .int mn44, .ref ma45, .ref ma46, .ref ma47, .int mn48, .ref ma49, .ref ma50, .ref ma51, .ref ma52])), (ma1, .inl (K 1, 262, .inl mf1)), (ma27, .inl (K 1, 10, .inl g16019)), (ma28, .inl (K 1, 10, .inl g16092))] H := hP
                  replace hD : va_D A [(md, .inr (11, [.int mn0, .ref ma1, .ref ma2, .ref ma3, .ref ma4, .int mn5, .ref ma6, .int mn7, .int mn8, .int mn9, .int mn10, .int mn11, .int mn12, .int mn13, .ref ma14, .int mn15, .int mn16, .int mn17, .int mn18, .int mn19, .int mn20, .ref ma21, .ref ma22, .ref ma23, .ref ma24, .int mn25, .ref ma26, .ref ma27, .ref ma28, .ref ma29, .ref ma30, .ref ma31, .ref ma32, .ref ma33, .ref ma34, .ref ma35, .ref ma36, .int mn37, .int mn38, .int mn39, .ref ma40, .ref ma41, .ref ma42, .int mn43, .int mn44, .ref ma45, .ref ma46, .ref ma47, .int mn48, .ref ma49, .ref ma50, .ref ma51, .ref ma52])), (ma1, .inl (K 1, 262, .inl mf1)), (ma27, .inl (K 1, 10, .inl g16019)), (ma28, .inl (K 1, 10, .inl g16092))] := hD
                  refine lv_iload_n hx hb dX12_fillKinds_112 rfl (lv_at hl 2 rfl) ?_
                  refine lv_iload hx hb dX12_fillKinds_113 (lv_at hl 0 rfl) ?_
                  refine lv_iload hx hb dX12_fillKinds_115 (lv_at hl 1 rfl) ?_
                  refine lv_icmp_ge (tgt := 124) hx hb dX12_fillKinds_117 (by decide) (fun c16093 => ?_) (fun c16093 => ?_)
                  · replace c16093 := le_i c16093
                    refine lv_iconst (v := 1) hx hb dX12_fillKinds_124 (by decide) ?_
                    refine lv_iadd hx hb dX12_fillKinds_125 ?_
                    refine lv_topi (fun v16094 ev16094 => ?_)
                    refine lv_istore_n (lv' := [(3, .int v16094), (5, .int i16082), (4, .int i16058), (2, .int i16018), (0, .ref md), (1, .int p0)]) hx hb dX12_fillKinds_126 rfl hl (by decide) rfl (fun ls hl => ?_)
                    obtain ⟨v16095, ev16095⟩ : ∃ z : Int32, z = i16058 + 1 := ⟨_, rfl⟩
                    refine lv_iinc (v := v16095) (lv' := [(4, .int v16095), (3, .int v16094), (5, .int i16082), (2, .int i16018), (0, .ref md), (1, .int p0)]) hx hb dX12_fillKinds_127 hl (k := 2) rfl (by rw [ev16095]; rfl) (by decide) rfl (fun ls hl => ?_)
                    refine lv_goto (tgt := 49) hx hb dX12_fillKinds_130 (by decide) ?_
                    have tv16095 : v16095.toInt = (i16058 : Int32).toInt + (1 : Int32).toInt := add_i ev16095 (by omega) (by omega)
                    have tv16094 : v16094.toInt = (i16059 : Int32).toInt + (1 : Int32).toInt := add_i ev16094 (by omega) (by omega)
                    exact ih_49 (i16058 := v16095) (i16059 := v16094) (g16060 := g16092) (hi_49 := by omega) (hk_49 := by omega) (hki_49 := (by exfalso; omega)) (H := H) (locs := locs) (ls := ls) (hn_49 := by omega) (hP := hP) (hD := hD) (hS := hS) (hl := lv_sub hl [0, 1, 3, 4, 5] rfl)
                  · replace c16093 := nle_i c16093
                    refine lv_iconst (v := 0) hx hb dX12_fillKinds_120 (by decide) ?_
                    refine lv_goto (tgt := 125) hx hb dX12_fillKinds_121 (by decide) ?_
                    refine lv_iadd hx hb dX12_fillKinds_125 ?_
                    refine lv_topi (fun v16096 ev16096 => ?_)
                    refine lv_istore_n (lv' := [(3, .int v16096), (5, .int i16082), (4, .int i16058), (2, .int i16018), (0, .ref md), (1, .int p0)]) hx hb dX12_fillKinds_126 rfl hl (by decide) rfl (fun ls hl => ?_)
                    obtain ⟨v16097, ev16097⟩ : ∃ z : Int32, z = i16058 + 1 := ⟨_, rfl⟩
                    refine lv_iinc (v := v16097) (lv' := [(4, .int v16097), (3, .int v16096), (5, .int i16082), (2, .int i16018), (0, .ref md), (1, .int p0)]) hx hb dX12_fillKinds_127 hl (k := 2) rfl (by rw [ev16097]; rfl) (by decide) rfl (fun ls hl => ?_)
                    refine lv_goto (tgt := 49) hx hb dX12_fillKinds_130 (by decide) ?_
                    have tv16097 : v16097.toInt = (i16058 : Int32).toInt + (1 : Int32).toInt := add_i ev16097 (by omega) (by omega)
                    have tv16096 : v16096.toInt = (i16059 : Int32).toInt + (0 : Int32).toInt := add_i ev16096 (by omega) (by omega)
                    exact ih_49 (i16058 := v16097) (i16059 := v16096) (g16060 := g16092) (hi_49 := by omega) (hk_49 := by omega) (hki_49 := (by exfalso; omega)) (H := H) (locs := locs) (ls := ls) (hn_49 := by omega) (hP := hP) (hD := hD) (hS := hS) (hl := lv_sub hl [0, 1, 3, 4, 5] rfl)
              · replace c16083 := nle_i c16083
                refine lv_aload_n hx hb dX12_fillKinds_70 rfl (lv_at hl 4 rfl) ?_
                refine lv_iload hx hb dX12_fillKinds_71 (lv_at hl 0 rfl) ?_
                refine lv_iload hx hb dX12_fillKinds_73 (lv_at hl 1 rfl) ?_
                refine ro_V (As := [.int i16082, .int i16058]) (rest := []) hC hE kV_X12_390 (c_X12_sameOn l D K md ma1 ma2 ma3 ma4 ma6 ma14 ma21 ma22 ma23 ma24 ma26 ma27 ma28 ma29 ma30 ma31 ma32 ma33 ma34 ma35 ma36 ma40 ma41 ma42 ma45 ma46 ma47 ma49 ma50 ma51 ma52 mn0 mn5 mn7 mn8 mn9 mn10 mn11 mn12 mn13 mn15 mn16 mn17 mn18 mn19 mn20 mn25 mn37 mn38 mn39 mn43 mn44 mn48 mf1 g16019 i16082 i16058 hs1_0 (by omega) (by omega)) (hP.sub (ws' := [(md, .inr (11, [.int mn0, .ref ma1, .ref ma2, .ref ma3, .ref ma4, .int mn5, .ref ma6, .int mn7, .int mn8, .int mn9, .int mn10, .int mn11, .int mn12, .int mn13, .ref ma14, .int mn15, .int mn16, .int mn17, .int mn18, .int mn19, .int mn20, .ref ma21, .ref ma22, .ref ma23, .ref ma24, .int mn25, .ref ma26, .ref ma27, .ref ma28, .ref ma29, .ref ma30, .ref ma31, .ref ma32, .ref ma33, .ref ma34, .ref ma35, .ref ma36, .int mn37, .int mn38, .int mn39, .ref ma40, .ref ma41, .ref ma42, .int mn43, .int mn44, .ref ma45, .ref ma46, .ref ma47, .int mn48, .ref ma49, .ref ma50, .ref ma51, .ref ma52])), (ma1, .inl (K 1, 262, .inl mf1)), (ma27, .inl (K 1, 10, .inl g16019))]) [0, 1, 2] rfl) 0 11 rfl rfl rfl hl.1 rfl (Nat.le_of_ble_eq_true rfl) (by decide) (by decide) dX12_fillKinds_75 (fun r16099 hq => ?_)
                rcases hq with rfl | ⟨rfl, h16098⟩
                · refine lv_if_ne (tgt := 87) hx hb dX12_fillKinds_78 (by decide) (fun h => absurd h (by decide)) (fun _ => ?_)
                  obtain ⟨v16100, ev16100⟩ : ∃ z : Int32, z = i16082 + 1 := ⟨_, rfl⟩
                  refine lv_iinc (v := v16100) (lv' := [(5, .int v16100), (4, .int i16058), (3, .int i16059), (2, .int i16018), (0, .ref md), (1, .int p0)]) hx hb dX12_fillKinds_81 hl (k := 0) rfl (by rw [ev16100]; rfl) (by decide) rfl (fun ls hl => ?_)
                  refine lv_goto (tgt := 63) hx hb dX12_fillKinds_84 (by decide) ?_
                  have tv16100 : v16100.toInt = (i16082 : Int32).toInt + (1 : Int32).toInt := add_i ev16100 (by omega) (by omega)
                  exact ih_63 (i16082 := v16100) (hi_63 := by omega) (hl_63 := by omega) (H := H) (locs := locs) (ls := ls) (hn_63 := by omega) (hP := hP) (hS := hS) (hl := lv_sub hl [0, 1, 2, 3, 4, 5] rfl)
                · refine lv_if_ne (tgt := 87) hx hb dX12_fillKinds_78 (by decide) (fun _ => ?_) (fun h => absurd h (by decide))
                  refine lv_aload_n hx hb dX12_fillKinds_87 rfl (lv_at hl 4 rfl) ?_
                  refine va_get (D := D) (ci := 11) (v := .ref ma28) (C := RX12) (T := TX12) (N := 53) hx hb hts in_X12 hown hE.1 hP 0 rfl rfl 28 (by decide) (hts _ w_1169) (fun _ h9 => h9) rfl dX12_fillKinds_88 ?_
                  refine lv_iload hx hb dX12_fillKinds_91 (lv_at hl 1 rfl) ?_
                  refine lv_iload hx hb dX12_fillKinds_93 (lv_at hl 0 rfl) ?_
                  refine lv_iload hx hb dX12_fillKinds_95 (lv_at hl 1 rfl) ?_
                  refine lv_icmp_ge (tgt := 110) hx hb dX12_fillKinds_97 (by decide) (fun c16101 => ?_) (fun c16101 => ?_)
                  · replace c16101 := le_i c16101
                    refine lv_iload_n hx hb dX12_fillKinds_110 rfl (lv_at hl 2 rfl) ?_
                    refine sti hx hb hE.1 hP hD hS 3 1 rfl rfl (vp_in_iff.mpr (by omega)) dX12_fillKinds_111 (fun g16102 eg16102 H locs hP hD hS => ?_)
                    replace hP : va_P D vwCl [(md, .inr (11, [.int mn0, .ref ma1, .ref ma2, .ref ma3, .ref ma4, .int mn5, .ref ma6, .int mn7, .int mn8, .int mn9, .int mn10, .int mn11, .int mn12, .int mn13, .ref ma14, .int mn15, .int mn16, .int mn17, .int mn18, .int mn19, .int mn20, .ref ma21, .ref ma22, .ref ma23, .ref ma24, .int mn25, .ref ma26, .ref ma27, .ref ma28, .ref ma29, .ref ma30, .ref ma31, .ref ma32, .ref ma33, .ref ma34, .ref ma35, .ref ma36, .int mn37, .int mn38, .int mn39, .ref ma40, .ref ma41, .ref ma42, .int mn43, .int mn44, .ref ma45, .ref ma46, .ref ma47, .int mn48, .ref ma49, .ref ma50, .ref ma51, .ref ma52])), (ma1, .inl (K 1, 262, .inl mf1)), (ma27, .inl (K 1, 10, .inl g16019)), (ma28, .inl (K 1, 10, .inl g16102))] H := hP
                    replace hD : va_D A [(md, .inr (11, [.int mn0, .ref ma1, .ref ma2, .ref ma3, .ref ma4, .int mn5, .ref ma6, .int mn7, .int mn8, .int mn9, .int mn10, .int mn11, .int mn12, .int mn13, .ref ma14, .int mn15, .int mn16, .int mn17, .int mn18, .int mn19, .int mn20, .ref ma21, .ref ma22, .ref ma23, .ref ma24, .int mn25, .ref ma26, .ref ma27, .ref ma28, .ref ma29, .ref ma30, .ref ma31, .ref ma32, .ref ma33, .ref ma34, .ref ma35, .ref ma36, .int mn37, .int mn38, .int mn39, .ref ma40, .ref ma41, .ref ma42, .int mn43, .int mn44, .ref ma45, .ref ma46, .ref ma47, .int mn48, .ref ma49, .ref ma50, .ref ma51, .ref ma52])), (ma1, .inl (K 1, 262, .inl mf1)), (ma27, .inl (K 1, 10, .inl g16019)), (ma28, .inl (K 1, 10, .inl g16102))] := hD
                    refine lv_iload_n hx hb dX12_fillKinds_112 rfl (lv_at hl 2 rfl) ?_
                    refine lv_iload hx hb dX12_fillKinds_113 (lv_at hl 0 rfl) ?_
                    refine lv_iload hx hb dX12_fillKinds_115 (lv_at hl 1 rfl) ?_
                    refine lv_icmp_ge (tgt := 124) hx hb dX12_fillKinds_117 (by decide) (fun c16103 => ?_) (fun c16103 => ?_)
                    · replace c16103 := le_i c16103
                      refine lv_iconst (v := 1) hx hb dX12_fillKinds_124 (by decide) ?_
                      refine lv_iadd hx hb dX12_fillKinds_125 ?_
                      refine lv_topi (fun v16104 ev16104 => ?_)
                      refine lv_istore_n (lv' := [(3, .int v16104), (5, .int i16082), (4, .int i16058), (2, .int i16018), (0, .ref md), (1, .int p0)]) hx hb dX12_fillKinds_126 rfl hl (by decide) rfl (fun ls hl => ?_)
                      obtain ⟨v16105, ev16105⟩ : ∃ z : Int32, z = i16058 + 1 := ⟨_, rfl⟩
                      refine lv_iinc (v := v16105) (lv' := [(4, .int v16105), (3, .int v16104), (5, .int i16082), (2, .int i16018), (0, .ref md), (1, .int p0)]) hx hb dX12_fillKinds_127 hl (k := 2) rfl (by rw [ev16105]; rfl) (by decide) rfl (fun ls hl => ?_)
                      refine lv_goto (tgt := 49) hx hb dX12_fillKinds_130 (by decide) ?_
                      have tv16105 : v16105.toInt = (i16058 : Int32).toInt + (1 : Int32).toInt := add_i ev16105 (by omega) (by omega)
                      have tv16104 : v16104.toInt = (i16059 : Int32).toInt + (1 : Int32).toInt := add_i ev16104 (by omega) (by omega)
                      exact ih_49 (i16058 := v16105) (i16059 := v16104) (g16060 := g16102) (hi_49 := by omega) (hk_49 := by omega) (hki_49 := (by exfalso; omega)) (H := H) (locs := locs) (ls := ls) (hn_49 := by omega) (hP := hP) (hD := hD) (hS := hS) (hl := lv_sub hl [0, 1, 3, 4, 5] rfl)
                    · replace c16103 := nle_i c16103
                      refine lv_iconst (v := 0) hx hb dX12_fillKinds_120 (by decide) ?_
                      refine lv_goto (tgt := 125) hx hb dX12_fillKinds_121 (by decide) ?_
                      refine lv_iadd hx hb dX12_fillKinds_125 ?_
                      refine lv_topi (fun v16106 ev16106 => ?_)
                      refine lv_istore_n (lv' := [(3, .int v16106), (5, .int i16082), (4, .int i16058), (2, .int i16018), (0, .ref md), (1, .int p0)]) hx hb dX12_fillKinds_126 rfl hl (by decide) rfl (fun ls hl => ?_)
                      obtain ⟨v16107, ev16107⟩ : ∃ z : Int32, z = i16058 + 1 := ⟨_, rfl⟩
                      refine lv_iinc (v := v16107) (lv' := [(4, .int v16107), (3, .int v16106), (5, .int i16082), (2, .int i16018), (0, .ref md), (1, .int p0)]) hx hb dX12_fillKinds_127 hl (k := 2) rfl (by rw [ev16107]; rfl) (by decide) rfl (fun ls hl => ?_)
                      refine lv_goto (tgt := 49) hx hb dX12_fillKinds_130 (by decide) ?_
                      have tv16107 : v16107.toInt = (i16058 : Int32).toInt + (1 : Int32).toInt := add_i ev16107 (by omega) (by omega)
                      have tv16106 : v16106.toInt = (i16059 : Int32).toInt + (0 : Int32).toInt := add_i ev16106 (by omega) (by omega)
                      exact ih_49 (i16058 := v16107) (i16059 := v16106) (g16060 := g16102) (hi_49 := by omega) (hk_49 := by omega) (hki_49 := (by exfalso; omega)) (H := H) (locs := locs) (ls := ls) (hn_49 := by omega) (hP := hP) (hD := hD) (hS := hS) (hl := lv_sub hl [0, 1, 3, 4, 5] rfl)
                  · replace c16101 := nle_i c16101
                    refine lv_aload_n hx hb dX12_fillKinds_100 rfl (lv_at hl 4 rfl) ?_
                    refine va_get (D := D) (ci := 11) (v := .ref ma28) (C := RX12) (T := TX12) (N := 53) hx hb hts in_X12 hown hE.1 hP 0 rfl rfl 28 (by decide) (hts _ w_1169) (fun _ h9 => h9) rfl dX12_fillKinds_101 ?_
                    refine lv_iload hx hb dX12_fillKinds_104 (lv_at hl 0 rfl) ?_
                    refine va_iald hx hb hE.1 hP 3 1 rfl rfl (vp_in_iff.mpr (by omega)) dX12_fillKinds_106 ?_
                    refine lv_topi (fun v16108 ev16108 => ?_)
                    refine lv_goto (tgt := 111) hx hb dX12_fillKinds_107 (by decide) ?_
                    refine sti hx hb hE.1 hP hD hS 3 1 rfl rfl (vp_in_iff.mpr (by omega)) dX12_fillKinds_111 (fun g16109 eg16109 H locs hP hD hS => ?_)
                    replace hP : va_P D vwCl [(md, .inr (11, [.int mn0, .ref ma1, .ref ma2, .ref ma3, .ref ma4, .int mn5, .ref ma6, .int mn7, .int mn8, .int mn9, .int mn10, .int mn11, .int mn12, .int mn13, .ref ma14, .int mn15, .int mn16, .int mn17, .int mn18, .int mn19, .int mn20, .ref ma21, .ref ma22, .ref ma23, .ref ma24, .int mn25, .ref ma26, .ref ma27, .ref ma28, .ref ma29, .ref ma30, .ref ma31, .ref ma32, .ref ma33, .ref ma34, .ref ma35, .ref ma36, .int mn37, .int mn38, .int mn39, .ref ma40, .ref ma41, .ref ma42, .int mn43, .int mn44, .ref ma45, .ref ma46, .ref ma47, .int mn48, .ref ma49, .ref ma50, .ref ma51, .ref ma52])), (ma1, .inl (K 1, 262, .inl mf1)), (ma27, .inl (K 1, 10, .inl g16019)), (ma28, .inl (K 1, 10, .inl g16109))] H := hP
                    replace hD : va_D A [(md, .inr (11, [.int mn0, .ref ma1, .ref ma2, .ref ma3, .ref ma4, .int mn5, .ref ma6, .int mn7, .int mn8, .int mn9, .int mn10, .int mn11, .int mn12, .int mn13, .ref ma14, .int mn15, .int mn16, .int mn17, .int mn18, .int mn19, .int mn20, .ref ma21, .ref ma22, .ref ma23, .ref ma24, .int mn25, .ref ma26, .ref ma27, .ref ma28, .ref ma29, .ref ma30, .ref ma31, .ref ma32, .ref ma33, .ref ma34, .ref ma35, .ref ma36, .int mn37, .int mn38, .int mn39, .ref ma40, .ref ma41, .ref ma42, .int mn43, .int mn44, .ref ma45, .ref ma46, .ref ma47, .int mn48, .ref ma49, .ref ma50, .ref ma51, .ref ma52])), (ma1, .inl (K 1, 262, .inl mf1)), (ma27, .inl (K 1, 10, .inl g16019)), (ma28, .inl (K 1, 10, .inl g16109))] := hD
                    refine lv_iload_n hx hb dX12_fillKinds_112 rfl (lv_at hl 2 rfl) ?_
                    refine lv_iload hx hb dX12_fillKinds_113 (lv_at hl 0 rfl) ?_
                    refine lv_iload hx hb dX12_fillKinds_115 (lv_at hl 1 rfl) ?_
                    refine lv_icmp_ge (tgt := 124) hx hb dX12_fillKinds_117 (by decide) (fun c16110 => ?_) (fun c16110 => ?_)
                    · replace c16110 := le_i c16110
                      refine lv_iconst (v := 1) hx hb dX12_fillKinds_124 (by decide) ?_
                      refine lv_iadd hx hb dX12_fillKinds_125 ?_
                      refine lv_topi (fun v16111 ev16111 => ?_)
                      refine lv_istore_n (lv' := [(3, .int v16111), (5, .int i16082), (4, .int i16058), (2, .int i16018), (0, .ref md), (1, .int p0)]) hx hb dX12_fillKinds_126 rfl hl (by decide) rfl (fun ls hl => ?_)
                      obtain ⟨v16112, ev16112⟩ : ∃ z : Int32, z = i16058 + 1 := ⟨_, rfl⟩
                      refine lv_iinc (v := v16112) (lv' := [(4, .int v16112), (3, .int v16111), (5, .int i16082), (2, .int i16018), (0, .ref md), (1, .int p0)]) hx hb dX12_fillKinds_127 hl (k := 2) rfl (by rw [ev16112]; rfl) (by decide) rfl (fun ls hl => ?_)
                      refine lv_goto (tgt := 49) hx hb dX12_fillKinds_130 (by decide) ?_
                      have tv16112 : v16112.toInt = (i16058 : Int32).toInt + (1 : Int32).toInt := add_i ev16112 (by omega) (by omega)
                      have tv16111 : v16111.toInt = (i16059 : Int32).toInt + (1 : Int32).toInt := add_i ev16111 (by omega) (by omega)
                      exact ih_49 (i16058 := v16112) (i16059 := v16111) (g16060 := g16109) (hi_49 := by omega) (hk_49 := by omega) (hki_49 := ki_old2 hki_49 (by omega) (q := i16082.toInt.toNat) (by omega) h16098 (by rw [ev16108]; rfl) eg16109 (by omega) (by omega)) (H := H) (locs := locs) (ls := ls) (hn_49 := by omega) (hP := hP) (hD := hD) (hS := hS) (hl := lv_sub hl [0, 1, 3, 4, 5] rfl)
                    · replace c16110 := nle_i c16110
                      refine lv_iconst (v := 0) hx hb dX12_fillKinds_120 (by decide) ?_
                      refine lv_goto (tgt := 125) hx hb dX12_fillKinds_121 (by decide) ?_
                      refine lv_iadd hx hb dX12_fillKinds_125 ?_
                      refine lv_topi (fun v16113 ev16113 => ?_)
                      refine lv_istore_n (lv' := [(3, .int v16113), (5, .int i16082), (4, .int i16058), (2, .int i16018), (0, .ref md), (1, .int p0)]) hx hb dX12_fillKinds_126 rfl hl (by decide) rfl (fun ls hl => ?_)
                      obtain ⟨v16114, ev16114⟩ : ∃ z : Int32, z = i16058 + 1 := ⟨_, rfl⟩
                      refine lv_iinc (v := v16114) (lv' := [(4, .int v16114), (3, .int v16113), (5, .int i16082), (2, .int i16018), (0, .ref md), (1, .int p0)]) hx hb dX12_fillKinds_127 hl (k := 2) rfl (by rw [ev16114]; rfl) (by decide) rfl (fun ls hl => ?_)
                      refine lv_goto (tgt := 49) hx hb dX12_fillKinds_130 (by decide) ?_
                      have tv16114 : v16114.toInt = (i16058 : Int32).toInt + (1 : Int32).toInt := add_i ev16114 (by omega) (by omega)
                      have tv16113 : v16113.toInt = (i16059 : Int32).toInt + (0 : Int32).toInt := add_i ev16113 (by omega) (by omega)
                      exact ih_49 (i16058 := v16114) (i16059 := v16113) (g16060 := g16109) (hi_49 := by omega) (hk_49 := by omega) (hki_49 := ki_old2 hki_49 (by omega) (q := i16082.toInt.toNat) (by omega) h16098 (by rw [ev16108]; rfl) eg16109 (by omega) (by omega)) (H := H) (locs := locs) (ls := ls) (hn_49 := by omega) (hP := hP) (hD := hD) (hS := hS) (hl := lv_sub hl [0, 1, 3, 4, 5] rfl)
    · replace c15972 := nle_i c15972
      refine lv_aload_n hx hb dX12_fillKinds_12 rfl (lv_at hl 1 rfl) ?_
      refine va_get (D := D) (ci := 11) (v := .ref ma27) (C := RX12) (T := TX12) (N := 53) hx hb hts in_X12 hown hE.1 hP 0 rfl rfl 27 (by decide) (hts _ w_1168) (fun _ h9 => h9) rfl dX12_fillKinds_13 ?_
      refine lv_iload_n hx hb dX12_fillKinds_16 rfl (lv_at hl 0 rfl) ?_
      refine lv_iload_n hx hb dX12_fillKinds_17 rfl (lv_at hl 2 rfl) ?_
      refine lv_iload_n hx hb dX12_fillKinds_18 rfl (lv_at hl 0 rfl) ?_
      refine ro_S (As := [.int p0, .int i15969]) (rest := [.int i15969, .ref ma27]) hC hE kS_X12_270 (c_X12_bit l D K p0 i15969) (hP.sub (ws' := []) [] rfl) rfl hl.1 rfl (Nat.le_of_ble_eq_true rfl) (by decide) (by decide) dX12_fillKinds_19 (fun r16118 hq => ?_)
      obtain ⟨h16115, h16116, h16117⟩ := hq
      refine lv_iconst (v := 1) hx hb dX12_fillKinds_22 (by decide) ?_
      refine lv_icmp_ne (tgt := 30) hx hb dX12_fillKinds_23 (by decide) (fun c16119 => ?_) (fun c16119 => ?_)
      · replace c16119 := ne_i c16119
        refine lv_aload_n hx hb dX12_fillKinds_30 rfl (lv_at hl 1 rfl) ?_
        refine lv_iload_n hx hb dX12_fillKinds_31 rfl (lv_at hl 0 rfl) ?_
        refine ro_V (As := [.int i15969]) (rest := [.int i15969, .ref ma27]) hC hE kV_X12_276 (c_X12_markOf l D K md ma1 ma2 ma3 ma4 ma6 ma14 ma21 ma22 ma23 ma24 ma26 ma27 ma28 ma29 ma30 ma31 ma32 ma33 ma34 ma35 ma36 ma40 ma41 ma42 ma45 ma46 ma47 ma49 ma50 ma51 ma52 mn0 mn5 mn7 mn8 mn9 mn10 mn11 mn12 mn13 mn15 mn16 mn17 mn18 mn19 mn20 mn25 mn37 mn38 mn39 mn43 mn44 mn48 mf1 i15969 hs1_0 (by omega)) (hP.sub (ws' := [(md, .inr (11, [.int mn0, .ref ma1, .ref ma2, .ref ma3, .ref ma4, .int mn5, .ref ma6, .int mn7, .int mn8, .int mn9, .int mn10, .int mn11, .int mn12, .int mn13, .ref ma14, .int mn15, .int mn16, .int mn17, .int mn18, .int mn19, .int mn20, .ref ma21, .ref ma22, .ref ma23, .ref ma24, .int mn25, .ref ma26, .ref ma27, .ref ma28, .ref ma29, .ref ma30, .ref ma31, .ref ma32, .ref ma33, .ref ma34, .ref ma35, .ref ma36, .int mn37, .int mn38, .int mn39, .ref ma40, .ref ma41, .ref ma42, .int mn43, .int mn44, .ref ma45, .ref ma46, .ref ma47, .int mn48, .ref ma49, .ref ma50, .ref ma51, .ref ma52])), (ma1, .inl (K 1, 262, .inl mf1))]) [0, 1] rfl) 0 11 rfl rfl rfl hl.1 rfl (Nat.le_of_ble_eq_true rfl) (by decide) (by decide) dX12_fillKinds_32 (fun r16123 hq => ?_)
        obtain ⟨h16120, h16121, h16122⟩ := hq
        refine sti hx hb hE.1 hP hD hS 2 1 rfl rfl (vp_in_iff.mpr (by omega)) dX12_fillKinds_35 (fun g16124 eg16124 H locs hP hD hS => ?_)
        replace hP : va_P D vwCl [(md, .inr (11, [.int mn0, .ref ma1, .ref ma2, .ref ma3, .ref ma4, .int mn5, .ref ma6, .int mn7, .int mn8, .int mn9, .int mn10, .int mn11, .int mn12, .int mn13, .ref ma14, .int mn15, .int mn16, .int mn17, .int mn18, .int mn19, .int mn20, .ref ma21, .ref ma22, .ref ma23, .ref ma24, .int mn25, .ref ma26, .ref ma27, .ref ma28, .ref ma29, .ref ma30, .ref ma31, .ref ma32, .ref ma33, .ref ma34, .ref ma35, .ref ma36, .int mn37, .int mn38, .int mn39, .ref ma40, .ref ma41, .ref ma42, .int mn43, .int mn44, .ref ma45, .ref ma46, .ref ma47, .int mn48, .ref ma49, .ref ma50, .ref ma51, .ref ma52])), (ma1, .inl (K 1, 262, .inl mf1)), (ma27, .inl (K 1, 10, .inl g16124)), (ma28, .inl (K 1, 10, .inl mf28))] H := hP
        replace hD : va_D A [(md, .inr (11, [.int mn0, .ref ma1, .ref ma2, .ref ma3, .ref ma4, .int mn5, .ref ma6, .int mn7, .int mn8, .int mn9, .int mn10, .int mn11, .int mn12, .int mn13, .ref ma14, .int mn15, .int mn16, .int mn17, .int mn18, .int mn19, .int mn20, .ref ma21, .ref ma22, .ref ma23, .ref ma24, .int mn25, .ref ma26, .ref ma27, .ref ma28, .ref ma29, .ref ma30, .ref ma31, .ref ma32, .ref ma33, .ref ma34, .ref ma35, .ref ma36, .int mn37, .int mn38, .int mn39, .ref ma40, .ref ma41, .ref ma42, .int mn43, .int mn44, .ref ma45, .ref ma46, .ref ma47, .int mn48, .ref ma49, .ref ma50, .ref ma51, .ref ma52])), (ma1, .inl (K 1, 262, .inl mf1)), (ma27, .inl (K 1, 10, .inl g16124)), (ma28, .inl (K 1, 10, .inl mf28))] := hD
        obtain ⟨v16125, ev16125⟩ : ∃ z : Int32, z = i15969 + 1 := ⟨_, rfl⟩
        refine lv_iinc (v := v16125) (lv' := [(2, .int v16125), (0, .ref md), (1, .int p0)]) hx hb dX12_fillKinds_36 hl (k := 0) rfl (by rw [ev16125]; rfl) (by decide) rfl (fun ls hl => ?_)
        refine lv_goto (tgt := 2) hx hb dX12_fillKinds_39 (by decide) ?_
        have tv16125 : v16125.toInt = (i15969 : Int32).toInt + (1 : Int32).toInt := add_i ev16125 (by omega) (by omega)
        exact ih_2 (i15969 := v16125) (g15970 := g16124) (hi_2 := by omega) (H := H) (locs := locs) (ls := ls) (hn_2 := by omega) (hP := hP) (hD := hD) (hS := hS) (hl := lv_sub hl [0, 1, 2] rfl)
      · replace c16119 := eq_i c16119
        refine lv_iconst (v := 0) hx hb dX12_fillKinds_26 (by decide) ?_
        refine lv_goto (tgt := 35) hx hb dX12_fillKinds_27 (by decide) ?_
        refine sti hx hb hE.1 hP hD hS 2 1 rfl rfl (vp_in_iff.mpr (by omega)) dX12_fillKinds_35 (fun g16126 eg16126 H locs hP hD hS => ?_)
        replace hP : va_P D vwCl [(md, .inr (11, [.int mn0, .ref ma1, .ref ma2, .ref ma3, .ref ma4, .int mn5, .ref ma6, .int mn7, .int mn8, .int mn9, .int mn10, .int mn11, .int mn12, .int mn13, .ref ma14, .int mn15, .int mn16, .int mn17, .int mn18, .int mn19, .int mn20, .ref ma21, .ref ma22, .ref ma23, .ref ma24, .int mn25, .ref ma26, .ref ma27, .ref ma28, .ref ma29, .ref ma30, .ref ma31, .ref ma32, .ref ma33, .ref ma34, .ref ma35, .ref ma36, .int mn37, .int mn38, .int mn39, .ref ma40, .ref ma41, .ref ma42, .int mn43, .int mn44, .ref ma45, .ref ma46, .ref ma47, .int mn48, .ref ma49, .ref ma50, .ref ma51, .ref ma52])), (ma1, .inl (K 1, 262, .inl mf1)), (ma27, .inl (K 1, 10, .inl g16126)), (ma28, .inl (K 1, 10, .inl mf28))] H := hP
        replace hD : va_D A [(md, .inr (11, [.int mn0, .ref ma1, .ref ma2, .ref ma3, .ref ma4, .int mn5, .ref ma6, .int mn7, .int mn8, .int mn9, .int mn10, .int mn11, .int mn12, .int mn13, .ref ma14, .int mn15, .int mn16, .int mn17, .int mn18, .int mn19, .int mn20, .ref ma21, .ref ma22, .ref ma23, .ref ma24, .int mn25, .ref ma26, .ref ma27, .ref ma28, .ref ma29, .ref ma30, .ref ma31, .ref ma32, .ref ma33, .ref ma34, .ref ma35, .ref ma36, .int mn37, .int mn38, .int mn39, .ref ma40, .ref ma41, .ref ma42, .int mn43, .int mn44, .ref ma45, .ref ma46, .ref ma47, .int mn48, .ref ma49, .ref ma50, .ref ma51, .ref ma52])), (ma1, .inl (K 1, 262, .inl mf1)), (ma27, .inl (K 1, 10, .inl g16126)), (ma28, .inl (K 1, 10, .inl mf28))] := hD
        obtain ⟨v16127, ev16127⟩ : ∃ z : Int32, z = i15969 + 1 := ⟨_, rfl⟩
        refine lv_iinc (v := v16127) (lv' := [(2, .int v16127), (0, .ref md), (1, .int p0)]) hx hb dX12_fillKinds_36 hl (k := 0) rfl (by rw [ev16127]; rfl) (by decide) rfl (fun ls hl => ?_)
        refine lv_goto (tgt := 2) hx hb dX12_fillKinds_39 (by decide) ?_
        have tv16127 : v16127.toInt = (i15969 : Int32).toInt + (1 : Int32).toInt := add_i ev16127 (by omega) (by omega)
        exact ih_2 (i15969 := v16127) (g15970 := g16126) (hi_2 := by omega) (H := H) (locs := locs) (ls := ls) (hn_2 := by omega) (hP := hP) (hD := hD) (hS := hS) (hl := lv_sub hl [0, 1, 2] rfl)
set_option maxRecDepth 40000 in
set_option maxHeartbeats 4000000 in
theorem c_X12_alike (l : Launch) (D : va_G) (K : Nat → ClassId) (md : Nat) (ma1 : Nat) (ma2 : Nat) (ma3 : Nat) (ma4 : Nat) (ma6 : Nat) (ma14 : Nat) (ma21 : Nat) (ma22 : Nat) (ma23 : Nat) (ma24 : Nat) (ma26 : Nat) (ma27 : Nat) (ma28 : Nat) (ma29 : Nat) (ma30 : Nat) (ma31 : Nat) (ma32 : Nat) (ma33 : Nat) (ma34 : Nat) (ma35 : Nat) (ma36 : Nat) (ma40 : Nat) (ma41 : Nat) (ma42 : Nat) (ma45 : Nat) (ma46 : Nat) (ma47 : Nat) (ma49 : Nat) (ma50 : Nat) (ma51 : Nat) (ma52 : Nat) (mn0 : Int32) (mn5 : Int32) (mn7 : Int32) (mn8 : Int32) (mn9 : Int32) (mn10 : Int32) (mn11 : Int32) (mn12 : Int32) (mn13 : Int32) (mn15 : Int32) (mn16 : Int32) (mn17 : Int32) (mn18 : Int32) (mn19 : Int32) (mn20 : Int32) (mn25 : Int32) (mn37 : Int32) (mn38 : Int32) (mn39 : Int32) (mn43 : Int32) (mn44 : Int32) (mn48 : Int32) (mf1 : Nat → Int32) (mf27 : Nat → Int32) (mf28 : Nat → Int32) (p0 : Int32) (p1 : Int32) (hs1_0 : GW mf1) : Ci (S := ((Nat → Int32) × (Nat → Nat → Int32) × (Nat → Nat → Int64))) l D K yX12_alike cX12_alike 3 (some .int) 3 71 0 0 [.ref md, .int p0, .int p1] [(md, .inr (11, [.int mn0, .ref ma1, .ref ma2, .ref ma3, .ref ma4, .int mn5, .ref ma6, .int mn7, .int mn8, .int mn9, .int mn10, .int mn11, .int mn12, .int mn13, .ref ma14, .int mn15, .int mn16, .int mn17, .int mn18, .int mn19, .int mn20, .ref ma21, .ref ma22, .ref ma23, .ref ma24, .int mn25, .ref ma26, .ref ma27, .ref ma28, .ref ma29, .ref ma30, .ref ma31, .ref ma32, .ref ma33, .ref ma34, .ref ma35, .ref ma36, .int mn37, .int mn38, .int mn39, .ref ma40, .ref ma41, .ref ma42, .int mn43, .int mn44, .ref ma45, .ref ma46, .ref ma47, .int mn48, .ref ma49, .ref ma50, .ref ma51, .ref ma52])), (ma1, .inl (K 1, 262, .inl mf1)), (ma27, .inl (K 1, 10, .inl mf27)), (ma28, .inl (K 1, 10, .inl mf28))] (fun _ _ => True) (fun u => [(md, .inr (11, [.int mn0, .ref ma1, .ref ma2, .ref ma3, .ref ma4, .int mn5, .ref ma6, .int mn7, .int mn8, .int mn9, .int mn10, .int mn11, .int mn12, .int mn13, .ref ma14, .int mn15, .int mn16, .int mn17, .int mn18, .int mn19, .int mn20, .ref ma21, .ref ma22, .ref ma23, .ref ma24, .int mn25, .ref ma26, .ref ma27, .ref ma28, .ref ma29, .ref ma30, .ref ma31, .ref ma32, .ref ma33, .ref ma34, .ref ma35, .ref ma36, .int mn37, .int mn38, .int mn39, .ref ma40, .ref ma41, .ref ma42, .int mn43, .int mn44, .ref ma45, .ref ma46, .ref ma47, .int mn48, .ref ma49, .ref ma50, .ref ma51, .ref ma52])), (ma1, .inl (K 1, 262, .inl mf1)), (ma27, .inl (K 1, 10, .inl (u.2.1 0))), (ma28, .inl (K 1, 10, .inl (u.2.1 1)))]) := by
  intro sz
  refine ch_of (y := yX12_alike) (cc := cX12_alike) (maxL := 3) (ret := (some .int)) (av := [.ref md, .int p0, .int p1]) (ws := [(md, .inr (11, [.int mn0, .ref ma1, .ref ma2, .ref ma3, .ref ma4, .int mn5, .ref ma6, .int mn7, .int mn8, .int mn9, .int mn10, .int mn11, .int mn12, .int mn13, .ref ma14, .int mn15, .int mn16, .int mn17, .int mn18, .int mn19, .int mn20, .ref ma21, .ref ma22, .ref ma23, .ref ma24, .int mn25, .ref ma26, .ref ma27, .ref ma28, .ref ma29, .ref ma30, .ref ma31, .ref ma32, .ref ma33, .ref ma34, .ref ma35, .ref ma36, .int mn37, .int mn38, .int mn39, .ref ma40, .ref ma41, .ref ma42, .int mn43, .int mn44, .ref ma45, .ref ma46, .ref ma47, .int mn48, .ref ma49, .ref ma50, .ref ma51, .ref ma52])), (ma1, .inl (K 1, 262, .inl mf1)), (ma27, .inl (K 1, 10, .inl mf27)), (ma28, .inl (K 1, 10, .inl mf28))]) (D := D) (K := K) (Qc := fun A => va_Qi (S := ((Nat → Int32) × (Nat → Nat → Int32) × (Nat → Nat → Int64))) (fun _ _ => True) (chB D A (fun u => [(md, .inr (11, [.int mn0, .ref ma1, .ref ma2, .ref ma3, .ref ma4, .int mn5, .ref ma6, .int mn7, .int mn8, .int mn9, .int mn10, .int mn11, .int mn12, .int mn13, .ref ma14, .int mn15, .int mn16, .int mn17, .int mn18, .int mn19, .int mn20, .ref ma21, .ref ma22, .ref ma23, .ref ma24, .int mn25, .ref ma26, .ref ma27, .ref ma28, .ref ma29, .ref ma30, .ref ma31, .ref ma32, .ref ma33, .ref ma34, .ref ma35, .ref ma36, .int mn37, .int mn38, .int mn39, .ref ma40, .ref ma41, .ref ma42, .int mn43, .int mn44, .ref ma45, .ref ma46, .ref ma47, .int mn48, .ref ma49, .ref ma50, .ref ma51, .ref ma52])), (ma1, .inl (K 1, 262, .inl mf1)), (ma27, .inl (K 1, 10, .inl (u.2.1 0))), (ma28, .inl (K 1, 10, .inl (u.2.1 1)))])) A) (by decide) (Nat.le_of_ble_eq_true rfl) ?_
  intro p e s m below meth c A hC hr hk hin hE hD hA H locs hP hS ls hl
  replace hC : CallFix p m c cX12_alike 3 s [.ref md, .int p0, .int p1].toArray wl RX12 := hC
  have hx := hC.1
  have hb := hC.2.1
  have hml := hC.2.2.1
  have hown := hC.2.2.2.1
  have hts := hC.2.2.2.2
  replace hl : lv_has ls 3 [(0, .ref md), (1, .int p0), (2, .int p1)] := hl
  have kc_0 : (0 : Int32).toInt = 0 := by decide
  have hW0 := gwn_0 hs1_0; have hW1 := gwn_1 hs1_0; have hW2 := gwn_2 hs1_0; have hW4 := gwn_4 hs1_0
  refine lv_aload_n hx hb dX12_alike_0 rfl (lv_at hl 0 rfl) ?_
  refine lv_iload_n hx hb dX12_alike_1 rfl (lv_at hl 1 rfl) ?_
  refine lv_iload_n hx hb dX12_alike_2 rfl (lv_at hl 2 rfl) ?_
  refine ro_V (As := [.int p0, .int p1]) (rest := []) hC hE kV_X12_394 (c_X12_areTwo l D K md ma1 ma2 ma3 ma4 ma6 ma14 ma21 ma22 ma23 ma24 ma26 ma27 ma28 ma29 ma30 ma31 ma32 ma33 ma34 ma35 ma36 ma40 ma41 ma42 ma45 ma46 ma47 ma49 ma50 ma51 ma52 mn0 mn5 mn7 mn8 mn9 mn10 mn11 mn12 mn13 mn15 mn16 mn17 mn18 mn19 mn20 mn25 mn37 mn38 mn39 mn43 mn44 mn48 mf1 p0 p1 hs1_0) (hP.sub (ws' := [(md, .inr (11, [.int mn0, .ref ma1, .ref ma2, .ref ma3, .ref ma4, .int mn5, .ref ma6, .int mn7, .int mn8, .int mn9, .int mn10, .int mn11, .int mn12, .int mn13, .ref ma14, .int mn15, .int mn16, .int mn17, .int mn18, .int mn19, .int mn20, .ref ma21, .ref ma22, .ref ma23, .ref ma24, .int mn25, .ref ma26, .ref ma27, .ref ma28, .ref ma29, .ref ma30, .ref ma31, .ref ma32, .ref ma33, .ref ma34, .ref ma35, .ref ma36, .int mn37, .int mn38, .int mn39, .ref ma40, .ref ma41, .ref ma42, .int mn43, .int mn44, .ref ma45, .ref ma46, .ref ma47, .int mn48, .ref ma49, .ref ma50, .ref ma51, .ref ma52])), (ma1, .inl (K 1, 262, .inl mf1))]) [0, 1] rfl) 0 11 rfl rfl rfl hl.1 rfl (Nat.le_of_ble_eq_true rfl) (by decide) (by decide) dX12_alike_3 (fun r16144 hq => ?_)
  rcases hq with rfl | ⟨rfl, h16139, h16140, h16141, h16142, h16143⟩
  · refine lv_if_ne (tgt := 12) hx hb dX12_alike_6 (by decide) (fun h => absurd h (by decide)) (fun _ => ?_)
    refine lv_bipush (v := (-2)) hx hb dX12_alike_9 (by decide) ?_
    refine W.widen (k := 0) (n := 0) (by decide) (by decide) ?_
    exact ch_iret hC hr hk hS dX12_alike_11 ((fun k => [].getD k 0, fun k => [mf27, mf28].getD k (fun _ => 0), fun k => [].getD k (fun _ => 0)) : ((Nat → Int32) × (Nat → Nat → Int32) × (Nat → Nat → Int64))) trivial (hP.sub [0, 1, 2, 3] rfl) (hD.sub [0, 1, 2, 3] (by decide) rfl)
  · refine lv_if_ne (tgt := 12) hx hb dX12_alike_6 (by decide) (fun _ => ?_) (fun h => absurd h (by decide))
    refine lv_aload_n hx hb dX12_alike_12 rfl (lv_at hl 0 rfl) ?_
    refine lv_iconst (v := 0) hx hb dX12_alike_13 (by decide) ?_
    refine ci_V (As := [.int 0]) (rest := []) (wc := [(md, .inr (11, [.int mn0, .ref ma1, .ref ma2, .ref ma3, .ref ma4, .int mn5, .ref ma6, .int mn7, .int mn8, .int mn9, .int mn10, .int mn11, .int mn12, .int mn13, .ref ma14, .int mn15, .int mn16, .int mn17, .int mn18, .int mn19, .int mn20, .ref ma21, .ref ma22, .ref ma23, .ref ma24, .int mn25, .ref ma26, .ref ma27, .ref ma28, .ref ma29, .ref ma30, .ref ma31, .ref ma32, .ref ma33, .ref ma34, .ref ma35, .ref ma36, .int mn37, .int mn38, .int mn39, .ref ma40, .ref ma41, .ref ma42, .int mn43, .int mn44, .ref ma45, .ref ma46, .ref ma47, .int mn48, .ref ma49, .ref ma50, .ref ma51, .ref ma52])), (ma1, .inl (K 1, 262, .inl mf1)), (ma27, .inl (K 1, 10, .inl mf27)), (ma28, .inl (K 1, 10, .inl mf28))]) (wr := []) hC hE kV_X12_397 (c_X12_fillKinds l D K md ma1 ma2 ma3 ma4 ma6 ma14 ma21 ma22 ma23 ma24 ma26 ma27 ma28 ma29 ma30 ma31 ma32 ma33 ma34 ma35 ma36 ma40 ma41 ma42 ma45 ma46 ma47 ma49 ma50 ma51 ma52 mn0 mn5 mn7 mn8 mn9 mn10 mn11 mn12 mn13 mn15 mn16 mn17 mn18 mn19 mn20 mn25 mn37 mn38 mn39 mn43 mn44 mn48 mf1 mf27 mf28 0 hs1_0) hP hD hS hA [0, 1, 2, 3] [] rfl rfl rfl (by decide) (by decide) (by decide) 0 11 rfl rfl rfl hl.1 rfl (Nat.le_of_ble_eq_true rfl) (by decide) (by decide) dX12_alike_14 (fun r16146 u16145 H locs hw hP hD hS => ?_)
    replace hP : va_P D vwCl [(md, .inr (11, [.int mn0, .ref ma1, .ref ma2, .ref ma3, .ref ma4, .int mn5, .ref ma6, .int mn7, .int mn8, .int mn9, .int mn10, .int mn11, .int mn12, .int mn13, .ref ma14, .int mn15, .int mn16, .int mn17, .int mn18, .int mn19, .int mn20, .ref ma21, .ref ma22, .ref ma23, .ref ma24, .int mn25, .ref ma26, .ref ma27, .ref ma28, .ref ma29, .ref ma30, .ref ma31, .ref ma32, .ref ma33, .ref ma34, .ref ma35, .ref ma36, .int mn37, .int mn38, .int mn39, .ref ma40, .ref ma41, .ref ma42, .int mn43, .int mn44, .ref ma45, .ref ma46, .ref ma47, .int mn48, .ref ma49, .ref ma50, .ref ma51, .ref ma52])), (ma1, .inl (K 1, 262, .inl mf1)), (ma27, .inl (K 1, 10, .inl (u16145.2.1 0))), (ma28, .inl (K 1, 10, .inl (u16145.2.1 1)))] H := hP
    replace hD : va_D A [(md, .inr (11, [.int mn0, .ref ma1, .ref ma2, .ref ma3, .ref ma4, .int mn5, .ref ma6, .int mn7, .int mn8, .int mn9, .int mn10, .int mn11, .int mn12, .int mn13, .ref ma14, .int mn15, .int mn16, .int mn17, .int mn18, .int mn19, .int mn20, .ref ma21, .ref ma22, .ref ma23, .ref ma24, .int mn25, .ref ma26, .ref ma27, .ref ma28, .ref ma29, .ref ma30, .ref ma31, .ref ma32, .ref ma33, .ref ma34, .ref ma35, .ref ma36, .int mn37, .int mn38, .int mn39, .ref ma40, .ref ma41, .ref ma42, .int mn43, .int mn44, .ref ma45, .ref ma46, .ref ma47, .int mn48, .ref ma49, .ref ma50, .ref ma51, .ref ma52])), (ma1, .inl (K 1, 262, .inl mf1)), (ma27, .inl (K 1, 10, .inl (u16145.2.1 0))), (ma28, .inl (K 1, 10, .inl (u16145.2.1 1)))] := hD
    replace hP : va_P D vwCl [(md, .inr (11, [.int mn0, .ref ma1, .ref ma2, .ref ma3, .ref ma4, .int mn5, .ref ma6, .int mn7, .int mn8, .int mn9, .int mn10, .int mn11, .int mn12, .int mn13, .ref ma14, .int mn15, .int mn16, .int mn17, .int mn18, .int mn19, .int mn20, .ref ma21, .ref ma22, .ref ma23, .ref ma24, .int mn25, .ref ma26, .ref ma27, .ref ma28, .ref ma29, .ref ma30, .ref ma31, .ref ma32, .ref ma33, .ref ma34, .ref ma35, .ref ma36, .int mn37, .int mn38, .int mn39, .ref ma40, .ref ma41, .ref ma42, .int mn43, .int mn44, .ref ma45, .ref ma46, .ref ma47, .int mn48, .ref ma49, .ref ma50, .ref ma51, .ref ma52])), (ma1, .inl (K 1, 262, .inl mf1)), (ma27, .inl (K 1, 10, .inl (u16145.2.1 0))), (ma28, .inl (K 1, 10, .inl (u16145.2.1 1)))] H := hP.sub [0, 1, 2, 3] rfl
    replace hD : va_D A [(md, .inr (11, [.int mn0, .ref ma1, .ref ma2, .ref ma3, .ref ma4, .int mn5, .ref ma6, .int mn7, .int mn8, .int mn9, .int mn10, .int mn11, .int mn12, .int mn13, .ref ma14, .int mn15, .int mn16, .int mn17, .int mn18, .int mn19, .int mn20, .ref ma21, .ref ma22, .ref ma23, .ref ma24, .int mn25, .ref ma26, .ref ma27, .ref ma28, .ref ma29, .ref ma30, .ref ma31, .ref ma32, .ref ma33, .ref ma34, .ref ma35, .ref ma36, .int mn37, .int mn38, .int mn39, .ref ma40, .ref ma41, .ref ma42, .int mn43, .int mn44, .ref ma45, .ref ma46, .ref ma47, .int mn48, .ref ma49, .ref ma50, .ref ma51, .ref ma52])), (ma1, .inl (K 1, 262, .inl mf1)), (ma27, .inl (K 1, 10, .inl (u16145.2.1 0))), (ma28, .inl (K 1, 10, .inl (u16145.2.1 1)))] := hD.sub [0, 1, 2, 3] (by decide) rfl
    refine W.widen (k := 0) (n := 0) (by decide) (by decide) ?_
    refine lv_pop hx hb dX12_alike_17 rfl ?_
    refine lv_aload_n hx hb dX12_alike_18 rfl (lv_at hl 0 rfl) ?_
    refine va_get (D := D) (ci := 11) (v := .ref ma27) (C := RX12) (T := TX12) (N := 53) hx hb hts in_X12 hown hE.1 hP 0 rfl rfl 27 (by decide) (hts _ w_1168) (fun _ h9 => h9) rfl dX12_alike_19 ?_
    refine lv_iload_n hx hb dX12_alike_22 rfl (lv_at hl 1 rfl) ?_
    refine va_iald hx hb hE.1 hP 2 1 rfl rfl (vp_in_iff.mpr (by omega)) dX12_alike_23 ?_
    refine lv_topi (fun v16147 ev16147 => ?_)
    refine lv_aload_n hx hb dX12_alike_24 rfl (lv_at hl 0 rfl) ?_
    refine va_get (D := D) (ci := 11) (v := .ref ma27) (C := RX12) (T := TX12) (N := 53) hx hb hts in_X12 hown hE.1 hP 0 rfl rfl 27 (by decide) (hts _ w_1168) (fun _ h9 => h9) rfl dX12_alike_25 ?_
    refine lv_iload_n hx hb dX12_alike_28 rfl (lv_at hl 2 rfl) ?_
    refine va_iald hx hb hE.1 hP 2 1 rfl rfl (vp_in_iff.mpr (by omega)) dX12_alike_29 ?_
    refine lv_topi (fun v16148 ev16148 => ?_)
    refine lv_icmp_ne (tgt := 37) hx hb dX12_alike_30 (by decide) (fun c16149 => ?_) (fun c16149 => ?_)
    · replace c16149 := ne_i c16149
      refine lv_iconst (v := 0) hx hb dX12_alike_37 (by decide) ?_
      refine W.widen (k := 0) (n := 0) (by decide) (by decide) ?_
      exact ch_iret hC hr hk hS dX12_alike_38 ((fun k => [].getD k 0, fun k => [(u16145.2.1 0), (u16145.2.1 1)].getD k (fun _ => 0), fun k => [].getD k (fun _ => 0)) : ((Nat → Int32) × (Nat → Nat → Int32) × (Nat → Nat → Int64))) trivial (hP.sub [0, 1, 2, 3] rfl) (hD.sub [0, 1, 2, 3] (by decide) rfl)
    · replace c16149 := eq_i c16149
      refine lv_iconst (v := 1) hx hb dX12_alike_33 (by decide) ?_
      refine lv_goto (tgt := 38) hx hb dX12_alike_34 (by decide) ?_
      refine W.widen (k := 0) (n := 0) (by decide) (by decide) ?_
      exact ch_iret hC hr hk hS dX12_alike_38 ((fun k => [].getD k 0, fun k => [(u16145.2.1 0), (u16145.2.1 1)].getD k (fun _ => 0), fun k => [].getD k (fun _ => 0)) : ((Nat → Int32) × (Nat → Nat → Int32) × (Nat → Nat → Int64))) trivial (hP.sub [0, 1, 2, 3] rfl) (hD.sub [0, 1, 2, 3] (by decide) rfl)
set_option maxRecDepth 40000 in
set_option maxHeartbeats 4000000 in
theorem c_X12_kinds (l : Launch) (D : va_G) (K : Nat → ClassId) (md : Nat) (ma1 : Nat) (ma2 : Nat) (ma3 : Nat) (ma4 : Nat) (ma6 : Nat) (ma14 : Nat) (ma21 : Nat) (ma22 : Nat) (ma23 : Nat) (ma24 : Nat) (ma26 : Nat) (ma27 : Nat) (ma28 : Nat) (ma29 : Nat) (ma30 : Nat) (ma31 : Nat) (ma32 : Nat) (ma33 : Nat) (ma34 : Nat) (ma35 : Nat) (ma36 : Nat) (ma40 : Nat) (ma41 : Nat) (ma42 : Nat) (ma45 : Nat) (ma46 : Nat) (ma47 : Nat) (ma49 : Nat) (ma50 : Nat) (ma51 : Nat) (ma52 : Nat) (mn0 : Int32) (mn5 : Int32) (mn7 : Int32) (mn8 : Int32) (mn9 : Int32) (mn10 : Int32) (mn11 : Int32) (mn12 : Int32) (mn13 : Int32) (mn15 : Int32) (mn16 : Int32) (mn17 : Int32) (mn18 : Int32) (mn19 : Int32) (mn20 : Int32) (mn25 : Int32) (mn37 : Int32) (mn38 : Int32) (mn39 : Int32) (mn43 : Int32) (mn44 : Int32) (mn48 : Int32) (mf1 : Nat → Int32) (mf27 : Nat → Int32) (mf28 : Nat → Int32) (hs1_0 : GW mf1) : Ci (S := ((Nat → Int32) × (Nat → Nat → Int32) × (Nat → Nat → Int64))) l D K yX12_kinds cX12_kinds 1 (some .int) 3 71 0 0 [.ref md] [(md, .inr (11, [.int mn0, .ref ma1, .ref ma2, .ref ma3, .ref ma4, .int mn5, .ref ma6, .int mn7, .int mn8, .int mn9, .int mn10, .int mn11, .int mn12, .int mn13, .ref ma14, .int mn15, .int mn16, .int mn17, .int mn18, .int mn19, .int mn20, .ref ma21, .ref ma22, .ref ma23, .ref ma24, .int mn25, .ref ma26, .ref ma27, .ref ma28, .ref ma29, .ref ma30, .ref ma31, .ref ma32, .ref ma33, .ref ma34, .ref ma35, .ref ma36, .int mn37, .int mn38, .int mn39, .ref ma40, .ref ma41, .ref ma42, .int mn43, .int mn44, .ref ma45, .ref ma46, .ref ma47, .int mn48, .ref ma49, .ref ma50, .ref ma51, .ref ma52])), (ma1, .inl (K 1, 262, .inl mf1)), (ma27, .inl (K 1, 10, .inl mf27)), (ma28, .inl (K 1, 10, .inl mf28))] (fun _ _ => True) (fun u => [(md, .inr (11, [.int mn0, .ref ma1, .ref ma2, .ref ma3, .ref ma4, .int mn5, .ref ma6, .int mn7, .int mn8, .int mn9, .int mn10, .int mn11, .int mn12, .int mn13, .ref ma14, .int mn15, .int mn16, .int mn17, .int mn18, .int mn19, .int mn20, .ref ma21, .ref ma22, .ref ma23, .ref ma24, .int mn25, .ref ma26, .ref ma27, .ref ma28, .ref ma29, .ref ma30, .ref ma31, .ref ma32, .ref ma33, .ref ma34, .ref ma35, .ref ma36, .int mn37, .int mn38, .int mn39, .ref ma40, .ref ma41, .ref ma42, .int mn43, .int mn44, .ref ma45, .ref ma46, .ref ma47, .int mn48, .ref ma49, .ref ma50, .ref ma51, .ref ma52])), (ma1, .inl (K 1, 262, .inl mf1)), (ma27, .inl (K 1, 10, .inl (u.2.1 0))), (ma28, .inl (K 1, 10, .inl (u.2.1 1)))]) := by
  intro sz
  refine ch_of (y := yX12_kinds) (cc := cX12_kinds) (maxL := 1) (ret := (some .int)) (av := [.ref md]) (ws := [(md, .inr (11, [.int mn0, .ref ma1, .ref ma2, .ref ma3, .ref ma4, .int mn5, .ref ma6, .int mn7, .int mn8, .int mn9, .int mn10, .int mn11, .int mn12, .int mn13, .ref ma14, .int mn15, .int mn16, .int mn17, .int mn18, .int mn19, .int mn20, .ref ma21, .ref ma22, .ref ma23, .ref ma24, .int mn25, .ref ma26, .ref ma27, .ref ma28, .ref ma29, .ref ma30, .ref ma31, .ref ma32, .ref ma33, .ref ma34, .ref ma35, .ref ma36, .int mn37, .int mn38, .int mn39, .ref ma40, .ref ma41, .ref ma42, .int mn43, .int mn44, .ref ma45, .ref ma46, .ref ma47, .int mn48, .ref ma49, .ref ma50, .ref ma51, .ref ma52])), (ma1, .inl (K 1, 262, .inl mf1)), (ma27, .inl (K 1, 10, .inl mf27)), (ma28, .inl (K 1, 10, .inl mf28))]) (D := D) (K := K) (Qc := fun A => va_Qi (S := ((Nat → Int32) × (Nat → Nat → Int32) × (Nat → Nat → Int64))) (fun _ _ => True) (chB D A (fun u => [(md, .inr (11, [.int mn0, .ref ma1, .ref ma2, .ref ma3, .ref ma4, .int mn5, .ref ma6, .int mn7, .int mn8, .int mn9, .int mn10, .int mn11, .int mn12, .int mn13, .ref ma14, .int mn15, .int mn16, .int mn17, .int mn18, .int mn19, .int mn20, .ref ma21, .ref ma22, .ref ma23, .ref ma24, .int mn25, .ref ma26, .ref ma27, .ref ma28, .ref ma29, .ref ma30, .ref ma31, .ref ma32, .ref ma33, .ref ma34, .ref ma35, .ref ma36, .int mn37, .int mn38, .int mn39, .ref ma40, .ref ma41, .ref ma42, .int mn43, .int mn44, .ref ma45, .ref ma46, .ref ma47, .int mn48, .ref ma49, .ref ma50, .ref ma51, .ref ma52])), (ma1, .inl (K 1, 262, .inl mf1)), (ma27, .inl (K 1, 10, .inl (u.2.1 0))), (ma28, .inl (K 1, 10, .inl (u.2.1 1)))])) A) (by decide) (Nat.le_of_ble_eq_true rfl) ?_
  intro p e s m below meth c A hC hr hk hin hE hD hA H locs hP hS ls hl
  replace hC : CallFix p m c cX12_kinds 1 s [.ref md].toArray wl RX12 := hC
  have hx := hC.1
  have hb := hC.2.1
  have hml := hC.2.2.1
  have hown := hC.2.2.2.1
  have hts := hC.2.2.2.2
  replace hl : lv_has ls 1 [(0, .ref md)] := hl
  have kc_0 : (0 : Int32).toInt = 0 := by decide
  have hW0 := gwn_0 hs1_0; have hW1 := gwn_1 hs1_0; have hW2 := gwn_2 hs1_0; have hW4 := gwn_4 hs1_0
  refine lv_aload_n hx hb dX12_kinds_0 rfl (lv_at hl 0 rfl) ?_
  refine ro_V (As := []) (rest := []) hC hE kV_X12_125 (c_X12_isWood l D K md ma1 ma2 ma3 ma4 ma6 ma14 ma21 ma22 ma23 ma24 ma26 ma27 ma28 ma29 ma30 ma31 ma32 ma33 ma34 ma35 ma36 ma40 ma41 ma42 ma45 ma46 ma47 ma49 ma50 ma51 ma52 mn0 mn5 mn7 mn8 mn9 mn10 mn11 mn12 mn13 mn15 mn16 mn17 mn18 mn19 mn20 mn25 mn37 mn38 mn39 mn43 mn44 mn48 mf1 hs1_0) (hP.sub (ws' := [(md, .inr (11, [.int mn0, .ref ma1, .ref ma2, .ref ma3, .ref ma4, .int mn5, .ref ma6, .int mn7, .int mn8, .int mn9, .int mn10, .int mn11, .int mn12, .int mn13, .ref ma14, .int mn15, .int mn16, .int mn17, .int mn18, .int mn19, .int mn20, .ref ma21, .ref ma22, .ref ma23, .ref ma24, .int mn25, .ref ma26, .ref ma27, .ref ma28, .ref ma29, .ref ma30, .ref ma31, .ref ma32, .ref ma33, .ref ma34, .ref ma35, .ref ma36, .int mn37, .int mn38, .int mn39, .ref ma40, .ref ma41, .ref ma42, .int mn43, .int mn44, .ref ma45, .ref ma46, .ref ma47, .int mn48, .ref ma49, .ref ma50, .ref ma51, .ref ma52])), (ma1, .inl (K 1, 262, .inl mf1))]) [0, 1] rfl) 0 11 rfl rfl rfl hl.1 rfl (Nat.le_of_ble_eq_true rfl) (by decide) (by decide) dX12_kinds_1 (fun r16153 hq => ?_)
  rcases hq with rfl | rfl
  · refine lv_if_eq (tgt := 15) hx hb dX12_kinds_4 (by decide) (fun _ => ?_) (fun h => absurd h (by decide))
    refine lv_bipush (v := (-2)) hx hb dX12_kinds_15 (by decide) ?_
    refine W.widen (k := 0) (n := 0) (by decide) (by decide) ?_
    exact ch_iret hC hr hk hS dX12_kinds_17 ((fun k => [].getD k 0, fun k => [mf27, mf28].getD k (fun _ => 0), fun k => [].getD k (fun _ => 0)) : ((Nat → Int32) × (Nat → Nat → Int32) × (Nat → Nat → Int64))) trivial (hP.sub [0, 1, 2, 3] rfl) (hD.sub [0, 1, 2, 3] (by decide) rfl)
  · refine lv_if_eq (tgt := 15) hx hb dX12_kinds_4 (by decide) (fun h => absurd h (by decide)) (fun _ => ?_)
    refine lv_aload_n hx hb dX12_kinds_7 rfl (lv_at hl 0 rfl) ?_
    refine lv_iconst (v := 0) hx hb dX12_kinds_8 (by decide) ?_
    refine ci_V (As := [.int 0]) (rest := []) (wc := [(md, .inr (11, [.int mn0, .ref ma1, .ref ma2, .ref ma3, .ref ma4, .int mn5, .ref ma6, .int mn7, .int mn8, .int mn9, .int mn10, .int mn11, .int mn12, .int mn13, .ref ma14, .int mn15, .int mn16, .int mn17, .int mn18, .int mn19, .int mn20, .ref ma21, .ref ma22, .ref ma23, .ref ma24, .int mn25, .ref ma26, .ref ma27, .ref ma28, .ref ma29, .ref ma30, .ref ma31, .ref ma32, .ref ma33, .ref ma34, .ref ma35, .ref ma36, .int mn37, .int mn38, .int mn39, .ref ma40, .ref ma41, .ref ma42, .int mn43, .int mn44, .ref ma45, .ref ma46, .ref ma47, .int mn48, .ref ma49, .ref ma50, .ref ma51, .ref ma52])), (ma1, .inl (K 1, 262, .inl mf1)), (ma27, .inl (K 1, 10, .inl mf27)), (ma28, .inl (K 1, 10, .inl mf28))]) (wr := []) hC hE kV_X12_397 (c_X12_fillKinds l D K md ma1 ma2 ma3 ma4 ma6 ma14 ma21 ma22 ma23 ma24 ma26 ma27 ma28 ma29 ma30 ma31 ma32 ma33 ma34 ma35 ma36 ma40 ma41 ma42 ma45 ma46 ma47 ma49 ma50 ma51 ma52 mn0 mn5 mn7 mn8 mn9 mn10 mn11 mn12 mn13 mn15 mn16 mn17 mn18 mn19 mn20 mn25 mn37 mn38 mn39 mn43 mn44 mn48 mf1 mf27 mf28 0 hs1_0) hP hD hS hA [0, 1, 2, 3] [] rfl rfl rfl (by decide) (by decide) (by decide) 0 11 rfl rfl rfl hl.1 rfl (Nat.le_of_ble_eq_true rfl) (by decide) (by decide) dX12_kinds_9 (fun r16155 u16154 H locs hw hP hD hS => ?_)
    replace hP : va_P D vwCl [(md, .inr (11, [.int mn0, .ref ma1, .ref ma2, .ref ma3, .ref ma4, .int mn5, .ref ma6, .int mn7, .int mn8, .int mn9, .int mn10, .int mn11, .int mn12, .int mn13, .ref ma14, .int mn15, .int mn16, .int mn17, .int mn18, .int mn19, .int mn20, .ref ma21, .ref ma22, .ref ma23, .ref ma24, .int mn25, .ref ma26, .ref ma27, .ref ma28, .ref ma29, .ref ma30, .ref ma31, .ref ma32, .ref ma33, .ref ma34, .ref ma35, .ref ma36, .int mn37, .int mn38, .int mn39, .ref ma40, .ref ma41, .ref ma42, .int mn43, .int mn44, .ref ma45, .ref ma46, .ref ma47, .int mn48, .ref ma49, .ref ma50, .ref ma51, .ref ma52])), (ma1, .inl (K 1, 262, .inl mf1)), (ma27, .inl (K 1, 10, .inl (u16154.2.1 0))), (ma28, .inl (K 1, 10, .inl (u16154.2.1 1)))] H := hP
    replace hD : va_D A [(md, .inr (11, [.int mn0, .ref ma1, .ref ma2, .ref ma3, .ref ma4, .int mn5, .ref ma6, .int mn7, .int mn8, .int mn9, .int mn10, .int mn11, .int mn12, .int mn13, .ref ma14, .int mn15, .int mn16, .int mn17, .int mn18, .int mn19, .int mn20, .ref ma21, .ref ma22, .ref ma23, .ref ma24, .int mn25, .ref ma26, .ref ma27, .ref ma28, .ref ma29, .ref ma30, .ref ma31, .ref ma32, .ref ma33, .ref ma34, .ref ma35, .ref ma36, .int mn37, .int mn38, .int mn39, .ref ma40, .ref ma41, .ref ma42, .int mn43, .int mn44, .ref ma45, .ref ma46, .ref ma47, .int mn48, .ref ma49, .ref ma50, .ref ma51, .ref ma52])), (ma1, .inl (K 1, 262, .inl mf1)), (ma27, .inl (K 1, 10, .inl (u16154.2.1 0))), (ma28, .inl (K 1, 10, .inl (u16154.2.1 1)))] := hD
    replace hP : va_P D vwCl [(md, .inr (11, [.int mn0, .ref ma1, .ref ma2, .ref ma3, .ref ma4, .int mn5, .ref ma6, .int mn7, .int mn8, .int mn9, .int mn10, .int mn11, .int mn12, .int mn13, .ref ma14, .int mn15, .int mn16, .int mn17, .int mn18, .int mn19, .int mn20, .ref ma21, .ref ma22, .ref ma23, .ref ma24, .int mn25, .ref ma26, .ref ma27, .ref ma28, .ref ma29, .ref ma30, .ref ma31, .ref ma32, .ref ma33, .ref ma34, .ref ma35, .ref ma36, .int mn37, .int mn38, .int mn39, .ref ma40, .ref ma41, .ref ma42, .int mn43, .int mn44, .ref ma45, .ref ma46, .ref ma47, .int mn48, .ref ma49, .ref ma50, .ref ma51, .ref ma52])), (ma1, .inl (K 1, 262, .inl mf1)), (ma27, .inl (K 1, 10, .inl (u16154.2.1 0))), (ma28, .inl (K 1, 10, .inl (u16154.2.1 1)))] H := hP.sub [0, 1, 2, 3] rfl
    replace hD : va_D A [(md, .inr (11, [.int mn0, .ref ma1, .ref ma2, .ref ma3, .ref ma4, .int mn5, .ref ma6, .int mn7, .int mn8, .int mn9, .int mn10, .int mn11, .int mn12, .int mn13, .ref ma14, .int mn15, .int mn16, .int mn17, .int mn18, .int mn19, .int mn20, .ref ma21, .ref ma22, .ref ma23, .ref ma24, .int mn25, .ref ma26, .ref ma27, .ref ma28, .ref ma29, .ref ma30, .ref ma31, .ref ma32, .ref ma33, .ref ma34, .ref ma35, .ref ma36, .int mn37, .int mn38, .int mn39, .ref ma40, .ref ma41, .ref ma42, .int mn43, .int mn44, .ref ma45, .ref ma46, .ref ma47, .int mn48, .ref ma49, .ref ma50, .ref ma51, .ref ma52])), (ma1, .inl (K 1, 262, .inl mf1)), (ma27, .inl (K 1, 10, .inl (u16154.2.1 0))), (ma28, .inl (K 1, 10, .inl (u16154.2.1 1)))] := hD.sub [0, 1, 2, 3] (by decide) rfl
    refine W.widen (k := 0) (n := 0) (by decide) (by decide) ?_
    refine lv_goto (tgt := 17) hx hb dX12_kinds_12 (by decide) ?_
    refine W.widen (k := 0) (n := 0) (by decide) (by decide) ?_
    exact ch_iret hC hr hk hS dX12_kinds_17 ((fun k => [].getD k 0, fun k => [(u16154.2.1 0), (u16154.2.1 1)].getD k (fun _ => 0), fun k => [].getD k (fun _ => 0)) : ((Nat → Int32) × (Nat → Nat → Int32) × (Nat → Nat → Int64))) trivial (hP.sub [0, 1, 2, 3] rfl) (hD.sub [0, 1, 2, 3] (by decide) rfl)
set_option maxRecDepth 40000 in
set_option maxHeartbeats 4000000 in
theorem c_X12_baredOf (l : Launch) (D : va_G) (K : Nat → ClassId) (md : Nat) (ma1 : Nat) (ma2 : Nat) (ma3 : Nat) (ma4 : Nat) (ma6 : Nat) (ma14 : Nat) (ma21 : Nat) (ma22 : Nat) (ma23 : Nat) (ma24 : Nat) (ma26 : Nat) (ma27 : Nat) (ma28 : Nat) (ma29 : Nat) (ma30 : Nat) (ma31 : Nat) (ma32 : Nat) (ma33 : Nat) (ma34 : Nat) (ma35 : Nat) (ma36 : Nat) (ma40 : Nat) (ma41 : Nat) (ma42 : Nat) (ma45 : Nat) (ma46 : Nat) (ma47 : Nat) (ma49 : Nat) (ma50 : Nat) (ma51 : Nat) (ma52 : Nat) (mn0 : Int32) (mn5 : Int32) (mn7 : Int32) (mn8 : Int32) (mn9 : Int32) (mn10 : Int32) (mn11 : Int32) (mn12 : Int32) (mn13 : Int32) (mn15 : Int32) (mn16 : Int32) (mn17 : Int32) (mn18 : Int32) (mn19 : Int32) (mn20 : Int32) (mn25 : Int32) (mn37 : Int32) (mn38 : Int32) (mn39 : Int32) (mn43 : Int32) (mn44 : Int32) (mn48 : Int32) (mf1 : Nat → Int32) (mf27 : Nat → Int32) (mf28 : Nat → Int32) (p0 : Int32) (p1 : Int32) (hs1_0 : GW mf1) (ha0 : 0 ≤ p0.toInt ∧ p0.toInt ≤ 9) (ha1 : 0 ≤ p1.toInt ∧ p1.toInt ≤ 9) : Ci (S := ((Nat → Int32) × (Nat → Nat → Int32) × (Nat → Nat → Int64))) l D K yX12_baredOf cX12_baredOf 6 (some .int) 3 71 0 0 [.ref md, .int p0, .int p1] [(md, .inr (11, [.int mn0, .ref ma1, .ref ma2, .ref ma3, .ref ma4, .int mn5, .ref ma6, .int mn7, .int mn8, .int mn9, .int mn10, .int mn11, .int mn12, .int mn13, .ref ma14, .int mn15, .int mn16, .int mn17, .int mn18, .int mn19, .int mn20, .ref ma21, .ref ma22, .ref ma23, .ref ma24, .int mn25, .ref ma26, .ref ma27, .ref ma28, .ref ma29, .ref ma30, .ref ma31, .ref ma32, .ref ma33, .ref ma34, .ref ma35, .ref ma36, .int mn37, .int mn38, .int mn39, .ref ma40, .ref ma41, .ref ma42, .int mn43, .int mn44, .ref ma45, .ref ma46, .ref ma47, .int mn48, .ref ma49, .ref ma50, .ref ma51, .ref ma52])), (ma1, .inl (K 1, 262, .inl mf1)), (ma27, .inl (K 1, 10, .inl mf27)), (ma28, .inl (K 1, 10, .inl mf28))] (fun _ _ => True) (fun u => [(md, .inr (11, [.int mn0, .ref ma1, .ref ma2, .ref ma3, .ref ma4, .int mn5, .ref ma6, .int mn7, .int mn8, .int mn9, .int mn10, .int mn11, .int mn12, .int mn13, .ref ma14, .int mn15, .int mn16, .int mn17, .int mn18, .int mn19, .int mn20, .ref ma21, .ref ma22, .ref ma23, .ref ma24, .int mn25, .ref ma26, .ref ma27, .ref ma28, .ref ma29, .ref ma30, .ref ma31, .ref ma32, .ref ma33, .ref ma34, .ref ma35, .ref ma36, .int mn37, .int mn38, .int mn39, .ref ma40, .ref ma41, .ref ma42, .int mn43, .int mn44, .ref ma45, .ref ma46, .ref ma47, .int mn48, .ref ma49, .ref ma50, .ref ma51, .ref ma52])), (ma1, .inl (K 1, 262, .inl mf1)), (ma27, .inl (K 1, 10, .inl (u.2.1 0))), (ma28, .inl (K 1, 10, .inl (u.2.1 1)))]) := by
  intro sz
  refine ch_of (y := yX12_baredOf) (cc := cX12_baredOf) (maxL := 6) (ret := (some .int)) (av := [.ref md, .int p0, .int p1]) (ws := [(md, .inr (11, [.int mn0, .ref ma1, .ref ma2, .ref ma3, .ref ma4, .int mn5, .ref ma6, .int mn7, .int mn8, .int mn9, .int mn10, .int mn11, .int mn12, .int mn13, .ref ma14, .int mn15, .int mn16, .int mn17, .int mn18, .int mn19, .int mn20, .ref ma21, .ref ma22, .ref ma23, .ref ma24, .int mn25, .ref ma26, .ref ma27, .ref ma28, .ref ma29, .ref ma30, .ref ma31, .ref ma32, .ref ma33, .ref ma34, .ref ma35, .ref ma36, .int mn37, .int mn38, .int mn39, .ref ma40, .ref ma41, .ref ma42, .int mn43, .int mn44, .ref ma45, .ref ma46, .ref ma47, .int mn48, .ref ma49, .ref ma50, .ref ma51, .ref ma52])), (ma1, .inl (K 1, 262, .inl mf1)), (ma27, .inl (K 1, 10, .inl mf27)), (ma28, .inl (K 1, 10, .inl mf28))]) (D := D) (K := K) (Qc := fun A => va_Qi (S := ((Nat → Int32) × (Nat → Nat → Int32) × (Nat → Nat → Int64))) (fun _ _ => True) (chB D A (fun u => [(md, .inr (11, [.int mn0, .ref ma1, .ref ma2, .ref ma3, .ref ma4, .int mn5, .ref ma6, .int mn7, .int mn8, .int mn9, .int mn10, .int mn11, .int mn12, .int mn13, .ref ma14, .int mn15, .int mn16, .int mn17, .int mn18, .int mn19, .int mn20, .ref ma21, .ref ma22, .ref ma23, .ref ma24, .int mn25, .ref ma26, .ref ma27, .ref ma28, .ref ma29, .ref ma30, .ref ma31, .ref ma32, .ref ma33, .ref ma34, .ref ma35, .ref ma36, .int mn37, .int mn38, .int mn39, .ref ma40, .ref ma41, .ref ma42, .int mn43, .int mn44, .ref ma45, .ref ma46, .ref ma47, .int mn48, .ref ma49, .ref ma50, .ref ma51, .ref ma52])), (ma1, .inl (K 1, 262, .inl mf1)), (ma27, .inl (K 1, 10, .inl (u.2.1 0))), (ma28, .inl (K 1, 10, .inl (u.2.1 1)))])) A) (by decide) (Nat.le_of_ble_eq_true rfl) ?_
  intro p e s m below meth c A hC hr hk hin hE hD hA H locs hP hS ls hl
  replace hC : CallFix p m c cX12_baredOf 6 s [.ref md, .int p0, .int p1].toArray wl RX12 := hC
  have hx := hC.1
  have hb := hC.2.1
  have hml := hC.2.2.1
  have hown := hC.2.2.2.1
  have hts := hC.2.2.2.2
  replace hl : lv_has ls 6 [(0, .ref md), (1, .int p0), (2, .int p1)] := hl
  have kc_m1 : (-1 : Int32).toInt = -1 := by decide
  have kc_0 : (0 : Int32).toInt = 0 := by decide
  have kc_1 : (1 : Int32).toInt = 1 := by decide
  have hW0 := gwn_0 hs1_0; have hW1 := gwn_1 hs1_0; have hW2 := gwn_2 hs1_0; have hW4 := gwn_4 hs1_0
  refine lv_iconst (v := 0) hx hb dX12_baredOf_0 (by decide) ?_
  refine lv_istore_n (lv' := [(3, .int 0), (0, .ref md), (1, .int p0), (2, .int p1)]) hx hb dX12_baredOf_1 rfl hl (by decide) rfl (fun ls hl => ?_)
  refine lv_iconst (v := 0) hx hb dX12_baredOf_2 (by decide) ?_
  refine lv_istore (lv' := [(4, .int 0), (3, .int 0), (0, .ref md), (1, .int p0), (2, .int p1)]) hx hb dX12_baredOf_3 hl (by decide) rfl (fun ls hl => ?_)
  have hl' := hl; have hP' := hP; have hD' := hD; clear hl hP hD
  obtain ⟨i16202, i16203, hi_5, hb_5, hl, hP, hD⟩ : ∃ (i16202 : Int32) (i16203 : Int32), ((0 : Int) ≤ i16202.toInt) ∧ (0 ≤ i16203.toInt ∧ i16203.toInt ≤ 1023) ∧ lv_has ls 6 [(4, .int i16202), (3, .int i16203), (0, .ref md), (1, .int p0), (2, .int p1)] ∧ va_P D vwCl [(md, .inr (11, [.int mn0, .ref ma1, .ref ma2, .ref ma3, .ref ma4, .int mn5, .ref ma6, .int mn7, .int mn8, .int mn9, .int mn10, .int mn11, .int mn12, .int mn13, .ref ma14, .int mn15, .int mn16, .int mn17, .int mn18, .int mn19, .int mn20, .ref ma21, .ref ma22, .ref ma23, .ref ma24, .int mn25, .ref ma26, .ref ma27, .ref ma28, .ref ma29, .ref ma30, .ref ma31, .ref ma32, .ref ma33, .ref ma34, .ref ma35, .ref ma36, .int mn37, .int mn38, .int mn39, .ref ma40, .ref ma41, .ref ma42, .int mn43, .int mn44, .ref ma45, .ref ma46, .ref ma47, .int mn48, .ref ma49, .ref ma50, .ref ma51, .ref ma52])), (ma1, .inl (K 1, 262, .inl mf1)), (ma27, .inl (K 1, 10, .inl mf27)), (ma28, .inl (K 1, 10, .inl mf28))] H ∧ va_D A [(md, .inr (11, [.int mn0, .ref ma1, .ref ma2, .ref ma3, .ref ma4, .int mn5, .ref ma6, .int mn7, .int mn8, .int mn9, .int mn10, .int mn11, .int mn12, .int mn13, .ref ma14, .int mn15, .int mn16, .int mn17, .int mn18, .int mn19, .int mn20, .ref ma21, .ref ma22, .ref ma23, .ref ma24, .int mn25, .ref ma26, .ref ma27, .ref ma28, .ref ma29, .ref ma30, .ref ma31, .ref ma32, .ref ma33, .ref ma34, .ref ma35, .ref ma36, .int mn37, .int mn38, .int mn39, .ref ma40, .ref ma41, .ref ma42, .int mn43, .int mn44, .ref ma45, .ref ma46, .ref ma47, .int mn48, .ref ma49, .ref ma50, .ref ma51, .ref ma52])), (ma1, .inl (K 1, 262, .inl mf1)), (ma27, .inl (K 1, 10, .inl mf27)), (ma28, .inl (K 1, 10, .inl mf28))] := ⟨_, _, by omega, by omega, hl', hP', hD'⟩
  clear hl' hP' hD'
  obtain ⟨n_5, hn_5⟩ : ∃ n : Nat, (10 - i16202.toInt).toNat < n := ⟨_, Nat.lt_succ_self _⟩
  induction n_5 generalizing i16202 i16203 H locs ls with
  | zero => exact absurd hn_5 (Nat.not_lt_zero _)
  | succ n_5 ih_5 =>
    refine lv_iload hx hb dX12_baredOf_5 (lv_at hl 0 rfl) ?_
    refine lv_aload_n hx hb dX12_baredOf_7 rfl (lv_at hl 2 rfl) ?_
    refine va_get (D := D) (ci := 11) (v := .ref ma1) (C := RX12) (T := TX12) (N := 53) hx hb hts in_X12 hown hE.1 hP 0 rfl rfl 1 (by decide) (hts _ w_821) (fun _ h9 => h9) rfl dX12_baredOf_8 ?_
    refine lv_iconst (v := 0) hx hb dX12_baredOf_11 (by decide) ?_
    refine va_iald hx hb hE.1 hP 1 1 rfl rfl (in_c (by decide)) dX12_baredOf_12 ?_
    refine lv_topi (fun v16204 ev16204 => ?_)
    have tv16204 := gw_0 hs1_0 ev16204
    have zv16204 : v16204.toInt = (mf1 0).toInt := by rw [ev16204]; rfl
    refine lv_icmp_ge (tgt := 42) hx hb dX12_baredOf_13 (by decide) (fun c16205 => ?_) (fun c16205 => ?_)
    · replace c16205 := le_i c16205
      refine lv_iload_n hx hb dX12_baredOf_42 rfl (lv_at hl 1 rfl) ?_
      refine lv_istore (lv' := [(4, .int i16203), (3, .int i16203), (0, .ref md), (1, .int p0), (2, .int p1)]) hx hb dX12_baredOf_43 hl (by decide) rfl (fun ls hl => ?_)
      refine lv_iload_n hx hb dX12_baredOf_45 rfl (lv_at hl 1 rfl) ?_
      refine lv_istore (lv' := [(5, .int i16203), (4, .int i16203), (3, .int i16203), (0, .ref md), (1, .int p0), (2, .int p1)]) hx hb dX12_baredOf_46 hl (by decide) rfl (fun ls hl => ?_)
      have hl' := hl; have hP' := hP; have hD' := hD; clear hl hP hD
      obtain ⟨i16224, i16225, g16226, g16227, hv_48, hl, hP, hD⟩ : ∃ (i16224 : Int32) (i16225 : Int32) (g16226 : Nat → Int32) (g16227 : Nat → Int32), (-1 ≤ i16224.toInt ∧ i16224.toInt ≤ 1023) ∧ lv_has ls 6 [(5, .int i16224), (4, .int i16225), (3, .int i16203), (0, .ref md), (1, .int p0), (2, .int p1)] ∧ va_P D vwCl [(md, .inr (11, [.int mn0, .ref ma1, .ref ma2, .ref ma3, .ref ma4, .int mn5, .ref ma6, .int mn7, .int mn8, .int mn9, .int mn10, .int mn11, .int mn12, .int mn13, .ref ma14, .int mn15, .int mn16, .int mn17, .int mn18, .int mn19, .int mn20, .ref ma21, .ref ma22, .ref ma23, .ref ma24, .int mn25, .ref ma26, .ref ma27, .ref ma28, .ref ma29, .ref ma30, .ref ma31, .ref ma32, .ref ma33, .ref ma34, .ref ma35, .ref ma36, .int mn37, .int mn38, .int mn39, .ref ma40, .ref ma41, .ref ma42, .int mn43, .int mn44, .ref ma45, .ref ma46, .ref ma47, .int mn48, .ref ma49, .ref ma50, .ref ma51, .ref ma52])), (ma1, .inl (K 1, 262, .inl mf1)), (ma27, .inl (K 1, 10, .inl g16226)), (ma28, .inl (K 1, 10, .inl g16227))] H ∧ va_D A [(md, .inr (11, [.int mn0, .ref ma1, .ref ma2, .ref ma3, .ref ma4, .int mn5, .ref ma6, .int mn7, .int mn8, .int mn9, .int mn10, .int mn11, .int mn12, .int mn13, .ref ma14, .int mn15, .int mn16, .int mn17, .int mn18, .int mn19, .int mn20, .ref ma21, .ref ma22, .ref ma23, .ref ma24, .int mn25, .ref ma26, .ref ma27, .ref ma28, .ref ma29, .ref ma30, .ref ma31, .ref ma32, .ref ma33, .ref ma34, .ref ma35, .ref ma36, .int mn37, .int mn38, .int mn39, .ref ma40, .ref ma41, .ref ma42, .int mn43, .int mn44, .ref ma45, .ref ma46, .ref ma47, .int mn48, .ref ma49, .ref ma50, .ref ma51, .ref ma52])), (ma1, .inl (K 1, 262, .inl mf1)), (ma27, .inl (K 1, 10, .inl g16226)), (ma28, .inl (K 1, 10, .inl g16227))] := ⟨_, _, _, _, by omega, hl', hP', hD'⟩
      clear hl' hP' hD'
      obtain ⟨n_48, hn_48⟩ : ∃ n : Nat, (i16224.toInt + 1).toNat < n := ⟨_, Nat.lt_succ_self _⟩
      induction n_48 generalizing i16224 i16225 g16226 g16227 H locs ls with
      | zero => exact absurd hn_48 (Nat.not_lt_zero _)
      | succ n_48 ih_48 =>
        refine lv_iload hx hb dX12_baredOf_48 (lv_at hl 0 rfl) ?_
        refine lv_if_lt (tgt := 115) hx hb dX12_baredOf_50 (by decide) (fun c16228 => ?_) (fun c16228 => ?_)
        · replace c16228 := lt_i c16228
          refine lv_iload hx hb dX12_baredOf_115 (lv_at hl 1 rfl) ?_
          refine W.widen (k := 0) (n := 0) (by decide) (by decide) ?_
          exact ch_iret hC hr hk hS dX12_baredOf_117 ((fun k => [].getD k 0, fun k => [g16226, g16227].getD k (fun _ => 0), fun k => [].getD k (fun _ => 0)) : ((Nat → Int32) × (Nat → Nat → Int32) × (Nat → Nat → Int64))) trivial (hP.sub [0, 1, 2, 3] rfl) (hD.sub [0, 1, 2, 3] (by decide) rfl)
        · replace c16228 := nlt_i c16228
          refine lv_iload hx hb dX12_baredOf_53 (lv_at hl 0 rfl) ?_
          refine lv_iload_n hx hb dX12_baredOf_55 rfl (lv_at hl 2 rfl) ?_
          refine lv_iconst (v := (-1)) hx hb dX12_baredOf_56 (by decide) ?_
          refine lv_ixor hx hb dX12_baredOf_57 ?_
          refine lv_topi (fun v16229 ev16229 => ?_)
          refine lv_iand hx hb dX12_baredOf_58 ?_
          refine lv_topi (fun v16230 ev16230 => ?_)
          refine lv_if_ne (tgt := 109) hx hb dX12_baredOf_59 (by decide) (fun c16231 => ?_) (fun c16231 => ?_)
          · replace c16231 := ne_i c16231
            obtain ⟨v16232, ev16232⟩ : ∃ z : Int32, z = i16224 + (-1) := ⟨_, rfl⟩
            refine lv_iinc (v := v16232) (lv' := [(5, .int v16232), (4, .int i16225), (3, .int i16203), (0, .ref md), (1, .int p0), (2, .int p1)]) hx hb dX12_baredOf_109 hl (k := 0) rfl (by rw [ev16232]; rfl) (by decide) rfl (fun ls hl => ?_)
            refine lv_goto (tgt := 48) hx hb dX12_baredOf_112 (by decide) ?_
            have tv16232 : v16232.toInt = (i16224 : Int32).toInt + ((-1) : Int32).toInt := add_i ev16232 (by omega) (by omega)
            exact ih_48 (i16224 := v16232) (i16225 := i16225) (g16226 := g16226) (g16227 := g16227) (hv_48 := by omega) (H := H) (locs := locs) (ls := ls) (hn_48 := by omega) (hP := hP) (hD := hD) (hS := hS) (hl := lv_sub hl [0, 1, 2, 3, 4, 5] rfl)
          · replace c16231 := eq_i c16231
            refine lv_iload hx hb dX12_baredOf_62 (lv_at hl 0 rfl) ?_
            refine ro_S (As := [.int i16224]) (rest := []) hC hE kS_X12_316 (c_X12_bits l D K i16224) (hP.sub (ws' := []) [] rfl) rfl hl.1 rfl (Nat.le_of_ble_eq_true rfl) (by decide) (by decide) dX12_baredOf_64 (fun r16233 _ => ?_)
            refine lv_iload hx hb dX12_baredOf_67 (lv_at hl 1 rfl) ?_
            refine ro_S (As := [.int i16225]) (rest := [.int r16233]) hC hE kS_X12_316 (c_X12_bits l D K i16225) (hP.sub (ws' := []) [] rfl) rfl hl.1 rfl (Nat.le_of_ble_eq_true rfl) (by decide) (by decide) dX12_baredOf_69 (fun r16234 _ => ?_)
            refine lv_icmp_le (tgt := 78) hx hb dX12_baredOf_72 (by decide) (fun c16235 => ?_) (fun c16235 => ?_)
            · replace c16235 := le_i c16235
              refine lv_aload_n hx hb dX12_baredOf_78 rfl (lv_at hl 3 rfl) ?_
              refine lv_iload hx hb dX12_baredOf_79 (lv_at hl 0 rfl) ?_
              refine ci_V (As := [.int i16224]) (rest := []) (wc := [(md, .inr (11, [.int mn0, .ref ma1, .ref ma2, .ref ma3, .ref ma4, .int mn5, .ref ma6, .int mn7, .int mn8, .int mn9, .int mn10, .int mn11, .int mn12, .int mn13, .ref ma14, .int mn15, .int mn16, .int mn17, .int mn18, .int mn19, .int mn20, .ref ma21, .ref ma22, .ref ma23, .ref ma24, .int mn25, .ref ma26, .ref ma27, .ref ma28, .ref ma29, .ref ma30, .ref ma31, .ref ma32, .ref ma33, .ref ma34, .ref ma35, .ref ma36, .int mn37, .int mn38, .int mn39, .ref ma40, .ref ma41, .ref ma42, .int mn43, .int mn44, .ref ma45, .ref ma46, .ref ma47, .int mn48, .ref ma49, .ref ma50, .ref ma51, .ref ma52])), (ma1, .inl (K 1, 262, .inl mf1)), (ma27, .inl (K 1, 10, .inl g16226)), (ma28, .inl (K 1, 10, .inl g16227))]) (wr := []) hC hE kV_X12_397 (c_X12_fillKinds l D K md ma1 ma2 ma3 ma4 ma6 ma14 ma21 ma22 ma23 ma24 ma26 ma27 ma28 ma29 ma30 ma31 ma32 ma33 ma34 ma35 ma36 ma40 ma41 ma42 ma45 ma46 ma47 ma49 ma50 ma51 ma52 mn0 mn5 mn7 mn8 mn9 mn10 mn11 mn12 mn13 mn15 mn16 mn17 mn18 mn19 mn20 mn25 mn37 mn38 mn39 mn43 mn44 mn48 mf1 g16226 g16227 i16224 hs1_0) hP hD hS hA [0, 1, 2, 3] [] rfl rfl rfl (by decide) (by decide) (by decide) 0 11 rfl rfl rfl hl.1 rfl (Nat.le_of_ble_eq_true rfl) (by decide) (by decide) dX12_baredOf_81 (fun r16237 u16236 H locs hw hP hD hS => ?_)
              replace hP : va_P D vwCl [(md, .inr (11, [.int mn0, .ref ma1, .ref ma2, .ref ma3, .ref ma4, .int mn5, .ref ma6, .int mn7, .int mn8, .int mn9, .int mn10, .int mn11, .int mn12, .int mn13, .ref ma14, .int mn15, .int mn16, .int mn17, .int mn18, .int mn19, .int mn20, .ref ma21, .ref ma22, .ref ma23, .ref ma24, .int mn25, .ref ma26, .ref ma27, .ref ma28, .ref ma29, .ref ma30, .ref ma31, .ref ma32, .ref ma33, .ref ma34, .ref ma35, .ref ma36, .int mn37, .int mn38, .int mn39, .ref ma40, .ref ma41, .ref ma42, .int mn43, .int mn44, .ref ma45, .ref ma46, .ref ma47, .int mn48, .ref ma49, .ref ma50, .ref ma51, .ref ma52])), (ma1, .inl (K 1, 262, .inl mf1)), (ma27, .inl (K 1, 10, .inl (u16236.2.1 0))), (ma28, .inl (K 1, 10, .inl (u16236.2.1 1)))] H := hP
              replace hD : va_D A [(md, .inr (11, [.int mn0, .ref ma1, .ref ma2, .ref ma3, .ref ma4, .int mn5, .ref ma6, .int mn7, .int mn8, .int mn9, .int mn10, .int mn11, .int mn12, .int mn13, .ref ma14, .int mn15, .int mn16, .int mn17, .int mn18, .int mn19, .int mn20, .ref ma21, .ref ma22, .ref ma23, .ref ma24, .int mn25, .ref ma26, .ref ma27, .ref ma28, .ref ma29, .ref ma30, .ref ma31, .ref ma32, .ref ma33, .ref ma34, .ref ma35, .ref ma36, .int mn37, .int mn38, .int mn39, .ref ma40, .ref ma41, .ref ma42, .int mn43, .int mn44, .ref ma45, .ref ma46, .ref ma47, .int mn48, .ref ma49, .ref ma50, .ref ma51, .ref ma52])), (ma1, .inl (K 1, 262, .inl mf1)), (ma27, .inl (K 1, 10, .inl (u16236.2.1 0))), (ma28, .inl (K 1, 10, .inl (u16236.2.1 1)))] := hD
              replace hP : va_P D vwCl [(md, .inr (11, [.int mn0, .ref ma1, .ref ma2, .ref ma3, .ref ma4, .int mn5, .ref ma6, .int mn7, .int mn8, .int mn9, .int mn10, .int mn11, .int mn12, .int mn13, .ref ma14, .int mn15, .int mn16, .int mn17, .int mn18, .int mn19, .int mn20, .ref ma21, .ref ma22, .ref ma23, .ref ma24, .int mn25, .ref ma26, .ref ma27, .ref ma28, .ref ma29, .ref ma30, .ref ma31, .ref ma32, .ref ma33, .ref ma34, .ref ma35, .ref ma36, .int mn37, .int mn38, .int mn39, .ref ma40, .ref ma41, .ref ma42, .int mn43, .int mn44, .ref ma45, .ref ma46, .ref ma47, .int mn48, .ref ma49, .ref ma50, .ref ma51, .ref ma52])), (ma1, .inl (K 1, 262, .inl mf1)), (ma27, .inl (K 1, 10, .inl (u16236.2.1 0))), (ma28, .inl (K 1, 10, .inl (u16236.2.1 1)))] H := hP.sub [0, 1, 2, 3] rfl
              replace hD : va_D A [(md, .inr (11, [.int mn0, .ref ma1, .ref ma2, .ref ma3, .ref ma4, .int mn5, .ref ma6, .int mn7, .int mn8, .int mn9, .int mn10, .int mn11, .int mn12, .int mn13, .ref ma14, .int mn15, .int mn16, .int mn17, .int mn18, .int mn19, .int mn20, .ref ma21, .ref ma22, .ref ma23, .ref ma24, .int mn25, .ref ma26, .ref ma27, .ref ma28, .ref ma29, .ref ma30, .ref ma31, .ref ma32, .ref ma33, .ref ma34, .ref ma35, .ref ma36, .int mn37, .int mn38, .int mn39, .ref ma40, .ref ma41, .ref ma42, .int mn43, .int mn44, .ref ma45, .ref ma46, .ref ma47, .int mn48, .ref ma49, .ref ma50, .ref ma51, .ref ma52])), (ma1, .inl (K 1, 262, .inl mf1)), (ma27, .inl (K 1, 10, .inl (u16236.2.1 0))), (ma28, .inl (K 1, 10, .inl (u16236.2.1 1)))] := hD.sub [0, 1, 2, 3] (by decide) rfl
              refine W.widen (k := 0) (n := 0) (by decide) (by decide) ?_
              refine lv_pop hx hb dX12_baredOf_84 rfl ?_
              refine lv_aload_n hx hb dX12_baredOf_85 rfl (lv_at hl 3 rfl) ?_
              refine va_get (D := D) (ci := 11) (v := .ref ma27) (C := RX12) (T := TX12) (N := 53) hx hb hts in_X12 hown hE.1 hP 0 rfl rfl 27 (by decide) (hts _ w_1168) (fun _ h9 => h9) rfl dX12_baredOf_86 ?_
              refine lv_iload_n hx hb dX12_baredOf_89 rfl (lv_at hl 4 rfl) ?_
              refine va_iald hx hb hE.1 hP 2 1 rfl rfl (vp_in_iff.mpr (by omega)) dX12_baredOf_90 ?_
              refine lv_topi (fun v16238 ev16238 => ?_)
              refine lv_aload_n hx hb dX12_baredOf_91 rfl (lv_at hl 3 rfl) ?_
              refine va_get (D := D) (ci := 11) (v := .ref ma27) (C := RX12) (T := TX12) (N := 53) hx hb hts in_X12 hown hE.1 hP 0 rfl rfl 27 (by decide) (hts _ w_1168) (fun _ h9 => h9) rfl dX12_baredOf_92 ?_
              refine lv_iload_n hx hb dX12_baredOf_95 rfl (lv_at hl 5 rfl) ?_
              refine va_iald hx hb hE.1 hP 2 1 rfl rfl (vp_in_iff.mpr (by omega)) dX12_baredOf_96 ?_
              refine lv_topi (fun v16239 ev16239 => ?_)
              refine lv_icmp_ne (tgt := 105) hx hb dX12_baredOf_97 (by decide) (fun c16240 => ?_) (fun c16240 => ?_)
              · replace c16240 := ne_i c16240
                refine lv_iload hx hb dX12_baredOf_105 (lv_at hl 1 rfl) ?_
                refine lv_istore (lv' := [(4, .int i16225), (5, .int i16224), (3, .int i16203), (0, .ref md), (1, .int p0), (2, .int p1)]) hx hb dX12_baredOf_107 hl (by decide) rfl (fun ls hl => ?_)
                obtain ⟨v16241, ev16241⟩ : ∃ z : Int32, z = i16224 + (-1) := ⟨_, rfl⟩
                refine lv_iinc (v := v16241) (lv' := [(5, .int v16241), (4, .int i16225), (3, .int i16203), (0, .ref md), (1, .int p0), (2, .int p1)]) hx hb dX12_baredOf_109 hl (k := 1) rfl (by rw [ev16241]; rfl) (by decide) rfl (fun ls hl => ?_)
                refine lv_goto (tgt := 48) hx hb dX12_baredOf_112 (by decide) ?_
                have tv16241 : v16241.toInt = (i16224 : Int32).toInt + ((-1) : Int32).toInt := add_i ev16241 (by omega) (by omega)
                exact ih_48 (i16224 := v16241) (i16225 := i16225) (g16226 := (u16236.2.1 0)) (g16227 := (u16236.2.1 1)) (hv_48 := by omega) (H := H) (locs := locs) (ls := ls) (hn_48 := by omega) (hP := hP) (hD := hD) (hS := hS) (hl := lv_sub hl [0, 1, 2, 3, 4, 5] rfl)
              · replace c16240 := eq_i c16240
                refine lv_iload hx hb dX12_baredOf_100 (lv_at hl 0 rfl) ?_
                refine lv_goto (tgt := 107) hx hb dX12_baredOf_102 (by decide) ?_
                refine lv_istore (lv' := [(4, .int i16224), (5, .int i16224), (3, .int i16203), (0, .ref md), (1, .int p0), (2, .int p1)]) hx hb dX12_baredOf_107 hl (by decide) rfl (fun ls hl => ?_)
                obtain ⟨v16242, ev16242⟩ : ∃ z : Int32, z = i16224 + (-1) := ⟨_, rfl⟩
                refine lv_iinc (v := v16242) (lv' := [(5, .int v16242), (4, .int i16224), (3, .int i16203), (0, .ref md), (1, .int p0), (2, .int p1)]) hx hb dX12_baredOf_109 hl (k := 1) rfl (by rw [ev16242]; rfl) (by decide) rfl (fun ls hl => ?_)
                refine lv_goto (tgt := 48) hx hb dX12_baredOf_112 (by decide) ?_
                have tv16242 : v16242.toInt = (i16224 : Int32).toInt + ((-1) : Int32).toInt := add_i ev16242 (by omega) (by omega)
                exact ih_48 (i16224 := v16242) (i16225 := i16224) (g16226 := (u16236.2.1 0)) (g16227 := (u16236.2.1 1)) (hv_48 := by omega) (H := H) (locs := locs) (ls := ls) (hn_48 := by omega) (hP := hP) (hD := hD) (hS := hS) (hl := lv_sub hl [0, 1, 2, 3, 4, 5] rfl)
            · replace c16235 := nle_i c16235
              refine lv_goto (tgt := 109) hx hb dX12_baredOf_75 (by decide) ?_
              obtain ⟨v16243, ev16243⟩ : ∃ z : Int32, z = i16224 + (-1) := ⟨_, rfl⟩
              refine lv_iinc (v := v16243) (lv' := [(5, .int v16243), (4, .int i16225), (3, .int i16203), (0, .ref md), (1, .int p0), (2, .int p1)]) hx hb dX12_baredOf_109 hl (k := 0) rfl (by rw [ev16243]; rfl) (by decide) rfl (fun ls hl => ?_)
              refine lv_goto (tgt := 48) hx hb dX12_baredOf_112 (by decide) ?_
              have tv16243 : v16243.toInt = (i16224 : Int32).toInt + ((-1) : Int32).toInt := add_i ev16243 (by omega) (by omega)
              exact ih_48 (i16224 := v16243) (i16225 := i16225) (g16226 := g16226) (g16227 := g16227) (hv_48 := by omega) (H := H) (locs := locs) (ls := ls) (hn_48 := by omega) (hP := hP) (hD := hD) (hS := hS) (hl := lv_sub hl [0, 1, 2, 3, 4, 5] rfl)
    · replace c16205 := nle_i c16205
      refine lv_iload_n hx hb dX12_baredOf_16 rfl (lv_at hl 1 rfl) ?_
      refine lv_aload_n hx hb dX12_baredOf_17 rfl (lv_at hl 2 rfl) ?_
      refine lv_iload hx hb dX12_baredOf_18 (lv_at hl 0 rfl) ?_
      refine ro_V (As := [.int i16202]) (rest := [.int i16203]) hC hE kV_X12_276 (c_X12_markOf l D K md ma1 ma2 ma3 ma4 ma6 ma14 ma21 ma22 ma23 ma24 ma26 ma27 ma28 ma29 ma30 ma31 ma32 ma33 ma34 ma35 ma36 ma40 ma41 ma42 ma45 ma46 ma47 ma49 ma50 ma51 ma52 mn0 mn5 mn7 mn8 mn9 mn10 mn11 mn12 mn13 mn15 mn16 mn17 mn18 mn19 mn20 mn25 mn37 mn38 mn39 mn43 mn44 mn48 mf1 i16202 hs1_0 (by omega)) (hP.sub (ws' := [(md, .inr (11, [.int mn0, .ref ma1, .ref ma2, .ref ma3, .ref ma4, .int mn5, .ref ma6, .int mn7, .int mn8, .int mn9, .int mn10, .int mn11, .int mn12, .int mn13, .ref ma14, .int mn15, .int mn16, .int mn17, .int mn18, .int mn19, .int mn20, .ref ma21, .ref ma22, .ref ma23, .ref ma24, .int mn25, .ref ma26, .ref ma27, .ref ma28, .ref ma29, .ref ma30, .ref ma31, .ref ma32, .ref ma33, .ref ma34, .ref ma35, .ref ma36, .int mn37, .int mn38, .int mn39, .ref ma40, .ref ma41, .ref ma42, .int mn43, .int mn44, .ref ma45, .ref ma46, .ref ma47, .int mn48, .ref ma49, .ref ma50, .ref ma51, .ref ma52])), (ma1, .inl (K 1, 262, .inl mf1))]) [0, 1] rfl) 0 11 rfl rfl rfl hl.1 rfl (Nat.le_of_ble_eq_true rfl) (by decide) (by decide) dX12_baredOf_20 (fun r16247 hq => ?_)
      obtain ⟨h16244, h16245, h16246⟩ := hq
      refine lv_if_le (tgt := 33) hx hb dX12_baredOf_23 (by decide) (fun c16248 => ?_) (fun c16248 => ?_)
      · replace c16248 := le_i c16248
        refine lv_iconst (v := 0) hx hb dX12_baredOf_33 (by decide) ?_
        refine lv_ior hx hb dX12_baredOf_34 ?_
        refine lv_topi (fun v16249 ev16249 => ?_)
        refine lv_istore_n (lv' := [(3, .int v16249), (4, .int i16202), (0, .ref md), (1, .int p0), (2, .int p1)]) hx hb dX12_baredOf_35 rfl hl (by decide) rfl (fun ls hl => ?_)
        obtain ⟨v16250, ev16250⟩ : ∃ z : Int32, z = i16202 + 1 := ⟨_, rfl⟩
        refine lv_iinc (v := v16250) (lv' := [(4, .int v16250), (3, .int v16249), (0, .ref md), (1, .int p0), (2, .int p1)]) hx hb dX12_baredOf_36 hl (k := 1) rfl (by rw [ev16250]; rfl) (by decide) rfl (fun ls hl => ?_)
        refine lv_goto (tgt := 5) hx hb dX12_baredOf_39 (by decide) ?_
        have tv16250 : v16250.toInt = (i16202 : Int32).toInt + (1 : Int32).toInt := add_i ev16250 (by omega) (by omega)
        have tv16249 := or_b ev16249 (by omega) (by omega) (by omega) (by omega)
        exact ih_5 (i16202 := v16250) (i16203 := v16249) (hi_5 := by omega) (hb_5 := by omega) (H := H) (locs := locs) (ls := ls) (hn_5 := by omega) (hP := hP) (hS := hS) (hl := lv_sub hl [0, 1, 2, 3, 4] rfl)
      · replace c16248 := nle_i c16248
        refine lv_iconst (v := 1) hx hb dX12_baredOf_26 (by decide) ?_
        refine lv_iload hx hb dX12_baredOf_27 (lv_at hl 0 rfl) ?_
        refine lv_ishl hx hb dX12_baredOf_29 ?_
        refine lv_topi (fun v16251 ev16251 => ?_)
        refine lv_goto (tgt := 34) hx hb dX12_baredOf_30 (by decide) ?_
        refine lv_ior hx hb dX12_baredOf_34 ?_
        refine lv_topi (fun v16252 ev16252 => ?_)
        refine lv_istore_n (lv' := [(3, .int v16252), (4, .int i16202), (0, .ref md), (1, .int p0), (2, .int p1)]) hx hb dX12_baredOf_35 rfl hl (by decide) rfl (fun ls hl => ?_)
        obtain ⟨v16253, ev16253⟩ : ∃ z : Int32, z = i16202 + 1 := ⟨_, rfl⟩
        refine lv_iinc (v := v16253) (lv' := [(4, .int v16253), (3, .int v16252), (0, .ref md), (1, .int p0), (2, .int p1)]) hx hb dX12_baredOf_36 hl (k := 1) rfl (by rw [ev16253]; rfl) (by decide) rfl (fun ls hl => ?_)
        refine lv_goto (tgt := 5) hx hb dX12_baredOf_39 (by decide) ?_
        have tv16253 : v16253.toInt = (i16202 : Int32).toInt + (1 : Int32).toInt := add_i ev16253 (by omega) (by omega)
        have tv16251 := shl1_b ev16251 (by omega) (by omega)
        have tv16252 := or_b ev16252 (by omega) (by omega) (by omega) (by omega)
        exact ih_5 (i16202 := v16253) (i16203 := v16252) (hi_5 := by omega) (hb_5 := by omega) (H := H) (locs := locs) (ls := ls) (hn_5 := by omega) (hP := hP) (hS := hS) (hl := lv_sub hl [0, 1, 2, 3, 4] rfl)
