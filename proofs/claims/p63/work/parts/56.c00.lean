set_option maxRecDepth 40000 in
set_option maxHeartbeats 4000000 in
theorem c_X12_fillCosts (l : Launch) (D : va_G) (K : Nat → ClassId) (md : Nat) (ma1 : Nat) (ma2 : Nat) (ma3 : Nat) (ma4 : Nat) (ma6 : Nat) (ma14 : Nat) (ma21 : Nat) (ma22 : Nat) (ma23 : Nat) (ma24 : Nat) (ma26 : Nat) (ma27 : Nat) (ma28 : Nat) (ma29 : Nat) (ma30 : Nat) (ma31 : Nat) (ma32 : Nat) (ma33 : Nat) (ma34 : Nat) (ma35 : Nat) (ma36 : Nat) (ma40 : Nat) (ma41 : Nat) (ma42 : Nat) (ma45 : Nat) (ma46 : Nat) (ma47 : Nat) (ma49 : Nat) (ma50 : Nat) (ma51 : Nat) (ma52 : Nat) (mn0 : Int32) (mn5 : Int32) (mn7 : Int32) (mn8 : Int32) (mn9 : Int32) (mn10 : Int32) (mn11 : Int32) (mn12 : Int32) (mn13 : Int32) (mn15 : Int32) (mn16 : Int32) (mn17 : Int32) (mn18 : Int32) (mn19 : Int32) (mn20 : Int32) (mn25 : Int32) (mn37 : Int32) (mn38 : Int32) (mn39 : Int32) (mn43 : Int32) (mn44 : Int32) (mn48 : Int32) (mf1 : Nat → Int32) (mf45 : Nat → Int32) (p0 : Int32) (p1 : Int32) (hs1_0 : GW mf1) (ha0 : 0 ≤ p0.toInt ∧ p0.toInt ≤ 9) (ha1 : 0 ≤ p1.toInt ∧ p1.toInt ≤ 1000) : Cv (S := ((Nat → Int32) × (Nat → Nat → Int32) × (Nat → Nat → Int64))) l D K yX12_fillCosts cX12_fillCosts 8 1 22 0 0 [.ref md, .int p0, .int p1] [(md, .inr (11, [.int mn0, .ref ma1, .ref ma2, .ref ma3, .ref ma4, .int mn5, .ref ma6, .int mn7, .int mn8, .int mn9, .int mn10, .int mn11, .int mn12, .int mn13, .ref ma14, .int mn15, .int mn16, .int mn17, .int mn18, .int mn19, .int mn20, .ref ma21, .ref ma22, .ref ma23, .ref ma24, .int mn25, .ref ma26, .ref ma27, .ref ma28, .ref ma29, .ref ma30, .ref ma31, .ref ma32, .ref ma33, .ref ma34, .ref ma35, .ref ma36, .int mn37, .int mn38, .int mn39, .ref ma40, .ref ma41, .ref ma42, .int mn43, .int mn44, .ref ma45, .ref ma46, .ref ma47, .int mn48, .ref ma49, .ref ma50, .ref ma51, .ref ma52])), (ma1, .inl (K 1, 262, .inl mf1)), (ma45, .inl (K 1, 10, .inl mf45))] (fun _ => True) (fun u => [(md, .inr (11, [.int mn0, .ref ma1, .ref ma2, .ref ma3, .ref ma4, .int mn5, .ref ma6, .int mn7, .int mn8, .int mn9, .int mn10, .int mn11, .int mn12, .int mn13, .ref ma14, .int mn15, .int mn16, .int mn17, .int mn18, .int mn19, .int mn20, .ref ma21, .ref ma22, .ref ma23, .ref ma24, .int mn25, .ref ma26, .ref ma27, .ref ma28, .ref ma29, .ref ma30, .ref ma31, .ref ma32, .ref ma33, .ref ma34, .ref ma35, .ref ma36, .int mn37, .int mn38, .int mn39, .ref ma40, .ref ma41, .ref ma42, .int mn43, .int mn44, .ref ma45, .ref ma46, .ref ma47, .int mn48, .ref ma49, .ref ma50, .ref ma51, .ref ma52])), (ma1, .inl (K 1, 262, .inl mf1)), (ma45, .inl (K 1, 10, .inl (u.2.1 0)))]) := by
  intro sz
  refine ch_of (y := yX12_fillCosts) (cc := cX12_fillCosts) (maxL := 8) (ret := none) (av := [.ref md, .int p0, .int p1]) (ws := [(md, .inr (11, [.int mn0, .ref ma1, .ref ma2, .ref ma3, .ref ma4, .int mn5, .ref ma6, .int mn7, .int mn8, .int mn9, .int mn10, .int mn11, .int mn12, .int mn13, .ref ma14, .int mn15, .int mn16, .int mn17, .int mn18, .int mn19, .int mn20, .ref ma21, .ref ma22, .ref ma23, .ref ma24, .int mn25, .ref ma26, .ref ma27, .ref ma28, .ref ma29, .ref ma30, .ref ma31, .ref ma32, .ref ma33, .ref ma34, .ref ma35, .ref ma36, .int mn37, .int mn38, .int mn39, .ref ma40, .ref ma41, .ref ma42, .int mn43, .int mn44, .ref ma45, .ref ma46, .ref ma47, .int mn48, .ref ma49, .ref ma50, .ref ma51, .ref ma52])), (ma1, .inl (K 1, 262, .inl mf1)), (ma45, .inl (K 1, 10, .inl mf45))]) (D := D) (K := K) (Qc := fun A => va_Qv (S := ((Nat → Int32) × (Nat → Nat → Int32) × (Nat → Nat → Int64))) (fun _ => True) (chB D A (fun u => [(md, .inr (11, [.int mn0, .ref ma1, .ref ma2, .ref ma3, .ref ma4, .int mn5, .ref ma6, .int mn7, .int mn8, .int mn9, .int mn10, .int mn11, .int mn12, .int mn13, .ref ma14, .int mn15, .int mn16, .int mn17, .int mn18, .int mn19, .int mn20, .ref ma21, .ref ma22, .ref ma23, .ref ma24, .int mn25, .ref ma26, .ref ma27, .ref ma28, .ref ma29, .ref ma30, .ref ma31, .ref ma32, .ref ma33, .ref ma34, .ref ma35, .ref ma36, .int mn37, .int mn38, .int mn39, .ref ma40, .ref ma41, .ref ma42, .int mn43, .int mn44, .ref ma45, .ref ma46, .ref ma47, .int mn48, .ref ma49, .ref ma50, .ref ma51, .ref ma52])), (ma1, .inl (K 1, 262, .inl mf1)), (ma45, .inl (K 1, 10, .inl (u.2.1 0)))])) A) (by decide) (Nat.le_of_ble_eq_true rfl) ?_
  intro p e s m below meth c A hC hr hk hin hE hD hA H locs hP hS ls hl
  replace hC : CallFix p m c cX12_fillCosts 8 s [.ref md, .int p0, .int p1].toArray wl RX12 := hC
  have hx := hC.1
  have hb := hC.2.1
  have hml := hC.2.2.1
  have hown := hC.2.2.2.1
  have hts := hC.2.2.2.2
  replace hl : lv_has ls 8 [(0, .ref md), (1, .int p0), (2, .int p1)] := hl
  have kc_0 : (0 : Int32).toInt = 0 := by decide
  have kc_1 : (1 : Int32).toInt = 1 := by decide
  have kc_4 : (4 : Int32).toInt = 4 := by decide
  have kc_10 : (10 : Int32).toInt = 10 := by decide
  have kc_1000000 : (1000000 : Int32).toInt = 1000000 := by decide
  have hW0 := gwn_0 hs1_0; have hW1 := gwn_1 hs1_0; have hW2 := gwn_2 hs1_0; have hW4 := gwn_4 hs1_0
  refine lv_iconst (v := 0) hx hb dX12_fillCosts_0 (by decide) ?_
  refine lv_istore_n (lv' := [(3, .int 0), (0, .ref md), (1, .int p0), (2, .int p1)]) hx hb dX12_fillCosts_1 rfl hl (by decide) rfl (fun ls hl => ?_)
  have hl' := hl; have hP' := hP; have hD' := hD; clear hl hP hD
  obtain ⟨i14256, g14257, hi_2, hf_2, hl, hP, hD⟩ : ∃ (i14256 : Int32) (g14257 : Nat → Int32), ((0 : Int) ≤ i14256.toInt) ∧ (∀ j : Nat, (j : Int) < i14256.toInt → 0 ≤ (g14257 j).toInt ∧ (g14257 j).toInt ≤ 1000000) ∧ lv_has ls 8 [(3, .int i14256), (0, .ref md), (1, .int p0), (2, .int p1)] ∧ va_P D vwCl [(md, .inr (11, [.int mn0, .ref ma1, .ref ma2, .ref ma3, .ref ma4, .int mn5, .ref ma6, .int mn7, .int mn8, .int mn9, .int mn10, .int mn11, .int mn12, .int mn13, .ref ma14, .int mn15, .int mn16, .int mn17, .int mn18, .int mn19, .int mn20, .ref ma21, .ref ma22, .ref ma23, .ref ma24, .int mn25, .ref ma26, .ref ma27, .ref ma28, .ref ma29, .ref ma30, .ref ma31, .ref ma32, .ref ma33, .ref ma34, .ref ma35, .ref ma36, .int mn37, .int mn38, .int mn39, .ref ma40, .ref ma41, .ref ma42, .int mn43, .int mn44, .ref ma45, .ref ma46, .ref ma47, .int mn48, .ref ma49, .ref ma50, .ref ma51, .ref ma52])), (ma1, .inl (K 1, 262, .inl mf1)), (ma45, .inl (K 1, 10, .inl g14257))] H ∧ va_D A [(md, .inr (11, [.int mn0, .ref ma1, .ref ma2, .ref ma3, .ref ma4, .int mn5, .ref ma6, .int mn7, .int mn8, .int mn9, .int mn10, .int mn11, .int mn12, .int mn13, .ref ma14, .int mn15, .int mn16, .int mn17, .int mn18, .int mn19, .int mn20, .ref ma21, .ref ma22, .ref ma23, .ref ma24, .int mn25, .ref ma26, .ref ma27, .ref ma28, .ref ma29, .ref ma30, .ref ma31, .ref ma32, .ref ma33, .ref ma34, .ref ma35, .ref ma36, .int mn37, .int mn38, .int mn39, .ref ma40, .ref ma41, .ref ma42, .int mn43, .int mn44, .ref ma45, .ref ma46, .ref ma47, .int mn48, .ref ma49, .ref ma50, .ref ma51, .ref ma52])), (ma1, .inl (K 1, 262, .inl mf1)), (ma45, .inl (K 1, 10, .inl g14257))] := ⟨_, _, by omega, fun j hj => absurd hj (by omega), hl', hP', hD'⟩
  clear hl' hP' hD'
  obtain ⟨n_2, hn_2⟩ : ∃ n : Nat, (10 - i14256.toInt).toNat < n := ⟨_, Nat.lt_succ_self _⟩
  induction n_2 generalizing i14256 g14257 H locs ls with
  | zero => exact absurd hn_2 (Nat.not_lt_zero _)
  | succ n_2 ih_2 =>
    refine lv_iload_n hx hb dX12_fillCosts_2 rfl (lv_at hl 0 rfl) ?_
    refine lv_bipush (v := 10) hx hb dX12_fillCosts_3 (by decide) ?_
    refine lv_icmp_ge (tgt := 32) hx hb dX12_fillCosts_5 (by decide) (fun c14258 => ?_) (fun c14258 => ?_)
    · replace c14258 := le_i c14258
      refine lv_iconst (v := 1) hx hb dX12_fillCosts_32 (by decide) ?_
      refine lv_istore_n (lv' := [(3, .int 1), (0, .ref md), (1, .int p0), (2, .int p1)]) hx hb dX12_fillCosts_33 rfl hl (by decide) rfl (fun ls hl => ?_)
      have q14259 : Rg 0 1000000 10 g14257 := fun i hi => hf_2 i (by omega)
      have hl' := hl; have hP' := hP; have hD' := hD; clear hl hP hD
      obtain ⟨i14293, g14294, hm_34, qRg_ma45_34, hl, hP, hD⟩ : ∃ (i14293 : Int32) (g14294 : Nat → Int32), (i14293.toInt = 0 ∨ i14293.toInt = 1) ∧ (Rg 0 1000000 10 g14294) ∧ lv_has ls 8 [(3, .int i14293), (0, .ref md), (1, .int p0), (2, .int p1)] ∧ va_P D vwCl [(md, .inr (11, [.int mn0, .ref ma1, .ref ma2, .ref ma3, .ref ma4, .int mn5, .ref ma6, .int mn7, .int mn8, .int mn9, .int mn10, .int mn11, .int mn12, .int mn13, .ref ma14, .int mn15, .int mn16, .int mn17, .int mn18, .int mn19, .int mn20, .ref ma21, .ref ma22, .ref ma23, .ref ma24, .int mn25, .ref ma26, .ref ma27, .ref ma28, .ref ma29, .ref ma30, .ref ma31, .ref ma32, .ref ma33, .ref ma34, .ref ma35, .ref ma36, .int mn37, .int mn38, .int mn39, .ref ma40, .ref ma41, .ref ma42, .int mn43, .int mn44, .ref ma45, .ref ma46, .ref ma47, .int mn48, .ref ma49, .ref ma50, .ref ma51, .ref ma52])), (ma1, .inl (K 1, 262, .inl mf1)), (ma45, .inl (K 1, 10, .inl g14294))] H ∧ va_D A [(md, .inr (11, [.int mn0, .ref ma1, .ref ma2, .ref ma3, .ref ma4, .int mn5, .ref ma6, .int mn7, .int mn8, .int mn9, .int mn10, .int mn11, .int mn12, .int mn13, .ref ma14, .int mn15, .int mn16, .int mn17, .int mn18, .int mn19, .int mn20, .ref ma21, .ref ma22, .ref ma23, .ref ma24, .int mn25, .ref ma26, .ref ma27, .ref ma28, .ref ma29, .ref ma30, .ref ma31, .ref ma32, .ref ma33, .ref ma34, .ref ma35, .ref ma36, .int mn37, .int mn38, .int mn39, .ref ma40, .ref ma41, .ref ma42, .int mn43, .int mn44, .ref ma45, .ref ma46, .ref ma47, .int mn48, .ref ma49, .ref ma50, .ref ma51, .ref ma52])), (ma1, .inl (K 1, 262, .inl mf1)), (ma45, .inl (K 1, 10, .inl g14294))] := ⟨_, _, by omega, q14259, hl', hP', hD'⟩
      clear hl' hP' hD'
      obtain ⟨n_34, hn_34⟩ : ∃ n : Nat, (sumI g14294 10).toNat + i14293.toInt.toNat < n := ⟨_, Nat.lt_succ_self _⟩
      induction n_34 generalizing i14293 g14294 H locs ls with
      | zero => exact absurd hn_34 (Nat.not_lt_zero _)
      | succ n_34 ih_34 =>
        have hsp_34 := sum_pos 10 (fun i hi => (qRg_ma45_34 i hi).1)
        refine lv_iload_n hx hb dX12_fillCosts_34 rfl (lv_at hl 0 rfl) ?_
        refine lv_if_eq (tgt := 140) hx hb dX12_fillCosts_35 (by decide) (fun c14295 => ?_) (fun c14295 => ?_)
        · replace c14295 := eq_i c14295
          refine W.widen (k := 0) (n := 0) (by decide) (by decide) ?_
          exact ch_vret hC hr hk hS dX12_fillCosts_140 ((fun k => [].getD k 0, fun k => [g14294].getD k (fun _ => 0), fun k => [].getD k (fun _ => 0)) : ((Nat → Int32) × (Nat → Nat → Int32) × (Nat → Nat → Int64))) trivial (hP.sub [0, 1, 2] rfl) (hD.sub [0, 1, 2] (by decide) rfl)
        · replace c14295 := ne_i c14295
          refine lv_iconst (v := 0) hx hb dX12_fillCosts_38 (by decide) ?_
          refine lv_istore_n (lv' := [(3, .int 0), (0, .ref md), (1, .int p0), (2, .int p1)]) hx hb dX12_fillCosts_39 rfl hl (by decide) rfl (fun ls hl => ?_)
          refine lv_iconst (v := 0) hx hb dX12_fillCosts_40 (by decide) ?_
          refine lv_istore (lv' := [(4, .int 0), (3, .int 0), (0, .ref md), (1, .int p0), (2, .int p1)]) hx hb dX12_fillCosts_41 hl (by decide) rfl (fun ls hl => ?_)
          have hl' := hl; have hP' := hP; have hD' := hD; clear hl hP hD
          obtain ⟨i14327, i14328, g14329, hi_43, hm_43, qRg_ma45_43, hl, hP, hD⟩ : ∃ (i14327 : Int32) (i14328 : Int32) (g14329 : Nat → Int32), ((0 : Int) ≤ i14327.toInt) ∧ ((i14328.toInt = 0 ∧ sumI g14329 10 ≤ sumI g14294 10) ∨ (i14328.toInt = 1 ∧ sumI g14329 10 < sumI g14294 10)) ∧ (Rg 0 1000000 10 g14329) ∧ lv_has ls 8 [(4, .int i14327), (3, .int i14328), (0, .ref md), (1, .int p0), (2, .int p1)] ∧ va_P D vwCl [(md, .inr (11, [.int mn0, .ref ma1, .ref ma2, .ref ma3, .ref ma4, .int mn5, .ref ma6, .int mn7, .int mn8, .int mn9, .int mn10, .int mn11, .int mn12, .int mn13, .ref ma14, .int mn15, .int mn16, .int mn17, .int mn18, .int mn19, .int mn20, .ref ma21, .ref ma22, .ref ma23, .ref ma24, .int mn25, .ref ma26, .ref ma27, .ref ma28, .ref ma29, .ref ma30, .ref ma31, .ref ma32, .ref ma33, .ref ma34, .ref ma35, .ref ma36, .int mn37, .int mn38, .int mn39, .ref ma40, .ref ma41, .ref ma42, .int mn43, .int mn44, .ref ma45, .ref ma46, .ref ma47, .int mn48, .ref ma49, .ref ma50, .ref ma51, .ref ma52])), (ma1, .inl (K 1, 262, .inl mf1)), (ma45, .inl (K 1, 10, .inl g14329))] H ∧ va_D A [(md, .inr (11, [.int mn0, .ref ma1, .ref ma2, .ref ma3, .ref ma4, .int mn5, .ref ma6, .int mn7, .int mn8, .int mn9, .int mn10, .int mn11, .int mn12, .int mn13, .ref ma14, .int mn15, .int mn16, .int mn17, .int mn18, .int mn19, .int mn20, .ref ma21, .ref ma22, .ref ma23, .ref ma24, .int mn25, .ref ma26, .ref ma27, .ref ma28, .ref ma29, .ref ma30, .ref ma31, .ref ma32, .ref ma33, .ref ma34, .ref ma35, .ref ma36, .int mn37, .int mn38, .int mn39, .ref ma40, .ref ma41, .ref ma42, .int mn43, .int mn44, .ref ma45, .ref ma46, .ref ma47, .int mn48, .ref ma49, .ref ma50, .ref ma51, .ref ma52])), (ma1, .inl (K 1, 262, .inl mf1)), (ma45, .inl (K 1, 10, .inl g14329))] := ⟨_, _, _, by omega, by omega, qRg_ma45_34, hl', hP', hD'⟩
          clear hl' hP' hD'
          obtain ⟨n_43, hn_43⟩ : ∃ n : Nat, (10 - i14327.toInt).toNat < n := ⟨_, Nat.lt_succ_self _⟩
          induction n_43 generalizing i14327 i14328 g14329 H locs ls with
          | zero => exact absurd hn_43 (Nat.not_lt_zero _)
          | succ n_43 ih_43 =>
            have hsp_43 := sum_pos 10 (fun i hi => (qRg_ma45_43 i hi).1)
            refine lv_iload hx hb dX12_fillCosts_43 (lv_at hl 0 rfl) ?_
            refine lv_aload_n hx hb dX12_fillCosts_45 rfl (lv_at hl 2 rfl) ?_
            refine va_get (D := D) (ci := 11) (v := .ref ma1) (C := RX12) (T := TX12) (N := 53) hx hb hts in_X12 hown hE.1 hP 0 rfl rfl 1 (by decide) (hts _ w_821) (fun _ h9 => h9) rfl dX12_fillCosts_46 ?_
            refine lv_iconst (v := 0) hx hb dX12_fillCosts_49 (by decide) ?_
            refine va_iald hx hb hE.1 hP 1 1 rfl rfl (in_c (by decide)) dX12_fillCosts_50 ?_
            refine lv_topi (fun v14330 ev14330 => ?_)
            have tv14330 := gw_0 hs1_0 ev14330
            have zv14330 : v14330.toInt = (mf1 0).toInt := by rw [ev14330]; rfl
            refine lv_icmp_ge (tgt := 137) hx hb dX12_fillCosts_51 (by decide) (fun c14331 => ?_) (fun c14331 => ?_)
            · replace c14331 := le_i c14331
              refine lv_goto (tgt := 34) hx hb dX12_fillCosts_137 (by decide) ?_
              have s14332 := sum_pos 10 (fun i hi => (qRg_ma45_43 i hi).1)
              exact ih_34 (i14293 := i14328) (g14294 := g14329) (hm_34 := by omega) (qRg_ma45_34 := qRg_ma45_43) (H := H) (locs := locs) (ls := ls) (hn_34 := by omega) (hP := hP) (hD := hD) (hS := hS) (hl := lv_sub hl [1, 2, 3, 4] rfl)
            · replace c14331 := nle_i c14331
              refine lv_iconst (v := 0) hx hb dX12_fillCosts_54 (by decide) ?_
              refine lv_istore (lv' := [(5, .int 0), (4, .int i14327), (3, .int i14328), (0, .ref md), (1, .int p0), (2, .int p1)]) hx hb dX12_fillCosts_55 hl (by decide) rfl (fun ls hl => ?_)
              have hl' := hl; have hP' := hP; have hD' := hD; clear hl hP hD
              obtain ⟨i14359, i14360, g14361, hi_57, hm_57, qRg_ma45_57, hl, hP, hD⟩ : ∃ (i14359 : Int32) (i14360 : Int32) (g14361 : Nat → Int32), ((0 : Int) ≤ i14359.toInt) ∧ ((i14360.toInt = 0 ∧ sumI g14361 10 ≤ sumI g14294 10) ∨ (i14360.toInt = 1 ∧ sumI g14361 10 < sumI g14294 10)) ∧ (Rg 0 1000000 10 g14361) ∧ lv_has ls 8 [(5, .int i14359), (4, .int i14327), (3, .int i14360), (0, .ref md), (1, .int p0), (2, .int p1)] ∧ va_P D vwCl [(md, .inr (11, [.int mn0, .ref ma1, .ref ma2, .ref ma3, .ref ma4, .int mn5, .ref ma6, .int mn7, .int mn8, .int mn9, .int mn10, .int mn11, .int mn12, .int mn13, .ref ma14, .int mn15, .int mn16, .int mn17, .int mn18, .int mn19, .int mn20, .ref ma21, .ref ma22, .ref ma23, .ref ma24, .int mn25, .ref ma26, .ref ma27, .ref ma28, .ref ma29, .ref ma30, .ref ma31, .ref ma32, .ref ma33, .ref ma34, .ref ma35, .ref ma36, .int mn37, .int mn38, .int mn39, .ref ma40, .ref ma41, .ref ma42, .int mn43, .int mn44, .ref ma45, .ref ma46, .ref ma47, .int mn48, .ref ma49, .ref ma50, .ref ma51, .ref ma52])), (ma1, .inl (K 1, 262, .inl mf1)), (ma45, .inl (K 1, 10, .inl g14361))] H ∧ va_D A [(md, .inr (11, [.int mn0, .ref ma1, .ref ma2, .ref ma3, .ref ma4, .int mn5, .ref ma6, .int mn7, .int mn8, .int mn9, .int mn10, .int mn11, .int mn12, .int mn13, .ref ma14, .int mn15, .int mn16, .int mn17, .int mn18, .int mn19, .int mn20, .ref ma21, .ref ma22, .ref ma23, .ref ma24, .int mn25, .ref ma26, .ref ma27, .ref ma28, .ref ma29, .ref ma30, .ref ma31, .ref ma32, .ref ma33, .ref ma34, .ref ma35, .ref ma36, .int mn37, .int mn38, .int mn39, .ref ma40, .ref ma41, .ref ma42, .int mn43, .int mn44, .ref ma45, .ref ma46, .ref ma47, .int mn48, .ref ma49, .ref ma50, .ref ma51, .ref ma52])), (ma1, .inl (K 1, 262, .inl mf1)), (ma45, .inl (K 1, 10, .inl g14361))] := ⟨_, _, _, by omega, by omega, qRg_ma45_43, hl', hP', hD'⟩
              clear hl' hP' hD'
              obtain ⟨n_57, hn_57⟩ : ∃ n : Nat, (4 - i14359.toInt).toNat < n := ⟨_, Nat.lt_succ_self _⟩
              induction n_57 generalizing i14359 i14360 g14361 H locs ls with
              | zero => exact absurd hn_57 (Nat.not_lt_zero _)
              | succ n_57 ih_57 =>
                have hsp_57 := sum_pos 10 (fun i hi => (qRg_ma45_57 i hi).1)
                refine lv_iload hx hb dX12_fillCosts_57 (lv_at hl 0 rfl) ?_
                refine lv_iconst (v := 4) hx hb dX12_fillCosts_59 (by decide) ?_
                refine lv_icmp_ge (tgt := 131) hx hb dX12_fillCosts_60 (by decide) (fun c14362 => ?_) (fun c14362 => ?_)
                · replace c14362 := le_i c14362
                  obtain ⟨v14363, ev14363⟩ : ∃ z : Int32, z = i14327 + 1 := ⟨_, rfl⟩
                  refine lv_iinc (v := v14363) (lv' := [(4, .int v14363), (5, .int i14359), (3, .int i14360), (0, .ref md), (1, .int p0), (2, .int p1)]) hx hb dX12_fillCosts_131 hl (k := 1) rfl (by rw [ev14363]; rfl) (by decide) rfl (fun ls hl => ?_)
                  refine lv_goto (tgt := 43) hx hb dX12_fillCosts_134 (by decide) ?_
                  have tv14363 : v14363.toInt = (i14327 : Int32).toInt + (1 : Int32).toInt := add_i ev14363 (by omega) (by omega)
                  have s14364 := sum_pos 10 (fun i hi => (qRg_ma45_57 i hi).1)
                  exact ih_43 (i14327 := v14363) (i14328 := i14360) (g14329 := g14361) (hi_43 := by omega) (hm_43 := by omega) (qRg_ma45_43 := qRg_ma45_57) (H := H) (locs := locs) (ls := ls) (hn_43 := by omega) (hP := hP) (hD := hD) (hS := hS) (hl := lv_sub hl [0, 2, 3, 4, 5] rfl)
                · replace c14362 := nle_i c14362
                  refine lv_aload_n hx hb dX12_fillCosts_63 rfl (lv_at hl 3 rfl) ?_
                  refine lv_iload hx hb dX12_fillCosts_64 (lv_at hl 1 rfl) ?_
                  refine lv_iload hx hb dX12_fillCosts_66 (lv_at hl 0 rfl) ?_
                  refine ro_V (As := [.int i14327, .int i14359]) (rest := []) hC hE kV_X12_273 (c_X12_leadsTo l D K md ma1 ma2 ma3 ma4 ma6 ma14 ma21 ma22 ma23 ma24 ma26 ma27 ma28 ma29 ma30 ma31 ma32 ma33 ma34 ma35 ma36 ma40 ma41 ma42 ma45 ma46 ma47 ma49 ma50 ma51 ma52 mn0 mn5 mn7 mn8 mn9 mn10 mn11 mn12 mn13 mn15 mn16 mn17 mn18 mn19 mn20 mn25 mn37 mn38 mn39 mn43 mn44 mn48 mf1 i14327 i14359 hs1_0 (by omega) (by omega)) (hP.sub (ws' := [(md, .inr (11, [.int mn0, .ref ma1, .ref ma2, .ref ma3, .ref ma4, .int mn5, .ref ma6, .int mn7, .int mn8, .int mn9, .int mn10, .int mn11, .int mn12, .int mn13, .ref ma14, .int mn15, .int mn16, .int mn17, .int mn18, .int mn19, .int mn20, .ref ma21, .ref ma22, .ref ma23, .ref ma24, .int mn25, .ref ma26, .ref ma27, .ref ma28, .ref ma29, .ref ma30, .ref ma31, .ref ma32, .ref ma33, .ref ma34, .ref ma35, .ref ma36, .int mn37, .int mn38, .int mn39, .ref ma40, .ref ma41, .ref ma42, .int mn43, .int mn44, .ref ma45, .ref ma46, .ref ma47, .int mn48, .ref ma49, .ref ma50, .ref ma51, .ref ma52])), (ma1, .inl (K 1, 262, .inl mf1))]) [0, 1] rfl) 0 11 rfl rfl rfl hl.1 rfl (Nat.le_of_ble_eq_true rfl) (by decide) (by decide) dX12_fillCosts_68 (fun r14368 hq => ?_)
                  obtain ⟨h14365, h14366, h14367⟩ := hq
                  refine lv_istore (lv' := [(6, .int r14368), (5, .int i14359), (4, .int i14327), (3, .int i14360), (0, .ref md), (1, .int p0), (2, .int p1)]) hx hb dX12_fillCosts_71 hl (by decide) rfl (fun ls hl => ?_)
                  refine lv_aload_n hx hb dX12_fillCosts_73 rfl (lv_at hl 4 rfl) ?_
                  refine va_get (D := D) (ci := 11) (v := .ref ma45) (C := RX12) (T := TX12) (N := 53) hx hb hts in_X12 hown hE.1 hP 0 rfl rfl 45 (by decide) (hts _ w_1118) (fun _ h9 => h9) rfl dX12_fillCosts_74 ?_
                  refine lv_iload hx hb dX12_fillCosts_77 (lv_at hl 2 rfl) ?_
                  refine va_iald hx hb hE.1 hP 2 1 rfl rfl (vp_in_iff.mpr (by omega)) dX12_fillCosts_79 ?_
                  refine lv_topi (fun v14369 ev14369 => ?_)
                  have zv14369 : v14369.toInt = (g14361 i14327.toInt.toNat).toInt := by rw [ev14369]; rfl
                  have tv14369 := rg_at qRg_ma45_57 ev14369 (in_lt (i := i14327) (vp_in_iff.mpr (by omega)))
                  refine lv_iconst (v := 1) hx hb dX12_fillCosts_80 (by decide) ?_
                  refine lv_iadd hx hb dX12_fillCosts_81 ?_
                  refine lv_topi (fun v14370 ev14370 => ?_)
                  refine lv_aload_n hx hb dX12_fillCosts_82 rfl (lv_at hl 4 rfl) ?_
                  refine lv_iload hx hb dX12_fillCosts_83 (lv_at hl 0 rfl) ?_
                  refine ro_V (As := [.int r14368]) (rest := [.int v14370]) hC hE kV_X12_276 (c_X12_markOf l D K md ma1 ma2 ma3 ma4 ma6 ma14 ma21 ma22 ma23 ma24 ma26 ma27 ma28 ma29 ma30 ma31 ma32 ma33 ma34 ma35 ma36 ma40 ma41 ma42 ma45 ma46 ma47 ma49 ma50 ma51 ma52 mn0 mn5 mn7 mn8 mn9 mn10 mn11 mn12 mn13 mn15 mn16 mn17 mn18 mn19 mn20 mn25 mn37 mn38 mn39 mn43 mn44 mn48 mf1 r14368 hs1_0 (by omega)) (hP.sub (ws' := [(md, .inr (11, [.int mn0, .ref ma1, .ref ma2, .ref ma3, .ref ma4, .int mn5, .ref ma6, .int mn7, .int mn8, .int mn9, .int mn10, .int mn11, .int mn12, .int mn13, .ref ma14, .int mn15, .int mn16, .int mn17, .int mn18, .int mn19, .int mn20, .ref ma21, .ref ma22, .ref ma23, .ref ma24, .int mn25, .ref ma26, .ref ma27, .ref ma28, .ref ma29, .ref ma30, .ref ma31, .ref ma32, .ref ma33, .ref ma34, .ref ma35, .ref ma36, .int mn37, .int mn38, .int mn39, .ref ma40, .ref ma41, .ref ma42, .int mn43, .int mn44, .ref ma45, .ref ma46, .ref ma47, .int mn48, .ref ma49, .ref ma50, .ref ma51, .ref ma52])), (ma1, .inl (K 1, 262, .inl mf1))]) [0, 1] rfl) 0 11 rfl rfl rfl hl.1 rfl (Nat.le_of_ble_eq_true rfl) (by decide) (by decide) dX12_fillCosts_85 (fun r14374 hq => ?_)
                  obtain ⟨h14371, h14372, h14373⟩ := hq
                  refine lv_if_ne (tgt := 95) hx hb dX12_fillCosts_88 (by decide) (fun c14375 => ?_) (fun c14375 => ?_)
                  · replace c14375 := ne_i c14375
                    refine lv_iconst (v := 0) hx hb dX12_fillCosts_95 (by decide) ?_
                    refine lv_iadd hx hb dX12_fillCosts_96 ?_
                    refine lv_topi (fun v14376 ev14376 => ?_)
                    refine lv_istore (lv' := [(7, .int v14376), (6, .int r14368), (5, .int i14359), (4, .int i14327), (3, .int i14360), (0, .ref md), (1, .int p0), (2, .int p1)]) hx hb dX12_fillCosts_97 hl (by decide) rfl (fun ls hl => ?_)
                    refine lv_iload hx hb dX12_fillCosts_99 (lv_at hl 0 rfl) ?_
                    refine lv_aload_n hx hb dX12_fillCosts_101 rfl (lv_at hl 5 rfl) ?_
                    refine va_get (D := D) (ci := 11) (v := .ref ma45) (C := RX12) (T := TX12) (N := 53) hx hb hts in_X12 hown hE.1 hP 0 rfl rfl 45 (by decide) (hts _ w_1118) (fun _ h9 => h9) rfl dX12_fillCosts_102 ?_
                    refine lv_iload hx hb dX12_fillCosts_105 (lv_at hl 1 rfl) ?_
                    refine va_iald hx hb hE.1 hP 2 1 rfl rfl (vp_in_iff.mpr (by omega)) dX12_fillCosts_107 ?_
                    refine lv_topi (fun v14377 ev14377 => ?_)
                    have zv14377 : v14377.toInt = (g14361 r14368.toInt.toNat).toInt := by rw [ev14377]; rfl
                    have tv14377 := rg_at qRg_ma45_57 ev14377 (in_lt (i := r14368) (vp_in_iff.mpr (by omega)))
                    have tv14370 : v14370.toInt = (v14369 : Int32).toInt + (1 : Int32).toInt := add_i ev14370 (by omega) (by omega)
                    have tv14376 : v14376.toInt = (v14370 : Int32).toInt + (0 : Int32).toInt := add_i ev14376 (by omega) (by omega)
                    refine lv_icmp_lt (tgt := 114) hx hb dX12_fillCosts_108 (by decide) (fun c14378 => ?_) (fun c14378 => ?_)
                    · replace c14378 := lt_i c14378
                      refine lv_aload_n hx hb dX12_fillCosts_114 rfl (lv_at hl 5 rfl) ?_
                      refine va_get (D := D) (ci := 11) (v := .ref ma45) (C := RX12) (T := TX12) (N := 53) hx hb hts in_X12 hown hE.1 hP 0 rfl rfl 45 (by decide) (hts _ w_1118) (fun _ h9 => h9) rfl dX12_fillCosts_115 ?_
                      refine lv_iload hx hb dX12_fillCosts_118 (lv_at hl 1 rfl) ?_
                      refine lv_iload hx hb dX12_fillCosts_120 (lv_at hl 0 rfl) ?_
                      refine sti hx hb hE.1 hP hD hS 2 1 rfl rfl (vp_in_iff.mpr (by omega)) dX12_fillCosts_122 (fun g14379 eg14379 H locs hP hD hS => ?_)
                      replace hP : va_P D vwCl [(md, .inr (11, [.int mn0, .ref ma1, .ref ma2, .ref ma3, .ref ma4, .int mn5, .ref ma6, .int mn7, .int mn8, .int mn9, .int mn10, .int mn11, .int mn12, .int mn13, .ref ma14, .int mn15, .int mn16, .int mn17, .int mn18, .int mn19, .int mn20, .ref ma21, .ref ma22, .ref ma23, .ref ma24, .int mn25, .ref ma26, .ref ma27, .ref ma28, .ref ma29, .ref ma30, .ref ma31, .ref ma32, .ref ma33, .ref ma34, .ref ma35, .ref ma36, .int mn37, .int mn38, .int mn39, .ref ma40, .ref ma41, .ref ma42, .int mn43, .int mn44, .ref ma45, .ref ma46, .ref ma47, .int mn48, .ref ma49, .ref ma50, .ref ma51, .ref ma52])), (ma1, .inl (K 1, 262, .inl mf1)), (ma45, .inl (K 1, 10, .inl g14379))] H := hP
                      replace hD : va_D A [(md, .inr (11, [.int mn0, .ref ma1, .ref ma2, .ref ma3, .ref ma4, .int mn5, .ref ma6, .int mn7, .int mn8, .int mn9, .int mn10, .int mn11, .int mn12, .int mn13, .ref ma14, .int mn15, .int mn16, .int mn17, .int mn18, .int mn19, .int mn20, .ref ma21, .ref ma22, .ref ma23, .ref ma24, .int mn25, .ref ma26, .ref ma27, .ref ma28, .ref ma29, .ref ma30, .ref ma31, .ref ma32, .ref ma33, .ref ma34, .ref ma35, .ref ma36, .int mn37, .int mn38, .int mn39, .ref ma40, .ref ma41, .ref ma42, .int mn43, .int mn44, .ref ma45, .ref ma46, .ref ma47, .int mn48, .ref ma49, .ref ma50, .ref ma51, .ref ma52])), (ma1, .inl (K 1, 262, .inl mf1)), (ma45, .inl (K 1, 10, .inl g14379))] := hD
                      have q14380 : Rg 0 1000000 10 g14379 := rg_up qRg_ma45_57 eg14379 (by omega) (by omega)
                      have s14381 := sum_lt (n := 10) eg14379 (by rw [cl_n]; omega) (by omega)
                      refine lv_iconst (v := 1) hx hb dX12_fillCosts_123 (by decide) ?_
                      refine lv_istore_n (lv' := [(3, .int 1), (7, .int v14376), (6, .int r14368), (5, .int i14359), (4, .int i14327), (0, .ref md), (1, .int p0), (2, .int p1)]) hx hb dX12_fillCosts_124 rfl hl (by decide) rfl (fun ls hl => ?_)
                      obtain ⟨v14382, ev14382⟩ : ∃ z : Int32, z = i14359 + 1 := ⟨_, rfl⟩
                      refine lv_iinc (v := v14382) (lv' := [(5, .int v14382), (3, .int 1), (7, .int v14376), (6, .int r14368), (4, .int i14327), (0, .ref md), (1, .int p0), (2, .int p1)]) hx hb dX12_fillCosts_125 hl (k := 3) rfl (by rw [ev14382]; rfl) (by decide) rfl (fun ls hl => ?_)
                      refine lv_goto (tgt := 57) hx hb dX12_fillCosts_128 (by decide) ?_
                      have tv14382 : v14382.toInt = (i14359 : Int32).toInt + (1 : Int32).toInt := add_i ev14382 (by omega) (by omega)
                      have s14383 := sum_pos 10 (fun i hi => (q14380 i hi).1)
                      exact ih_57 (i14359 := v14382) (i14360 := 1) (g14361 := g14379) (hi_57 := by omega) (hm_57 := by omega) (qRg_ma45_57 := q14380) (H := H) (locs := locs) (ls := ls) (hn_57 := by omega) (hP := hP) (hD := hD) (hS := hS) (hl := lv_sub hl [0, 4, 1, 5, 6, 7] rfl)
                    · replace c14378 := nlt_i c14378
                      refine lv_goto (tgt := 125) hx hb dX12_fillCosts_111 (by decide) ?_
                      obtain ⟨v14384, ev14384⟩ : ∃ z : Int32, z = i14359 + 1 := ⟨_, rfl⟩
                      refine lv_iinc (v := v14384) (lv' := [(5, .int v14384), (7, .int v14376), (6, .int r14368), (4, .int i14327), (3, .int i14360), (0, .ref md), (1, .int p0), (2, .int p1)]) hx hb dX12_fillCosts_125 hl (k := 2) rfl (by rw [ev14384]; rfl) (by decide) rfl (fun ls hl => ?_)
                      refine lv_goto (tgt := 57) hx hb dX12_fillCosts_128 (by decide) ?_
                      have tv14384 : v14384.toInt = (i14359 : Int32).toInt + (1 : Int32).toInt := add_i ev14384 (by omega) (by omega)
                      have s14385 := sum_pos 10 (fun i hi => (qRg_ma45_57 i hi).1)
                      exact ih_57 (i14359 := v14384) (i14360 := i14360) (g14361 := g14361) (hi_57 := by omega) (hm_57 := by omega) (qRg_ma45_57 := qRg_ma45_57) (H := H) (locs := locs) (ls := ls) (hn_57 := by omega) (hP := hP) (hD := hD) (hS := hS) (hl := lv_sub hl [0, 3, 4, 5, 6, 7] rfl)
                  · replace c14375 := eq_i c14375
                    refine lv_iload_n hx hb dX12_fillCosts_91 rfl (lv_at hl 6 rfl) ?_
                    refine lv_goto (tgt := 96) hx hb dX12_fillCosts_92 (by decide) ?_
                    refine lv_iadd hx hb dX12_fillCosts_96 ?_
                    refine lv_topi (fun v14386 ev14386 => ?_)
                    refine lv_istore (lv' := [(7, .int v14386), (6, .int r14368), (5, .int i14359), (4, .int i14327), (3, .int i14360), (0, .ref md), (1, .int p0), (2, .int p1)]) hx hb dX12_fillCosts_97 hl (by decide) rfl (fun ls hl => ?_)
                    refine lv_iload hx hb dX12_fillCosts_99 (lv_at hl 0 rfl) ?_
                    refine lv_aload_n hx hb dX12_fillCosts_101 rfl (lv_at hl 5 rfl) ?_
                    refine va_get (D := D) (ci := 11) (v := .ref ma45) (C := RX12) (T := TX12) (N := 53) hx hb hts in_X12 hown hE.1 hP 0 rfl rfl 45 (by decide) (hts _ w_1118) (fun _ h9 => h9) rfl dX12_fillCosts_102 ?_
                    refine lv_iload hx hb dX12_fillCosts_105 (lv_at hl 1 rfl) ?_
                    refine va_iald hx hb hE.1 hP 2 1 rfl rfl (vp_in_iff.mpr (by omega)) dX12_fillCosts_107 ?_
                    refine lv_topi (fun v14387 ev14387 => ?_)
                    have zv14387 : v14387.toInt = (g14361 r14368.toInt.toNat).toInt := by rw [ev14387]; rfl
                    have tv14387 := rg_at qRg_ma45_57 ev14387 (in_lt (i := r14368) (vp_in_iff.mpr (by omega)))
                    have tv14370 : v14370.toInt = (v14369 : Int32).toInt + (1 : Int32).toInt := add_i ev14370 (by omega) (by omega)
                    have tv14386 : v14386.toInt = (v14370 : Int32).toInt + (p1 : Int32).toInt := add_i ev14386 (by omega) (by omega)
                    refine lv_icmp_lt (tgt := 114) hx hb dX12_fillCosts_108 (by decide) (fun c14388 => ?_) (fun c14388 => ?_)
                    · replace c14388 := lt_i c14388
                      refine lv_aload_n hx hb dX12_fillCosts_114 rfl (lv_at hl 5 rfl) ?_
                      refine va_get (D := D) (ci := 11) (v := .ref ma45) (C := RX12) (T := TX12) (N := 53) hx hb hts in_X12 hown hE.1 hP 0 rfl rfl 45 (by decide) (hts _ w_1118) (fun _ h9 => h9) rfl dX12_fillCosts_115 ?_
                      refine lv_iload hx hb dX12_fillCosts_118 (lv_at hl 1 rfl) ?_
                      refine lv_iload hx hb dX12_fillCosts_120 (lv_at hl 0 rfl) ?_
                      refine sti hx hb hE.1 hP hD hS 2 1 rfl rfl (vp_in_iff.mpr (by omega)) dX12_fillCosts_122 (fun g14389 eg14389 H locs hP hD hS => ?_)
                      replace hP : va_P D vwCl [(md, .inr (11, [.int mn0, .ref ma1, .ref ma2, .ref ma3, .ref ma4, .int mn5, .ref ma6, .int mn7, .int mn8, .int mn9, .int mn10, .int mn11, .int mn12, .int mn13, .ref ma14, .int mn15, .int mn16, .int mn17, .int mn18, .int mn19, .int mn20, .ref ma21, .ref ma22, .ref ma23, .ref ma24, .int mn25, .ref ma26, .ref ma27, .ref ma28, .ref ma29, .ref ma30, .ref ma31, .ref ma32, .ref ma33, .ref ma34, .ref ma35, .ref ma36, .int mn37, .int mn38, .int mn39, .ref ma40, .ref ma41, .ref ma42, .int mn43, .int mn44, .ref ma45, .ref ma46, .ref ma47, .int mn48, .ref ma49, .ref ma50, .ref ma51, .ref ma52])), (ma1, .inl (K 1, 262, .inl mf1)), (ma45, .inl (K 1, 10, .inl g14389))] H := hP
                      replace hD : va_D A [(md, .inr (11, [.int mn0, .ref ma1, .ref ma2, .ref ma3, .ref ma4, .int mn5, .ref ma6, .int mn7, .int mn8, .int mn9, .int mn10, .int mn11, .int mn12, .int mn13, .ref ma14, .int mn15, .int mn16, .int mn17, .int mn18, .int mn19, .int mn20, .ref ma21, .ref ma22, .ref ma23, .ref ma24, .int mn25, .ref ma26, .ref ma27, .ref ma28, .ref ma29, .ref ma30, .ref ma31, .ref ma32, .ref ma33, .ref ma34, .ref ma35, .ref ma36, .int mn37, .int mn38, .int mn39, .ref ma40, .ref ma41, .ref ma42, .int mn43, .int mn44, .ref ma45, .ref ma46, .ref ma47, .int mn48, .ref ma49, .ref ma50, .ref ma51, .ref ma52])), (ma1, .inl (K 1, 262, .inl mf1)), (ma45, .inl (K 1, 10, .inl g14389))] := hD
                      have q14390 : Rg 0 1000000 10 g14389 := rg_up qRg_ma45_57 eg14389 (by omega) (by omega)
                      have s14391 := sum_lt (n := 10) eg14389 (by rw [cl_n]; omega) (by omega)
                      refine lv_iconst (v := 1) hx hb dX12_fillCosts_123 (by decide) ?_
                      refine lv_istore_n (lv' := [(3, .int 1), (7, .int v14386), (6, .int r14368), (5, .int i14359), (4, .int i14327), (0, .ref md), (1, .int p0), (2, .int p1)]) hx hb dX12_fillCosts_124 rfl hl (by decide) rfl (fun ls hl => ?_)
                      obtain ⟨v14392, ev14392⟩ : ∃ z : Int32, z = i14359 + 1 := ⟨_, rfl⟩
                      refine lv_iinc (v := v14392) (lv' := [(5, .int v14392), (3, .int 1), (7, .int v14386), (6, .int r14368), (4, .int i14327), (0, .ref md), (1, .int p0), (2, .int p1)]) hx hb dX12_fillCosts_125 hl (k := 3) rfl (by rw [ev14392]; rfl) (by decide) rfl (fun ls hl => ?_)
                      refine lv_goto (tgt := 57) hx hb dX12_fillCosts_128 (by decide) ?_
                      have tv14392 : v14392.toInt = (i14359 : Int32).toInt + (1 : Int32).toInt := add_i ev14392 (by omega) (by omega)
                      have s14393 := sum_pos 10 (fun i hi => (q14390 i hi).1)
                      exact ih_57 (i14359 := v14392) (i14360 := 1) (g14361 := g14389) (hi_57 := by omega) (hm_57 := by omega) (qRg_ma45_57 := q14390) (H := H) (locs := locs) (ls := ls) (hn_57 := by omega) (hP := hP) (hD := hD) (hS := hS) (hl := lv_sub hl [0, 4, 1, 5, 6, 7] rfl)
                    · replace c14388 := nlt_i c14388
                      refine lv_goto (tgt := 125) hx hb dX12_fillCosts_111 (by decide) ?_
                      obtain ⟨v14394, ev14394⟩ : ∃ z : Int32, z = i14359 + 1 := ⟨_, rfl⟩
                      refine lv_iinc (v := v14394) (lv' := [(5, .int v14394), (7, .int v14386), (6, .int r14368), (4, .int i14327), (3, .int i14360), (0, .ref md), (1, .int p0), (2, .int p1)]) hx hb dX12_fillCosts_125 hl (k := 2) rfl (by rw [ev14394]; rfl) (by decide) rfl (fun ls hl => ?_)
                      refine lv_goto (tgt := 57) hx hb dX12_fillCosts_128 (by decide) ?_
                      have tv14394 : v14394.toInt = (i14359 : Int32).toInt + (1 : Int32).toInt := add_i ev14394 (by omega) (by omega)
                      have s14395 := sum_pos 10 (fun i hi => (qRg_ma45_57 i hi).1)
                      exact ih_57 (i14359 := v14394) (i14360 := i14360) (g14361 := g14361) (hi_57 := by omega) (hm_57 := by omega) (qRg_ma45_57 := qRg_ma45_57) (H := H) (locs := locs) (ls := ls) (hn_57 := by omega) (hP := hP) (hD := hD) (hS := hS) (hl := lv_sub hl [0, 3, 4, 5, 6, 7] rfl)
    · replace c14258 := nle_i c14258
      refine lv_aload_n hx hb dX12_fillCosts_8 rfl (lv_at hl 1 rfl) ?_
      refine va_get (D := D) (ci := 11) (v := .ref ma45) (C := RX12) (T := TX12) (N := 53) hx hb hts in_X12 hown hE.1 hP 0 rfl rfl 45 (by decide) (hts _ w_1118) (fun _ h9 => h9) rfl dX12_fillCosts_9 ?_
      refine lv_iload_n hx hb dX12_fillCosts_12 rfl (lv_at hl 0 rfl) ?_
      refine lv_iload_n hx hb dX12_fillCosts_13 rfl (lv_at hl 0 rfl) ?_
      refine lv_iload_n hx hb dX12_fillCosts_14 rfl (lv_at hl 2 rfl) ?_
      refine lv_icmp_ne (tgt := 22) hx hb dX12_fillCosts_15 (by decide) (fun c14396 => ?_) (fun c14396 => ?_)
      · replace c14396 := ne_i c14396
        refine lv_ldcw (v := 1000000) hx hb hown (hts _ w_1105) dX12_fillCosts_22 ?_
        refine sti hx hb hE.1 hP hD hS 2 1 rfl rfl (vp_in_iff.mpr (by omega)) dX12_fillCosts_25 (fun g14397 eg14397 H locs hP hD hS => ?_)
        replace hP : va_P D vwCl [(md, .inr (11, [.int mn0, .ref ma1, .ref ma2, .ref ma3, .ref ma4, .int mn5, .ref ma6, .int mn7, .int mn8, .int mn9, .int mn10, .int mn11, .int mn12, .int mn13, .ref ma14, .int mn15, .int mn16, .int mn17, .int mn18, .int mn19, .int mn20, .ref ma21, .ref ma22, .ref ma23, .ref ma24, .int mn25, .ref ma26, .ref ma27, .ref ma28, .ref ma29, .ref ma30, .ref ma31, .ref ma32, .ref ma33, .ref ma34, .ref ma35, .ref ma36, .int mn37, .int mn38, .int mn39, .ref ma40, .ref ma41, .ref ma42, .int mn43, .int mn44, .ref ma45, .ref ma46, .ref ma47, .int mn48, .ref ma49, .ref ma50, .ref ma51, .ref ma52])), (ma1, .inl (K 1, 262, .inl mf1)), (ma45, .inl (K 1, 10, .inl g14397))] H := hP
        replace hD : va_D A [(md, .inr (11, [.int mn0, .ref ma1, .ref ma2, .ref ma3, .ref ma4, .int mn5, .ref ma6, .int mn7, .int mn8, .int mn9, .int mn10, .int mn11, .int mn12, .int mn13, .ref ma14, .int mn15, .int mn16, .int mn17, .int mn18, .int mn19, .int mn20, .ref ma21, .ref ma22, .ref ma23, .ref ma24, .int mn25, .ref ma26, .ref ma27, .ref ma28, .ref ma29, .ref ma30, .ref ma31, .ref ma32, .ref ma33, .ref ma34, .ref ma35, .ref ma36, .int mn37, .int mn38, .int mn39, .ref ma40, .ref ma41, .ref ma42, .int mn43, .int mn44, .ref ma45, .ref ma46, .ref ma47, .int mn48, .ref ma49, .ref ma50, .ref ma51, .ref ma52])), (ma1, .inl (K 1, 262, .inl mf1)), (ma45, .inl (K 1, 10, .inl g14397))] := hD
        obtain ⟨v14398, ev14398⟩ : ∃ z : Int32, z = i14256 + 1 := ⟨_, rfl⟩
        refine lv_iinc (v := v14398) (lv' := [(3, .int v14398), (0, .ref md), (1, .int p0), (2, .int p1)]) hx hb dX12_fillCosts_26 hl (k := 0) rfl (by rw [ev14398]; rfl) (by decide) rfl (fun ls hl => ?_)
        refine lv_goto (tgt := 2) hx hb dX12_fillCosts_29 (by decide) ?_
        have tv14398 : v14398.toInt = (i14256 : Int32).toInt + (1 : Int32).toInt := add_i ev14398 (by omega) (by omega)
        exact ih_2 (i14256 := v14398) (g14257 := g14397) (hi_2 := by omega) (hf_2 := rgf_more hf_2 (by omega) eg14397 (by omega) (by omega)) (H := H) (locs := locs) (ls := ls) (hn_2 := by omega) (hP := hP) (hD := hD) (hS := hS) (hl := lv_sub hl [0, 1, 2, 3] rfl)
      · replace c14396 := eq_i c14396
        refine lv_iconst (v := 0) hx hb dX12_fillCosts_18 (by decide) ?_
        refine lv_goto (tgt := 25) hx hb dX12_fillCosts_19 (by decide) ?_
        refine sti hx hb hE.1 hP hD hS 2 1 rfl rfl (vp_in_iff.mpr (by omega)) dX12_fillCosts_25 (fun g14399 eg14399 H locs hP hD hS => ?_)
        replace hP : va_P D vwCl [(md, .inr (11, [.int mn0, .ref ma1, .ref ma2, .ref ma3, .ref ma4, .int mn5, .ref ma6, .int mn7, .int mn8, .int mn9, .int mn10, .int mn11, .int mn12, .int mn13, .ref ma14, .int mn15, .int mn16, .int mn17, .int mn18, .int mn19, .int mn20, .ref ma21, .ref ma22, .ref ma23, .ref ma24, .int mn25, .ref ma26, .ref ma27, .ref ma28, .ref ma29, .ref ma30, .ref ma31, .ref ma32, .ref ma33, .ref ma34, .ref ma35, .ref ma36, .int mn37, .int mn38, .int mn39, .ref ma40, .ref ma41, .ref ma42, .int mn43, .int mn44, .ref ma45, .ref ma46, .ref ma47, .int mn48, .ref ma49, .ref ma50, .ref ma51, .ref ma52])), (ma1, .inl (K 1, 262, .inl mf1)), (ma45, .inl (K 1, 10, .inl g14399))] H := hP
        replace hD : va_D A [(md, .inr (11, [.int mn0, .ref ma1, .ref ma2, .ref ma3, .ref ma4, .int mn5, .ref ma6, .int mn7, .int mn8, .int mn9, .int mn10, .int mn11, .int mn12, .int mn13, .ref ma14, .int mn15, .int mn16, .int mn17, .int mn18, .int mn19, .int mn20, .ref ma21, .ref ma22, .ref ma23, .ref ma24, .int mn25, .ref ma26, .ref ma27, .ref ma28, .ref ma29, .ref ma30, .ref ma31, .ref ma32, .ref ma33, .ref ma34, .ref ma35, .ref ma36, .int mn37, .int mn38, .int mn39, .ref ma40, .ref ma41, .ref ma42, .int mn43, .int mn44, .ref ma45, .ref ma46, .ref ma47, .int mn48, .ref ma49, .ref ma50, .ref ma51, .ref ma52])), (ma1, .inl (K 1, 262, .inl mf1)), (ma45, .inl (K 1, 10, .inl g14399))] := hD
        obtain ⟨v14400, ev14400⟩ : ∃ z : Int32, z = i14256 + 1 := ⟨_, rfl⟩
        refine lv_iinc (v := v14400) (lv' := [(3, .int v14400), (0, .ref md), (1, .int p0), (2, .int p1)]) hx hb dX12_fillCosts_26 hl (k := 0) rfl (by rw [ev14400]; rfl) (by decide) rfl (fun ls hl => ?_)
        refine lv_goto (tgt := 2) hx hb dX12_fillCosts_29 (by decide) ?_
        have tv14400 : v14400.toInt = (i14256 : Int32).toInt + (1 : Int32).toInt := add_i ev14400 (by omega) (by omega)
        exact ih_2 (i14256 := v14400) (g14257 := g14399) (hi_2 := by omega) (hf_2 := rgf_more hf_2 (by omega) eg14399 (by omega) (by omega)) (H := H) (locs := locs) (ls := ls) (hn_2 := by omega) (hP := hP) (hD := hD) (hS := hS) (hl := lv_sub hl [0, 1, 2, 3] rfl)
set_option maxRecDepth 40000 in
set_option maxHeartbeats 4000000 in
theorem c_X12_route (l : Launch) (D : va_G) (K : Nat → ClassId) (md : Nat) (ma1 : Nat) (ma2 : Nat) (ma3 : Nat) (ma4 : Nat) (ma6 : Nat) (ma14 : Nat) (ma21 : Nat) (ma22 : Nat) (ma23 : Nat) (ma24 : Nat) (ma26 : Nat) (ma27 : Nat) (ma28 : Nat) (ma29 : Nat) (ma30 : Nat) (ma31 : Nat) (ma32 : Nat) (ma33 : Nat) (ma34 : Nat) (ma35 : Nat) (ma36 : Nat) (ma40 : Nat) (ma41 : Nat) (ma42 : Nat) (ma45 : Nat) (ma46 : Nat) (ma47 : Nat) (ma49 : Nat) (ma50 : Nat) (ma51 : Nat) (ma52 : Nat) (mn0 : Int32) (mn5 : Int32) (mn7 : Int32) (mn8 : Int32) (mn9 : Int32) (mn10 : Int32) (mn11 : Int32) (mn12 : Int32) (mn13 : Int32) (mn15 : Int32) (mn16 : Int32) (mn17 : Int32) (mn18 : Int32) (mn19 : Int32) (mn20 : Int32) (mn25 : Int32) (mn37 : Int32) (mn38 : Int32) (mn39 : Int32) (mn43 : Int32) (mn44 : Int32) (mn48 : Int32) (mf1 : Nat → Int32) (mf45 : Nat → Int32) (p0 : Int32) (p1 : Int32) (hs1_0 : GW mf1) : Ci (S := ((Nat → Int32) × (Nat → Nat → Int32) × (Nat → Nat → Int64))) l D K yX12_route cX12_route 3 (some .int) 3 69 0 0 [.ref md, .int p0, .int p1] [(md, .inr (11, [.int mn0, .ref ma1, .ref ma2, .ref ma3, .ref ma4, .int mn5, .ref ma6, .int mn7, .int mn8, .int mn9, .int mn10, .int mn11, .int mn12, .int mn13, .ref ma14, .int mn15, .int mn16, .int mn17, .int mn18, .int mn19, .int mn20, .ref ma21, .ref ma22, .ref ma23, .ref ma24, .int mn25, .ref ma26, .ref ma27, .ref ma28, .ref ma29, .ref ma30, .ref ma31, .ref ma32, .ref ma33, .ref ma34, .ref ma35, .ref ma36, .int mn37, .int mn38, .int mn39, .ref ma40, .ref ma41, .ref ma42, .int mn43, .int mn44, .ref ma45, .ref ma46, .ref ma47, .int mn48, .ref ma49, .ref ma50, .ref ma51, .ref ma52])), (ma1, .inl (K 1, 262, .inl mf1)), (ma45, .inl (K 1, 10, .inl mf45))] (fun _ _ => True) (fun u => [(md, .inr (11, [.int mn0, .ref ma1, .ref ma2, .ref ma3, .ref ma4, .int mn5, .ref ma6, .int mn7, .int mn8, .int mn9, .int mn10, .int mn11, .int mn12, .int mn13, .ref ma14, .int mn15, .int mn16, .int mn17, .int mn18, .int mn19, .int mn20, .ref ma21, .ref ma22, .ref ma23, .ref ma24, .int mn25, .ref ma26, .ref ma27, .ref ma28, .ref ma29, .ref ma30, .ref ma31, .ref ma32, .ref ma33, .ref ma34, .ref ma35, .ref ma36, .int mn37, .int mn38, .int mn39, .ref ma40, .ref ma41, .ref ma42, .int mn43, .int mn44, .ref ma45, .ref ma46, .ref ma47, .int mn48, .ref ma49, .ref ma50, .ref ma51, .ref ma52])), (ma1, .inl (K 1, 262, .inl mf1)), (ma45, .inl (K 1, 10, .inl (u.2.1 0)))]) := by
  intro sz
  refine ch_of (y := yX12_route) (cc := cX12_route) (maxL := 3) (ret := (some .int)) (av := [.ref md, .int p0, .int p1]) (ws := [(md, .inr (11, [.int mn0, .ref ma1, .ref ma2, .ref ma3, .ref ma4, .int mn5, .ref ma6, .int mn7, .int mn8, .int mn9, .int mn10, .int mn11, .int mn12, .int mn13, .ref ma14, .int mn15, .int mn16, .int mn17, .int mn18, .int mn19, .int mn20, .ref ma21, .ref ma22, .ref ma23, .ref ma24, .int mn25, .ref ma26, .ref ma27, .ref ma28, .ref ma29, .ref ma30, .ref ma31, .ref ma32, .ref ma33, .ref ma34, .ref ma35, .ref ma36, .int mn37, .int mn38, .int mn39, .ref ma40, .ref ma41, .ref ma42, .int mn43, .int mn44, .ref ma45, .ref ma46, .ref ma47, .int mn48, .ref ma49, .ref ma50, .ref ma51, .ref ma52])), (ma1, .inl (K 1, 262, .inl mf1)), (ma45, .inl (K 1, 10, .inl mf45))]) (D := D) (K := K) (Qc := fun A => va_Qi (S := ((Nat → Int32) × (Nat → Nat → Int32) × (Nat → Nat → Int64))) (fun _ _ => True) (chB D A (fun u => [(md, .inr (11, [.int mn0, .ref ma1, .ref ma2, .ref ma3, .ref ma4, .int mn5, .ref ma6, .int mn7, .int mn8, .int mn9, .int mn10, .int mn11, .int mn12, .int mn13, .ref ma14, .int mn15, .int mn16, .int mn17, .int mn18, .int mn19, .int mn20, .ref ma21, .ref ma22, .ref ma23, .ref ma24, .int mn25, .ref ma26, .ref ma27, .ref ma28, .ref ma29, .ref ma30, .ref ma31, .ref ma32, .ref ma33, .ref ma34, .ref ma35, .ref ma36, .int mn37, .int mn38, .int mn39, .ref ma40, .ref ma41, .ref ma42, .int mn43, .int mn44, .ref ma45, .ref ma46, .ref ma47, .int mn48, .ref ma49, .ref ma50, .ref ma51, .ref ma52])), (ma1, .inl (K 1, 262, .inl mf1)), (ma45, .inl (K 1, 10, .inl (u.2.1 0)))])) A) (by decide) (Nat.le_of_ble_eq_true rfl) ?_
  intro p e s m below meth c A hC hr hk hin hE hD hA H locs hP hS ls hl
  replace hC : CallFix p m c cX12_route 3 s [.ref md, .int p0, .int p1].toArray wl RX12 := hC
  have hx := hC.1
  have hb := hC.2.1
  have hml := hC.2.2.1
  have hown := hC.2.2.2.1
  have hts := hC.2.2.2.2
  replace hl : lv_has ls 3 [(0, .ref md), (1, .int p0), (2, .int p1)] := hl
  have kc_0 : (0 : Int32).toInt = 0 := by decide
  have kc_1000000 : (1000000 : Int32).toInt = 1000000 := by decide
  have hW0 := gwn_0 hs1_0; have hW1 := gwn_1 hs1_0; have hW2 := gwn_2 hs1_0; have hW4 := gwn_4 hs1_0
  refine lv_aload_n hx hb dX12_route_0 rfl (lv_at hl 0 rfl) ?_
  refine lv_iload_n hx hb dX12_route_1 rfl (lv_at hl 1 rfl) ?_
  refine lv_iload_n hx hb dX12_route_2 rfl (lv_at hl 2 rfl) ?_
  refine ro_V (As := [.int p0, .int p1]) (rest := []) hC hE kV_X12_394 (c_X12_areTwo l D K md ma1 ma2 ma3 ma4 ma6 ma14 ma21 ma22 ma23 ma24 ma26 ma27 ma28 ma29 ma30 ma31 ma32 ma33 ma34 ma35 ma36 ma40 ma41 ma42 ma45 ma46 ma47 ma49 ma50 ma51 ma52 mn0 mn5 mn7 mn8 mn9 mn10 mn11 mn12 mn13 mn15 mn16 mn17 mn18 mn19 mn20 mn25 mn37 mn38 mn39 mn43 mn44 mn48 mf1 p0 p1 hs1_0) (hP.sub (ws' := [(md, .inr (11, [.int mn0, .ref ma1, .ref ma2, .ref ma3, .ref ma4, .int mn5, .ref ma6, .int mn7, .int mn8, .int mn9, .int mn10, .int mn11, .int mn12, .int mn13, .ref ma14, .int mn15, .int mn16, .int mn17, .int mn18, .int mn19, .int mn20, .ref ma21, .ref ma22, .ref ma23, .ref ma24, .int mn25, .ref ma26, .ref ma27, .ref ma28, .ref ma29, .ref ma30, .ref ma31, .ref ma32, .ref ma33, .ref ma34, .ref ma35, .ref ma36, .int mn37, .int mn38, .int mn39, .ref ma40, .ref ma41, .ref ma42, .int mn43, .int mn44, .ref ma45, .ref ma46, .ref ma47, .int mn48, .ref ma49, .ref ma50, .ref ma51, .ref ma52])), (ma1, .inl (K 1, 262, .inl mf1))]) [0, 1] rfl) 0 11 rfl rfl rfl hl.1 rfl (Nat.le_of_ble_eq_true rfl) (by decide) (by decide) dX12_route_3 (fun r14417 hq => ?_)
  rcases hq with rfl | ⟨rfl, h14412, h14413, h14414, h14415, h14416⟩
  · refine lv_if_ne (tgt := 12) hx hb dX12_route_6 (by decide) (fun h => absurd h (by decide)) (fun _ => ?_)
    refine lv_bipush (v := (-2)) hx hb dX12_route_9 (by decide) ?_
    refine W.widen (k := 0) (n := 0) (by decide) (by decide) ?_
    exact ch_iret hC hr hk hS dX12_route_11 ((fun k => [].getD k 0, fun k => [mf45].getD k (fun _ => 0), fun k => [].getD k (fun _ => 0)) : ((Nat → Int32) × (Nat → Nat → Int32) × (Nat → Nat → Int64))) trivial (hP.sub [0, 1, 2] rfl) (hD.sub [0, 1, 2] (by decide) rfl)
  · refine lv_if_ne (tgt := 12) hx hb dX12_route_6 (by decide) (fun _ => ?_) (fun h => absurd h (by decide))
    refine lv_aload_n hx hb dX12_route_12 rfl (lv_at hl 0 rfl) ?_
    refine lv_iload_n hx hb dX12_route_13 rfl (lv_at hl 1 rfl) ?_
    refine lv_iconst (v := 0) hx hb dX12_route_14 (by decide) ?_
    refine cv_V (As := [.int p0, .int 0]) (rest := []) (wc := [(md, .inr (11, [.int mn0, .ref ma1, .ref ma2, .ref ma3, .ref ma4, .int mn5, .ref ma6, .int mn7, .int mn8, .int mn9, .int mn10, .int mn11, .int mn12, .int mn13, .ref ma14, .int mn15, .int mn16, .int mn17, .int mn18, .int mn19, .int mn20, .ref ma21, .ref ma22, .ref ma23, .ref ma24, .int mn25, .ref ma26, .ref ma27, .ref ma28, .ref ma29, .ref ma30, .ref ma31, .ref ma32, .ref ma33, .ref ma34, .ref ma35, .ref ma36, .int mn37, .int mn38, .int mn39, .ref ma40, .ref ma41, .ref ma42, .int mn43, .int mn44, .ref ma45, .ref ma46, .ref ma47, .int mn48, .ref ma49, .ref ma50, .ref ma51, .ref ma52])), (ma1, .inl (K 1, 262, .inl mf1)), (ma45, .inl (K 1, 10, .inl mf45))]) (wr := []) hC hE kV_X12_459 (c_X12_fillCosts l D K md ma1 ma2 ma3 ma4 ma6 ma14 ma21 ma22 ma23 ma24 ma26 ma27 ma28 ma29 ma30 ma31 ma32 ma33 ma34 ma35 ma36 ma40 ma41 ma42 ma45 ma46 ma47 ma49 ma50 ma51 ma52 mn0 mn5 mn7 mn8 mn9 mn10 mn11 mn12 mn13 mn15 mn16 mn17 mn18 mn19 mn20 mn25 mn37 mn38 mn39 mn43 mn44 mn48 mf1 mf45 p0 0 hs1_0 (by omega) (by omega)) hP hD hS hA [0, 1, 2] [] rfl rfl rfl (by decide) (by decide) (by decide) 0 11 rfl rfl rfl hl.1 rfl (Nat.le_of_ble_eq_true rfl) (by decide) (by decide) dX12_route_15 (fun u14418 H locs hw hP hD hS => ?_)
    replace hP : va_P D vwCl [(md, .inr (11, [.int mn0, .ref ma1, .ref ma2, .ref ma3, .ref ma4, .int mn5, .ref ma6, .int mn7, .int mn8, .int mn9, .int mn10, .int mn11, .int mn12, .int mn13, .ref ma14, .int mn15, .int mn16, .int mn17, .int mn18, .int mn19, .int mn20, .ref ma21, .ref ma22, .ref ma23, .ref ma24, .int mn25, .ref ma26, .ref ma27, .ref ma28, .ref ma29, .ref ma30, .ref ma31, .ref ma32, .ref ma33, .ref ma34, .ref ma35, .ref ma36, .int mn37, .int mn38, .int mn39, .ref ma40, .ref ma41, .ref ma42, .int mn43, .int mn44, .ref ma45, .ref ma46, .ref ma47, .int mn48, .ref ma49, .ref ma50, .ref ma51, .ref ma52])), (ma1, .inl (K 1, 262, .inl mf1)), (ma45, .inl (K 1, 10, .inl (u14418.2.1 0)))] H := hP
    replace hD : va_D A [(md, .inr (11, [.int mn0, .ref ma1, .ref ma2, .ref ma3, .ref ma4, .int mn5, .ref ma6, .int mn7, .int mn8, .int mn9, .int mn10, .int mn11, .int mn12, .int mn13, .ref ma14, .int mn15, .int mn16, .int mn17, .int mn18, .int mn19, .int mn20, .ref ma21, .ref ma22, .ref ma23, .ref ma24, .int mn25, .ref ma26, .ref ma27, .ref ma28, .ref ma29, .ref ma30, .ref ma31, .ref ma32, .ref ma33, .ref ma34, .ref ma35, .ref ma36, .int mn37, .int mn38, .int mn39, .ref ma40, .ref ma41, .ref ma42, .int mn43, .int mn44, .ref ma45, .ref ma46, .ref ma47, .int mn48, .ref ma49, .ref ma50, .ref ma51, .ref ma52])), (ma1, .inl (K 1, 262, .inl mf1)), (ma45, .inl (K 1, 10, .inl (u14418.2.1 0)))] := hD
    replace hP : va_P D vwCl [(md, .inr (11, [.int mn0, .ref ma1, .ref ma2, .ref ma3, .ref ma4, .int mn5, .ref ma6, .int mn7, .int mn8, .int mn9, .int mn10, .int mn11, .int mn12, .int mn13, .ref ma14, .int mn15, .int mn16, .int mn17, .int mn18, .int mn19, .int mn20, .ref ma21, .ref ma22, .ref ma23, .ref ma24, .int mn25, .ref ma26, .ref ma27, .ref ma28, .ref ma29, .ref ma30, .ref ma31, .ref ma32, .ref ma33, .ref ma34, .ref ma35, .ref ma36, .int mn37, .int mn38, .int mn39, .ref ma40, .ref ma41, .ref ma42, .int mn43, .int mn44, .ref ma45, .ref ma46, .ref ma47, .int mn48, .ref ma49, .ref ma50, .ref ma51, .ref ma52])), (ma1, .inl (K 1, 262, .inl mf1)), (ma45, .inl (K 1, 10, .inl (u14418.2.1 0)))] H := hP.sub [0, 1, 2] rfl
    replace hD : va_D A [(md, .inr (11, [.int mn0, .ref ma1, .ref ma2, .ref ma3, .ref ma4, .int mn5, .ref ma6, .int mn7, .int mn8, .int mn9, .int mn10, .int mn11, .int mn12, .int mn13, .ref ma14, .int mn15, .int mn16, .int mn17, .int mn18, .int mn19, .int mn20, .ref ma21, .ref ma22, .ref ma23, .ref ma24, .int mn25, .ref ma26, .ref ma27, .ref ma28, .ref ma29, .ref ma30, .ref ma31, .ref ma32, .ref ma33, .ref ma34, .ref ma35, .ref ma36, .int mn37, .int mn38, .int mn39, .ref ma40, .ref ma41, .ref ma42, .int mn43, .int mn44, .ref ma45, .ref ma46, .ref ma47, .int mn48, .ref ma49, .ref ma50, .ref ma51, .ref ma52])), (ma1, .inl (K 1, 262, .inl mf1)), (ma45, .inl (K 1, 10, .inl (u14418.2.1 0)))] := hD.sub [0, 1, 2] (by decide) rfl
    refine W.widen (k := 0) (n := 0) (by decide) (by decide) ?_
    refine lv_aload_n hx hb dX12_route_18 rfl (lv_at hl 0 rfl) ?_
    refine va_get (D := D) (ci := 11) (v := .ref ma45) (C := RX12) (T := TX12) (N := 53) hx hb hts in_X12 hown hE.1 hP 0 rfl rfl 45 (by decide) (hts _ w_1118) (fun _ h9 => h9) rfl dX12_route_19 ?_
    refine lv_iload_n hx hb dX12_route_22 rfl (lv_at hl 2 rfl) ?_
    refine va_iald hx hb hE.1 hP 2 1 rfl rfl (vp_in_iff.mpr (by omega)) dX12_route_23 ?_
    refine lv_topi (fun v14420 ev14420 => ?_)
    refine lv_ldcw (v := 1000000) hx hb hown (hts _ w_1105) dX12_route_24 ?_
    refine lv_icmp_ne (tgt := 34) hx hb dX12_route_27 (by decide) (fun c14421 => ?_) (fun c14421 => ?_)
    · replace c14421 := ne_i c14421
      refine lv_aload_n hx hb dX12_route_34 rfl (lv_at hl 0 rfl) ?_
      refine va_get (D := D) (ci := 11) (v := .ref ma45) (C := RX12) (T := TX12) (N := 53) hx hb hts in_X12 hown hE.1 hP 0 rfl rfl 45 (by decide) (hts _ w_1118) (fun _ h9 => h9) rfl dX12_route_35 ?_
      refine lv_iload_n hx hb dX12_route_38 rfl (lv_at hl 2 rfl) ?_
      refine va_iald hx hb hE.1 hP 2 1 rfl rfl (vp_in_iff.mpr (by omega)) dX12_route_39 ?_
      refine lv_topi (fun v14422 ev14422 => ?_)
      refine W.widen (k := 0) (n := 0) (by decide) (by decide) ?_
      exact ch_iret hC hr hk hS dX12_route_40 ((fun k => [].getD k 0, fun k => [(u14418.2.1 0)].getD k (fun _ => 0), fun k => [].getD k (fun _ => 0)) : ((Nat → Int32) × (Nat → Nat → Int32) × (Nat → Nat → Int64))) trivial (hP.sub [0, 1, 2] rfl) (hD.sub [0, 1, 2] (by decide) rfl)
    · replace c14421 := eq_i c14421
      refine lv_iconst (v := (-1)) hx hb dX12_route_30 (by decide) ?_
      refine lv_goto (tgt := 40) hx hb dX12_route_31 (by decide) ?_
      refine W.widen (k := 0) (n := 0) (by decide) (by decide) ?_
      exact ch_iret hC hr hk hS dX12_route_40 ((fun k => [].getD k 0, fun k => [(u14418.2.1 0)].getD k (fun _ => 0), fun k => [].getD k (fun _ => 0)) : ((Nat → Int32) × (Nat → Nat → Int32) × (Nat → Nat → Int64))) trivial (hP.sub [0, 1, 2] rfl) (hD.sub [0, 1, 2] (by decide) rfl)
set_option maxRecDepth 40000 in
set_option maxHeartbeats 4000000 in
theorem c_X12_dark (l : Launch) (D : va_G) (K : Nat → ClassId) (md : Nat) (ma1 : Nat) (ma2 : Nat) (ma3 : Nat) (ma4 : Nat) (ma6 : Nat) (ma14 : Nat) (ma21 : Nat) (ma22 : Nat) (ma23 : Nat) (ma24 : Nat) (ma26 : Nat) (ma27 : Nat) (ma28 : Nat) (ma29 : Nat) (ma30 : Nat) (ma31 : Nat) (ma32 : Nat) (ma33 : Nat) (ma34 : Nat) (ma35 : Nat) (ma36 : Nat) (ma40 : Nat) (ma41 : Nat) (ma42 : Nat) (ma45 : Nat) (ma46 : Nat) (ma47 : Nat) (ma49 : Nat) (ma50 : Nat) (ma51 : Nat) (ma52 : Nat) (mn0 : Int32) (mn5 : Int32) (mn7 : Int32) (mn8 : Int32) (mn9 : Int32) (mn10 : Int32) (mn11 : Int32) (mn12 : Int32) (mn13 : Int32) (mn15 : Int32) (mn16 : Int32) (mn17 : Int32) (mn18 : Int32) (mn19 : Int32) (mn20 : Int32) (mn25 : Int32) (mn37 : Int32) (mn38 : Int32) (mn39 : Int32) (mn43 : Int32) (mn44 : Int32) (mn48 : Int32) (mf1 : Nat → Int32) (mf45 : Nat → Int32) (p0 : Int32) (p1 : Int32) (hs1_0 : GW mf1) : Ci (S := ((Nat → Int32) × (Nat → Nat → Int32) × (Nat → Nat → Int64))) l D K yX12_dark cX12_dark 3 (some .int) 3 69 0 0 [.ref md, .int p0, .int p1] [(md, .inr (11, [.int mn0, .ref ma1, .ref ma2, .ref ma3, .ref ma4, .int mn5, .ref ma6, .int mn7, .int mn8, .int mn9, .int mn10, .int mn11, .int mn12, .int mn13, .ref ma14, .int mn15, .int mn16, .int mn17, .int mn18, .int mn19, .int mn20, .ref ma21, .ref ma22, .ref ma23, .ref ma24, .int mn25, .ref ma26, .ref ma27, .ref ma28, .ref ma29, .ref ma30, .ref ma31, .ref ma32, .ref ma33, .ref ma34, .ref ma35, .ref ma36, .int mn37, .int mn38, .int mn39, .ref ma40, .ref ma41, .ref ma42, .int mn43, .int mn44, .ref ma45, .ref ma46, .ref ma47, .int mn48, .ref ma49, .ref ma50, .ref ma51, .ref ma52])), (ma1, .inl (K 1, 262, .inl mf1)), (ma45, .inl (K 1, 10, .inl mf45))] (fun _ _ => True) (fun u => [(md, .inr (11, [.int mn0, .ref ma1, .ref ma2, .ref ma3, .ref ma4, .int mn5, .ref ma6, .int mn7, .int mn8, .int mn9, .int mn10, .int mn11, .int mn12, .int mn13, .ref ma14, .int mn15, .int mn16, .int mn17, .int mn18, .int mn19, .int mn20, .ref ma21, .ref ma22, .ref ma23, .ref ma24, .int mn25, .ref ma26, .ref ma27, .ref ma28, .ref ma29, .ref ma30, .ref ma31, .ref ma32, .ref ma33, .ref ma34, .ref ma35, .ref ma36, .int mn37, .int mn38, .int mn39, .ref ma40, .ref ma41, .ref ma42, .int mn43, .int mn44, .ref ma45, .ref ma46, .ref ma47, .int mn48, .ref ma49, .ref ma50, .ref ma51, .ref ma52])), (ma1, .inl (K 1, 262, .inl mf1)), (ma45, .inl (K 1, 10, .inl (u.2.1 0)))]) := by
  intro sz
  refine ch_of (y := yX12_dark) (cc := cX12_dark) (maxL := 3) (ret := (some .int)) (av := [.ref md, .int p0, .int p1]) (ws := [(md, .inr (11, [.int mn0, .ref ma1, .ref ma2, .ref ma3, .ref ma4, .int mn5, .ref ma6, .int mn7, .int mn8, .int mn9, .int mn10, .int mn11, .int mn12, .int mn13, .ref ma14, .int mn15, .int mn16, .int mn17, .int mn18, .int mn19, .int mn20, .ref ma21, .ref ma22, .ref ma23, .ref ma24, .int mn25, .ref ma26, .ref ma27, .ref ma28, .ref ma29, .ref ma30, .ref ma31, .ref ma32, .ref ma33, .ref ma34, .ref ma35, .ref ma36, .int mn37, .int mn38, .int mn39, .ref ma40, .ref ma41, .ref ma42, .int mn43, .int mn44, .ref ma45, .ref ma46, .ref ma47, .int mn48, .ref ma49, .ref ma50, .ref ma51, .ref ma52])), (ma1, .inl (K 1, 262, .inl mf1)), (ma45, .inl (K 1, 10, .inl mf45))]) (D := D) (K := K) (Qc := fun A => va_Qi (S := ((Nat → Int32) × (Nat → Nat → Int32) × (Nat → Nat → Int64))) (fun _ _ => True) (chB D A (fun u => [(md, .inr (11, [.int mn0, .ref ma1, .ref ma2, .ref ma3, .ref ma4, .int mn5, .ref ma6, .int mn7, .int mn8, .int mn9, .int mn10, .int mn11, .int mn12, .int mn13, .ref ma14, .int mn15, .int mn16, .int mn17, .int mn18, .int mn19, .int mn20, .ref ma21, .ref ma22, .ref ma23, .ref ma24, .int mn25, .ref ma26, .ref ma27, .ref ma28, .ref ma29, .ref ma30, .ref ma31, .ref ma32, .ref ma33, .ref ma34, .ref ma35, .ref ma36, .int mn37, .int mn38, .int mn39, .ref ma40, .ref ma41, .ref ma42, .int mn43, .int mn44, .ref ma45, .ref ma46, .ref ma47, .int mn48, .ref ma49, .ref ma50, .ref ma51, .ref ma52])), (ma1, .inl (K 1, 262, .inl mf1)), (ma45, .inl (K 1, 10, .inl (u.2.1 0)))])) A) (by decide) (Nat.le_of_ble_eq_true rfl) ?_
  intro p e s m below meth c A hC hr hk hin hE hD hA H locs hP hS ls hl
  replace hC : CallFix p m c cX12_dark 3 s [.ref md, .int p0, .int p1].toArray wl RX12 := hC
  have hx := hC.1
  have hb := hC.2.1
  have hml := hC.2.2.1
  have hown := hC.2.2.2.1
  have hts := hC.2.2.2.2
  replace hl : lv_has ls 3 [(0, .ref md), (1, .int p0), (2, .int p1)] := hl
  have kc_1000 : (1000 : Int32).toInt = 1000 := by decide
  have kc_1000000 : (1000000 : Int32).toInt = 1000000 := by decide
  have hW0 := gwn_0 hs1_0; have hW1 := gwn_1 hs1_0; have hW2 := gwn_2 hs1_0; have hW4 := gwn_4 hs1_0
  refine lv_aload_n hx hb dX12_dark_0 rfl (lv_at hl 0 rfl) ?_
  refine lv_iload_n hx hb dX12_dark_1 rfl (lv_at hl 1 rfl) ?_
  refine lv_iload_n hx hb dX12_dark_2 rfl (lv_at hl 2 rfl) ?_
  refine ro_V (As := [.int p0, .int p1]) (rest := []) hC hE kV_X12_394 (c_X12_areTwo l D K md ma1 ma2 ma3 ma4 ma6 ma14 ma21 ma22 ma23 ma24 ma26 ma27 ma28 ma29 ma30 ma31 ma32 ma33 ma34 ma35 ma36 ma40 ma41 ma42 ma45 ma46 ma47 ma49 ma50 ma51 ma52 mn0 mn5 mn7 mn8 mn9 mn10 mn11 mn12 mn13 mn15 mn16 mn17 mn18 mn19 mn20 mn25 mn37 mn38 mn39 mn43 mn44 mn48 mf1 p0 p1 hs1_0) (hP.sub (ws' := [(md, .inr (11, [.int mn0, .ref ma1, .ref ma2, .ref ma3, .ref ma4, .int mn5, .ref ma6, .int mn7, .int mn8, .int mn9, .int mn10, .int mn11, .int mn12, .int mn13, .ref ma14, .int mn15, .int mn16, .int mn17, .int mn18, .int mn19, .int mn20, .ref ma21, .ref ma22, .ref ma23, .ref ma24, .int mn25, .ref ma26, .ref ma27, .ref ma28, .ref ma29, .ref ma30, .ref ma31, .ref ma32, .ref ma33, .ref ma34, .ref ma35, .ref ma36, .int mn37, .int mn38, .int mn39, .ref ma40, .ref ma41, .ref ma42, .int mn43, .int mn44, .ref ma45, .ref ma46, .ref ma47, .int mn48, .ref ma49, .ref ma50, .ref ma51, .ref ma52])), (ma1, .inl (K 1, 262, .inl mf1))]) [0, 1] rfl) 0 11 rfl rfl rfl hl.1 rfl (Nat.le_of_ble_eq_true rfl) (by decide) (by decide) dX12_dark_3 (fun r14440 hq => ?_)
  rcases hq with rfl | ⟨rfl, h14435, h14436, h14437, h14438, h14439⟩
  · refine lv_if_ne (tgt := 12) hx hb dX12_dark_6 (by decide) (fun h => absurd h (by decide)) (fun _ => ?_)
    refine lv_bipush (v := (-2)) hx hb dX12_dark_9 (by decide) ?_
    refine W.widen (k := 0) (n := 0) (by decide) (by decide) ?_
    exact ch_iret hC hr hk hS dX12_dark_11 ((fun k => [].getD k 0, fun k => [mf45].getD k (fun _ => 0), fun k => [].getD k (fun _ => 0)) : ((Nat → Int32) × (Nat → Nat → Int32) × (Nat → Nat → Int64))) trivial (hP.sub [0, 1, 2] rfl) (hD.sub [0, 1, 2] (by decide) rfl)
  · refine lv_if_ne (tgt := 12) hx hb dX12_dark_6 (by decide) (fun _ => ?_) (fun h => absurd h (by decide))
    refine lv_aload_n hx hb dX12_dark_12 rfl (lv_at hl 0 rfl) ?_
    refine lv_iload_n hx hb dX12_dark_13 rfl (lv_at hl 1 rfl) ?_
    refine lv_sipush (v := 1000) hx hb dX12_dark_14 (by decide) ?_
    refine cv_V (As := [.int p0, .int 1000]) (rest := []) (wc := [(md, .inr (11, [.int mn0, .ref ma1, .ref ma2, .ref ma3, .ref ma4, .int mn5, .ref ma6, .int mn7, .int mn8, .int mn9, .int mn10, .int mn11, .int mn12, .int mn13, .ref ma14, .int mn15, .int mn16, .int mn17, .int mn18, .int mn19, .int mn20, .ref ma21, .ref ma22, .ref ma23, .ref ma24, .int mn25, .ref ma26, .ref ma27, .ref ma28, .ref ma29, .ref ma30, .ref ma31, .ref ma32, .ref ma33, .ref ma34, .ref ma35, .ref ma36, .int mn37, .int mn38, .int mn39, .ref ma40, .ref ma41, .ref ma42, .int mn43, .int mn44, .ref ma45, .ref ma46, .ref ma47, .int mn48, .ref ma49, .ref ma50, .ref ma51, .ref ma52])), (ma1, .inl (K 1, 262, .inl mf1)), (ma45, .inl (K 1, 10, .inl mf45))]) (wr := []) hC hE kV_X12_459 (c_X12_fillCosts l D K md ma1 ma2 ma3 ma4 ma6 ma14 ma21 ma22 ma23 ma24 ma26 ma27 ma28 ma29 ma30 ma31 ma32 ma33 ma34 ma35 ma36 ma40 ma41 ma42 ma45 ma46 ma47 ma49 ma50 ma51 ma52 mn0 mn5 mn7 mn8 mn9 mn10 mn11 mn12 mn13 mn15 mn16 mn17 mn18 mn19 mn20 mn25 mn37 mn38 mn39 mn43 mn44 mn48 mf1 mf45 p0 1000 hs1_0 (by omega) (by omega)) hP hD hS hA [0, 1, 2] [] rfl rfl rfl (by decide) (by decide) (by decide) 0 11 rfl rfl rfl hl.1 rfl (Nat.le_of_ble_eq_true rfl) (by decide) (by decide) dX12_dark_17 (fun u14441 H locs hw hP hD hS => ?_)
    replace hP : va_P D vwCl [(md, .inr (11, [.int mn0, .ref ma1, .ref ma2, .ref ma3, .ref ma4, .int mn5, .ref ma6, .int mn7, .int mn8, .int mn9, .int mn10, .int mn11, .int mn12, .int mn13, .ref ma14, .int mn15, .int mn16, .int mn17, .int mn18, .int mn19, .int mn20, .ref ma21, .ref ma22, .ref ma23, .ref ma24, .int mn25, .ref ma26, .ref ma27, .ref ma28, .ref ma29, .ref ma30, .ref ma31, .ref ma32, .ref ma33, .ref ma34, .ref ma35, .ref ma36, .int mn37, .int mn38, .int mn39, .ref ma40, .ref ma41, .ref ma42, .int mn43, .int mn44, .ref ma45, .ref ma46, .ref ma47, .int mn48, .ref ma49, .ref ma50, .ref ma51, .ref ma52])), (ma1, .inl (K 1, 262, .inl mf1)), (ma45, .inl (K 1, 10, .inl (u14441.2.1 0)))] H := hP
    replace hD : va_D A [(md, .inr (11, [.int mn0, .ref ma1, .ref ma2, .ref ma3, .ref ma4, .int mn5, .ref ma6, .int mn7, .int mn8, .int mn9, .int mn10, .int mn11, .int mn12, .int mn13, .ref ma14, .int mn15, .int mn16, .int mn17, .int mn18, .int mn19, .int mn20, .ref ma21, .ref ma22, .ref ma23, .ref ma24, .int mn25, .ref ma26, .ref ma27, .ref ma28, .ref ma29, .ref ma30, .ref ma31, .ref ma32, .ref ma33, .ref ma34, .ref ma35, .ref ma36, .int mn37, .int mn38, .int mn39, .ref ma40, .ref ma41, .ref ma42, .int mn43, .int mn44, .ref ma45, .ref ma46, .ref ma47, .int mn48, .ref ma49, .ref ma50, .ref ma51, .ref ma52])), (ma1, .inl (K 1, 262, .inl mf1)), (ma45, .inl (K 1, 10, .inl (u14441.2.1 0)))] := hD
    replace hP : va_P D vwCl [(md, .inr (11, [.int mn0, .ref ma1, .ref ma2, .ref ma3, .ref ma4, .int mn5, .ref ma6, .int mn7, .int mn8, .int mn9, .int mn10, .int mn11, .int mn12, .int mn13, .ref ma14, .int mn15, .int mn16, .int mn17, .int mn18, .int mn19, .int mn20, .ref ma21, .ref ma22, .ref ma23, .ref ma24, .int mn25, .ref ma26, .ref ma27, .ref ma28, .ref ma29, .ref ma30, .ref ma31, .ref ma32, .ref ma33, .ref ma34, .ref ma35, .ref ma36, .int mn37, .int mn38, .int mn39, .ref ma40, .ref ma41, .ref ma42, .int mn43, .int mn44, .ref ma45, .ref ma46, .ref ma47, .int mn48, .ref ma49, .ref ma50, .ref ma51, .ref ma52])), (ma1, .inl (K 1, 262, .inl mf1)), (ma45, .inl (K 1, 10, .inl (u14441.2.1 0)))] H := hP.sub [0, 1, 2] rfl
    replace hD : va_D A [(md, .inr (11, [.int mn0, .ref ma1, .ref ma2, .ref ma3, .ref ma4, .int mn5, .ref ma6, .int mn7, .int mn8, .int mn9, .int mn10, .int mn11, .int mn12, .int mn13, .ref ma14, .int mn15, .int mn16, .int mn17, .int mn18, .int mn19, .int mn20, .ref ma21, .ref ma22, .ref ma23, .ref ma24, .int mn25, .ref ma26, .ref ma27, .ref ma28, .ref ma29, .ref ma30, .ref ma31, .ref ma32, .ref ma33, .ref ma34, .ref ma35, .ref ma36, .int mn37, .int mn38, .int mn39, .ref ma40, .ref ma41, .ref ma42, .int mn43, .int mn44, .ref ma45, .ref ma46, .ref ma47, .int mn48, .ref ma49, .ref ma50, .ref ma51, .ref ma52])), (ma1, .inl (K 1, 262, .inl mf1)), (ma45, .inl (K 1, 10, .inl (u14441.2.1 0)))] := hD.sub [0, 1, 2] (by decide) rfl
    refine W.widen (k := 0) (n := 0) (by decide) (by decide) ?_
    refine lv_aload_n hx hb dX12_dark_20 rfl (lv_at hl 0 rfl) ?_
    refine va_get (D := D) (ci := 11) (v := .ref ma45) (C := RX12) (T := TX12) (N := 53) hx hb hts in_X12 hown hE.1 hP 0 rfl rfl 45 (by decide) (hts _ w_1118) (fun _ h9 => h9) rfl dX12_dark_21 ?_
    refine lv_iload_n hx hb dX12_dark_24 rfl (lv_at hl 2 rfl) ?_
    refine va_iald hx hb hE.1 hP 2 1 rfl rfl (vp_in_iff.mpr (by omega)) dX12_dark_25 ?_
    refine lv_topi (fun v14443 ev14443 => ?_)
    refine lv_ldcw (v := 1000000) hx hb hown (hts _ w_1105) dX12_dark_26 ?_
    refine lv_icmp_ne (tgt := 36) hx hb dX12_dark_29 (by decide) (fun c14444 => ?_) (fun c14444 => ?_)
    · replace c14444 := ne_i c14444
      refine lv_aload_n hx hb dX12_dark_36 rfl (lv_at hl 0 rfl) ?_
      refine va_get (D := D) (ci := 11) (v := .ref ma45) (C := RX12) (T := TX12) (N := 53) hx hb hts in_X12 hown hE.1 hP 0 rfl rfl 45 (by decide) (hts _ w_1118) (fun _ h9 => h9) rfl dX12_dark_37 ?_
      refine lv_iload_n hx hb dX12_dark_40 rfl (lv_at hl 2 rfl) ?_
      refine va_iald hx hb hE.1 hP 2 1 rfl rfl (vp_in_iff.mpr (by omega)) dX12_dark_41 ?_
      refine lv_topi (fun v14445 ev14445 => ?_)
      refine lv_sipush (v := 1000) hx hb dX12_dark_42 (by decide) ?_
      refine lv_idiv hx hb dX12_dark_45 (by decide) ?_
      refine lv_topi (fun v14446 ev14446 => ?_)
      refine W.widen (k := 0) (n := 0) (by decide) (by decide) ?_
      exact ch_iret hC hr hk hS dX12_dark_46 ((fun k => [].getD k 0, fun k => [(u14441.2.1 0)].getD k (fun _ => 0), fun k => [].getD k (fun _ => 0)) : ((Nat → Int32) × (Nat → Nat → Int32) × (Nat → Nat → Int64))) trivial (hP.sub [0, 1, 2] rfl) (hD.sub [0, 1, 2] (by decide) rfl)
    · replace c14444 := eq_i c14444
      refine lv_iconst (v := (-1)) hx hb dX12_dark_32 (by decide) ?_
      refine lv_goto (tgt := 46) hx hb dX12_dark_33 (by decide) ?_
      refine W.widen (k := 0) (n := 0) (by decide) (by decide) ?_
      exact ch_iret hC hr hk hS dX12_dark_46 ((fun k => [].getD k 0, fun k => [(u14441.2.1 0)].getD k (fun _ => 0), fun k => [].getD k (fun _ => 0)) : ((Nat → Int32) × (Nat → Nat → Int32) × (Nat → Nat → Int64))) trivial (hP.sub [0, 1, 2] rfl) (hD.sub [0, 1, 2] (by decide) rfl)
set_option maxRecDepth 40000 in
set_option maxHeartbeats 4000000 in
theorem c_X12_detour (l : Launch) (D : va_G) (K : Nat → ClassId) (md : Nat) (ma1 : Nat) (ma2 : Nat) (ma3 : Nat) (ma4 : Nat) (ma6 : Nat) (ma14 : Nat) (ma21 : Nat) (ma22 : Nat) (ma23 : Nat) (ma24 : Nat) (ma26 : Nat) (ma27 : Nat) (ma28 : Nat) (ma29 : Nat) (ma30 : Nat) (ma31 : Nat) (ma32 : Nat) (ma33 : Nat) (ma34 : Nat) (ma35 : Nat) (ma36 : Nat) (ma40 : Nat) (ma41 : Nat) (ma42 : Nat) (ma45 : Nat) (ma46 : Nat) (ma47 : Nat) (ma49 : Nat) (ma50 : Nat) (ma51 : Nat) (ma52 : Nat) (mn0 : Int32) (mn5 : Int32) (mn7 : Int32) (mn8 : Int32) (mn9 : Int32) (mn10 : Int32) (mn11 : Int32) (mn12 : Int32) (mn13 : Int32) (mn15 : Int32) (mn16 : Int32) (mn17 : Int32) (mn18 : Int32) (mn19 : Int32) (mn20 : Int32) (mn25 : Int32) (mn37 : Int32) (mn38 : Int32) (mn39 : Int32) (mn43 : Int32) (mn44 : Int32) (mn48 : Int32) (mf1 : Nat → Int32) (mf45 : Nat → Int32) (p0 : Int32) (p1 : Int32) (hs1_0 : GW mf1) : Ci (S := ((Nat → Int32) × (Nat → Nat → Int32) × (Nat → Nat → Int64))) l D K yX12_detour cX12_detour 3 (some .int) 3 69 0 0 [.ref md, .int p0, .int p1] [(md, .inr (11, [.int mn0, .ref ma1, .ref ma2, .ref ma3, .ref ma4, .int mn5, .ref ma6, .int mn7, .int mn8, .int mn9, .int mn10, .int mn11, .int mn12, .int mn13, .ref ma14, .int mn15, .int mn16, .int mn17, .int mn18, .int mn19, .int mn20, .ref ma21, .ref ma22, .ref ma23, .ref ma24, .int mn25, .ref ma26, .ref ma27, .ref ma28, .ref ma29, .ref ma30, .ref ma31, .ref ma32, .ref ma33, .ref ma34, .ref ma35, .ref ma36, .int mn37, .int mn38, .int mn39, .ref ma40, .ref ma41, .ref ma42, .int mn43, .int mn44, .ref ma45, .ref ma46, .ref ma47, .int mn48, .ref ma49, .ref ma50, .ref ma51, .ref ma52])), (ma1, .inl (K 1, 262, .inl mf1)), (ma45, .inl (K 1, 10, .inl mf45))] (fun _ _ => True) (fun u => [(md, .inr (11, [.int mn0, .ref ma1, .ref ma2, .ref ma3, .ref ma4, .int mn5, .ref ma6, .int mn7, .int mn8, .int mn9, .int mn10, .int mn11, .int mn12, .int mn13, .ref ma14, .int mn15, .int mn16, .int mn17, .int mn18, .int mn19, .int mn20, .ref ma21, .ref ma22, .ref ma23, .ref ma24, .int mn25, .ref ma26, .ref ma27, .ref ma28, .ref ma29, .ref ma30, .ref ma31, .ref ma32, .ref ma33, .ref ma34, .ref ma35, .ref ma36, .int mn37, .int mn38, .int mn39, .ref ma40, .ref ma41, .ref ma42, .int mn43, .int mn44, .ref ma45, .ref ma46, .ref ma47, .int mn48, .ref ma49, .ref ma50, .ref ma51, .ref ma52])), (ma1, .inl (K 1, 262, .inl mf1)), (ma45, .inl (K 1, 10, .inl (u.2.1 0)))]) := by
  intro sz
  refine ch_of (y := yX12_detour) (cc := cX12_detour) (maxL := 3) (ret := (some .int)) (av := [.ref md, .int p0, .int p1]) (ws := [(md, .inr (11, [.int mn0, .ref ma1, .ref ma2, .ref ma3, .ref ma4, .int mn5, .ref ma6, .int mn7, .int mn8, .int mn9, .int mn10, .int mn11, .int mn12, .int mn13, .ref ma14, .int mn15, .int mn16, .int mn17, .int mn18, .int mn19, .int mn20, .ref ma21, .ref ma22, .ref ma23, .ref ma24, .int mn25, .ref ma26, .ref ma27, .ref ma28, .ref ma29, .ref ma30, .ref ma31, .ref ma32, .ref ma33, .ref ma34, .ref ma35, .ref ma36, .int mn37, .int mn38, .int mn39, .ref ma40, .ref ma41, .ref ma42, .int mn43, .int mn44, .ref ma45, .ref ma46, .ref ma47, .int mn48, .ref ma49, .ref ma50, .ref ma51, .ref ma52])), (ma1, .inl (K 1, 262, .inl mf1)), (ma45, .inl (K 1, 10, .inl mf45))]) (D := D) (K := K) (Qc := fun A => va_Qi (S := ((Nat → Int32) × (Nat → Nat → Int32) × (Nat → Nat → Int64))) (fun _ _ => True) (chB D A (fun u => [(md, .inr (11, [.int mn0, .ref ma1, .ref ma2, .ref ma3, .ref ma4, .int mn5, .ref ma6, .int mn7, .int mn8, .int mn9, .int mn10, .int mn11, .int mn12, .int mn13, .ref ma14, .int mn15, .int mn16, .int mn17, .int mn18, .int mn19, .int mn20, .ref ma21, .ref ma22, .ref ma23, .ref ma24, .int mn25, .ref ma26, .ref ma27, .ref ma28, .ref ma29, .ref ma30, .ref ma31, .ref ma32, .ref ma33, .ref ma34, .ref ma35, .ref ma36, .int mn37, .int mn38, .int mn39, .ref ma40, .ref ma41, .ref ma42, .int mn43, .int mn44, .ref ma45, .ref ma46, .ref ma47, .int mn48, .ref ma49, .ref ma50, .ref ma51, .ref ma52])), (ma1, .inl (K 1, 262, .inl mf1)), (ma45, .inl (K 1, 10, .inl (u.2.1 0)))])) A) (by decide) (Nat.le_of_ble_eq_true rfl) ?_
  intro p e s m below meth c A hC hr hk hin hE hD hA H locs hP hS ls hl
  replace hC : CallFix p m c cX12_detour 3 s [.ref md, .int p0, .int p1].toArray wl RX12 := hC
  have hx := hC.1
  have hb := hC.2.1
  have hml := hC.2.2.1
  have hown := hC.2.2.2.1
  have hts := hC.2.2.2.2
  replace hl : lv_has ls 3 [(0, .ref md), (1, .int p0), (2, .int p1)] := hl
  have kc_1000 : (1000 : Int32).toInt = 1000 := by decide
  have kc_1000000 : (1000000 : Int32).toInt = 1000000 := by decide
  have hW0 := gwn_0 hs1_0; have hW1 := gwn_1 hs1_0; have hW2 := gwn_2 hs1_0; have hW4 := gwn_4 hs1_0
  refine lv_aload_n hx hb dX12_detour_0 rfl (lv_at hl 0 rfl) ?_
  refine lv_iload_n hx hb dX12_detour_1 rfl (lv_at hl 1 rfl) ?_
  refine lv_iload_n hx hb dX12_detour_2 rfl (lv_at hl 2 rfl) ?_
  refine ro_V (As := [.int p0, .int p1]) (rest := []) hC hE kV_X12_394 (c_X12_areTwo l D K md ma1 ma2 ma3 ma4 ma6 ma14 ma21 ma22 ma23 ma24 ma26 ma27 ma28 ma29 ma30 ma31 ma32 ma33 ma34 ma35 ma36 ma40 ma41 ma42 ma45 ma46 ma47 ma49 ma50 ma51 ma52 mn0 mn5 mn7 mn8 mn9 mn10 mn11 mn12 mn13 mn15 mn16 mn17 mn18 mn19 mn20 mn25 mn37 mn38 mn39 mn43 mn44 mn48 mf1 p0 p1 hs1_0) (hP.sub (ws' := [(md, .inr (11, [.int mn0, .ref ma1, .ref ma2, .ref ma3, .ref ma4, .int mn5, .ref ma6, .int mn7, .int mn8, .int mn9, .int mn10, .int mn11, .int mn12, .int mn13, .ref ma14, .int mn15, .int mn16, .int mn17, .int mn18, .int mn19, .int mn20, .ref ma21, .ref ma22, .ref ma23, .ref ma24, .int mn25, .ref ma26, .ref ma27, .ref ma28, .ref ma29, .ref ma30, .ref ma31, .ref ma32, .ref ma33, .ref ma34, .ref ma35, .ref ma36, .int mn37, .int mn38, .int mn39, .ref ma40, .ref ma41, .ref ma42, .int mn43, .int mn44, .ref ma45, .ref ma46, .ref ma47, .int mn48, .ref ma49, .ref ma50, .ref ma51, .ref ma52])), (ma1, .inl (K 1, 262, .inl mf1))]) [0, 1] rfl) 0 11 rfl rfl rfl hl.1 rfl (Nat.le_of_ble_eq_true rfl) (by decide) (by decide) dX12_detour_3 (fun r14464 hq => ?_)
  rcases hq with rfl | ⟨rfl, h14459, h14460, h14461, h14462, h14463⟩
  · refine lv_if_ne (tgt := 12) hx hb dX12_detour_6 (by decide) (fun h => absurd h (by decide)) (fun _ => ?_)
    refine lv_bipush (v := (-2)) hx hb dX12_detour_9 (by decide) ?_
    refine W.widen (k := 0) (n := 0) (by decide) (by decide) ?_
    exact ch_iret hC hr hk hS dX12_detour_11 ((fun k => [].getD k 0, fun k => [mf45].getD k (fun _ => 0), fun k => [].getD k (fun _ => 0)) : ((Nat → Int32) × (Nat → Nat → Int32) × (Nat → Nat → Int64))) trivial (hP.sub [0, 1, 2] rfl) (hD.sub [0, 1, 2] (by decide) rfl)
  · refine lv_if_ne (tgt := 12) hx hb dX12_detour_6 (by decide) (fun _ => ?_) (fun h => absurd h (by decide))
    refine lv_aload_n hx hb dX12_detour_12 rfl (lv_at hl 0 rfl) ?_
    refine lv_iload_n hx hb dX12_detour_13 rfl (lv_at hl 1 rfl) ?_
    refine lv_sipush (v := 1000) hx hb dX12_detour_14 (by decide) ?_
    refine cv_V (As := [.int p0, .int 1000]) (rest := []) (wc := [(md, .inr (11, [.int mn0, .ref ma1, .ref ma2, .ref ma3, .ref ma4, .int mn5, .ref ma6, .int mn7, .int mn8, .int mn9, .int mn10, .int mn11, .int mn12, .int mn13, .ref ma14, .int mn15, .int mn16, .int mn17, .int mn18, .int mn19, .int mn20, .ref ma21, .ref ma22, .ref ma23, .ref ma24, .int mn25, .ref ma26, .ref ma27, .ref ma28, .ref ma29, .ref ma30, .ref ma31, .ref ma32, .ref ma33, .ref ma34, .ref ma35, .ref ma36, .int mn37, .int mn38, .int mn39, .ref ma40, .ref ma41, .ref ma42, .int mn43, .int mn44, .ref ma45, .ref ma46, .ref ma47, .int mn48, .ref ma49, .ref ma50, .ref ma51, .ref ma52])), (ma1, .inl (K 1, 262, .inl mf1)), (ma45, .inl (K 1, 10, .inl mf45))]) (wr := []) hC hE kV_X12_459 (c_X12_fillCosts l D K md ma1 ma2 ma3 ma4 ma6 ma14 ma21 ma22 ma23 ma24 ma26 ma27 ma28 ma29 ma30 ma31 ma32 ma33 ma34 ma35 ma36 ma40 ma41 ma42 ma45 ma46 ma47 ma49 ma50 ma51 ma52 mn0 mn5 mn7 mn8 mn9 mn10 mn11 mn12 mn13 mn15 mn16 mn17 mn18 mn19 mn20 mn25 mn37 mn38 mn39 mn43 mn44 mn48 mf1 mf45 p0 1000 hs1_0 (by omega) (by omega)) hP hD hS hA [0, 1, 2] [] rfl rfl rfl (by decide) (by decide) (by decide) 0 11 rfl rfl rfl hl.1 rfl (Nat.le_of_ble_eq_true rfl) (by decide) (by decide) dX12_detour_17 (fun u14465 H locs hw hP hD hS => ?_)
    replace hP : va_P D vwCl [(md, .inr (11, [.int mn0, .ref ma1, .ref ma2, .ref ma3, .ref ma4, .int mn5, .ref ma6, .int mn7, .int mn8, .int mn9, .int mn10, .int mn11, .int mn12, .int mn13, .ref ma14, .int mn15, .int mn16, .int mn17, .int mn18, .int mn19, .int mn20, .ref ma21, .ref ma22, .ref ma23, .ref ma24, .int mn25, .ref ma26, .ref ma27, .ref ma28, .ref ma29, .ref ma30, .ref ma31, .ref ma32, .ref ma33, .ref ma34, .ref ma35, .ref ma36, .int mn37, .int mn38, .int mn39, .ref ma40, .ref ma41, .ref ma42, .int mn43, .int mn44, .ref ma45, .ref ma46, .ref ma47, .int mn48, .ref ma49, .ref ma50, .ref ma51, .ref ma52])), (ma1, .inl (K 1, 262, .inl mf1)), (ma45, .inl (K 1, 10, .inl (u14465.2.1 0)))] H := hP
    replace hD : va_D A [(md, .inr (11, [.int mn0, .ref ma1, .ref ma2, .ref ma3, .ref ma4, .int mn5, .ref ma6, .int mn7, .int mn8, .int mn9, .int mn10, .int mn11, .int mn12, .int mn13, .ref ma14, .int mn15, .int mn16, .int mn17, .int mn18, .int mn19, .int mn20, .ref ma21, .ref ma22, .ref ma23, .ref ma24, .int mn25, .ref ma26, .ref ma27, .ref ma28, .ref ma29, .ref ma30, .ref ma31, .ref ma32, .ref ma33, .ref ma34, .ref ma35, .ref ma36, .int mn37, .int mn38, .int mn39, .ref ma40, .ref ma41, .ref ma42, .int mn43, .int mn44, .ref ma45, .ref ma46, .ref ma47, .int mn48, .ref ma49, .ref ma50, .ref ma51, .ref ma52])), (ma1, .inl (K 1, 262, .inl mf1)), (ma45, .inl (K 1, 10, .inl (u14465.2.1 0)))] := hD
    replace hP : va_P D vwCl [(md, .inr (11, [.int mn0, .ref ma1, .ref ma2, .ref ma3, .ref ma4, .int mn5, .ref ma6, .int mn7, .int mn8, .int mn9, .int mn10, .int mn11, .int mn12, .int mn13, .ref ma14, .int mn15, .int mn16, .int mn17, .int mn18, .int mn19, .int mn20, .ref ma21, .ref ma22, .ref ma23, .ref ma24, .int mn25, .ref ma26, .ref ma27, .ref ma28, .ref ma29, .ref ma30, .ref ma31, .ref ma32, .ref ma33, .ref ma34, .ref ma35, .ref ma36, .int mn37, .int mn38, .int mn39, .ref ma40, .ref ma41, .ref ma42, .int mn43, .int mn44, .ref ma45, .ref ma46, .ref ma47, .int mn48, .ref ma49, .ref ma50, .ref ma51, .ref ma52])), (ma1, .inl (K 1, 262, .inl mf1)), (ma45, .inl (K 1, 10, .inl (u14465.2.1 0)))] H := hP.sub [0, 1, 2] rfl
    replace hD : va_D A [(md, .inr (11, [.int mn0, .ref ma1, .ref ma2, .ref ma3, .ref ma4, .int mn5, .ref ma6, .int mn7, .int mn8, .int mn9, .int mn10, .int mn11, .int mn12, .int mn13, .ref ma14, .int mn15, .int mn16, .int mn17, .int mn18, .int mn19, .int mn20, .ref ma21, .ref ma22, .ref ma23, .ref ma24, .int mn25, .ref ma26, .ref ma27, .ref ma28, .ref ma29, .ref ma30, .ref ma31, .ref ma32, .ref ma33, .ref ma34, .ref ma35, .ref ma36, .int mn37, .int mn38, .int mn39, .ref ma40, .ref ma41, .ref ma42, .int mn43, .int mn44, .ref ma45, .ref ma46, .ref ma47, .int mn48, .ref ma49, .ref ma50, .ref ma51, .ref ma52])), (ma1, .inl (K 1, 262, .inl mf1)), (ma45, .inl (K 1, 10, .inl (u14465.2.1 0)))] := hD.sub [0, 1, 2] (by decide) rfl
    refine W.widen (k := 0) (n := 0) (by decide) (by decide) ?_
    refine lv_aload_n hx hb dX12_detour_20 rfl (lv_at hl 0 rfl) ?_
    refine va_get (D := D) (ci := 11) (v := .ref ma45) (C := RX12) (T := TX12) (N := 53) hx hb hts in_X12 hown hE.1 hP 0 rfl rfl 45 (by decide) (hts _ w_1118) (fun _ h9 => h9) rfl dX12_detour_21 ?_
    refine lv_iload_n hx hb dX12_detour_24 rfl (lv_at hl 2 rfl) ?_
    refine va_iald hx hb hE.1 hP 2 1 rfl rfl (vp_in_iff.mpr (by omega)) dX12_detour_25 ?_
    refine lv_topi (fun v14467 ev14467 => ?_)
    refine lv_ldcw (v := 1000000) hx hb hown (hts _ w_1105) dX12_detour_26 ?_
    refine lv_icmp_ne (tgt := 36) hx hb dX12_detour_29 (by decide) (fun c14468 => ?_) (fun c14468 => ?_)
    · replace c14468 := ne_i c14468
      refine lv_aload_n hx hb dX12_detour_36 rfl (lv_at hl 0 rfl) ?_
      refine va_get (D := D) (ci := 11) (v := .ref ma45) (C := RX12) (T := TX12) (N := 53) hx hb hts in_X12 hown hE.1 hP 0 rfl rfl 45 (by decide) (hts _ w_1118) (fun _ h9 => h9) rfl dX12_detour_37 ?_
      refine lv_iload_n hx hb dX12_detour_40 rfl (lv_at hl 2 rfl) ?_
      refine va_iald hx hb hE.1 hP 2 1 rfl rfl (vp_in_iff.mpr (by omega)) dX12_detour_41 ?_
      refine lv_topi (fun v14469 ev14469 => ?_)
      refine lv_sipush (v := 1000) hx hb dX12_detour_42 (by decide) ?_
      refine lv_irem hx hb dX12_detour_45 (by decide) ?_
      refine lv_topi (fun v14470 ev14470 => ?_)
      refine W.widen (k := 0) (n := 0) (by decide) (by decide) ?_
      exact ch_iret hC hr hk hS dX12_detour_46 ((fun k => [].getD k 0, fun k => [(u14465.2.1 0)].getD k (fun _ => 0), fun k => [].getD k (fun _ => 0)) : ((Nat → Int32) × (Nat → Nat → Int32) × (Nat → Nat → Int64))) trivial (hP.sub [0, 1, 2] rfl) (hD.sub [0, 1, 2] (by decide) rfl)
    · replace c14468 := eq_i c14468
      refine lv_iconst (v := (-1)) hx hb dX12_detour_32 (by decide) ?_
      refine lv_goto (tgt := 46) hx hb dX12_detour_33 (by decide) ?_
      refine W.widen (k := 0) (n := 0) (by decide) (by decide) ?_
      exact ch_iret hC hr hk hS dX12_detour_46 ((fun k => [].getD k 0, fun k => [(u14465.2.1 0)].getD k (fun _ => 0), fun k => [].getD k (fun _ => 0)) : ((Nat → Int32) × (Nat → Nat → Int32) × (Nat → Nat → Int64))) trivial (hP.sub [0, 1, 2] rfl) (hD.sub [0, 1, 2] (by decide) rfl)
set_option maxRecDepth 40000 in
set_option maxHeartbeats 4000000 in
theorem c_X12_goFog (l : Launch) (D : va_G) (K : Nat → ClassId) (md : Nat) (ma1 : Nat) (ma2 : Nat) (ma3 : Nat) (ma4 : Nat) (ma6 : Nat) (ma14 : Nat) (ma21 : Nat) (ma22 : Nat) (ma23 : Nat) (ma24 : Nat) (ma26 : Nat) (ma27 : Nat) (ma28 : Nat) (ma29 : Nat) (ma30 : Nat) (ma31 : Nat) (ma32 : Nat) (ma33 : Nat) (ma34 : Nat) (ma35 : Nat) (ma36 : Nat) (ma40 : Nat) (ma41 : Nat) (ma42 : Nat) (ma45 : Nat) (ma46 : Nat) (ma47 : Nat) (ma49 : Nat) (ma50 : Nat) (ma51 : Nat) (ma52 : Nat) (mn0 : Int32) (mn5 : Int32) (mn7 : Int32) (mn8 : Int32) (mn9 : Int32) (mn10 : Int32) (mn11 : Int32) (mn12 : Int32) (mn13 : Int32) (mn15 : Int32) (mn16 : Int32) (mn17 : Int32) (mn18 : Int32) (mn19 : Int32) (mn20 : Int32) (mn25 : Int32) (mn37 : Int32) (mn38 : Int32) (mn39 : Int32) (mn43 : Int32) (mn44 : Int32) (mn48 : Int32) (mf1 : Nat → Int32) (mf46 : Nat → Int32) (mf47 : Nat → Int32) (p0 : Int32) (p1 : Int32) (hs1_0 : GW mf1) (ha0 : 0 ≤ p0.toInt ∧ p0.toInt ≤ 9) : Cv (S := ((Nat → Int32) × (Nat → Nat → Int32) × (Nat → Nat → Int64))) l D K yX12_goFog cX12_goFog 6 1 22 0 0 [.ref md, .int p0, .int p1] [(md, .inr (11, [.int mn0, .ref ma1, .ref ma2, .ref ma3, .ref ma4, .int mn5, .ref ma6, .int mn7, .int mn8, .int mn9, .int mn10, .int mn11, .int mn12, .int mn13, .ref ma14, .int mn15, .int mn16, .int mn17, .int mn18, .int mn19, .int mn20, .ref ma21, .ref ma22, .ref ma23, .ref ma24, .int mn25, .ref ma26, .ref ma27, .ref ma28, .ref ma29, .ref ma30, .ref ma31, .ref ma32, .ref ma33, .ref ma34, .ref ma35, .ref ma36, .int mn37, .int mn38, .int mn39, .ref ma40, .ref ma41, .ref ma42, .int mn43, .int mn44, .ref ma45, .ref ma46, .ref ma47, .int mn48, .ref ma49, .ref ma50, .ref ma51, .ref ma52])), (ma1, .inl (K 1, 262, .inl mf1)), (ma46, .inl (K 1, 10, .inl mf46)), (ma47, .inl (K 1, 10, .inl mf47))] (fun _ => True) (fun u => [(md, .inr (11, [.int mn0, .ref ma1, .ref ma2, .ref ma3, .ref ma4, .int mn5, .ref ma6, .int mn7, .int mn8, .int mn9, .int mn10, .int mn11, .int mn12, .int mn13, .ref ma14, .int mn15, .int mn16, .int mn17, .int mn18, .int mn19, .int mn20, .ref ma21, .ref ma22, .ref ma23, .ref ma24, .int mn25, .ref ma26, .ref ma27, .ref ma28, .ref ma29, .ref ma30, .ref ma31, .ref ma32, .ref ma33, .ref ma34, .ref ma35, .ref ma36, .int mn37, .int mn38, .int mn39, .ref ma40, .ref ma41, .ref ma42, .int mn43, .int mn44, .ref ma45, .ref ma46, .ref ma47, .int mn48, .ref ma49, .ref ma50, .ref ma51, .ref ma52])), (ma1, .inl (K 1, 262, .inl mf1)), (ma46, .inl (K 1, 10, .inl (u.2.1 0))), (ma47, .inl (K 1, 10, .inl (u.2.1 1)))]) := by
  intro sz
  refine ch_of (y := yX12_goFog) (cc := cX12_goFog) (maxL := 6) (ret := none) (av := [.ref md, .int p0, .int p1]) (ws := [(md, .inr (11, [.int mn0, .ref ma1, .ref ma2, .ref ma3, .ref ma4, .int mn5, .ref ma6, .int mn7, .int mn8, .int mn9, .int mn10, .int mn11, .int mn12, .int mn13, .ref ma14, .int mn15, .int mn16, .int mn17, .int mn18, .int mn19, .int mn20, .ref ma21, .ref ma22, .ref ma23, .ref ma24, .int mn25, .ref ma26, .ref ma27, .ref ma28, .ref ma29, .ref ma30, .ref ma31, .ref ma32, .ref ma33, .ref ma34, .ref ma35, .ref ma36, .int mn37, .int mn38, .int mn39, .ref ma40, .ref ma41, .ref ma42, .int mn43, .int mn44, .ref ma45, .ref ma46, .ref ma47, .int mn48, .ref ma49, .ref ma50, .ref ma51, .ref ma52])), (ma1, .inl (K 1, 262, .inl mf1)), (ma46, .inl (K 1, 10, .inl mf46)), (ma47, .inl (K 1, 10, .inl mf47))]) (D := D) (K := K) (Qc := fun A => va_Qv (S := ((Nat → Int32) × (Nat → Nat → Int32) × (Nat → Nat → Int64))) (fun _ => True) (chB D A (fun u => [(md, .inr (11, [.int mn0, .ref ma1, .ref ma2, .ref ma3, .ref ma4, .int mn5, .ref ma6, .int mn7, .int mn8, .int mn9, .int mn10, .int mn11, .int mn12, .int mn13, .ref ma14, .int mn15, .int mn16, .int mn17, .int mn18, .int mn19, .int mn20, .ref ma21, .ref ma22, .ref ma23, .ref ma24, .int mn25, .ref ma26, .ref ma27, .ref ma28, .ref ma29, .ref ma30, .ref ma31, .ref ma32, .ref ma33, .ref ma34, .ref ma35, .ref ma36, .int mn37, .int mn38, .int mn39, .ref ma40, .ref ma41, .ref ma42, .int mn43, .int mn44, .ref ma45, .ref ma46, .ref ma47, .int mn48, .ref ma49, .ref ma50, .ref ma51, .ref ma52])), (ma1, .inl (K 1, 262, .inl mf1)), (ma46, .inl (K 1, 10, .inl (u.2.1 0))), (ma47, .inl (K 1, 10, .inl (u.2.1 1)))])) A) (by decide) (Nat.le_of_ble_eq_true rfl) ?_
  intro p e s m below meth c A hC hr hk hin hE hD hA H locs hP hS ls hl
  replace hC : CallFix p m c cX12_goFog 6 s [.ref md, .int p0, .int p1].toArray wl RX12 := hC
  have hx := hC.1
  have hb := hC.2.1
  have hml := hC.2.2.1
  have hown := hC.2.2.2.1
  have hts := hC.2.2.2.2
  replace hl : lv_has ls 6 [(0, .ref md), (1, .int p0), (2, .int p1)] := hl
  have kc_0 : (0 : Int32).toInt = 0 := by decide
  have kc_1 : (1 : Int32).toInt = 1 := by decide
  have kc_4 : (4 : Int32).toInt = 4 := by decide
  have kc_10 : (10 : Int32).toInt = 10 := by decide
  have hW0 := gwn_0 hs1_0; have hW1 := gwn_1 hs1_0; have hW2 := gwn_2 hs1_0; have hW4 := gwn_4 hs1_0
  refine lv_iconst (v := 0) hx hb dX12_goFog_0 (by decide) ?_
  refine lv_istore_n (lv' := [(3, .int 0), (0, .ref md), (1, .int p0), (2, .int p1)]) hx hb dX12_goFog_1 rfl hl (by decide) rfl (fun ls hl => ?_)
  have hl' := hl; have hP' := hP; have hD' := hD; clear hl hP hD
  obtain ⟨i14512, g14513, hi_2, hl, hP, hD⟩ : ∃ (i14512 : Int32) (g14513 : Nat → Int32), ((0 : Int) ≤ i14512.toInt) ∧ lv_has ls 6 [(3, .int i14512), (0, .ref md), (1, .int p0), (2, .int p1)] ∧ va_P D vwCl [(md, .inr (11, [.int mn0, .ref ma1, .ref ma2, .ref ma3, .ref ma4, .int mn5, .ref ma6, .int mn7, .int mn8, .int mn9, .int mn10, .int mn11, .int mn12, .int mn13, .ref ma14, .int mn15, .int mn16, .int mn17, .int mn18, .int mn19, .int mn20, .ref ma21, .ref ma22, .ref ma23, .ref ma24, .int mn25, .ref ma26, .ref ma27, .ref ma28, .ref ma29, .ref ma30, .ref ma31, .ref ma32, .ref ma33, .ref ma34, .ref ma35, .ref ma36, .int mn37, .int mn38, .int mn39, .ref ma40, .ref ma41, .ref ma42, .int mn43, .int mn44, .ref ma45, .ref ma46, .ref ma47, .int mn48, .ref ma49, .ref ma50, .ref ma51, .ref ma52])), (ma1, .inl (K 1, 262, .inl mf1)), (ma46, .inl (K 1, 10, .inl g14513)), (ma47, .inl (K 1, 10, .inl mf47))] H ∧ va_D A [(md, .inr (11, [.int mn0, .ref ma1, .ref ma2, .ref ma3, .ref ma4, .int mn5, .ref ma6, .int mn7, .int mn8, .int mn9, .int mn10, .int mn11, .int mn12, .int mn13, .ref ma14, .int mn15, .int mn16, .int mn17, .int mn18, .int mn19, .int mn20, .ref ma21, .ref ma22, .ref ma23, .ref ma24, .int mn25, .ref ma26, .ref ma27, .ref ma28, .ref ma29, .ref ma30, .ref ma31, .ref ma32, .ref ma33, .ref ma34, .ref ma35, .ref ma36, .int mn37, .int mn38, .int mn39, .ref ma40, .ref ma41, .ref ma42, .int mn43, .int mn44, .ref ma45, .ref ma46, .ref ma47, .int mn48, .ref ma49, .ref ma50, .ref ma51, .ref ma52])), (ma1, .inl (K 1, 262, .inl mf1)), (ma46, .inl (K 1, 10, .inl g14513)), (ma47, .inl (K 1, 10, .inl mf47))] := ⟨_, _, by omega, hl', hP', hD'⟩
  clear hl' hP' hD'
  obtain ⟨n_2, hn_2⟩ : ∃ n : Nat, (10 - i14512.toInt).toNat < n := ⟨_, Nat.lt_succ_self _⟩
  induction n_2 generalizing i14512 g14513 H locs ls with
  | zero => exact absurd hn_2 (Nat.not_lt_zero _)
  | succ n_2 ih_2 =>
    refine lv_iload_n hx hb dX12_goFog_2 rfl (lv_at hl 0 rfl) ?_
    refine lv_bipush (v := 10) hx hb dX12_goFog_3 (by decide) ?_
    refine lv_icmp_ge (tgt := 30) hx hb dX12_goFog_5 (by decide) (fun c14514 => ?_) (fun c14514 => ?_)
    · replace c14514 := le_i c14514
      refine lv_iconst (v := 0) hx hb dX12_goFog_30 (by decide) ?_
      refine lv_istore_n (lv' := [(3, .int 0), (0, .ref md), (1, .int p0), (2, .int p1)]) hx hb dX12_goFog_31 rfl hl (by decide) rfl (fun ls hl => ?_)
      have hl' := hl; have hP' := hP; have hD' := hD; clear hl hP hD
      obtain ⟨i14542, g14543, g14544, hi_32, hl, hP, hD⟩ : ∃ (i14542 : Int32) (g14543 : Nat → Int32) (g14544 : Nat → Int32), ((0 : Int) ≤ i14542.toInt) ∧ lv_has ls 6 [(3, .int i14542), (0, .ref md), (1, .int p0), (2, .int p1)] ∧ va_P D vwCl [(md, .inr (11, [.int mn0, .ref ma1, .ref ma2, .ref ma3, .ref ma4, .int mn5, .ref ma6, .int mn7, .int mn8, .int mn9, .int mn10, .int mn11, .int mn12, .int mn13, .ref ma14, .int mn15, .int mn16, .int mn17, .int mn18, .int mn19, .int mn20, .ref ma21, .ref ma22, .ref ma23, .ref ma24, .int mn25, .ref ma26, .ref ma27, .ref ma28, .ref ma29, .ref ma30, .ref ma31, .ref ma32, .ref ma33, .ref ma34, .ref ma35, .ref ma36, .int mn37, .int mn38, .int mn39, .ref ma40, .ref ma41, .ref ma42, .int mn43, .int mn44, .ref ma45, .ref ma46, .ref ma47, .int mn48, .ref ma49, .ref ma50, .ref ma51, .ref ma52])), (ma1, .inl (K 1, 262, .inl mf1)), (ma46, .inl (K 1, 10, .inl g14543)), (ma47, .inl (K 1, 10, .inl g14544))] H ∧ va_D A [(md, .inr (11, [.int mn0, .ref ma1, .ref ma2, .ref ma3, .ref ma4, .int mn5, .ref ma6, .int mn7, .int mn8, .int mn9, .int mn10, .int mn11, .int mn12, .int mn13, .ref ma14, .int mn15, .int mn16, .int mn17, .int mn18, .int mn19, .int mn20, .ref ma21, .ref ma22, .ref ma23, .ref ma24, .int mn25, .ref ma26, .ref ma27, .ref ma28, .ref ma29, .ref ma30, .ref ma31, .ref ma32, .ref ma33, .ref ma34, .ref ma35, .ref ma36, .int mn37, .int mn38, .int mn39, .ref ma40, .ref ma41, .ref ma42, .int mn43, .int mn44, .ref ma45, .ref ma46, .ref ma47, .int mn48, .ref ma49, .ref ma50, .ref ma51, .ref ma52])), (ma1, .inl (K 1, 262, .inl mf1)), (ma46, .inl (K 1, 10, .inl g14543)), (ma47, .inl (K 1, 10, .inl g14544))] := ⟨_, _, _, by omega, hl', hP', hD'⟩
      clear hl' hP' hD'
      have hb_32 := i32_hi p1
      obtain ⟨n_32, hn_32⟩ : ∃ n : Nat, (p1.toInt - i14542.toInt).toNat < n := ⟨_, Nat.lt_succ_self _⟩
      induction n_32 generalizing i14542 g14543 g14544 H locs ls with
      | zero => exact absurd hn_32 (Nat.not_lt_zero _)
      | succ n_32 ih_32 =>
        refine lv_iload_n hx hb dX12_goFog_32 rfl (lv_at hl 0 rfl) ?_
        refine lv_iload_n hx hb dX12_goFog_33 rfl (lv_at hl 3 rfl) ?_
        refine lv_icmp_ge (tgt := 155) hx hb dX12_goFog_34 (by decide) (fun c14545 => ?_) (fun c14545 => ?_)
        · replace c14545 := le_i c14545
          refine W.widen (k := 0) (n := 0) (by decide) (by decide) ?_
          exact ch_vret hC hr hk hS dX12_goFog_155 ((fun k => [].getD k 0, fun k => [g14543, g14544].getD k (fun _ => 0), fun k => [].getD k (fun _ => 0)) : ((Nat → Int32) × (Nat → Nat → Int32) × (Nat → Nat → Int64))) trivial (hP.sub [0, 1, 2, 3] rfl) (hD.sub [0, 1, 2, 3] (by decide) rfl)
        · replace c14545 := nle_i c14545
          refine lv_iconst (v := 0) hx hb dX12_goFog_37 (by decide) ?_
          refine lv_istore (lv' := [(4, .int 0), (3, .int i14542), (0, .ref md), (1, .int p0), (2, .int p1)]) hx hb dX12_goFog_38 hl (by decide) rfl (fun ls hl => ?_)
          have hl' := hl; have hP' := hP; have hD' := hD; clear hl hP hD
          obtain ⟨i14550, g14551, hi_40, hl, hP, hD⟩ : ∃ (i14550 : Int32) (g14551 : Nat → Int32), ((0 : Int) ≤ i14550.toInt) ∧ lv_has ls 6 [(4, .int i14550), (3, .int i14542), (0, .ref md), (1, .int p0), (2, .int p1)] ∧ va_P D vwCl [(md, .inr (11, [.int mn0, .ref ma1, .ref ma2, .ref ma3, .ref ma4, .int mn5, .ref ma6, .int mn7, .int mn8, .int mn9, .int mn10, .int mn11, .int mn12, .int mn13, .ref ma14, .int mn15, .int mn16, .int mn17, .int mn18, .int mn19, .int mn20, .ref ma21, .ref ma22, .ref ma23, .ref ma24, .int mn25, .ref ma26, .ref ma27, .ref ma28, .ref ma29, .ref ma30, .ref ma31, .ref ma32, .ref ma33, .ref ma34, .ref ma35, .ref ma36, .int mn37, .int mn38, .int mn39, .ref ma40, .ref ma41, .ref ma42, .int mn43, .int mn44, .ref ma45, .ref ma46, .ref ma47, .int mn48, .ref ma49, .ref ma50, .ref ma51, .ref ma52])), (ma1, .inl (K 1, 262, .inl mf1)), (ma46, .inl (K 1, 10, .inl g14543)), (ma47, .inl (K 1, 10, .inl g14551))] H ∧ va_D A [(md, .inr (11, [.int mn0, .ref ma1, .ref ma2, .ref ma3, .ref ma4, .int mn5, .ref ma6, .int mn7, .int mn8, .int mn9, .int mn10, .int mn11, .int mn12, .int mn13, .ref ma14, .int mn15, .int mn16, .int mn17, .int mn18, .int mn19, .int mn20, .ref ma21, .ref ma22, .ref ma23, .ref ma24, .int mn25, .ref ma26, .ref ma27, .ref ma28, .ref ma29, .ref ma30, .ref ma31, .ref ma32, .ref ma33, .ref ma34, .ref ma35, .ref ma36, .int mn37, .int mn38, .int mn39, .ref ma40, .ref ma41, .ref ma42, .int mn43, .int mn44, .ref ma45, .ref ma46, .ref ma47, .int mn48, .ref ma49, .ref ma50, .ref ma51, .ref ma52])), (ma1, .inl (K 1, 262, .inl mf1)), (ma46, .inl (K 1, 10, .inl g14543)), (ma47, .inl (K 1, 10, .inl g14551))] := ⟨_, _, by omega, hl', hP', hD'⟩
          clear hl' hP' hD'
          obtain ⟨n_40, hn_40⟩ : ∃ n : Nat, (10 - i14550.toInt).toNat < n := ⟨_, Nat.lt_succ_self _⟩
          induction n_40 generalizing i14550 g14551 H locs ls with
          | zero => exact absurd hn_40 (Nat.not_lt_zero _)
          | succ n_40 ih_40 =>
            refine lv_iload hx hb dX12_goFog_40 (lv_at hl 0 rfl) ?_
            refine lv_bipush (v := 10) hx hb dX12_goFog_42 (by decide) ?_
            refine lv_icmp_ge (tgt := 61) hx hb dX12_goFog_44 (by decide) (fun c14552 => ?_) (fun c14552 => ?_)
            · replace c14552 := le_i c14552
              refine lv_iconst (v := 0) hx hb dX12_goFog_61 (by decide) ?_
              refine lv_istore (lv' := [(4, .int 0), (3, .int i14542), (0, .ref md), (1, .int p0), (2, .int p1)]) hx hb dX12_goFog_62 hl (by decide) rfl (fun ls hl => ?_)
              have hl' := hl; have hP' := hP; have hD' := hD; clear hl hP hD
              obtain ⟨i14568, g14569, hi_64, hl, hP, hD⟩ : ∃ (i14568 : Int32) (g14569 : Nat → Int32), ((0 : Int) ≤ i14568.toInt) ∧ lv_has ls 6 [(4, .int i14568), (3, .int i14542), (0, .ref md), (1, .int p0), (2, .int p1)] ∧ va_P D vwCl [(md, .inr (11, [.int mn0, .ref ma1, .ref ma2, .ref ma3, .ref ma4, .int mn5, .ref ma6, .int mn7, .int mn8, .int mn9, .int mn10, .int mn11, .int mn12, .int mn13, .ref ma14, .int mn15, .int mn16, .int mn17, .int mn18, .int mn19, .int mn20, .ref ma21, .ref ma22, .ref ma23, .ref ma24, .int mn25, .ref ma26, .ref ma27, .ref ma28, .ref ma29, .ref ma30, .ref ma31, .ref ma32, .ref ma33, .ref ma34, .ref ma35, .ref ma36, .int mn37, .int mn38, .int mn39, .ref ma40, .ref ma41, .ref ma42, .int mn43, .int mn44, .ref ma45, .ref ma46, .ref ma47, .int mn48, .ref ma49, .ref ma50, .ref ma51, .ref ma52])), (ma1, .inl (K 1, 262, .inl mf1)), (ma46, .inl (K 1, 10, .inl g14543)), (ma47, .inl (K 1, 10, .inl g14569))] H ∧ va_D A [(md, .inr (11, [.int mn0, .ref ma1, .ref ma2, .ref ma3, .ref ma4, .int mn5, .ref ma6, .int mn7, .int mn8, .int mn9, .int mn10, .int mn11, .int mn12, .int mn13, .ref ma14, .int mn15, .int mn16, .int mn17, .int mn18, .int mn19, .int mn20, .ref ma21, .ref ma22, .ref ma23, .ref ma24, .int mn25, .ref ma26, .ref ma27, .ref ma28, .ref ma29, .ref ma30, .ref ma31, .ref ma32, .ref ma33, .ref ma34, .ref ma35, .ref ma36, .int mn37, .int mn38, .int mn39, .ref ma40, .ref ma41, .ref ma42, .int mn43, .int mn44, .ref ma45, .ref ma46, .ref ma47, .int mn48, .ref ma49, .ref ma50, .ref ma51, .ref ma52])), (ma1, .inl (K 1, 262, .inl mf1)), (ma46, .inl (K 1, 10, .inl g14543)), (ma47, .inl (K 1, 10, .inl g14569))] := ⟨_, _, by omega, hl', hP', hD'⟩
              clear hl' hP' hD'
              obtain ⟨n_64, hn_64⟩ : ∃ n : Nat, (10 - i14568.toInt).toNat < n := ⟨_, Nat.lt_succ_self _⟩
              induction n_64 generalizing i14568 g14569 H locs ls with
              | zero => exact absurd hn_64 (Nat.not_lt_zero _)
              | succ n_64 ih_64 =>
                refine lv_iload hx hb dX12_goFog_64 (lv_at hl 0 rfl) ?_
                refine lv_aload_n hx hb dX12_goFog_66 rfl (lv_at hl 2 rfl) ?_
                refine va_get (D := D) (ci := 11) (v := .ref ma1) (C := RX12) (T := TX12) (N := 53) hx hb hts in_X12 hown hE.1 hP 0 rfl rfl 1 (by decide) (hts _ w_821) (fun _ h9 => h9) rfl dX12_goFog_67 ?_
                refine lv_iconst (v := 0) hx hb dX12_goFog_70 (by decide) ?_
                refine va_iald hx hb hE.1 hP 1 1 rfl rfl (in_c (by decide)) dX12_goFog_71 ?_
                refine lv_topi (fun v14570 ev14570 => ?_)
                have tv14570 := gw_0 hs1_0 ev14570
                have zv14570 : v14570.toInt = (mf1 0).toInt := by rw [ev14570]; rfl
                refine lv_icmp_ge (tgt := 119) hx hb dX12_goFog_72 (by decide) (fun c14571 => ?_) (fun c14571 => ?_)
                · replace c14571 := le_i c14571
                  refine lv_iconst (v := 0) hx hb dX12_goFog_119 (by decide) ?_
                  refine lv_istore (lv' := [(4, .int 0), (3, .int i14542), (0, .ref md), (1, .int p0), (2, .int p1)]) hx hb dX12_goFog_120 hl (by decide) rfl (fun ls hl => ?_)
                  have hl' := hl; have hP' := hP; have hD' := hD; clear hl hP hD
                  obtain ⟨i14577, g14578, hi_122, hl, hP, hD⟩ : ∃ (i14577 : Int32) (g14578 : Nat → Int32), ((0 : Int) ≤ i14577.toInt) ∧ lv_has ls 6 [(4, .int i14577), (3, .int i14542), (0, .ref md), (1, .int p0), (2, .int p1)] ∧ va_P D vwCl [(md, .inr (11, [.int mn0, .ref ma1, .ref ma2, .ref ma3, .ref ma4, .int mn5, .ref ma6, .int mn7, .int mn8, .int mn9, .int mn10, .int mn11, .int mn12, .int mn13, .ref ma14, .int mn15, .int mn16, .int mn17, .int mn18, .int mn19, .int mn20, .ref ma21, .ref ma22, .ref ma23, .ref ma24, .int mn25, .ref ma26, .ref ma27, .ref ma28, .ref ma29, .ref ma30, .ref ma31, .ref ma32, .ref ma33, .ref ma34, .ref ma35, .ref ma36, .int mn37, .int mn38, .int mn39, .ref ma40, .ref ma41, .ref ma42, .int mn43, .int mn44, .ref ma45, .ref ma46, .ref ma47, .int mn48, .ref ma49, .ref ma50, .ref ma51, .ref ma52])), (ma1, .inl (K 1, 262, .inl mf1)), (ma46, .inl (K 1, 10, .inl g14578)), (ma47, .inl (K 1, 10, .inl g14569))] H ∧ va_D A [(md, .inr (11, [.int mn0, .ref ma1, .ref ma2, .ref ma3, .ref ma4, .int mn5, .ref ma6, .int mn7, .int mn8, .int mn9, .int mn10, .int mn11, .int mn12, .int mn13, .ref ma14, .int mn15, .int mn16, .int mn17, .int mn18, .int mn19, .int mn20, .ref ma21, .ref ma22, .ref ma23, .ref ma24, .int mn25, .ref ma26, .ref ma27, .ref ma28, .ref ma29, .ref ma30, .ref ma31, .ref ma32, .ref ma33, .ref ma34, .ref ma35, .ref ma36, .int mn37, .int mn38, .int mn39, .ref ma40, .ref ma41, .ref ma42, .int mn43, .int mn44, .ref ma45, .ref ma46, .ref ma47, .int mn48, .ref ma49, .ref ma50, .ref ma51, .ref ma52])), (ma1, .inl (K 1, 262, .inl mf1)), (ma46, .inl (K 1, 10, .inl g14578)), (ma47, .inl (K 1, 10, .inl g14569))] := ⟨_, _, by omega, hl', hP', hD'⟩
                  clear hl' hP' hD'
                  obtain ⟨n_122, hn_122⟩ : ∃ n : Nat, (10 - i14577.toInt).toNat < n := ⟨_, Nat.lt_succ_self _⟩
                  induction n_122 generalizing i14577 g14578 H locs ls with
                  | zero => exact absurd hn_122 (Nat.not_lt_zero _)
                  | succ n_122 ih_122 =>
                    refine lv_iload hx hb dX12_goFog_122 (lv_at hl 0 rfl) ?_
                    refine lv_bipush (v := 10) hx hb dX12_goFog_124 (by decide) ?_
                    refine lv_icmp_ge (tgt := 149) hx hb dX12_goFog_126 (by decide) (fun c14579 => ?_) (fun c14579 => ?_)
                    · replace c14579 := le_i c14579
                      obtain ⟨v14580, ev14580⟩ : ∃ z : Int32, z = i14542 + 1 := ⟨_, rfl⟩
                      refine lv_iinc (v := v14580) (lv' := [(3, .int v14580), (4, .int i14577), (0, .ref md), (1, .int p0), (2, .int p1)]) hx hb dX12_goFog_149 hl (k := 1) rfl (by rw [ev14580]; rfl) (by decide) rfl (fun ls hl => ?_)
                      refine lv_goto (tgt := 32) hx hb dX12_goFog_152 (by decide) ?_
                      have tv14580 : v14580.toInt = (i14542 : Int32).toInt + (1 : Int32).toInt := add_i ev14580 (by omega) (by omega)
                      exact ih_32 (i14542 := v14580) (g14543 := g14578) (g14544 := g14569) (hi_32 := by omega) (H := H) (locs := locs) (ls := ls) (hn_32 := by omega) (hP := hP) (hD := hD) (hS := hS) (hl := lv_sub hl [0, 2, 3, 4] rfl)
                    · replace c14579 := nle_i c14579
                      refine lv_aload_n hx hb dX12_goFog_129 rfl (lv_at hl 2 rfl) ?_
                      refine va_get (D := D) (ci := 11) (v := .ref ma46) (C := RX12) (T := TX12) (N := 53) hx hb hts in_X12 hown hE.1 hP 0 rfl rfl 46 (by decide) (hts _ w_1123) (fun _ h9 => h9) rfl dX12_goFog_130 ?_
                      refine lv_iload hx hb dX12_goFog_133 (lv_at hl 0 rfl) ?_
                      refine lv_aload_n hx hb dX12_goFog_135 rfl (lv_at hl 2 rfl) ?_
                      refine va_get (D := D) (ci := 11) (v := .ref ma47) (C := RX12) (T := TX12) (N := 53) hx hb hts in_X12 hown hE.1 hP 0 rfl rfl 47 (by decide) (hts _ w_1124) (fun _ h9 => h9) rfl dX12_goFog_136 ?_
                      refine lv_iload hx hb dX12_goFog_139 (lv_at hl 0 rfl) ?_
                      refine va_iald hx hb hE.1 hP 3 1 rfl rfl (vp_in_iff.mpr (by omega)) dX12_goFog_141 ?_
                      refine lv_topi (fun v14581 ev14581 => ?_)
                      refine sti hx hb hE.1 hP hD hS 2 1 rfl rfl (vp_in_iff.mpr (by omega)) dX12_goFog_142 (fun g14582 eg14582 H locs hP hD hS => ?_)
                      replace hP : va_P D vwCl [(md, .inr (11, [.int mn0, .ref ma1, .ref ma2, .ref ma3, .ref ma4, .int mn5, .ref ma6, .int mn7, .int mn8, .int mn9, .int mn10, .int mn11, .int mn12, .int mn13, .ref ma14, .int mn15, .int mn16, .int mn17, .int mn18, .int mn19, .int mn20, .ref ma21, .ref ma22, .ref ma23, .ref ma24, .int mn25, .ref ma26, .ref ma27, .ref ma28, .ref ma29, .ref ma30, .ref ma31, .ref ma32, .ref ma33, .ref ma34, .ref ma35, .ref ma36, .int mn37, .int mn38, .int mn39, .ref ma40, .ref ma41, .ref ma42, .int mn43, .int mn44, .ref ma45, .ref ma46, .ref ma47, .int mn48, .ref ma49, .ref ma50, .ref ma51, .ref ma52])), (ma1, .inl (K 1, 262, .inl mf1)), (ma46, .inl (K 1, 10, .inl g14582)), (ma47, .inl (K 1, 10, .inl g14569))] H := hP
                      replace hD : va_D A [(md, .inr (11, [.int mn0, .ref ma1, .ref ma2, .ref ma3, .ref ma4, .int mn5, .ref ma6, .int mn7, .int mn8, .int mn9, .int mn10, .int mn11, .int mn12, .int mn13, .ref ma14, .int mn15, .int mn16, .int mn17, .int mn18, .int mn19, .int mn20, .ref ma21, .ref ma22, .ref ma23, .ref ma24, .int mn25, .ref ma26, .ref ma27, .ref ma28, .ref ma29, .ref ma30, .ref ma31, .ref ma32, .ref ma33, .ref ma34, .ref ma35, .ref ma36, .int mn37, .int mn38, .int mn39, .ref ma40, .ref ma41, .ref ma42, .int mn43, .int mn44, .ref ma45, .ref ma46, .ref ma47, .int mn48, .ref ma49, .ref ma50, .ref ma51, .ref ma52])), (ma1, .inl (K 1, 262, .inl mf1)), (ma46, .inl (K 1, 10, .inl g14582)), (ma47, .inl (K 1, 10, .inl g14569))] := hD
                      obtain ⟨v14583, ev14583⟩ : ∃ z : Int32, z = i14577 + 1 := ⟨_, rfl⟩
                      refine lv_iinc (v := v14583) (lv' := [(4, .int v14583), (3, .int i14542), (0, .ref md), (1, .int p0), (2, .int p1)]) hx hb dX12_goFog_143 hl (k := 0) rfl (by rw [ev14583]; rfl) (by decide) rfl (fun ls hl => ?_)
                      refine lv_goto (tgt := 122) hx hb dX12_goFog_146 (by decide) ?_
                      have tv14583 : v14583.toInt = (i14577 : Int32).toInt + (1 : Int32).toInt := add_i ev14583 (by omega) (by omega)
                      exact ih_122 (i14577 := v14583) (g14578 := g14582) (hi_122 := by omega) (H := H) (locs := locs) (ls := ls) (hn_122 := by omega) (hP := hP) (hD := hD) (hS := hS) (hl := lv_sub hl [0, 1, 2, 3, 4] rfl)
                · replace c14571 := nle_i c14571
                  refine lv_iconst (v := 0) hx hb dX12_goFog_75 (by decide) ?_
                  refine lv_istore (lv' := [(5, .int 0), (4, .int i14568), (3, .int i14542), (0, .ref md), (1, .int p0), (2, .int p1)]) hx hb dX12_goFog_76 hl (by decide) rfl (fun ls hl => ?_)
                  have hl' := hl; have hP' := hP; have hD' := hD; clear hl hP hD
                  obtain ⟨i14595, g14596, hi_78, hl, hP, hD⟩ : ∃ (i14595 : Int32) (g14596 : Nat → Int32), ((0 : Int) ≤ i14595.toInt) ∧ lv_has ls 6 [(5, .int i14595), (4, .int i14568), (3, .int i14542), (0, .ref md), (1, .int p0), (2, .int p1)] ∧ va_P D vwCl [(md, .inr (11, [.int mn0, .ref ma1, .ref ma2, .ref ma3, .ref ma4, .int mn5, .ref ma6, .int mn7, .int mn8, .int mn9, .int mn10, .int mn11, .int mn12, .int mn13, .ref ma14, .int mn15, .int mn16, .int mn17, .int mn18, .int mn19, .int mn20, .ref ma21, .ref ma22, .ref ma23, .ref ma24, .int mn25, .ref ma26, .ref ma27, .ref ma28, .ref ma29, .ref ma30, .ref ma31, .ref ma32, .ref ma33, .ref ma34, .ref ma35, .ref ma36, .int mn37, .int mn38, .int mn39, .ref ma40, .ref ma41, .ref ma42, .int mn43, .int mn44, .ref ma45, .ref ma46, .ref ma47, .int mn48, .ref ma49, .ref ma50, .ref ma51, .ref ma52])), (ma1, .inl (K 1, 262, .inl mf1)), (ma46, .inl (K 1, 10, .inl g14543)), (ma47, .inl (K 1, 10, .inl g14596))] H ∧ va_D A [(md, .inr (11, [.int mn0, .ref ma1, .ref ma2, .ref ma3, .ref ma4, .int mn5, .ref ma6, .int mn7, .int mn8, .int mn9, .int mn10, .int mn11, .int mn12, .int mn13, .ref ma14, .int mn15, .int mn16, .int mn17, .int mn18, .int mn19, .int mn20, .ref ma21, .ref ma22, .ref ma23, .ref ma24, .int mn25, .ref ma26, .ref ma27, .ref ma28, .ref ma29, .ref ma30, .ref ma31, .ref ma32, .ref ma33, .ref ma34, .ref ma35, .ref ma36, .int mn37, .int mn38, .int mn39, .ref ma40, .ref ma41, .ref ma42, .int mn43, .int mn44, .ref ma45, .ref ma46, .ref ma47, .int mn48, .ref ma49, .ref ma50, .ref ma51, .ref ma52])), (ma1, .inl (K 1, 262, .inl mf1)), (ma46, .inl (K 1, 10, .inl g14543)), (ma47, .inl (K 1, 10, .inl g14596))] := ⟨_, _, by omega, hl', hP', hD'⟩
                  clear hl' hP' hD'
                  obtain ⟨n_78, hn_78⟩ : ∃ n : Nat, (4 - i14595.toInt).toNat < n := ⟨_, Nat.lt_succ_self _⟩
                  induction n_78 generalizing i14595 g14596 H locs ls with
                  | zero => exact absurd hn_78 (Nat.not_lt_zero _)
                  | succ n_78 ih_78 =>
                    refine lv_iload hx hb dX12_goFog_78 (lv_at hl 0 rfl) ?_
                    refine lv_iconst (v := 4) hx hb dX12_goFog_80 (by decide) ?_
                    refine lv_icmp_ge (tgt := 113) hx hb dX12_goFog_81 (by decide) (fun c14597 => ?_) (fun c14597 => ?_)
                    · replace c14597 := le_i c14597
                      obtain ⟨v14598, ev14598⟩ : ∃ z : Int32, z = i14568 + 1 := ⟨_, rfl⟩
                      refine lv_iinc (v := v14598) (lv' := [(4, .int v14598), (5, .int i14595), (3, .int i14542), (0, .ref md), (1, .int p0), (2, .int p1)]) hx hb dX12_goFog_113 hl (k := 1) rfl (by rw [ev14598]; rfl) (by decide) rfl (fun ls hl => ?_)
                      refine lv_goto (tgt := 64) hx hb dX12_goFog_116 (by decide) ?_
                      have tv14598 : v14598.toInt = (i14568 : Int32).toInt + (1 : Int32).toInt := add_i ev14598 (by omega) (by omega)
                      exact ih_64 (i14568 := v14598) (g14569 := g14596) (hi_64 := by omega) (H := H) (locs := locs) (ls := ls) (hn_64 := by omega) (hP := hP) (hD := hD) (hS := hS) (hl := lv_sub hl [0, 2, 3, 4, 5] rfl)
                    · replace c14597 := nle_i c14597
                      refine lv_aload_n hx hb dX12_goFog_84 rfl (lv_at hl 3 rfl) ?_
                      refine va_get (D := D) (ci := 11) (v := .ref ma47) (C := RX12) (T := TX12) (N := 53) hx hb hts in_X12 hown hE.1 hP 0 rfl rfl 47 (by decide) (hts _ w_1124) (fun _ h9 => h9) rfl dX12_goFog_85 ?_
                      refine lv_aload_n hx hb dX12_goFog_88 rfl (lv_at hl 3 rfl) ?_
                      refine lv_iload hx hb dX12_goFog_89 (lv_at hl 1 rfl) ?_
                      refine lv_iload hx hb dX12_goFog_91 (lv_at hl 0 rfl) ?_
                      refine ro_V (As := [.int i14568, .int i14595]) (rest := [.ref ma47]) hC hE kV_X12_273 (c_X12_leadsTo l D K md ma1 ma2 ma3 ma4 ma6 ma14 ma21 ma22 ma23 ma24 ma26 ma27 ma28 ma29 ma30 ma31 ma32 ma33 ma34 ma35 ma36 ma40 ma41 ma42 ma45 ma46 ma47 ma49 ma50 ma51 ma52 mn0 mn5 mn7 mn8 mn9 mn10 mn11 mn12 mn13 mn15 mn16 mn17 mn18 mn19 mn20 mn25 mn37 mn38 mn39 mn43 mn44 mn48 mf1 i14568 i14595 hs1_0 (by omega) (by omega)) (hP.sub (ws' := [(md, .inr (11, [.int mn0, .ref ma1, .ref ma2, .ref ma3, .ref ma4, .int mn5, .ref ma6, .int mn7, .int mn8, .int mn9, .int mn10, .int mn11, .int mn12, .int mn13, .ref ma14, .int mn15, .int mn16, .int mn17, .int mn18, .int mn19, .int mn20, .ref ma21, .ref ma22, .ref ma23, .ref ma24, .int mn25, .ref ma26, .ref ma27, .ref ma28, .ref ma29, .ref ma30, .ref ma31, .ref ma32, .ref ma33, .ref ma34, .ref ma35, .ref ma36, .int mn37, .int mn38, .int mn39, .ref ma40, .ref ma41, .ref ma42, .int mn43, .int mn44, .ref ma45, .ref ma46, .ref ma47, .int mn48, .ref ma49, .ref ma50, .ref ma51, .ref ma52])), (ma1, .inl (K 1, 262, .inl mf1))]) [0, 1] rfl) 0 11 rfl rfl rfl hl.1 rfl (Nat.le_of_ble_eq_true rfl) (by decide) (by decide) dX12_goFog_93 (fun r14602 hq => ?_)
                      obtain ⟨h14599, h14600, h14601⟩ := hq
                      refine lv_dup2_11 hx hb dX12_goFog_96 rfl rfl ?_
                      refine va_iald hx hb hE.1 hP 3 1 rfl rfl (vp_in_iff.mpr (by omega)) dX12_goFog_97 ?_
                      refine lv_topi (fun v14603 ev14603 => ?_)
                      refine lv_aload_n hx hb dX12_goFog_98 rfl (lv_at hl 3 rfl) ?_
                      refine va_get (D := D) (ci := 11) (v := .ref ma46) (C := RX12) (T := TX12) (N := 53) hx hb hts in_X12 hown hE.1 hP 0 rfl rfl 46 (by decide) (hts _ w_1123) (fun _ h9 => h9) rfl dX12_goFog_99 ?_
                      refine lv_iload hx hb dX12_goFog_102 (lv_at hl 1 rfl) ?_
                      refine va_iald hx hb hE.1 hP 2 1 rfl rfl (vp_in_iff.mpr (by omega)) dX12_goFog_104 ?_
                      refine lv_topi (fun v14604 ev14604 => ?_)
                      refine lv_iadd hx hb dX12_goFog_105 ?_
                      refine lv_topi (fun v14605 ev14605 => ?_)
                      refine sti hx hb hE.1 hP hD hS 3 1 rfl rfl (vp_in_iff.mpr (by omega)) dX12_goFog_106 (fun g14606 eg14606 H locs hP hD hS => ?_)
                      replace hP : va_P D vwCl [(md, .inr (11, [.int mn0, .ref ma1, .ref ma2, .ref ma3, .ref ma4, .int mn5, .ref ma6, .int mn7, .int mn8, .int mn9, .int mn10, .int mn11, .int mn12, .int mn13, .ref ma14, .int mn15, .int mn16, .int mn17, .int mn18, .int mn19, .int mn20, .ref ma21, .ref ma22, .ref ma23, .ref ma24, .int mn25, .ref ma26, .ref ma27, .ref ma28, .ref ma29, .ref ma30, .ref ma31, .ref ma32, .ref ma33, .ref ma34, .ref ma35, .ref ma36, .int mn37, .int mn38, .int mn39, .ref ma40, .ref ma41, .ref ma42, .int mn43, .int mn44, .ref ma45, .ref ma46, .ref ma47, .int mn48, .ref ma49, .ref ma50, .ref ma51, .ref ma52])), (ma1, .inl (K 1, 262, .inl mf1)), (ma46, .inl (K 1, 10, .inl g14543)), (ma47, .inl (K 1, 10, .inl g14606))] H := hP
                      replace hD : va_D A [(md, .inr (11, [.int mn0, .ref ma1, .ref ma2, .ref ma3, .ref ma4, .int mn5, .ref ma6, .int mn7, .int mn8, .int mn9, .int mn10, .int mn11, .int mn12, .int mn13, .ref ma14, .int mn15, .int mn16, .int mn17, .int mn18, .int mn19, .int mn20, .ref ma21, .ref ma22, .ref ma23, .ref ma24, .int mn25, .ref ma26, .ref ma27, .ref ma28, .ref ma29, .ref ma30, .ref ma31, .ref ma32, .ref ma33, .ref ma34, .ref ma35, .ref ma36, .int mn37, .int mn38, .int mn39, .ref ma40, .ref ma41, .ref ma42, .int mn43, .int mn44, .ref ma45, .ref ma46, .ref ma47, .int mn48, .ref ma49, .ref ma50, .ref ma51, .ref ma52])), (ma1, .inl (K 1, 262, .inl mf1)), (ma46, .inl (K 1, 10, .inl g14543)), (ma47, .inl (K 1, 10, .inl g14606))] := hD
                      obtain ⟨v14607, ev14607⟩ : ∃ z : Int32, z = i14595 + 1 := ⟨_, rfl⟩
                      refine lv_iinc (v := v14607) (lv' := [(5, .int v14607), (4, .int i14568), (3, .int i14542), (0, .ref md), (1, .int p0), (2, .int p1)]) hx hb dX12_goFog_107 hl (k := 0) rfl (by rw [ev14607]; rfl) (by decide) rfl (fun ls hl => ?_)
                      refine lv_goto (tgt := 78) hx hb dX12_goFog_110 (by decide) ?_
                      have tv14607 : v14607.toInt = (i14595 : Int32).toInt + (1 : Int32).toInt := add_i ev14607 (by omega) (by omega)
                      exact ih_78 (i14595 := v14607) (g14596 := g14606) (hi_78 := by omega) (H := H) (locs := locs) (ls := ls) (hn_78 := by omega) (hP := hP) (hD := hD) (hS := hS) (hl := lv_sub hl [0, 1, 2, 3, 4, 5] rfl)
            · replace c14552 := nle_i c14552
              refine lv_aload_n hx hb dX12_goFog_47 rfl (lv_at hl 2 rfl) ?_
              refine va_get (D := D) (ci := 11) (v := .ref ma47) (C := RX12) (T := TX12) (N := 53) hx hb hts in_X12 hown hE.1 hP 0 rfl rfl 47 (by decide) (hts _ w_1124) (fun _ h9 => h9) rfl dX12_goFog_48 ?_
              refine lv_iload hx hb dX12_goFog_51 (lv_at hl 0 rfl) ?_
              refine lv_iconst (v := 0) hx hb dX12_goFog_53 (by decide) ?_
              refine sti hx hb hE.1 hP hD hS 3 1 rfl rfl (vp_in_iff.mpr (by omega)) dX12_goFog_54 (fun g14608 eg14608 H locs hP hD hS => ?_)
              replace hP : va_P D vwCl [(md, .inr (11, [.int mn0, .ref ma1, .ref ma2, .ref ma3, .ref ma4, .int mn5, .ref ma6, .int mn7, .int mn8, .int mn9, .int mn10, .int mn11, .int mn12, .int mn13, .ref ma14, .int mn15, .int mn16, .int mn17, .int mn18, .int mn19, .int mn20, .ref ma21, .ref ma22, .ref ma23, .ref ma24, .int mn25, .ref ma26, .ref ma27, .ref ma28, .ref ma29, .ref ma30, .ref ma31, .ref ma32, .ref ma33, .ref ma34, .ref ma35, .ref ma36, .int mn37, .int mn38, .int mn39, .ref ma40, .ref ma41, .ref ma42, .int mn43, .int mn44, .ref ma45, .ref ma46, .ref ma47, .int mn48, .ref ma49, .ref ma50, .ref ma51, .ref ma52])), (ma1, .inl (K 1, 262, .inl mf1)), (ma46, .inl (K 1, 10, .inl g14543)), (ma47, .inl (K 1, 10, .inl g14608))] H := hP
              replace hD : va_D A [(md, .inr (11, [.int mn0, .ref ma1, .ref ma2, .ref ma3, .ref ma4, .int mn5, .ref ma6, .int mn7, .int mn8, .int mn9, .int mn10, .int mn11, .int mn12, .int mn13, .ref ma14, .int mn15, .int mn16, .int mn17, .int mn18, .int mn19, .int mn20, .ref ma21, .ref ma22, .ref ma23, .ref ma24, .int mn25, .ref ma26, .ref ma27, .ref ma28, .ref ma29, .ref ma30, .ref ma31, .ref ma32, .ref ma33, .ref ma34, .ref ma35, .ref ma36, .int mn37, .int mn38, .int mn39, .ref ma40, .ref ma41, .ref ma42, .int mn43, .int mn44, .ref ma45, .ref ma46, .ref ma47, .int mn48, .ref ma49, .ref ma50, .ref ma51, .ref ma52])), (ma1, .inl (K 1, 262, .inl mf1)), (ma46, .inl (K 1, 10, .inl g14543)), (ma47, .inl (K 1, 10, .inl g14608))] := hD
              obtain ⟨v14609, ev14609⟩ : ∃ z : Int32, z = i14550 + 1 := ⟨_, rfl⟩
              refine lv_iinc (v := v14609) (lv' := [(4, .int v14609), (3, .int i14542), (0, .ref md), (1, .int p0), (2, .int p1)]) hx hb dX12_goFog_55 hl (k := 0) rfl (by rw [ev14609]; rfl) (by decide) rfl (fun ls hl => ?_)
              refine lv_goto (tgt := 40) hx hb dX12_goFog_58 (by decide) ?_
              have tv14609 : v14609.toInt = (i14550 : Int32).toInt + (1 : Int32).toInt := add_i ev14609 (by omega) (by omega)
              exact ih_40 (i14550 := v14609) (g14551 := g14608) (hi_40 := by omega) (H := H) (locs := locs) (ls := ls) (hn_40 := by omega) (hP := hP) (hD := hD) (hS := hS) (hl := lv_sub hl [0, 1, 2, 3, 4] rfl)
    · replace c14514 := nle_i c14514
      refine lv_aload_n hx hb dX12_goFog_8 rfl (lv_at hl 1 rfl) ?_
      refine va_get (D := D) (ci := 11) (v := .ref ma46) (C := RX12) (T := TX12) (N := 53) hx hb hts in_X12 hown hE.1 hP 0 rfl rfl 46 (by decide) (hts _ w_1123) (fun _ h9 => h9) rfl dX12_goFog_9 ?_
      refine lv_iload_n hx hb dX12_goFog_12 rfl (lv_at hl 0 rfl) ?_
      refine lv_iload_n hx hb dX12_goFog_13 rfl (lv_at hl 0 rfl) ?_
      refine lv_iload_n hx hb dX12_goFog_14 rfl (lv_at hl 2 rfl) ?_
      refine lv_icmp_ne (tgt := 22) hx hb dX12_goFog_15 (by decide) (fun c14610 => ?_) (fun c14610 => ?_)
      · replace c14610 := ne_i c14610
        refine lv_iconst (v := 0) hx hb dX12_goFog_22 (by decide) ?_
        refine sti hx hb hE.1 hP hD hS 2 1 rfl rfl (vp_in_iff.mpr (by omega)) dX12_goFog_23 (fun g14611 eg14611 H locs hP hD hS => ?_)
        replace hP : va_P D vwCl [(md, .inr (11, [.int mn0, .ref ma1, .ref ma2, .ref ma3, .ref ma4, .int mn5, .ref ma6, .int mn7, .int mn8, .int mn9, .int mn10, .int mn11, .int mn12, .int mn13, .ref ma14, .int mn15, .int mn16, .int mn17, .int mn18, .int mn19, .int mn20, .ref ma21, .ref ma22, .ref ma23, .ref ma24, .int mn25, .ref ma26, .ref ma27, .ref ma28, .ref ma29, .ref ma30, .ref ma31, .ref ma32, .ref ma33, .ref ma34, .ref ma35, .ref ma36, .int mn37, .int mn38, .int mn39, .ref ma40, .ref ma41, .ref ma42, .int mn43, .int mn44, .ref ma45, .ref ma46, .ref ma47, .int mn48, .ref ma49, .ref ma50, .ref ma51, .ref ma52])), (ma1, .inl (K 1, 262, .inl mf1)), (ma46, .inl (K 1, 10, .inl g14611)), (ma47, .inl (K 1, 10, .inl mf47))] H := hP
        replace hD : va_D A [(md, .inr (11, [.int mn0, .ref ma1, .ref ma2, .ref ma3, .ref ma4, .int mn5, .ref ma6, .int mn7, .int mn8, .int mn9, .int mn10, .int mn11, .int mn12, .int mn13, .ref ma14, .int mn15, .int mn16, .int mn17, .int mn18, .int mn19, .int mn20, .ref ma21, .ref ma22, .ref ma23, .ref ma24, .int mn25, .ref ma26, .ref ma27, .ref ma28, .ref ma29, .ref ma30, .ref ma31, .ref ma32, .ref ma33, .ref ma34, .ref ma35, .ref ma36, .int mn37, .int mn38, .int mn39, .ref ma40, .ref ma41, .ref ma42, .int mn43, .int mn44, .ref ma45, .ref ma46, .ref ma47, .int mn48, .ref ma49, .ref ma50, .ref ma51, .ref ma52])), (ma1, .inl (K 1, 262, .inl mf1)), (ma46, .inl (K 1, 10, .inl g14611)), (ma47, .inl (K 1, 10, .inl mf47))] := hD
        obtain ⟨v14612, ev14612⟩ : ∃ z : Int32, z = i14512 + 1 := ⟨_, rfl⟩
        refine lv_iinc (v := v14612) (lv' := [(3, .int v14612), (0, .ref md), (1, .int p0), (2, .int p1)]) hx hb dX12_goFog_24 hl (k := 0) rfl (by rw [ev14612]; rfl) (by decide) rfl (fun ls hl => ?_)
        refine lv_goto (tgt := 2) hx hb dX12_goFog_27 (by decide) ?_
        have tv14612 : v14612.toInt = (i14512 : Int32).toInt + (1 : Int32).toInt := add_i ev14612 (by omega) (by omega)
        exact ih_2 (i14512 := v14612) (g14513 := g14611) (hi_2 := by omega) (H := H) (locs := locs) (ls := ls) (hn_2 := by omega) (hP := hP) (hD := hD) (hS := hS) (hl := lv_sub hl [0, 1, 2, 3] rfl)
      · replace c14610 := eq_i c14610
        refine lv_iconst (v := 1) hx hb dX12_goFog_18 (by decide) ?_
        refine lv_goto (tgt := 23) hx hb dX12_goFog_19 (by decide) ?_
        refine sti hx hb hE.1 hP hD hS 2 1 rfl rfl (vp_in_iff.mpr (by omega)) dX12_goFog_23 (fun g14613 eg14613 H locs hP hD hS => ?_)
        replace hP : va_P D vwCl [(md, .inr (11, [.int mn0, .ref ma1, .ref ma2, .ref ma3, .ref ma4, .int mn5, .ref ma6, .int mn7, .int mn8, .int mn9, .int mn10, .int mn11, .int mn12, .int mn13, .ref ma14, .int mn15, .int mn16, .int mn17, .int mn18, .int mn19, .int mn20, .ref ma21, .ref ma22, .ref ma23, .ref ma24, .int mn25, .ref ma26, .ref ma27, .ref ma28, .ref ma29, .ref ma30, .ref ma31, .ref ma32, .ref ma33, .ref ma34, .ref ma35, .ref ma36, .int mn37, .int mn38, .int mn39, .ref ma40, .ref ma41, .ref ma42, .int mn43, .int mn44, .ref ma45, .ref ma46, .ref ma47, .int mn48, .ref ma49, .ref ma50, .ref ma51, .ref ma52])), (ma1, .inl (K 1, 262, .inl mf1)), (ma46, .inl (K 1, 10, .inl g14613)), (ma47, .inl (K 1, 10, .inl mf47))] H := hP
        replace hD : va_D A [(md, .inr (11, [.int mn0, .ref ma1, .ref ma2, .ref ma3, .ref ma4, .int mn5, .ref ma6, .int mn7, .int mn8, .int mn9, .int mn10, .int mn11, .int mn12, .int mn13, .ref ma14, .int mn15, .int mn16, .int mn17, .int mn18, .int mn19, .int mn20, .ref ma21, .ref ma22, .ref ma23, .ref ma24, .int mn25, .ref ma26, .ref ma27, .ref ma28, .ref ma29, .ref ma30, .ref ma31, .ref ma32, .ref ma33, .ref ma34, .ref ma35, .ref ma36, .int mn37, .int mn38, .int mn39, .ref ma40, .ref ma41, .ref ma42, .int mn43, .int mn44, .ref ma45, .ref ma46, .ref ma47, .int mn48, .ref ma49, .ref ma50, .ref ma51, .ref ma52])), (ma1, .inl (K 1, 262, .inl mf1)), (ma46, .inl (K 1, 10, .inl g14613)), (ma47, .inl (K 1, 10, .inl mf47))] := hD
        obtain ⟨v14614, ev14614⟩ : ∃ z : Int32, z = i14512 + 1 := ⟨_, rfl⟩
        refine lv_iinc (v := v14614) (lv' := [(3, .int v14614), (0, .ref md), (1, .int p0), (2, .int p1)]) hx hb dX12_goFog_24 hl (k := 0) rfl (by rw [ev14614]; rfl) (by decide) rfl (fun ls hl => ?_)
        refine lv_goto (tgt := 2) hx hb dX12_goFog_27 (by decide) ?_
        have tv14614 : v14614.toInt = (i14512 : Int32).toInt + (1 : Int32).toInt := add_i ev14614 (by omega) (by omega)
        exact ih_2 (i14512 := v14614) (g14513 := g14613) (hi_2 := by omega) (H := H) (locs := locs) (ls := ls) (hn_2 := by omega) (hP := hP) (hD := hD) (hS := hS) (hl := lv_sub hl [0, 1, 2, 3] rfl)
set_option maxRecDepth 40000 in
set_option maxHeartbeats 4000000 in
theorem c_X12_divisor (l : Launch) (D : va_G) (K : Nat → ClassId) (p0 : Int32) (p1 : Int32) (hd : ¬ p1.toInt = 0) : Ro l D K yX12_divisor cX12_divisor 5 (some .int) 0 0 [.int p0, .int p1] [] (fun r => ((¬ r.toInt = 0))) := by
  refine ro_of (by decide) (Nat.le_of_ble_eq_true rfl) ?_
  intro p e s m below meth c hC hr hk hE hP ls hl
  replace hC : CallFix p m c cX12_divisor 5 s [.int p0, .int p1].toArray wl RX12 := hC
  have hx := hC.1
  have hb := hC.2.1
  have hml := hC.2.2.1
  have hown := hC.2.2.2.1
  have hts := hC.2.2.2.2
  replace hl : lv_has ls 5 [(0, .int p0), (1, .int p1)] := hl
  have kc_0 : (0 : Int32).toInt = 0 := by decide
  refine lv_iload_n hx hb dX12_divisor_0 rfl (lv_at hl 0 rfl) ?_
  refine lv_istore_n (lv' := [(2, .int p0), (0, .int p0), (1, .int p1)]) hx hb dX12_divisor_1 rfl hl (by decide) rfl (fun ls hl => ?_)
  refine lv_iload_n hx hb dX12_divisor_2 rfl (lv_at hl 2 rfl) ?_
  refine lv_istore_n (lv' := [(3, .int p1), (2, .int p0), (0, .int p0), (1, .int p1)]) hx hb dX12_divisor_3 rfl hl (by decide) rfl (fun ls hl => ?_)
  have hl' := hl; clear hl
  obtain ⟨i14619, i14620, hv_4, hl⟩ : ∃ (i14619 : Int32) (i14620 : Int32), (¬ i14619.toInt = 0 ∨ ¬ i14620.toInt = 0) ∧ lv_has ls 5 [(3, .int i14619), (2, .int i14620), (0, .int p0), (1, .int p1)] := ⟨_, _, by omega, hl'⟩
  clear hl'
  obtain ⟨n_4, hn_4⟩ : ∃ n : Nat, i14619.toInt.natAbs < n := ⟨_, Nat.lt_succ_self _⟩
  induction n_4 generalizing i14619 i14620 ls with
  | zero => exact absurd hn_4 (Nat.not_lt_zero _)
  | succ n_4 ih_4 =>
    refine lv_iload_n hx hb dX12_divisor_4 rfl (lv_at hl 0 rfl) ?_
    refine lv_if_eq (tgt := 21) hx hb dX12_divisor_5 (by decide) (fun c14621 => ?_) (fun c14621 => ?_)
    · replace c14621 := eq_i c14621
      refine lv_iload_n hx hb dX12_divisor_21 rfl (lv_at hl 1 rfl) ?_
      exact ro_ret hC hr hk dX12_divisor_22 (by omega)
    · replace c14621 := ne_i c14621
      refine lv_iload_n hx hb dX12_divisor_8 rfl (lv_at hl 1 rfl) ?_
      refine lv_iload_n hx hb dX12_divisor_9 rfl (lv_at hl 0 rfl) ?_
      refine lv_irem hx hb dX12_divisor_10 (nz_i (by omega)) ?_
      refine lv_topi (fun v14622 ev14622 => ?_)
      have av14622 := rem_abs ev14622 (by omega)
      refine lv_istore (lv' := [(4, .int v14622), (3, .int i14619), (2, .int i14620), (0, .int p0), (1, .int p1)]) hx hb dX12_divisor_11 hl (by decide) rfl (fun ls hl => ?_)
      refine lv_iload_n hx hb dX12_divisor_13 rfl (lv_at hl 1 rfl) ?_
      refine lv_istore_n (lv' := [(2, .int i14619), (4, .int v14622), (3, .int i14619), (0, .int p0), (1, .int p1)]) hx hb dX12_divisor_14 rfl hl (by decide) rfl (fun ls hl => ?_)
      refine lv_iload hx hb dX12_divisor_15 (lv_at hl 1 rfl) ?_
      refine lv_istore_n (lv' := [(3, .int v14622), (2, .int i14619), (4, .int v14622), (0, .int p0), (1, .int p1)]) hx hb dX12_divisor_17 rfl hl (by decide) rfl (fun ls hl => ?_)
      refine lv_goto (tgt := 4) hx hb dX12_divisor_18 (by decide) ?_
      exact ih_4 (i14619 := v14622) (i14620 := i14619) (hv_4 := by omega) (ls := ls) (hn_4 := by omega) (hl := lv_sub hl [0, 1, 3, 4] rfl)
set_option maxRecDepth 40000 in
set_option maxHeartbeats 4000000 in
theorem c_X12_fog (l : Launch) (D : va_G) (K : Nat → ClassId) (md : Nat) (ma1 : Nat) (ma2 : Nat) (ma3 : Nat) (ma4 : Nat) (ma6 : Nat) (ma14 : Nat) (ma21 : Nat) (ma22 : Nat) (ma23 : Nat) (ma24 : Nat) (ma26 : Nat) (ma27 : Nat) (ma28 : Nat) (ma29 : Nat) (ma30 : Nat) (ma31 : Nat) (ma32 : Nat) (ma33 : Nat) (ma34 : Nat) (ma35 : Nat) (ma36 : Nat) (ma40 : Nat) (ma41 : Nat) (ma42 : Nat) (ma45 : Nat) (ma46 : Nat) (ma47 : Nat) (ma49 : Nat) (ma50 : Nat) (ma51 : Nat) (ma52 : Nat) (mn0 : Int32) (mn5 : Int32) (mn7 : Int32) (mn8 : Int32) (mn9 : Int32) (mn10 : Int32) (mn11 : Int32) (mn12 : Int32) (mn13 : Int32) (mn15 : Int32) (mn16 : Int32) (mn17 : Int32) (mn18 : Int32) (mn19 : Int32) (mn20 : Int32) (mn25 : Int32) (mn37 : Int32) (mn38 : Int32) (mn39 : Int32) (mn43 : Int32) (mn44 : Int32) (mn48 : Int32) (mf1 : Nat → Int32) (mf46 : Nat → Int32) (mf47 : Nat → Int32) (p0 : Int32) (p1 : Int32) (p2 : Int32) (p3 : Int32) (hs1_0 : GW mf1) : Ci (S := ((Nat → Int32) × (Nat → Nat → Int32) × (Nat → Nat → Int64))) l D K yX12_fog cX12_fog 6 (some .int) 3 69 0 0 [.ref md, .int p0, .int p1, .int p2, .int p3] [(md, .inr (11, [.int mn0, .ref ma1, .ref ma2, .ref ma3, .ref ma4, .int mn5, .ref ma6, .int mn7, .int mn8, .int mn9, .int mn10, .int mn11, .int mn12, .int mn13, .ref ma14, .int mn15, .int mn16, .int mn17, .int mn18, .int mn19, .int mn20, .ref ma21, .ref ma22, .ref ma23, .ref ma24, .int mn25, .ref ma26, .ref ma27, .ref ma28, .ref ma29, .ref ma30, .ref ma31, .ref ma32, .ref ma33, .ref ma34, .ref ma35, .ref ma36, .int mn37, .int mn38, .int mn39, .ref ma40, .ref ma41, .ref ma42, .int mn43, .int mn44, .ref ma45, .ref ma46, .ref ma47, .int mn48, .ref ma49, .ref ma50, .ref ma51, .ref ma52])), (ma1, .inl (K 1, 262, .inl mf1)), (ma46, .inl (K 1, 10, .inl mf46)), (ma47, .inl (K 1, 10, .inl mf47))] (fun _ _ => True) (fun u => [(md, .inr (11, [.int mn0, .ref ma1, .ref ma2, .ref ma3, .ref ma4, .int mn5, .ref ma6, .int mn7, .int mn8, .int mn9, .int mn10, .int mn11, .int mn12, .int mn13, .ref ma14, .int mn15, .int mn16, .int mn17, .int mn18, .int mn19, .int mn20, .ref ma21, .ref ma22, .ref ma23, .ref ma24, .int mn25, .ref ma26, .ref ma27, .ref ma28, .ref ma29, .ref ma30, .ref ma31, .ref ma32, .ref ma33, .ref ma34, .ref ma35, .ref ma36, .int mn37, .int mn38, .int mn39, .ref ma40, .ref ma41, .ref ma42, .int mn43, .int mn44, .ref ma45, .ref ma46, .ref ma47, .int mn48, .ref ma49, .ref ma50, .ref ma51, .ref ma52])), (ma1, .inl (K 1, 262, .inl mf1)), (ma46, .inl (K 1, 10, .inl (u.2.1 0))), (ma47, .inl (K 1, 10, .inl (u.2.1 1)))]) := by
  intro sz
  refine ch_of (y := yX12_fog) (cc := cX12_fog) (maxL := 6) (ret := (some .int)) (av := [.ref md, .int p0, .int p1, .int p2, .int p3]) (ws := [(md, .inr (11, [.int mn0, .ref ma1, .ref ma2, .ref ma3, .ref ma4, .int mn5, .ref ma6, .int mn7, .int mn8, .int mn9, .int mn10, .int mn11, .int mn12, .int mn13, .ref ma14, .int mn15, .int mn16, .int mn17, .int mn18, .int mn19, .int mn20, .ref ma21, .ref ma22, .ref ma23, .ref ma24, .int mn25, .ref ma26, .ref ma27, .ref ma28, .ref ma29, .ref ma30, .ref ma31, .ref ma32, .ref ma33, .ref ma34, .ref ma35, .ref ma36, .int mn37, .int mn38, .int mn39, .ref ma40, .ref ma41, .ref ma42, .int mn43, .int mn44, .ref ma45, .ref ma46, .ref ma47, .int mn48, .ref ma49, .ref ma50, .ref ma51, .ref ma52])), (ma1, .inl (K 1, 262, .inl mf1)), (ma46, .inl (K 1, 10, .inl mf46)), (ma47, .inl (K 1, 10, .inl mf47))]) (D := D) (K := K) (Qc := fun A => va_Qi (S := ((Nat → Int32) × (Nat → Nat → Int32) × (Nat → Nat → Int64))) (fun _ _ => True) (chB D A (fun u => [(md, .inr (11, [.int mn0, .ref ma1, .ref ma2, .ref ma3, .ref ma4, .int mn5, .ref ma6, .int mn7, .int mn8, .int mn9, .int mn10, .int mn11, .int mn12, .int mn13, .ref ma14, .int mn15, .int mn16, .int mn17, .int mn18, .int mn19, .int mn20, .ref ma21, .ref ma22, .ref ma23, .ref ma24, .int mn25, .ref ma26, .ref ma27, .ref ma28, .ref ma29, .ref ma30, .ref ma31, .ref ma32, .ref ma33, .ref ma34, .ref ma35, .ref ma36, .int mn37, .int mn38, .int mn39, .ref ma40, .ref ma41, .ref ma42, .int mn43, .int mn44, .ref ma45, .ref ma46, .ref ma47, .int mn48, .ref ma49, .ref ma50, .ref ma51, .ref ma52])), (ma1, .inl (K 1, 262, .inl mf1)), (ma46, .inl (K 1, 10, .inl (u.2.1 0))), (ma47, .inl (K 1, 10, .inl (u.2.1 1)))])) A) (by decide) (Nat.le_of_ble_eq_true rfl) ?_
  intro p e s m below meth c A hC hr hk hin hE hD hA H locs hP hS ls hl
  replace hC : CallFix p m c cX12_fog 6 s [.ref md, .int p0, .int p1, .int p2, .int p3].toArray wl RX12 := hC
  have hx := hC.1
  have hb := hC.2.1
  have hml := hC.2.2.1
  have hown := hC.2.2.2.1
  have hts := hC.2.2.2.2
  replace hl : lv_has ls 6 [(0, .ref md), (1, .int p0), (2, .int p1), (3, .int p2), (4, .int p3)] := hl
  have kc_0 : (0 : Int32).toInt = 0 := by decide
  have kc_2 : (2 : Int32).toInt = 2 := by decide
  have kl_0 : (0 : Int64).toInt = 0 := by decide
  have kl_1 : (1 : Int64).toInt = 1 := by decide
  have kl_15 : (15 : Int64).toInt = 15 := by decide
  have hW0 := gwn_0 hs1_0; have hW1 := gwn_1 hs1_0; have hW2 := gwn_2 hs1_0; have hW4 := gwn_4 hs1_0
  refine lv_aload_n hx hb dX12_fog_0 rfl (lv_at hl 0 rfl) ?_
  refine lv_iload_n hx hb dX12_fog_1 rfl (lv_at hl 1 rfl) ?_
  refine lv_iload_n hx hb dX12_fog_2 rfl (lv_at hl 2 rfl) ?_
  refine ro_V (As := [.int p0, .int p1]) (rest := []) hC hE kV_X12_394 (c_X12_areTwo l D K md ma1 ma2 ma3 ma4 ma6 ma14 ma21 ma22 ma23 ma24 ma26 ma27 ma28 ma29 ma30 ma31 ma32 ma33 ma34 ma35 ma36 ma40 ma41 ma42 ma45 ma46 ma47 ma49 ma50 ma51 ma52 mn0 mn5 mn7 mn8 mn9 mn10 mn11 mn12 mn13 mn15 mn16 mn17 mn18 mn19 mn20 mn25 mn37 mn38 mn39 mn43 mn44 mn48 mf1 p0 p1 hs1_0) (hP.sub (ws' := [(md, .inr (11, [.int mn0, .ref ma1, .ref ma2, .ref ma3, .ref ma4, .int mn5, .ref ma6, .int mn7, .int mn8, .int mn9, .int mn10, .int mn11, .int mn12, .int mn13, .ref ma14, .int mn15, .int mn16, .int mn17, .int mn18, .int mn19, .int mn20, .ref ma21, .ref ma22, .ref ma23, .ref ma24, .int mn25, .ref ma26, .ref ma27, .ref ma28, .ref ma29, .ref ma30, .ref ma31, .ref ma32, .ref ma33, .ref ma34, .ref ma35, .ref ma36, .int mn37, .int mn38, .int mn39, .ref ma40, .ref ma41, .ref ma42, .int mn43, .int mn44, .ref ma45, .ref ma46, .ref ma47, .int mn48, .ref ma49, .ref ma50, .ref ma51, .ref ma52])), (ma1, .inl (K 1, 262, .inl mf1))]) [0, 1] rfl) 0 11 rfl rfl rfl hl.1 rfl (Nat.le_of_ble_eq_true rfl) (by decide) (by decide) dX12_fog_3 (fun r14658 hq => ?_)
  rcases hq with rfl | ⟨rfl, h14653, h14654, h14655, h14656, h14657⟩
  · refine lv_if_eq (tgt := 32) hx hb dX12_fog_6 (by decide) (fun _ => ?_) (fun h => absurd h (by decide))
    refine lv_bipush (v := (-2)) hx hb dX12_fog_32 (by decide) ?_
    refine W.widen (k := 0) (n := 0) (by decide) (by decide) ?_
    exact ch_iret hC hr hk hS dX12_fog_34 ((fun k => [].getD k 0, fun k => [mf46, mf47].getD k (fun _ => 0), fun k => [].getD k (fun _ => 0)) : ((Nat → Int32) × (Nat → Nat → Int32) × (Nat → Nat → Int64))) trivial (hP.sub [0, 1, 2, 3] rfl) (hD.sub [0, 1, 2, 3] (by decide) rfl)
  · refine lv_if_eq (tgt := 32) hx hb dX12_fog_6 (by decide) (fun h => absurd h (by decide)) (fun _ => ?_)
    refine lv_iload_n hx hb dX12_fog_9 rfl (lv_at hl 3 rfl) ?_
    refine lv_i2l hx hb dX12_fog_10 rfl ?_
    refine lv_topl (fun v14659 ev14659 => ?_)
    refine lv_lconst (v := 0) hx hb dX12_fog_11 (by decide) ?_
    refine lv_ldc2 (v := 15) hx hb hown (hts _ w_1125) dX12_fog_12 ?_
    have tv14659 : v14659.toInt = (p2 : Int32).toInt := i2l_i ev14659
    refine ro_S (As := [.long v14659, .long 0, .long 15]) (rest := []) hC hE kS_X12_115 (c_X12_in l D K v14659 0 15) (hP.sub (ws' := []) [] rfl) rfl hl.1 rfl (Nat.le_of_ble_eq_true rfl) (by decide) (by decide) dX12_fog_15 (fun r14663 hq => ?_)
    rcases hq with ⟨rfl, h14660⟩ | ⟨rfl, h14661, h14662⟩
    · refine lv_if_eq (tgt := 32) hx hb dX12_fog_18 (by decide) (fun _ => ?_) (fun h => absurd h (by decide))
      refine lv_bipush (v := (-2)) hx hb dX12_fog_32 (by decide) ?_
      refine W.widen (k := 0) (n := 0) (by decide) (by decide) ?_
      exact ch_iret hC hr hk hS dX12_fog_34 ((fun k => [].getD k 0, fun k => [mf46, mf47].getD k (fun _ => 0), fun k => [].getD k (fun _ => 0)) : ((Nat → Int32) × (Nat → Nat → Int32) × (Nat → Nat → Int64))) trivial (hP.sub [0, 1, 2, 3] rfl) (hD.sub [0, 1, 2, 3] (by decide) rfl)
    · refine lv_if_eq (tgt := 32) hx hb dX12_fog_18 (by decide) (fun h => absurd h (by decide)) (fun _ => ?_)
      refine lv_iload hx hb dX12_fog_21 (lv_at hl 4 rfl) ?_
      refine lv_i2l hx hb dX12_fog_23 rfl ?_
      refine lv_topl (fun v14664 ev14664 => ?_)
      refine lv_lconst (v := 0) hx hb dX12_fog_24 (by decide) ?_
      refine lv_lconst (v := 1) hx hb dX12_fog_25 (by decide) ?_
      have tv14664 : v14664.toInt = (p3 : Int32).toInt := i2l_i ev14664
      refine ro_S (As := [.long v14664, .long 0, .long 1]) (rest := []) hC hE kS_X12_115 (c_X12_in l D K v14664 0 1) (hP.sub (ws' := []) [] rfl) rfl hl.1 rfl (Nat.le_of_ble_eq_true rfl) (by decide) (by decide) dX12_fog_26 (fun r14668 hq => ?_)
      rcases hq with ⟨rfl, h14665⟩ | ⟨rfl, h14666, h14667⟩
      · refine lv_if_ne (tgt := 35) hx hb dX12_fog_29 (by decide) (fun h => absurd h (by decide)) (fun _ => ?_)
        refine lv_bipush (v := (-2)) hx hb dX12_fog_32 (by decide) ?_
        refine W.widen (k := 0) (n := 0) (by decide) (by decide) ?_
        exact ch_iret hC hr hk hS dX12_fog_34 ((fun k => [].getD k 0, fun k => [mf46, mf47].getD k (fun _ => 0), fun k => [].getD k (fun _ => 0)) : ((Nat → Int32) × (Nat → Nat → Int32) × (Nat → Nat → Int64))) trivial (hP.sub [0, 1, 2, 3] rfl) (hD.sub [0, 1, 2, 3] (by decide) rfl)
      · refine lv_if_ne (tgt := 35) hx hb dX12_fog_29 (by decide) (fun _ => ?_) (fun h => absurd h (by decide))
        refine lv_aload_n hx hb dX12_fog_35 rfl (lv_at hl 0 rfl) ?_
        refine lv_iload_n hx hb dX12_fog_36 rfl (lv_at hl 1 rfl) ?_
        refine lv_iload_n hx hb dX12_fog_37 rfl (lv_at hl 3 rfl) ?_
        refine cv_V (As := [.int p0, .int p2]) (rest := []) (wc := [(md, .inr (11, [.int mn0, .ref ma1, .ref ma2, .ref ma3, .ref ma4, .int mn5, .ref ma6, .int mn7, .int mn8, .int mn9, .int mn10, .int mn11, .int mn12, .int mn13, .ref ma14, .int mn15, .int mn16, .int mn17, .int mn18, .int mn19, .int mn20, .ref ma21, .ref ma22, .ref ma23, .ref ma24, .int mn25, .ref ma26, .ref ma27, .ref ma28, .ref ma29, .ref ma30, .ref ma31, .ref ma32, .ref ma33, .ref ma34, .ref ma35, .ref ma36, .int mn37, .int mn38, .int mn39, .ref ma40, .ref ma41, .ref ma42, .int mn43, .int mn44, .ref ma45, .ref ma46, .ref ma47, .int mn48, .ref ma49, .ref ma50, .ref ma51, .ref ma52])), (ma1, .inl (K 1, 262, .inl mf1)), (ma46, .inl (K 1, 10, .inl mf46)), (ma47, .inl (K 1, 10, .inl mf47))]) (wr := []) hC hE kV_X12_464 (c_X12_goFog l D K md ma1 ma2 ma3 ma4 ma6 ma14 ma21 ma22 ma23 ma24 ma26 ma27 ma28 ma29 ma30 ma31 ma32 ma33 ma34 ma35 ma36 ma40 ma41 ma42 ma45 ma46 ma47 ma49 ma50 ma51 ma52 mn0 mn5 mn7 mn8 mn9 mn10 mn11 mn12 mn13 mn15 mn16 mn17 mn18 mn19 mn20 mn25 mn37 mn38 mn39 mn43 mn44 mn48 mf1 mf46 mf47 p0 p2 hs1_0 (by omega)) hP hD hS hA [0, 1, 2, 3] [] rfl rfl rfl (by decide) (by decide) (by decide) 0 11 rfl rfl rfl hl.1 rfl (Nat.le_of_ble_eq_true rfl) (by decide) (by decide) dX12_fog_38 (fun u14669 H locs hw hP hD hS => ?_)
        replace hP : va_P D vwCl [(md, .inr (11, [.int mn0, .ref ma1, .ref ma2, .ref ma3, .ref ma4, .int mn5, .ref ma6, .int mn7, .int mn8, .int mn9, .int mn10, .int mn11, .int mn12, .int mn13, .ref ma14, .int mn15, .int mn16, .int mn17, .int mn18, .int mn19, .int mn20, .ref ma21, .ref ma22, .ref ma23, .ref ma24, .int mn25, .ref ma26, .ref ma27, .ref ma28, .ref ma29, .ref ma30, .ref ma31, .ref ma32, .ref ma33, .ref ma34, .ref ma35, .ref ma36, .int mn37, .int mn38, .int mn39, .ref ma40, .ref ma41, .ref ma42, .int mn43, .int mn44, .ref ma45, .ref ma46, .ref ma47, .int mn48, .ref ma49, .ref ma50, .ref ma51, .ref ma52])), (ma1, .inl (K 1, 262, .inl mf1)), (ma46, .inl (K 1, 10, .inl (u14669.2.1 0))), (ma47, .inl (K 1, 10, .inl (u14669.2.1 1)))] H := hP
        replace hD : va_D A [(md, .inr (11, [.int mn0, .ref ma1, .ref ma2, .ref ma3, .ref ma4, .int mn5, .ref ma6, .int mn7, .int mn8, .int mn9, .int mn10, .int mn11, .int mn12, .int mn13, .ref ma14, .int mn15, .int mn16, .int mn17, .int mn18, .int mn19, .int mn20, .ref ma21, .ref ma22, .ref ma23, .ref ma24, .int mn25, .ref ma26, .ref ma27, .ref ma28, .ref ma29, .ref ma30, .ref ma31, .ref ma32, .ref ma33, .ref ma34, .ref ma35, .ref ma36, .int mn37, .int mn38, .int mn39, .ref ma40, .ref ma41, .ref ma42, .int mn43, .int mn44, .ref ma45, .ref ma46, .ref ma47, .int mn48, .ref ma49, .ref ma50, .ref ma51, .ref ma52])), (ma1, .inl (K 1, 262, .inl mf1)), (ma46, .inl (K 1, 10, .inl (u14669.2.1 0))), (ma47, .inl (K 1, 10, .inl (u14669.2.1 1)))] := hD
        replace hP : va_P D vwCl [(md, .inr (11, [.int mn0, .ref ma1, .ref ma2, .ref ma3, .ref ma4, .int mn5, .ref ma6, .int mn7, .int mn8, .int mn9, .int mn10, .int mn11, .int mn12, .int mn13, .ref ma14, .int mn15, .int mn16, .int mn17, .int mn18, .int mn19, .int mn20, .ref ma21, .ref ma22, .ref ma23, .ref ma24, .int mn25, .ref ma26, .ref ma27, .ref ma28, .ref ma29, .ref ma30, .ref ma31, .ref ma32, .ref ma33, .ref ma34, .ref ma35, .ref ma36, .int mn37, .int mn38, .int mn39, .ref ma40, .ref ma41, .ref ma42, .int mn43, .int mn44, .ref ma45, .ref ma46, .ref ma47, .int mn48, .ref ma49, .ref ma50, .ref ma51, .ref ma52])), (ma1, .inl (K 1, 262, .inl mf1)), (ma46, .inl (K 1, 10, .inl (u14669.2.1 0))), (ma47, .inl (K 1, 10, .inl (u14669.2.1 1)))] H := hP.sub [0, 1, 2, 3] rfl
        replace hD : va_D A [(md, .inr (11, [.int mn0, .ref ma1, .ref ma2, .ref ma3, .ref ma4, .int mn5, .ref ma6, .int mn7, .int mn8, .int mn9, .int mn10, .int mn11, .int mn12, .int mn13, .ref ma14, .int mn15, .int mn16, .int mn17, .int mn18, .int mn19, .int mn20, .ref ma21, .ref ma22, .ref ma23, .ref ma24, .int mn25, .ref ma26, .ref ma27, .ref ma28, .ref ma29, .ref ma30, .ref ma31, .ref ma32, .ref ma33, .ref ma34, .ref ma35, .ref ma36, .int mn37, .int mn38, .int mn39, .ref ma40, .ref ma41, .ref ma42, .int mn43, .int mn44, .ref ma45, .ref ma46, .ref ma47, .int mn48, .ref ma49, .ref ma50, .ref ma51, .ref ma52])), (ma1, .inl (K 1, 262, .inl mf1)), (ma46, .inl (K 1, 10, .inl (u14669.2.1 0))), (ma47, .inl (K 1, 10, .inl (u14669.2.1 1)))] := hD.sub [0, 1, 2, 3] (by decide) rfl
        refine W.widen (k := 0) (n := 0) (by decide) (by decide) ?_
        refine lv_iconst (v := 1) hx hb dX12_fog_41 (by decide) ?_
        refine lv_iconst (v := 2) hx hb dX12_fog_42 (by decide) ?_
        refine lv_iload_n hx hb dX12_fog_43 rfl (lv_at hl 3 rfl) ?_
        refine lv_imul hx hb dX12_fog_44 ?_
        refine lv_topi (fun v14671 ev14671 => ?_)
        refine lv_ishl hx hb dX12_fog_45 ?_
        refine lv_topi (fun v14672 ev14672 => ?_)
        refine lv_istore (lv' := [(5, .int v14672), (0, .ref md), (1, .int p0), (2, .int p1), (3, .int p2), (4, .int p3)]) hx hb dX12_fog_46 hl (by decide) rfl (fun ls hl => ?_)
        refine lv_iload hx hb dX12_fog_48 (lv_at hl 5 rfl) ?_
        refine lv_if_ne (tgt := 62) hx hb dX12_fog_50 (by decide) (fun c14673 => ?_) (fun c14673 => ?_)
        · replace c14673 := ne_i c14673
          refine lv_iload hx hb dX12_fog_62 (lv_at hl 0 rfl) ?_
          refine lv_aload_n hx hb dX12_fog_64 rfl (lv_at hl 1 rfl) ?_
          refine va_get (D := D) (ci := 11) (v := .ref ma46) (C := RX12) (T := TX12) (N := 53) hx hb hts in_X12 hown hE.1 hP 0 rfl rfl 46 (by decide) (hts _ w_1123) (fun _ h9 => h9) rfl dX12_fog_65 ?_
          refine lv_iload_n hx hb dX12_fog_68 rfl (lv_at hl 3 rfl) ?_
          refine va_iald hx hb hE.1 hP 2 1 rfl rfl (vp_in_iff.mpr (by omega)) dX12_fog_69 ?_
          refine lv_topi (fun v14674 ev14674 => ?_)
          refine lv_iload hx hb dX12_fog_70 (lv_at hl 0 rfl) ?_
          have tv14671 : v14671.toInt = 2 * p2.toInt := mul_i ev14671 (by decide) rfl (by omega) (by omega)
          have tv14672 := shl_nz ev14672 (by omega) (by omega)
          refine ro_S (As := [.int v14674, .int v14672]) (rest := [.int v14672]) hC hE kS_X12_467 (c_X12_divisor l D K v14674 v14672 (by omega)) (hP.sub (ws' := []) [] rfl) rfl hl.1 rfl (Nat.le_of_ble_eq_true rfl) (by decide) (by decide) dX12_fog_72 (fun r14676 hq => ?_)
          have h14675 := hq
          refine lv_idiv hx hb dX12_fog_75 (nz_i (by omega)) ?_
          refine lv_topi (fun v14677 ev14677 => ?_)
          refine W.widen (k := 0) (n := 0) (by decide) (by decide) ?_
          exact ch_iret hC hr hk hS dX12_fog_76 ((fun k => [].getD k 0, fun k => [(u14669.2.1 0), (u14669.2.1 1)].getD k (fun _ => 0), fun k => [].getD k (fun _ => 0)) : ((Nat → Int32) × (Nat → Nat → Int32) × (Nat → Nat → Int64))) trivial (hP.sub [0, 1, 2, 3] rfl) (hD.sub [0, 1, 2, 3] (by decide) rfl)
        · replace c14673 := eq_i c14673
          refine lv_aload_n hx hb dX12_fog_53 rfl (lv_at hl 1 rfl) ?_
          refine va_get (D := D) (ci := 11) (v := .ref ma46) (C := RX12) (T := TX12) (N := 53) hx hb hts in_X12 hown hE.1 hP 0 rfl rfl 46 (by decide) (hts _ w_1123) (fun _ h9 => h9) rfl dX12_fog_54 ?_
          refine lv_iload_n hx hb dX12_fog_57 rfl (lv_at hl 3 rfl) ?_
          refine va_iald hx hb hE.1 hP 2 1 rfl rfl (vp_in_iff.mpr (by omega)) dX12_fog_58 ?_
          refine lv_topi (fun v14678 ev14678 => ?_)
          refine lv_goto (tgt := 64) hx hb dX12_fog_59 (by decide) ?_
          refine lv_aload_n hx hb dX12_fog_64 rfl (lv_at hl 1 rfl) ?_
          refine va_get (D := D) (ci := 11) (v := .ref ma46) (C := RX12) (T := TX12) (N := 53) hx hb hts in_X12 hown hE.1 hP 0 rfl rfl 46 (by decide) (hts _ w_1123) (fun _ h9 => h9) rfl dX12_fog_65 ?_
          refine lv_iload_n hx hb dX12_fog_68 rfl (lv_at hl 3 rfl) ?_
          refine va_iald hx hb hE.1 hP 2 1 rfl rfl (vp_in_iff.mpr (by omega)) dX12_fog_69 ?_
          refine lv_topi (fun v14679 ev14679 => ?_)
          refine lv_iload hx hb dX12_fog_70 (lv_at hl 0 rfl) ?_
          have tv14671 : v14671.toInt = 2 * p2.toInt := mul_i ev14671 (by decide) rfl (by omega) (by omega)
          have tv14672 := shl_nz ev14672 (by omega) (by omega)
          refine ro_S (As := [.int v14679, .int v14672]) (rest := [.int v14678]) hC hE kS_X12_467 (c_X12_divisor l D K v14679 v14672 (by omega)) (hP.sub (ws' := []) [] rfl) rfl hl.1 rfl (Nat.le_of_ble_eq_true rfl) (by decide) (by decide) dX12_fog_72 (fun r14681 hq => ?_)
          have h14680 := hq
          refine lv_idiv hx hb dX12_fog_75 (nz_i (by omega)) ?_
          refine lv_topi (fun v14682 ev14682 => ?_)
          refine W.widen (k := 0) (n := 0) (by decide) (by decide) ?_
          exact ch_iret hC hr hk hS dX12_fog_76 ((fun k => [].getD k 0, fun k => [(u14669.2.1 0), (u14669.2.1 1)].getD k (fun _ => 0), fun k => [].getD k (fun _ => 0)) : ((Nat → Int32) × (Nat → Nat → Int32) × (Nat → Nat → Int64))) trivial (hP.sub [0, 1, 2, 3] rfl) (hD.sub [0, 1, 2, 3] (by decide) rfl)
set_option maxRecDepth 40000 in
set_option maxHeartbeats 4000000 in
theorem c_X12_likely (l : Launch) (D : va_G) (K : Nat → ClassId) (md : Nat) (ma1 : Nat) (ma2 : Nat) (ma3 : Nat) (ma4 : Nat) (ma6 : Nat) (ma14 : Nat) (ma21 : Nat) (ma22 : Nat) (ma23 : Nat) (ma24 : Nat) (ma26 : Nat) (ma27 : Nat) (ma28 : Nat) (ma29 : Nat) (ma30 : Nat) (ma31 : Nat) (ma32 : Nat) (ma33 : Nat) (ma34 : Nat) (ma35 : Nat) (ma36 : Nat) (ma40 : Nat) (ma41 : Nat) (ma42 : Nat) (ma45 : Nat) (ma46 : Nat) (ma47 : Nat) (ma49 : Nat) (ma50 : Nat) (ma51 : Nat) (ma52 : Nat) (mn0 : Int32) (mn5 : Int32) (mn7 : Int32) (mn8 : Int32) (mn9 : Int32) (mn10 : Int32) (mn11 : Int32) (mn12 : Int32) (mn13 : Int32) (mn15 : Int32) (mn16 : Int32) (mn17 : Int32) (mn18 : Int32) (mn19 : Int32) (mn20 : Int32) (mn25 : Int32) (mn37 : Int32) (mn38 : Int32) (mn39 : Int32) (mn43 : Int32) (mn44 : Int32) (mn48 : Int32) (mf1 : Nat → Int32) (mf46 : Nat → Int32) (mf47 : Nat → Int32) (p0 : Int32) (p1 : Int32) (hs1_0 : GW mf1) : Ci (S := ((Nat → Int32) × (Nat → Nat → Int32) × (Nat → Nat → Int64))) l D K yX12_likely cX12_likely 5 (some .int) 2 47 0 0 [.ref md, .int p0, .int p1] [(md, .inr (11, [.int mn0, .ref ma1, .ref ma2, .ref ma3, .ref ma4, .int mn5, .ref ma6, .int mn7, .int mn8, .int mn9, .int mn10, .int mn11, .int mn12, .int mn13, .ref ma14, .int mn15, .int mn16, .int mn17, .int mn18, .int mn19, .int mn20, .ref ma21, .ref ma22, .ref ma23, .ref ma24, .int mn25, .ref ma26, .ref ma27, .ref ma28, .ref ma29, .ref ma30, .ref ma31, .ref ma32, .ref ma33, .ref ma34, .ref ma35, .ref ma36, .int mn37, .int mn38, .int mn39, .ref ma40, .ref ma41, .ref ma42, .int mn43, .int mn44, .ref ma45, .ref ma46, .ref ma47, .int mn48, .ref ma49, .ref ma50, .ref ma51, .ref ma52])), (ma1, .inl (K 1, 262, .inl mf1)), (ma46, .inl (K 1, 10, .inl mf46)), (ma47, .inl (K 1, 10, .inl mf47))] (fun _ _ => True) (fun u => [(md, .inr (11, [.int mn0, .ref ma1, .ref ma2, .ref ma3, .ref ma4, .int mn5, .ref ma6, .int mn7, .int mn8, .int mn9, .int mn10, .int mn11, .int mn12, .int mn13, .ref ma14, .int mn15, .int mn16, .int mn17, .int mn18, .int mn19, .int mn20, .ref ma21, .ref ma22, .ref ma23, .ref ma24, .int mn25, .ref ma26, .ref ma27, .ref ma28, .ref ma29, .ref ma30, .ref ma31, .ref ma32, .ref ma33, .ref ma34, .ref ma35, .ref ma36, .int mn37, .int mn38, .int mn39, .ref ma40, .ref ma41, .ref ma42, .int mn43, .int mn44, .ref ma45, .ref ma46, .ref ma47, .int mn48, .ref ma49, .ref ma50, .ref ma51, .ref ma52])), (ma1, .inl (K 1, 262, .inl mf1)), (ma46, .inl (K 1, 10, .inl (u.2.1 0))), (ma47, .inl (K 1, 10, .inl (u.2.1 1)))]) := by
  intro sz
  refine ch_of (y := yX12_likely) (cc := cX12_likely) (maxL := 5) (ret := (some .int)) (av := [.ref md, .int p0, .int p1]) (ws := [(md, .inr (11, [.int mn0, .ref ma1, .ref ma2, .ref ma3, .ref ma4, .int mn5, .ref ma6, .int mn7, .int mn8, .int mn9, .int mn10, .int mn11, .int mn12, .int mn13, .ref ma14, .int mn15, .int mn16, .int mn17, .int mn18, .int mn19, .int mn20, .ref ma21, .ref ma22, .ref ma23, .ref ma24, .int mn25, .ref ma26, .ref ma27, .ref ma28, .ref ma29, .ref ma30, .ref ma31, .ref ma32, .ref ma33, .ref ma34, .ref ma35, .ref ma36, .int mn37, .int mn38, .int mn39, .ref ma40, .ref ma41, .ref ma42, .int mn43, .int mn44, .ref ma45, .ref ma46, .ref ma47, .int mn48, .ref ma49, .ref ma50, .ref ma51, .ref ma52])), (ma1, .inl (K 1, 262, .inl mf1)), (ma46, .inl (K 1, 10, .inl mf46)), (ma47, .inl (K 1, 10, .inl mf47))]) (D := D) (K := K) (Qc := fun A => va_Qi (S := ((Nat → Int32) × (Nat → Nat → Int32) × (Nat → Nat → Int64))) (fun _ _ => True) (chB D A (fun u => [(md, .inr (11, [.int mn0, .ref ma1, .ref ma2, .ref ma3, .ref ma4, .int mn5, .ref ma6, .int mn7, .int mn8, .int mn9, .int mn10, .int mn11, .int mn12, .int mn13, .ref ma14, .int mn15, .int mn16, .int mn17, .int mn18, .int mn19, .int mn20, .ref ma21, .ref ma22, .ref ma23, .ref ma24, .int mn25, .ref ma26, .ref ma27, .ref ma28, .ref ma29, .ref ma30, .ref ma31, .ref ma32, .ref ma33, .ref ma34, .ref ma35, .ref ma36, .int mn37, .int mn38, .int mn39, .ref ma40, .ref ma41, .ref ma42, .int mn43, .int mn44, .ref ma45, .ref ma46, .ref ma47, .int mn48, .ref ma49, .ref ma50, .ref ma51, .ref ma52])), (ma1, .inl (K 1, 262, .inl mf1)), (ma46, .inl (K 1, 10, .inl (u.2.1 0))), (ma47, .inl (K 1, 10, .inl (u.2.1 1)))])) A) (by decide) (Nat.le_of_ble_eq_true rfl) ?_
  intro p e s m below meth c A hC hr hk hin hE hD hA H locs hP hS ls hl
  replace hC : CallFix p m c cX12_likely 5 s [.ref md, .int p0, .int p1].toArray wl RX12 := hC
  have hx := hC.1
  have hb := hC.2.1
  have hml := hC.2.2.1
  have hown := hC.2.2.2.1
  have hts := hC.2.2.2.2
  replace hl : lv_has ls 5 [(0, .ref md), (1, .int p0), (2, .int p1)] := hl
  have kc_0 : (0 : Int32).toInt = 0 := by decide
  have kc_1 : (1 : Int32).toInt = 1 := by decide
  have kl_0 : (0 : Int64).toInt = 0 := by decide
  have kl_15 : (15 : Int64).toInt = 15 := by decide
  have hW0 := gwn_0 hs1_0; have hW1 := gwn_1 hs1_0; have hW2 := gwn_2 hs1_0; have hW4 := gwn_4 hs1_0
  refine lv_aload_n hx hb dX12_likely_0 rfl (lv_at hl 0 rfl) ?_
  refine lv_iload_n hx hb dX12_likely_1 rfl (lv_at hl 1 rfl) ?_
  refine lv_i2l hx hb dX12_likely_2 rfl ?_
  refine lv_topl (fun v14705 ev14705 => ?_)
  have tv14705 : v14705.toInt = (p0 : Int32).toInt := i2l_i ev14705
  refine ro_V (As := [.long v14705]) (rest := []) hC hE kV_X12_119 (c_X12_isPlace l D K md ma1 ma2 ma3 ma4 ma6 ma14 ma21 ma22 ma23 ma24 ma26 ma27 ma28 ma29 ma30 ma31 ma32 ma33 ma34 ma35 ma36 ma40 ma41 ma42 ma45 ma46 ma47 ma49 ma50 ma51 ma52 mn0 mn5 mn7 mn8 mn9 mn10 mn11 mn12 mn13 mn15 mn16 mn17 mn18 mn19 mn20 mn25 mn37 mn38 mn39 mn43 mn44 mn48 mf1 v14705 hs1_0) (hP.sub (ws' := [(md, .inr (11, [.int mn0, .ref ma1, .ref ma2, .ref ma3, .ref ma4, .int mn5, .ref ma6, .int mn7, .int mn8, .int mn9, .int mn10, .int mn11, .int mn12, .int mn13, .ref ma14, .int mn15, .int mn16, .int mn17, .int mn18, .int mn19, .int mn20, .ref ma21, .ref ma22, .ref ma23, .ref ma24, .int mn25, .ref ma26, .ref ma27, .ref ma28, .ref ma29, .ref ma30, .ref ma31, .ref ma32, .ref ma33, .ref ma34, .ref ma35, .ref ma36, .int mn37, .int mn38, .int mn39, .ref ma40, .ref ma41, .ref ma42, .int mn43, .int mn44, .ref ma45, .ref ma46, .ref ma47, .int mn48, .ref ma49, .ref ma50, .ref ma51, .ref ma52])), (ma1, .inl (K 1, 262, .inl mf1))]) [0, 1] rfl) 0 11 rfl rfl rfl hl.1 rfl (Nat.le_of_ble_eq_true rfl) (by decide) (by decide) dX12_likely_3 (fun r14710 hq => ?_)
  rcases hq with ⟨rfl, h14706⟩ | ⟨rfl, h14707, h14708, h14709⟩
  · refine lv_if_eq (tgt := 21) hx hb dX12_likely_6 (by decide) (fun _ => ?_) (fun h => absurd h (by decide))
    refine lv_bipush (v := (-2)) hx hb dX12_likely_21 (by decide) ?_
    refine W.widen (k := 0) (n := 0) (by decide) (by decide) ?_
    exact ch_iret hC hr hk hS dX12_likely_23 ((fun k => [].getD k 0, fun k => [mf46, mf47].getD k (fun _ => 0), fun k => [].getD k (fun _ => 0)) : ((Nat → Int32) × (Nat → Nat → Int32) × (Nat → Nat → Int64))) trivial (hP.sub [0, 1, 2, 3] rfl) (hD.sub [0, 1, 2, 3] (by decide) rfl)
  · refine lv_if_eq (tgt := 21) hx hb dX12_likely_6 (by decide) (fun h => absurd h (by decide)) (fun _ => ?_)
    refine lv_iload_n hx hb dX12_likely_9 rfl (lv_at hl 2 rfl) ?_
    refine lv_i2l hx hb dX12_likely_10 rfl ?_
    refine lv_topl (fun v14711 ev14711 => ?_)
    refine lv_lconst (v := 0) hx hb dX12_likely_11 (by decide) ?_
    refine lv_ldc2 (v := 15) hx hb hown (hts _ w_1125) dX12_likely_12 ?_
    have tv14711 : v14711.toInt = (p1 : Int32).toInt := i2l_i ev14711
    refine ro_S (As := [.long v14711, .long 0, .long 15]) (rest := []) hC hE kS_X12_115 (c_X12_in l D K v14711 0 15) (hP.sub (ws' := []) [] rfl) rfl hl.1 rfl (Nat.le_of_ble_eq_true rfl) (by decide) (by decide) dX12_likely_15 (fun r14715 hq => ?_)
    rcases hq with ⟨rfl, h14712⟩ | ⟨rfl, h14713, h14714⟩
    · refine lv_if_ne (tgt := 24) hx hb dX12_likely_18 (by decide) (fun h => absurd h (by decide)) (fun _ => ?_)
      refine lv_bipush (v := (-2)) hx hb dX12_likely_21 (by decide) ?_
      refine W.widen (k := 0) (n := 0) (by decide) (by decide) ?_
      exact ch_iret hC hr hk hS dX12_likely_23 ((fun k => [].getD k 0, fun k => [mf46, mf47].getD k (fun _ => 0), fun k => [].getD k (fun _ => 0)) : ((Nat → Int32) × (Nat → Nat → Int32) × (Nat → Nat → Int64))) trivial (hP.sub [0, 1, 2, 3] rfl) (hD.sub [0, 1, 2, 3] (by decide) rfl)
    · refine lv_if_ne (tgt := 24) hx hb dX12_likely_18 (by decide) (fun _ => ?_) (fun h => absurd h (by decide))
      refine lv_aload_n hx hb dX12_likely_24 rfl (lv_at hl 0 rfl) ?_
      refine lv_iload_n hx hb dX12_likely_25 rfl (lv_at hl 1 rfl) ?_
      refine lv_iload_n hx hb dX12_likely_26 rfl (lv_at hl 2 rfl) ?_
      refine cv_V (As := [.int p0, .int p1]) (rest := []) (wc := [(md, .inr (11, [.int mn0, .ref ma1, .ref ma2, .ref ma3, .ref ma4, .int mn5, .ref ma6, .int mn7, .int mn8, .int mn9, .int mn10, .int mn11, .int mn12, .int mn13, .ref ma14, .int mn15, .int mn16, .int mn17, .int mn18, .int mn19, .int mn20, .ref ma21, .ref ma22, .ref ma23, .ref ma24, .int mn25, .ref ma26, .ref ma27, .ref ma28, .ref ma29, .ref ma30, .ref ma31, .ref ma32, .ref ma33, .ref ma34, .ref ma35, .ref ma36, .int mn37, .int mn38, .int mn39, .ref ma40, .ref ma41, .ref ma42, .int mn43, .int mn44, .ref ma45, .ref ma46, .ref ma47, .int mn48, .ref ma49, .ref ma50, .ref ma51, .ref ma52])), (ma1, .inl (K 1, 262, .inl mf1)), (ma46, .inl (K 1, 10, .inl mf46)), (ma47, .inl (K 1, 10, .inl mf47))]) (wr := []) hC hE kV_X12_464 (c_X12_goFog l D K md ma1 ma2 ma3 ma4 ma6 ma14 ma21 ma22 ma23 ma24 ma26 ma27 ma28 ma29 ma30 ma31 ma32 ma33 ma34 ma35 ma36 ma40 ma41 ma42 ma45 ma46 ma47 ma49 ma50 ma51 ma52 mn0 mn5 mn7 mn8 mn9 mn10 mn11 mn12 mn13 mn15 mn16 mn17 mn18 mn19 mn20 mn25 mn37 mn38 mn39 mn43 mn44 mn48 mf1 mf46 mf47 p0 p1 hs1_0 (by omega)) hP hD hS hA [0, 1, 2, 3] [] rfl rfl rfl (by decide) (by decide) (by decide) 0 11 rfl rfl rfl hl.1 rfl (Nat.le_of_ble_eq_true rfl) (by decide) (by decide) dX12_likely_27 (fun u14716 H locs hw hP hD hS => ?_)
      replace hP : va_P D vwCl [(md, .inr (11, [.int mn0, .ref ma1, .ref ma2, .ref ma3, .ref ma4, .int mn5, .ref ma6, .int mn7, .int mn8, .int mn9, .int mn10, .int mn11, .int mn12, .int mn13, .ref ma14, .int mn15, .int mn16, .int mn17, .int mn18, .int mn19, .int mn20, .ref ma21, .ref ma22, .ref ma23, .ref ma24, .int mn25, .ref ma26, .ref ma27, .ref ma28, .ref ma29, .ref ma30, .ref ma31, .ref ma32, .ref ma33, .ref ma34, .ref ma35, .ref ma36, .int mn37, .int mn38, .int mn39, .ref ma40, .ref ma41, .ref ma42, .int mn43, .int mn44, .ref ma45, .ref ma46, .ref ma47, .int mn48, .ref ma49, .ref ma50, .ref ma51, .ref ma52])), (ma1, .inl (K 1, 262, .inl mf1)), (ma46, .inl (K 1, 10, .inl (u14716.2.1 0))), (ma47, .inl (K 1, 10, .inl (u14716.2.1 1)))] H := hP
      replace hD : va_D A [(md, .inr (11, [.int mn0, .ref ma1, .ref ma2, .ref ma3, .ref ma4, .int mn5, .ref ma6, .int mn7, .int mn8, .int mn9, .int mn10, .int mn11, .int mn12, .int mn13, .ref ma14, .int mn15, .int mn16, .int mn17, .int mn18, .int mn19, .int mn20, .ref ma21, .ref ma22, .ref ma23, .ref ma24, .int mn25, .ref ma26, .ref ma27, .ref ma28, .ref ma29, .ref ma30, .ref ma31, .ref ma32, .ref ma33, .ref ma34, .ref ma35, .ref ma36, .int mn37, .int mn38, .int mn39, .ref ma40, .ref ma41, .ref ma42, .int mn43, .int mn44, .ref ma45, .ref ma46, .ref ma47, .int mn48, .ref ma49, .ref ma50, .ref ma51, .ref ma52])), (ma1, .inl (K 1, 262, .inl mf1)), (ma46, .inl (K 1, 10, .inl (u14716.2.1 0))), (ma47, .inl (K 1, 10, .inl (u14716.2.1 1)))] := hD
      replace hP : va_P D vwCl [(md, .inr (11, [.int mn0, .ref ma1, .ref ma2, .ref ma3, .ref ma4, .int mn5, .ref ma6, .int mn7, .int mn8, .int mn9, .int mn10, .int mn11, .int mn12, .int mn13, .ref ma14, .int mn15, .int mn16, .int mn17, .int mn18, .int mn19, .int mn20, .ref ma21, .ref ma22, .ref ma23, .ref ma24, .int mn25, .ref ma26, .ref ma27, .ref ma28, .ref ma29, .ref ma30, .ref ma31, .ref ma32, .ref ma33, .ref ma34, .ref ma35, .ref ma36, .int mn37, .int mn38, .int mn39, .ref ma40, .ref ma41, .ref ma42, .int mn43, .int mn44, .ref ma45, .ref ma46, .ref ma47, .int mn48, .ref ma49, .ref ma50, .ref ma51, .ref ma52])), (ma1, .inl (K 1, 262, .inl mf1)), (ma46, .inl (K 1, 10, .inl (u14716.2.1 0))), (ma47, .inl (K 1, 10, .inl (u14716.2.1 1)))] H := hP.sub [0, 1, 2, 3] rfl
      replace hD : va_D A [(md, .inr (11, [.int mn0, .ref ma1, .ref ma2, .ref ma3, .ref ma4, .int mn5, .ref ma6, .int mn7, .int mn8, .int mn9, .int mn10, .int mn11, .int mn12, .int mn13, .ref ma14, .int mn15, .int mn16, .int mn17, .int mn18, .int mn19, .int mn20, .ref ma21, .ref ma22, .ref ma23, .ref ma24, .int mn25, .ref ma26, .ref ma27, .ref ma28, .ref ma29, .ref ma30, .ref ma31, .ref ma32, .ref ma33, .ref ma34, .ref ma35, .ref ma36, .int mn37, .int mn38, .int mn39, .ref ma40, .ref ma41, .ref ma42, .int mn43, .int mn44, .ref ma45, .ref ma46, .ref ma47, .int mn48, .ref ma49, .ref ma50, .ref ma51, .ref ma52])), (ma1, .inl (K 1, 262, .inl mf1)), (ma46, .inl (K 1, 10, .inl (u14716.2.1 0))), (ma47, .inl (K 1, 10, .inl (u14716.2.1 1)))] := hD.sub [0, 1, 2, 3] (by decide) rfl
      refine W.widen (k := 0) (n := 0) (by decide) (by decide) ?_
      refine lv_iconst (v := 0) hx hb dX12_likely_30 (by decide) ?_
      refine lv_istore_n (lv' := [(3, .int 0), (0, .ref md), (1, .int p0), (2, .int p1)]) hx hb dX12_likely_31 rfl hl (by decide) rfl (fun ls hl => ?_)
      refine lv_iconst (v := 1) hx hb dX12_likely_32 (by decide) ?_
      refine lv_istore (lv' := [(4, .int 1), (3, .int 0), (0, .ref md), (1, .int p0), (2, .int p1)]) hx hb dX12_likely_33 hl (by decide) rfl (fun ls hl => ?_)
      have hl' := hl; have hP' := hP; have hD' := hD; clear hl hP hD
      obtain ⟨i14727, i14728, hi_35, hb_35, hl, hP, hD⟩ : ∃ (i14727 : Int32) (i14728 : Int32), ((1 : Int) ≤ i14727.toInt) ∧ (0 ≤ i14728.toInt ∧ i14728.toInt ≤ 9) ∧ lv_has ls 5 [(4, .int i14727), (3, .int i14728), (0, .ref md), (1, .int p0), (2, .int p1)] ∧ va_P D vwCl [(md, .inr (11, [.int mn0, .ref ma1, .ref ma2, .ref ma3, .ref ma4, .int mn5, .ref ma6, .int mn7, .int mn8, .int mn9, .int mn10, .int mn11, .int mn12, .int mn13, .ref ma14, .int mn15, .int mn16, .int mn17, .int mn18, .int mn19, .int mn20, .ref ma21, .ref ma22, .ref ma23, .ref ma24, .int mn25, .ref ma26, .ref ma27, .ref ma28, .ref ma29, .ref ma30, .ref ma31, .ref ma32, .ref ma33, .ref ma34, .ref ma35, .ref ma36, .int mn37, .int mn38, .int mn39, .ref ma40, .ref ma41, .ref ma42, .int mn43, .int mn44, .ref ma45, .ref ma46, .ref ma47, .int mn48, .ref ma49, .ref ma50, .ref ma51, .ref ma52])), (ma1, .inl (K 1, 262, .inl mf1)), (ma46, .inl (K 1, 10, .inl (u14716.2.1 0))), (ma47, .inl (K 1, 10, .inl (u14716.2.1 1)))] H ∧ va_D A [(md, .inr (11, [.int mn0, .ref ma1, .ref ma2, .ref ma3, .ref ma4, .int mn5, .ref ma6, .int mn7, .int mn8, .int mn9, .int mn10, .int mn11, .int mn12, .int mn13, .ref ma14, .int mn15, .int mn16, .int mn17, .int mn18, .int mn19, .int mn20, .ref ma21, .ref ma22, .ref ma23, .ref ma24, .int mn25, .ref ma26, .ref ma27, .ref ma28, .ref ma29, .ref ma30, .ref ma31, .ref ma32, .ref ma33, .ref ma34, .ref ma35, .ref ma36, .int mn37, .int mn38, .int mn39, .ref ma40, .ref ma41, .ref ma42, .int mn43, .int mn44, .ref ma45, .ref ma46, .ref ma47, .int mn48, .ref ma49, .ref ma50, .ref ma51, .ref ma52])), (ma1, .inl (K 1, 262, .inl mf1)), (ma46, .inl (K 1, 10, .inl (u14716.2.1 0))), (ma47, .inl (K 1, 10, .inl (u14716.2.1 1)))] := ⟨_, _, by omega, by omega, hl', hP', hD'⟩
      clear hl' hP' hD'
      obtain ⟨n_35, hn_35⟩ : ∃ n : Nat, (10 - i14727.toInt).toNat < n := ⟨_, Nat.lt_succ_self _⟩
      induction n_35 generalizing i14727 i14728 H locs ls with
      | zero => exact absurd hn_35 (Nat.not_lt_zero _)
      | succ n_35 ih_35 =>
        refine lv_iload hx hb dX12_likely_35 (lv_at hl 0 rfl) ?_
        refine lv_aload_n hx hb dX12_likely_37 rfl (lv_at hl 2 rfl) ?_
        refine va_get (D := D) (ci := 11) (v := .ref ma1) (C := RX12) (T := TX12) (N := 53) hx hb hts in_X12 hown hE.1 hP 0 rfl rfl 1 (by decide) (hts _ w_821) (fun _ h9 => h9) rfl dX12_likely_38 ?_
        refine lv_iconst (v := 0) hx hb dX12_likely_41 (by decide) ?_
        refine va_iald hx hb hE.1 hP 1 1 rfl rfl (in_c (by decide)) dX12_likely_42 ?_
        refine lv_topi (fun v14729 ev14729 => ?_)
        have tv14729 := gw_0 hs1_0 ev14729
        have zv14729 : v14729.toInt = (mf1 0).toInt := by rw [ev14729]; rfl
        refine lv_icmp_ge (tgt := 75) hx hb dX12_likely_43 (by decide) (fun c14730 => ?_) (fun c14730 => ?_)
        · replace c14730 := le_i c14730
          refine lv_iload_n hx hb dX12_likely_75 rfl (lv_at hl 1 rfl) ?_
          refine W.widen (k := 0) (n := 0) (by decide) (by decide) ?_
          exact ch_iret hC hr hk hS dX12_likely_76 ((fun k => [].getD k 0, fun k => [(u14716.2.1 0), (u14716.2.1 1)].getD k (fun _ => 0), fun k => [].getD k (fun _ => 0)) : ((Nat → Int32) × (Nat → Nat → Int32) × (Nat → Nat → Int64))) trivial (hP.sub [0, 1, 2, 3] rfl) (hD.sub [0, 1, 2, 3] (by decide) rfl)
        · replace c14730 := nle_i c14730
          refine lv_aload_n hx hb dX12_likely_46 rfl (lv_at hl 2 rfl) ?_
          refine va_get (D := D) (ci := 11) (v := .ref ma46) (C := RX12) (T := TX12) (N := 53) hx hb hts in_X12 hown hE.1 hP 0 rfl rfl 46 (by decide) (hts _ w_1123) (fun _ h9 => h9) rfl dX12_likely_47 ?_
          refine lv_iload hx hb dX12_likely_50 (lv_at hl 0 rfl) ?_
          refine va_iald hx hb hE.1 hP 2 1 rfl rfl (vp_in_iff.mpr (by omega)) dX12_likely_52 ?_
          refine lv_topi (fun v14731 ev14731 => ?_)
          refine lv_aload_n hx hb dX12_likely_53 rfl (lv_at hl 2 rfl) ?_
          refine va_get (D := D) (ci := 11) (v := .ref ma46) (C := RX12) (T := TX12) (N := 53) hx hb hts in_X12 hown hE.1 hP 0 rfl rfl 46 (by decide) (hts _ w_1123) (fun _ h9 => h9) rfl dX12_likely_54 ?_
          refine lv_iload_n hx hb dX12_likely_57 rfl (lv_at hl 1 rfl) ?_
          refine va_iald hx hb hE.1 hP 2 1 rfl rfl (vp_in_iff.mpr (by omega)) dX12_likely_58 ?_
          refine lv_topi (fun v14732 ev14732 => ?_)
          refine lv_icmp_le (tgt := 67) hx hb dX12_likely_59 (by decide) (fun c14733 => ?_) (fun c14733 => ?_)
          · replace c14733 := le_i c14733
            refine lv_iload_n hx hb dX12_likely_67 rfl (lv_at hl 1 rfl) ?_
            refine lv_istore_n (lv' := [(3, .int i14728), (4, .int i14727), (0, .ref md), (1, .int p0), (2, .int p1)]) hx hb dX12_likely_68 rfl hl (by decide) rfl (fun ls hl => ?_)
            obtain ⟨v14734, ev14734⟩ : ∃ z : Int32, z = i14727 + 1 := ⟨_, rfl⟩
            refine lv_iinc (v := v14734) (lv' := [(4, .int v14734), (3, .int i14728), (0, .ref md), (1, .int p0), (2, .int p1)]) hx hb dX12_likely_69 hl (k := 1) rfl (by rw [ev14734]; rfl) (by decide) rfl (fun ls hl => ?_)
            refine lv_goto (tgt := 35) hx hb dX12_likely_72 (by decide) ?_
            have tv14734 : v14734.toInt = (i14727 : Int32).toInt + (1 : Int32).toInt := add_i ev14734 (by omega) (by omega)
            exact ih_35 (i14727 := v14734) (i14728 := i14728) (hi_35 := by omega) (hb_35 := by omega) (H := H) (locs := locs) (ls := ls) (hn_35 := by omega) (hP := hP) (hS := hS) (hl := lv_sub hl [0, 1, 2, 3, 4] rfl)
          · replace c14733 := nle_i c14733
            refine lv_iload hx hb dX12_likely_62 (lv_at hl 0 rfl) ?_
            refine lv_goto (tgt := 68) hx hb dX12_likely_64 (by decide) ?_
            refine lv_istore_n (lv' := [(3, .int i14727), (4, .int i14727), (0, .ref md), (1, .int p0), (2, .int p1)]) hx hb dX12_likely_68 rfl hl (by decide) rfl (fun ls hl => ?_)
            obtain ⟨v14735, ev14735⟩ : ∃ z : Int32, z = i14727 + 1 := ⟨_, rfl⟩
            refine lv_iinc (v := v14735) (lv' := [(4, .int v14735), (3, .int i14727), (0, .ref md), (1, .int p0), (2, .int p1)]) hx hb dX12_likely_69 hl (k := 1) rfl (by rw [ev14735]; rfl) (by decide) rfl (fun ls hl => ?_)
            refine lv_goto (tgt := 35) hx hb dX12_likely_72 (by decide) ?_
            have tv14735 : v14735.toInt = (i14727 : Int32).toInt + (1 : Int32).toInt := add_i ev14735 (by omega) (by omega)
            exact ih_35 (i14727 := v14735) (i14728 := i14727) (hi_35 := by omega) (hb_35 := by omega) (H := H) (locs := locs) (ls := ls) (hn_35 := by omega) (hP := hP) (hS := hS) (hl := lv_sub hl [0, 1, 2, 3, 4] rfl)
