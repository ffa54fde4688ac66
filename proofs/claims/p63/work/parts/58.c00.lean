set_option maxRecDepth 40000 in
set_option maxHeartbeats 4000000 in
theorem c_X12_row (l : Launch) (D : va_G) (K : Nat → ClassId) (md : Nat) (ma1 : Nat) (ma2 : Nat) (ma3 : Nat) (ma4 : Nat) (ma6 : Nat) (ma14 : Nat) (ma21 : Nat) (ma22 : Nat) (ma23 : Nat) (ma24 : Nat) (ma26 : Nat) (ma27 : Nat) (ma28 : Nat) (ma29 : Nat) (ma30 : Nat) (ma31 : Nat) (ma32 : Nat) (ma33 : Nat) (ma34 : Nat) (ma35 : Nat) (ma36 : Nat) (ma40 : Nat) (ma41 : Nat) (ma42 : Nat) (ma45 : Nat) (ma46 : Nat) (ma47 : Nat) (ma49 : Nat) (ma50 : Nat) (ma51 : Nat) (ma52 : Nat) (mn0 : Int32) (mn5 : Int32) (mn7 : Int32) (mn8 : Int32) (mn9 : Int32) (mn10 : Int32) (mn11 : Int32) (mn12 : Int32) (mn13 : Int32) (mn15 : Int32) (mn16 : Int32) (mn17 : Int32) (mn18 : Int32) (mn19 : Int32) (mn20 : Int32) (mn25 : Int32) (mn37 : Int32) (mn38 : Int32) (mn39 : Int32) (mn43 : Int32) (mn44 : Int32) (mn48 : Int32) (mf49 : Nat → Int32) (mf50 : Nat → Int32) (mf51 : Nat → Int64) (p0 : Int32) (p1 : Int32) (p2 : Int32) (hs49_0 : Rg (-1) 60 4 mf49) (hs50_0 : Rg 0 3 4 mf50) : Ci (S := ((Nat → Int32) × (Nat → Nat → Int32) × (Nat → Nat → Int64))) l D K yX12_row cX12_row 5 (some .int) 2 45 0 0 [.ref md, .int p0, .int p1, .int p2] [(md, .inr (11, [.int mn0, .ref ma1, .ref ma2, .ref ma3, .ref ma4, .int mn5, .ref ma6, .int mn7, .int mn8, .int mn9, .int mn10, .int mn11, .int mn12, .int mn13, .ref ma14, .int mn15, .int mn16, .int mn17, .int mn18, .int mn19, .int mn20, .ref ma21, .ref ma22, .ref ma23, .ref ma24, .int mn25, .ref ma26, .ref ma27, .ref ma28, .ref ma29, .ref ma30, .ref ma31, .ref ma32, .ref ma33, .ref ma34, .ref ma35, .ref ma36, .int mn37, .int mn38, .int mn39, .ref ma40, .ref ma41, .ref ma42, .int mn43, .int mn44, .ref ma45, .ref ma46, .ref ma47, .int mn48, .ref ma49, .ref ma50, .ref ma51, .ref ma52])), (ma49, .inl (K 1, 4, .inl mf49)), (ma50, .inl (K 1, 4, .inl mf50)), (ma51, .inl (K 2, 240, .inr (.inl mf51)))] (fun r u => ((r = (-2) ∧ (p0.toInt < 0 ∨ 3 < p0.toInt ∨ p1.toInt < 0 ∨ 3 < p1.toInt ∨ 60 < p2.toInt)) ∨ (r = (-3) ∧ (0 ≤ p0.toInt) ∧ (p0.toInt ≤ 3) ∧ (0 ≤ p1.toInt) ∧ (p1.toInt ≤ 3) ∧ (p2.toInt ≤ 60) ∧ (p2.toInt < 0)) ∨ (r = 0 ∧ (0 ≤ p0.toInt) ∧ (p0.toInt ≤ 3) ∧ (0 ≤ p1.toInt) ∧ (p1.toInt ≤ 3) ∧ (p2.toInt ≤ 60) ∧ (0 ≤ p2.toInt))) ∧ (Rg (-1) 60 4 (u.2.1 0)) ∧ (Rg 0 3 4 (u.2.1 1))) (fun u => [(md, .inr (11, [.int mn0, .ref ma1, .ref ma2, .ref ma3, .ref ma4, .int mn5, .ref ma6, .int mn7, .int mn8, .int mn9, .int mn10, .int mn11, .int mn12, .int mn13, .ref ma14, .int mn15, .int mn16, .int mn17, .int mn18, .int mn19, .int mn20, .ref ma21, .ref ma22, .ref ma23, .ref ma24, .int mn25, .ref ma26, .ref ma27, .ref ma28, .ref ma29, .ref ma30, .ref ma31, .ref ma32, .ref ma33, .ref ma34, .ref ma35, .ref ma36, .int mn37, .int mn38, .int mn39, .ref ma40, .ref ma41, .ref ma42, .int mn43, .int mn44, .ref ma45, .ref ma46, .ref ma47, .int mn48, .ref ma49, .ref ma50, .ref ma51, .ref ma52])), (ma49, .inl (K 1, 4, .inl (u.2.1 0))), (ma50, .inl (K 1, 4, .inl (u.2.1 1))), (ma51, .inl (K 2, 240, .inr (.inl (u.2.2 0))))]) := by
  intro sz
  refine ch_of (y := yX12_row) (cc := cX12_row) (maxL := 5) (ret := (some .int)) (av := [.ref md, .int p0, .int p1, .int p2]) (ws := [(md, .inr (11, [.int mn0, .ref ma1, .ref ma2, .ref ma3, .ref ma4, .int mn5, .ref ma6, .int mn7, .int mn8, .int mn9, .int mn10, .int mn11, .int mn12, .int mn13, .ref ma14, .int mn15, .int mn16, .int mn17, .int mn18, .int mn19, .int mn20, .ref ma21, .ref ma22, .ref ma23, .ref ma24, .int mn25, .ref ma26, .ref ma27, .ref ma28, .ref ma29, .ref ma30, .ref ma31, .ref ma32, .ref ma33, .ref ma34, .ref ma35, .ref ma36, .int mn37, .int mn38, .int mn39, .ref ma40, .ref ma41, .ref ma42, .int mn43, .int mn44, .ref ma45, .ref ma46, .ref ma47, .int mn48, .ref ma49, .ref ma50, .ref ma51, .ref ma52])), (ma49, .inl (K 1, 4, .inl mf49)), (ma50, .inl (K 1, 4, .inl mf50)), (ma51, .inl (K 2, 240, .inr (.inl mf51)))]) (D := D) (K := K) (Qc := fun A => va_Qi (S := ((Nat → Int32) × (Nat → Nat → Int32) × (Nat → Nat → Int64))) (fun r u => ((r = (-2) ∧ (p0.toInt < 0 ∨ 3 < p0.toInt ∨ p1.toInt < 0 ∨ 3 < p1.toInt ∨ 60 < p2.toInt)) ∨ (r = (-3) ∧ (0 ≤ p0.toInt) ∧ (p0.toInt ≤ 3) ∧ (0 ≤ p1.toInt) ∧ (p1.toInt ≤ 3) ∧ (p2.toInt ≤ 60) ∧ (p2.toInt < 0)) ∨ (r = 0 ∧ (0 ≤ p0.toInt) ∧ (p0.toInt ≤ 3) ∧ (0 ≤ p1.toInt) ∧ (p1.toInt ≤ 3) ∧ (p2.toInt ≤ 60) ∧ (0 ≤ p2.toInt))) ∧ (Rg (-1) 60 4 (u.2.1 0)) ∧ (Rg 0 3 4 (u.2.1 1))) (chB D A (fun u => [(md, .inr (11, [.int mn0, .ref ma1, .ref ma2, .ref ma3, .ref ma4, .int mn5, .ref ma6, .int mn7, .int mn8, .int mn9, .int mn10, .int mn11, .int mn12, .int mn13, .ref ma14, .int mn15, .int mn16, .int mn17, .int mn18, .int mn19, .int mn20, .ref ma21, .ref ma22, .ref ma23, .ref ma24, .int mn25, .ref ma26, .ref ma27, .ref ma28, .ref ma29, .ref ma30, .ref ma31, .ref ma32, .ref ma33, .ref ma34, .ref ma35, .ref ma36, .int mn37, .int mn38, .int mn39, .ref ma40, .ref ma41, .ref ma42, .int mn43, .int mn44, .ref ma45, .ref ma46, .ref ma47, .int mn48, .ref ma49, .ref ma50, .ref ma51, .ref ma52])), (ma49, .inl (K 1, 4, .inl (u.2.1 0))), (ma50, .inl (K 1, 4, .inl (u.2.1 1))), (ma51, .inl (K 2, 240, .inr (.inl (u.2.2 0))))])) A) (by decide) (Nat.le_of_ble_eq_true rfl) ?_
  intro p e s m below meth c A hC hr hk hin hE hD hA H locs hP hS ls hl
  replace hC : CallFix p m c cX12_row 5 s [.ref md, .int p0, .int p1, .int p2].toArray wl RX12 := hC
  have hx := hC.1
  have hb := hC.2.1
  have hml := hC.2.2.1
  have hown := hC.2.2.2.1
  have hts := hC.2.2.2.2
  replace hl : lv_has ls 5 [(0, .ref md), (1, .int p0), (2, .int p1), (3, .int p2)] := hl
  have kc_0 : (0 : Int32).toInt = 0 := by decide
  have kc_1 : (1 : Int32).toInt = 1 := by decide
  have kc_60 : (60 : Int32).toInt = 60 := by decide
  have kl_0 : (0 : Int64).toInt = 0 := by decide
  have kl_3 : (3 : Int64).toInt = 3 := by decide
  refine lv_iload_n hx hb dX12_row_0 rfl (lv_at hl 1 rfl) ?_
  refine ro_S (As := [.int p0]) (rest := []) hC hE kS_X12_334 (c_X12_isSlot l D K p0) (hP.sub (ws' := []) [] rfl) rfl hl.1 rfl (Nat.le_of_ble_eq_true rfl) (by decide) (by decide) dX12_row_1 (fun r15222 hq => ?_)
  rcases hq with ⟨rfl, h15219⟩ | ⟨rfl, h15220, h15221⟩
  · refine lv_if_eq (tgt := 25) hx hb dX12_row_4 (by decide) (fun _ => ?_) (fun h => absurd h (by decide))
    refine lv_bipush (v := (-2)) hx hb dX12_row_25 (by decide) ?_
    refine W.widen (k := 0) (n := 0) (by decide) (by decide) ?_
    exact ch_iret hC hr hk hS dX12_row_27 ((fun k => [].getD k 0, fun k => [mf49, mf50].getD k (fun _ => 0), fun k => [mf51].getD k (fun _ => 0)) : ((Nat → Int32) × (Nat → Nat → Int32) × (Nat → Nat → Int64))) ⟨(Or.inl ⟨rfl, (by omega)⟩), (show Rg (-1) 60 4 mf49 from hs49_0), (show Rg 0 3 4 mf50 from hs50_0)⟩ (hP.sub [0, 1, 2, 3] rfl) (hD.sub [0, 1, 2, 3] (by decide) rfl)
  · refine lv_if_eq (tgt := 25) hx hb dX12_row_4 (by decide) (fun h => absurd h (by decide)) (fun _ => ?_)
    refine lv_iload_n hx hb dX12_row_7 rfl (lv_at hl 2 rfl) ?_
    refine lv_i2l hx hb dX12_row_8 rfl ?_
    refine lv_topl (fun v15223 ev15223 => ?_)
    refine lv_lconst (v := 0) hx hb dX12_row_9 (by decide) ?_
    refine lv_ldc2 (v := 3) hx hb hown (hts _ w_763) dX12_row_10 ?_
    have tv15223 : v15223.toInt = (p1 : Int32).toInt := i2l_i ev15223
    refine ro_S (As := [.long v15223, .long 0, .long 3]) (rest := []) hC hE kS_X12_115 (c_X12_in l D K v15223 0 3) (hP.sub (ws' := []) [] rfl) rfl hl.1 rfl (Nat.le_of_ble_eq_true rfl) (by decide) (by decide) dX12_row_13 (fun r15227 hq => ?_)
    rcases hq with ⟨rfl, h15224⟩ | ⟨rfl, h15225, h15226⟩
    · refine lv_if_eq (tgt := 25) hx hb dX12_row_16 (by decide) (fun _ => ?_) (fun h => absurd h (by decide))
      refine lv_bipush (v := (-2)) hx hb dX12_row_25 (by decide) ?_
      refine W.widen (k := 0) (n := 0) (by decide) (by decide) ?_
      exact ch_iret hC hr hk hS dX12_row_27 ((fun k => [].getD k 0, fun k => [mf49, mf50].getD k (fun _ => 0), fun k => [mf51].getD k (fun _ => 0)) : ((Nat → Int32) × (Nat → Nat → Int32) × (Nat → Nat → Int64))) ⟨(Or.inl ⟨rfl, (by omega)⟩), (show Rg (-1) 60 4 mf49 from hs49_0), (show Rg 0 3 4 mf50 from hs50_0)⟩ (hP.sub [0, 1, 2, 3] rfl) (hD.sub [0, 1, 2, 3] (by decide) rfl)
    · refine lv_if_eq (tgt := 25) hx hb dX12_row_16 (by decide) (fun h => absurd h (by decide)) (fun _ => ?_)
      refine lv_iload_n hx hb dX12_row_19 rfl (lv_at hl 3 rfl) ?_
      refine lv_bipush (v := 60) hx hb dX12_row_20 (by decide) ?_
      refine lv_icmp_le (tgt := 28) hx hb dX12_row_22 (by decide) (fun c15228 => ?_) (fun c15228 => ?_)
      · replace c15228 := le_i c15228
        refine lv_iload_n hx hb dX12_row_28 rfl (lv_at hl 3 rfl) ?_
        refine lv_if_ge (tgt := 35) hx hb dX12_row_29 (by decide) (fun c15229 => ?_) (fun c15229 => ?_)
        · replace c15229 := le_i c15229
          refine lv_aload_n hx hb dX12_row_35 rfl (lv_at hl 0 rfl) ?_
          refine va_get (D := D) (ci := 11) (v := .ref ma49) (C := RX12) (T := TX12) (N := 53) hx hb hts in_X12 hown hE.1 hP 0 rfl rfl 49 (by decide) (hts _ w_999) (fun _ h9 => h9) rfl dX12_row_36 ?_
          refine lv_iload_n hx hb dX12_row_39 rfl (lv_at hl 1 rfl) ?_
          refine lv_iload_n hx hb dX12_row_40 rfl (lv_at hl 3 rfl) ?_
          refine sti hx hb hE.1 hP hD hS 1 1 rfl rfl (vp_in_iff.mpr (by omega)) dX12_row_41 (fun g15230 eg15230 H locs hP hD hS => ?_)
          replace hP : va_P D vwCl [(md, .inr (11, [.int mn0, .ref ma1, .ref ma2, .ref ma3, .ref ma4, .int mn5, .ref ma6, .int mn7, .int mn8, .int mn9, .int mn10, .int mn11, .int mn12, .int mn13, .ref ma14, .int mn15, .int mn16, .int mn17, .int mn18, .int mn19, .int mn20, .ref ma21, .ref ma22, .ref ma23, .ref ma24, .int mn25, .ref ma26, .ref ma27, .ref ma28, .ref ma29, .ref ma30, .ref ma31, .ref ma32, .ref ma33, .ref ma34, .ref ma35, .ref ma36, .int mn37, .int mn38, .int mn39, .ref ma40, .ref ma41, .ref ma42, .int mn43, .int mn44, .ref ma45, .ref ma46, .ref ma47, .int mn48, .ref ma49, .ref ma50, .ref ma51, .ref ma52])), (ma49, .inl (K 1, 4, .inl g15230)), (ma50, .inl (K 1, 4, .inl mf50)), (ma51, .inl (K 2, 240, .inr (.inl mf51)))] H := hP
          replace hD : va_D A [(md, .inr (11, [.int mn0, .ref ma1, .ref ma2, .ref ma3, .ref ma4, .int mn5, .ref ma6, .int mn7, .int mn8, .int mn9, .int mn10, .int mn11, .int mn12, .int mn13, .ref ma14, .int mn15, .int mn16, .int mn17, .int mn18, .int mn19, .int mn20, .ref ma21, .ref ma22, .ref ma23, .ref ma24, .int mn25, .ref ma26, .ref ma27, .ref ma28, .ref ma29, .ref ma30, .ref ma31, .ref ma32, .ref ma33, .ref ma34, .ref ma35, .ref ma36, .int mn37, .int mn38, .int mn39, .ref ma40, .ref ma41, .ref ma42, .int mn43, .int mn44, .ref ma45, .ref ma46, .ref ma47, .int mn48, .ref ma49, .ref ma50, .ref ma51, .ref ma52])), (ma49, .inl (K 1, 4, .inl g15230)), (ma50, .inl (K 1, 4, .inl mf50)), (ma51, .inl (K 2, 240, .inr (.inl mf51)))] := hD
          have q15231 : Rg (-1) 60 4 g15230 := rg_up hs49_0 eg15230 (by omega) (by omega)
          refine lv_aload_n hx hb dX12_row_42 rfl (lv_at hl 0 rfl) ?_
          refine va_get (D := D) (ci := 11) (v := .ref ma50) (C := RX12) (T := TX12) (N := 53) hx hb hts in_X12 hown hE.1 hP 0 rfl rfl 50 (by decide) (hts _ w_1150) (fun _ h9 => h9) rfl dX12_row_43 ?_
          refine lv_iload_n hx hb dX12_row_46 rfl (lv_at hl 1 rfl) ?_
          refine lv_iload_n hx hb dX12_row_47 rfl (lv_at hl 2 rfl) ?_
          refine sti hx hb hE.1 hP hD hS 2 1 rfl rfl (vp_in_iff.mpr (by omega)) dX12_row_48 (fun g15232 eg15232 H locs hP hD hS => ?_)
          replace hP : va_P D vwCl [(md, .inr (11, [.int mn0, .ref ma1, .ref ma2, .ref ma3, .ref ma4, .int mn5, .ref ma6, .int mn7, .int mn8, .int mn9, .int mn10, .int mn11, .int mn12, .int mn13, .ref ma14, .int mn15, .int mn16, .int mn17, .int mn18, .int mn19, .int mn20, .ref ma21, .ref ma22, .ref ma23, .ref ma24, .int mn25, .ref ma26, .ref ma27, .ref ma28, .ref ma29, .ref ma30, .ref ma31, .ref ma32, .ref ma33, .ref ma34, .ref ma35, .ref ma36, .int mn37, .int mn38, .int mn39, .ref ma40, .ref ma41, .ref ma42, .int mn43, .int mn44, .ref ma45, .ref ma46, .ref ma47, .int mn48, .ref ma49, .ref ma50, .ref ma51, .ref ma52])), (ma49, .inl (K 1, 4, .inl g15230)), (ma50, .inl (K 1, 4, .inl g15232)), (ma51, .inl (K 2, 240, .inr (.inl mf51)))] H := hP
          replace hD : va_D A [(md, .inr (11, [.int mn0, .ref ma1, .ref ma2, .ref ma3, .ref ma4, .int mn5, .ref ma6, .int mn7, .int mn8, .int mn9, .int mn10, .int mn11, .int mn12, .int mn13, .ref ma14, .int mn15, .int mn16, .int mn17, .int mn18, .int mn19, .int mn20, .ref ma21, .ref ma22, .ref ma23, .ref ma24, .int mn25, .ref ma26, .ref ma27, .ref ma28, .ref ma29, .ref ma30, .ref ma31, .ref ma32, .ref ma33, .ref ma34, .ref ma35, .ref ma36, .int mn37, .int mn38, .int mn39, .ref ma40, .ref ma41, .ref ma42, .int mn43, .int mn44, .ref ma45, .ref ma46, .ref ma47, .int mn48, .ref ma49, .ref ma50, .ref ma51, .ref ma52])), (ma49, .inl (K 1, 4, .inl g15230)), (ma50, .inl (K 1, 4, .inl g15232)), (ma51, .inl (K 2, 240, .inr (.inl mf51)))] := hD
          have q15233 : Rg 0 3 4 g15232 := rg_up hs50_0 eg15232 (by omega) (by omega)
          refine lv_iconst (v := 0) hx hb dX12_row_49 (by decide) ?_
          refine lv_istore (lv' := [(4, .int 0), (0, .ref md), (1, .int p0), (2, .int p1), (3, .int p2)]) hx hb dX12_row_50 hl (by decide) rfl (fun ls hl => ?_)
          have hl' := hl; have hP' := hP; have hD' := hD; clear hl hP hD
          obtain ⟨i15240, g15241, hi_52, hl, hP, hD⟩ : ∃ (i15240 : Int32) (g15241 : Nat → Int64), ((0 : Int) ≤ i15240.toInt) ∧ lv_has ls 5 [(4, .int i15240), (0, .ref md), (1, .int p0), (2, .int p1), (3, .int p2)] ∧ va_P D vwCl [(md, .inr (11, [.int mn0, .ref ma1, .ref ma2, .ref ma3, .ref ma4, .int mn5, .ref ma6, .int mn7, .int mn8, .int mn9, .int mn10, .int mn11, .int mn12, .int mn13, .ref ma14, .int mn15, .int mn16, .int mn17, .int mn18, .int mn19, .int mn20, .ref ma21, .ref ma22, .ref ma23, .ref ma24, .int mn25, .ref ma26, .ref ma27, .ref ma28, .ref ma29, .ref ma30, .ref ma31, .ref ma32, .ref ma33, .ref ma34, .ref ma35, .ref ma36, .int mn37, .int mn38, .int mn39, .ref ma40, .ref ma41, .ref ma42, .int mn43, .int mn44, .ref ma45, .ref ma46, .ref ma47, .int mn48, .ref ma49, .ref ma50, .ref ma51, .ref ma52])), (ma49, .inl (K 1, 4, .inl g15230)), (ma50, .inl (K 1, 4, .inl g15232)), (ma51, .inl (K 2, 240, .inr (.inl g15241)))] H ∧ va_D A [(md, .inr (11, [.int mn0, .ref ma1, .ref ma2, .ref ma3, .ref ma4, .int mn5, .ref ma6, .int mn7, .int mn8, .int mn9, .int mn10, .int mn11, .int mn12, .int mn13, .ref ma14, .int mn15, .int mn16, .int mn17, .int mn18, .int mn19, .int mn20, .ref ma21, .ref ma22, .ref ma23, .ref ma24, .int mn25, .ref ma26, .ref ma27, .ref ma28, .ref ma29, .ref ma30, .ref ma31, .ref ma32, .ref ma33, .ref ma34, .ref ma35, .ref ma36, .int mn37, .int mn38, .int mn39, .ref ma40, .ref ma41, .ref ma42, .int mn43, .int mn44, .ref ma45, .ref ma46, .ref ma47, .int mn48, .ref ma49, .ref ma50, .ref ma51, .ref ma52])), (ma49, .inl (K 1, 4, .inl g15230)), (ma50, .inl (K 1, 4, .inl g15232)), (ma51, .inl (K 2, 240, .inr (.inl g15241)))] := ⟨_, _, by omega, hl', hP', hD'⟩
          clear hl' hP' hD'
          obtain ⟨n_52, hn_52⟩ : ∃ n : Nat, (60 - i15240.toInt).toNat < n := ⟨_, Nat.lt_succ_self _⟩
          induction n_52 generalizing i15240 g15241 H locs ls with
          | zero => exact absurd hn_52 (Nat.not_lt_zero _)
          | succ n_52 ih_52 =>
            refine lv_iload hx hb dX12_row_52 (lv_at hl 0 rfl) ?_
            refine lv_bipush (v := 60) hx hb dX12_row_54 (by decide) ?_
            refine lv_icmp_ge (tgt := 78) hx hb dX12_row_56 (by decide) (fun c15242 => ?_) (fun c15242 => ?_)
            · replace c15242 := le_i c15242
              refine lv_iconst (v := 0) hx hb dX12_row_78 (by decide) ?_
              refine W.widen (k := 0) (n := 0) (by decide) (by decide) ?_
              exact ch_iret hC hr hk hS dX12_row_79 ((fun k => [].getD k 0, fun k => [g15230, g15232].getD k (fun _ => 0), fun k => [g15241].getD k (fun _ => 0)) : ((Nat → Int32) × (Nat → Nat → Int32) × (Nat → Nat → Int64))) ⟨(Or.inr (Or.inr ⟨rfl, (by omega), (by omega), (by omega), (by omega), (by omega), (by omega)⟩)), (show Rg (-1) 60 4 g15230 from q15231), (show Rg 0 3 4 g15232 from q15233)⟩ (hP.sub [0, 1, 2, 3] rfl) (hD.sub [0, 1, 2, 3] (by decide) rfl)
            · replace c15242 := nle_i c15242
              refine lv_aload_n hx hb dX12_row_59 rfl (lv_at hl 1 rfl) ?_
              refine va_get (D := D) (ci := 11) (v := .ref ma51) (C := RX12) (T := TX12) (N := 53) hx hb hts in_X12 hown hE.1 hP 0 rfl rfl 51 (by decide) (hts _ w_995) (fun _ h9 => h9) rfl dX12_row_60 ?_
              refine lv_bipush (v := 60) hx hb dX12_row_63 (by decide) ?_
              refine lv_iload_n hx hb dX12_row_65 rfl (lv_at hl 2 rfl) ?_
              refine lv_imul hx hb dX12_row_66 ?_
              refine lv_topi (fun v15243 ev15243 => ?_)
              refine lv_iload hx hb dX12_row_67 (lv_at hl 0 rfl) ?_
              refine lv_iadd hx hb dX12_row_69 ?_
              refine lv_topi (fun v15244 ev15244 => ?_)
              refine lv_lconst (v := 0) hx hb dX12_row_70 (by decide) ?_
              have tv15243 : v15243.toInt = 60 * p0.toInt := mul_i ev15243 (by decide) rfl (by omega) (by omega)
              have tv15244 : v15244.toInt = (v15243 : Int32).toInt + (i15240 : Int32).toInt := add_i ev15244 (by omega) (by omega)
              refine stl hx hb hE.1 hP hD hS 3 2 rfl rfl (vp_in_iff.mpr (by omega)) dX12_row_71 (fun g15245 eg15245 H locs hP hD hS => ?_)
              replace hP : va_P D vwCl [(md, .inr (11, [.int mn0, .ref ma1, .ref ma2, .ref ma3, .ref ma4, .int mn5, .ref ma6, .int mn7, .int mn8, .int mn9, .int mn10, .int mn11, .int mn12, .int mn13, .ref ma14, .int mn15, .int mn16, .int mn17, .int mn18, .int mn19, .int mn20, .ref ma21, .ref ma22, .ref ma23, .ref ma24, .int mn25, .ref ma26, .ref ma27, .ref ma28, .ref ma29, .ref ma30, .ref ma31, .ref ma32, .ref ma33, .ref ma34, .ref ma35, .ref ma36, .int mn37, .int mn38, .int mn39, .ref ma40, .ref ma41, .ref ma42, .int mn43, .int mn44, .ref ma45, .ref ma46, .ref ma47, .int mn48, .ref ma49, .ref ma50, .ref ma51, .ref ma52])), (ma49, .inl (K 1, 4, .inl g15230)), (ma50, .inl (K 1, 4, .inl g15232)), (ma51, .inl (K 2, 240, .inr (.inl g15245)))] H := hP
              replace hD : va_D A [(md, .inr (11, [.int mn0, .ref ma1, .ref ma2, .ref ma3, .ref ma4, .int mn5, .ref ma6, .int mn7, .int mn8, .int mn9, .int mn10, .int mn11, .int mn12, .int mn13, .ref ma14, .int mn15, .int mn16, .int mn17, .int mn18, .int mn19, .int mn20, .ref ma21, .ref ma22, .ref ma23, .ref ma24, .int mn25, .ref ma26, .ref ma27, .ref ma28, .ref ma29, .ref ma30, .ref ma31, .ref ma32, .ref ma33, .ref ma34, .ref ma35, .ref ma36, .int mn37, .int mn38, .int mn39, .ref ma40, .ref ma41, .ref ma42, .int mn43, .int mn44, .ref ma45, .ref ma46, .ref ma47, .int mn48, .ref ma49, .ref ma50, .ref ma51, .ref ma52])), (ma49, .inl (K 1, 4, .inl g15230)), (ma50, .inl (K 1, 4, .inl g15232)), (ma51, .inl (K 2, 240, .inr (.inl g15245)))] := hD
              obtain ⟨v15246, ev15246⟩ : ∃ z : Int32, z = i15240 + 1 := ⟨_, rfl⟩
              refine lv_iinc (v := v15246) (lv' := [(4, .int v15246), (0, .ref md), (1, .int p0), (2, .int p1), (3, .int p2)]) hx hb dX12_row_72 hl (k := 0) rfl (by rw [ev15246]; rfl) (by decide) rfl (fun ls hl => ?_)
              refine lv_goto (tgt := 52) hx hb dX12_row_75 (by decide) ?_
              have tv15246 : v15246.toInt = (i15240 : Int32).toInt + (1 : Int32).toInt := add_i ev15246 (by omega) (by omega)
              exact ih_52 (i15240 := v15246) (g15241 := g15245) (hi_52 := by omega) (H := H) (locs := locs) (ls := ls) (hn_52 := by omega) (hP := hP) (hD := hD) (hS := hS) (hl := lv_sub hl [0, 1, 2, 3, 4] rfl)
        · replace c15229 := nle_i c15229
          refine lv_bipush (v := (-3)) hx hb dX12_row_32 (by decide) ?_
          refine W.widen (k := 0) (n := 0) (by decide) (by decide) ?_
          exact ch_iret hC hr hk hS dX12_row_34 ((fun k => [].getD k 0, fun k => [mf49, mf50].getD k (fun _ => 0), fun k => [mf51].getD k (fun _ => 0)) : ((Nat → Int32) × (Nat → Nat → Int32) × (Nat → Nat → Int64))) ⟨(Or.inr (Or.inl ⟨rfl, (by omega), (by omega), (by omega), (by omega), (by omega), (by omega)⟩)), (show Rg (-1) 60 4 mf49 from hs49_0), (show Rg 0 3 4 mf50 from hs50_0)⟩ (hP.sub [0, 1, 2, 3] rfl) (hD.sub [0, 1, 2, 3] (by decide) rfl)
      · replace c15228 := nle_i c15228
        refine lv_bipush (v := (-2)) hx hb dX12_row_25 (by decide) ?_
        refine W.widen (k := 0) (n := 0) (by decide) (by decide) ?_
        exact ch_iret hC hr hk hS dX12_row_27 ((fun k => [].getD k 0, fun k => [mf49, mf50].getD k (fun _ => 0), fun k => [mf51].getD k (fun _ => 0)) : ((Nat → Int32) × (Nat → Nat → Int32) × (Nat → Nat → Int64))) ⟨(Or.inl ⟨rfl, (by omega)⟩), (show Rg (-1) 60 4 mf49 from hs49_0), (show Rg 0 3 4 mf50 from hs50_0)⟩ (hP.sub [0, 1, 2, 3] rfl) (hD.sub [0, 1, 2, 3] (by decide) rfl)
set_option maxRecDepth 40000 in
set_option maxHeartbeats 4000000 in
theorem c_X12_write (l : Launch) (D : va_G) (K : Nat → ClassId) (md : Nat) (ma1 : Nat) (ma2 : Nat) (ma3 : Nat) (ma4 : Nat) (ma6 : Nat) (ma14 : Nat) (ma21 : Nat) (ma22 : Nat) (ma23 : Nat) (ma24 : Nat) (ma26 : Nat) (ma27 : Nat) (ma28 : Nat) (ma29 : Nat) (ma30 : Nat) (ma31 : Nat) (ma32 : Nat) (ma33 : Nat) (ma34 : Nat) (ma35 : Nat) (ma36 : Nat) (ma40 : Nat) (ma41 : Nat) (ma42 : Nat) (ma45 : Nat) (ma46 : Nat) (ma47 : Nat) (ma49 : Nat) (ma50 : Nat) (ma51 : Nat) (ma52 : Nat) (mn0 : Int32) (mn5 : Int32) (mn7 : Int32) (mn8 : Int32) (mn9 : Int32) (mn10 : Int32) (mn11 : Int32) (mn12 : Int32) (mn13 : Int32) (mn15 : Int32) (mn16 : Int32) (mn17 : Int32) (mn18 : Int32) (mn19 : Int32) (mn20 : Int32) (mn25 : Int32) (mn37 : Int32) (mn38 : Int32) (mn39 : Int32) (mn43 : Int32) (mn44 : Int32) (mn48 : Int32) (mf49 : Nat → Int32) (mf50 : Nat → Int32) (mf51 : Nat → Int64) (p0 : Int32) (p1 : Int32) (p2 : Int64) (hs49_0 : Rg (-1) 60 4 mf49) (hs50_0 : Rg 0 3 4 mf50) : Ci (S := ((Nat → Int32) × (Nat → Nat → Int32) × (Nat → Nat → Int64))) l D K yX12_write cX12_write 5 (some .int) 2 45 0 0 [.ref md, .int p0, .int p1, .long p2] [(md, .inr (11, [.int mn0, .ref ma1, .ref ma2, .ref ma3, .ref ma4, .int mn5, .ref ma6, .int mn7, .int mn8, .int mn9, .int mn10, .int mn11, .int mn12, .int mn13, .ref ma14, .int mn15, .int mn16, .int mn17, .int mn18, .int mn19, .int mn20, .ref ma21, .ref ma22, .ref ma23, .ref ma24, .int mn25, .ref ma26, .ref ma27, .ref ma28, .ref ma29, .ref ma30, .ref ma31, .ref ma32, .ref ma33, .ref ma34, .ref ma35, .ref ma36, .int mn37, .int mn38, .int mn39, .ref ma40, .ref ma41, .ref ma42, .int mn43, .int mn44, .ref ma45, .ref ma46, .ref ma47, .int mn48, .ref ma49, .ref ma50, .ref ma51, .ref ma52])), (ma49, .inl (K 1, 4, .inl mf49)), (ma50, .inl (K 1, 4, .inl mf50)), (ma51, .inl (K 2, 240, .inr (.inl mf51)))] (fun r u => ((r = (-2) ∧ (p0.toInt < 0 ∨ 3 < p0.toInt)) ∨ (r = (-6) ∧ (0 ≤ p0.toInt) ∧ (p0.toInt ≤ 3) ∧ ((mf49 p0.toInt.toNat).toInt = -1)) ∨ (r = (-7) ∧ (0 ≤ p0.toInt) ∧ (p0.toInt ≤ 3) ∧ ((mf49 p0.toInt.toNat).toInt ≠ -1) ∧ (p1.toInt < 0 ∨ (mf49 p0.toInt.toNat).toInt ≤ p1.toInt)) ∨ (r = 0 ∧ (0 ≤ p0.toInt) ∧ (p0.toInt ≤ 3) ∧ ((mf49 p0.toInt.toNat).toInt ≠ -1) ∧ (0 ≤ p1.toInt) ∧ (p1.toInt < (mf49 p0.toInt.toNat).toInt)))) (fun u => [(md, .inr (11, [.int mn0, .ref ma1, .ref ma2, .ref ma3, .ref ma4, .int mn5, .ref ma6, .int mn7, .int mn8, .int mn9, .int mn10, .int mn11, .int mn12, .int mn13, .ref ma14, .int mn15, .int mn16, .int mn17, .int mn18, .int mn19, .int mn20, .ref ma21, .ref ma22, .ref ma23, .ref ma24, .int mn25, .ref ma26, .ref ma27, .ref ma28, .ref ma29, .ref ma30, .ref ma31, .ref ma32, .ref ma33, .ref ma34, .ref ma35, .ref ma36, .int mn37, .int mn38, .int mn39, .ref ma40, .ref ma41, .ref ma42, .int mn43, .int mn44, .ref ma45, .ref ma46, .ref ma47, .int mn48, .ref ma49, .ref ma50, .ref ma51, .ref ma52])), (ma49, .inl (K 1, 4, .inl mf49)), (ma50, .inl (K 1, 4, .inl mf50)), (ma51, .inl (K 2, 240, .inr (.inl (u.2.2 0))))]) := by
  intro sz
  refine ch_of (y := yX12_write) (cc := cX12_write) (maxL := 5) (ret := (some .int)) (av := [.ref md, .int p0, .int p1, .long p2]) (ws := [(md, .inr (11, [.int mn0, .ref ma1, .ref ma2, .ref ma3, .ref ma4, .int mn5, .ref ma6, .int mn7, .int mn8, .int mn9, .int mn10, .int mn11, .int mn12, .int mn13, .ref ma14, .int mn15, .int mn16, .int mn17, .int mn18, .int mn19, .int mn20, .ref ma21, .ref ma22, .ref ma23, .ref ma24, .int mn25, .ref ma26, .ref ma27, .ref ma28, .ref ma29, .ref ma30, .ref ma31, .ref ma32, .ref ma33, .ref ma34, .ref ma35, .ref ma36, .int mn37, .int mn38, .int mn39, .ref ma40, .ref ma41, .ref ma42, .int mn43, .int mn44, .ref ma45, .ref ma46, .ref ma47, .int mn48, .ref ma49, .ref ma50, .ref ma51, .ref ma52])), (ma49, .inl (K 1, 4, .inl mf49)), (ma50, .inl (K 1, 4, .inl mf50)), (ma51, .inl (K 2, 240, .inr (.inl mf51)))]) (D := D) (K := K) (Qc := fun A => va_Qi (S := ((Nat → Int32) × (Nat → Nat → Int32) × (Nat → Nat → Int64))) (fun r u => ((r = (-2) ∧ (p0.toInt < 0 ∨ 3 < p0.toInt)) ∨ (r = (-6) ∧ (0 ≤ p0.toInt) ∧ (p0.toInt ≤ 3) ∧ ((mf49 p0.toInt.toNat).toInt = -1)) ∨ (r = (-7) ∧ (0 ≤ p0.toInt) ∧ (p0.toInt ≤ 3) ∧ ((mf49 p0.toInt.toNat).toInt ≠ -1) ∧ (p1.toInt < 0 ∨ (mf49 p0.toInt.toNat).toInt ≤ p1.toInt)) ∨ (r = 0 ∧ (0 ≤ p0.toInt) ∧ (p0.toInt ≤ 3) ∧ ((mf49 p0.toInt.toNat).toInt ≠ -1) ∧ (0 ≤ p1.toInt) ∧ (p1.toInt < (mf49 p0.toInt.toNat).toInt)))) (chB D A (fun u => [(md, .inr (11, [.int mn0, .ref ma1, .ref ma2, .ref ma3, .ref ma4, .int mn5, .ref ma6, .int mn7, .int mn8, .int mn9, .int mn10, .int mn11, .int mn12, .int mn13, .ref ma14, .int mn15, .int mn16, .int mn17, .int mn18, .int mn19, .int mn20, .ref ma21, .ref ma22, .ref ma23, .ref ma24, .int mn25, .ref ma26, .ref ma27, .ref ma28, .ref ma29, .ref ma30, .ref ma31, .ref ma32, .ref ma33, .ref ma34, .ref ma35, .ref ma36, .int mn37, .int mn38, .int mn39, .ref ma40, .ref ma41, .ref ma42, .int mn43, .int mn44, .ref ma45, .ref ma46, .ref ma47, .int mn48, .ref ma49, .ref ma50, .ref ma51, .ref ma52])), (ma49, .inl (K 1, 4, .inl mf49)), (ma50, .inl (K 1, 4, .inl mf50)), (ma51, .inl (K 2, 240, .inr (.inl (u.2.2 0))))])) A) (by decide) (Nat.le_of_ble_eq_true rfl) ?_
  intro p e s m below meth c A hC hr hk hin hE hD hA H locs hP hS ls hl
  replace hC : CallFix p m c cX12_write 5 s [.ref md, .int p0, .int p1, .long p2].toArray wl RX12 := hC
  have hx := hC.1
  have hb := hC.2.1
  have hml := hC.2.2.1
  have hown := hC.2.2.2.1
  have hts := hC.2.2.2.2
  replace hl : lv_has ls 5 [(0, .ref md), (1, .int p0), (2, .int p1), (3, .long p2)] := hl
  have kc_m1 : (-1 : Int32).toInt = -1 := by decide
  have kc_1 : (1 : Int32).toInt = 1 := by decide
  have kc_60 : (60 : Int32).toInt = 60 := by decide
  have kl_0 : (0 : Int64).toInt = 0 := by decide
  refine lv_iload_n hx hb dX12_write_0 rfl (lv_at hl 1 rfl) ?_
  refine ro_S (As := [.int p0]) (rest := []) hC hE kS_X12_334 (c_X12_isSlot l D K p0) (hP.sub (ws' := []) [] rfl) rfl hl.1 rfl (Nat.le_of_ble_eq_true rfl) (by decide) (by decide) dX12_write_1 (fun r15269 hq => ?_)
  rcases hq with ⟨rfl, h15266⟩ | ⟨rfl, h15267, h15268⟩
  · refine lv_if_ne (tgt := 10) hx hb dX12_write_4 (by decide) (fun h => absurd h (by decide)) (fun _ => ?_)
    refine lv_bipush (v := (-2)) hx hb dX12_write_7 (by decide) ?_
    refine W.widen (k := 0) (n := 0) (by decide) (by decide) ?_
    exact ch_iret hC hr hk hS dX12_write_9 ((fun k => [].getD k 0, fun k => [].getD k (fun _ => 0), fun k => [mf51].getD k (fun _ => 0)) : ((Nat → Int32) × (Nat → Nat → Int32) × (Nat → Nat → Int64))) (Or.inl ⟨rfl, (by omega)⟩) (hP.sub [0, 1, 2, 3] rfl) (hD.sub [0, 1, 2, 3] (by decide) rfl)
  · refine lv_if_ne (tgt := 10) hx hb dX12_write_4 (by decide) (fun _ => ?_) (fun h => absurd h (by decide))
    refine lv_aload_n hx hb dX12_write_10 rfl (lv_at hl 0 rfl) ?_
    refine va_get (D := D) (ci := 11) (v := .ref ma49) (C := RX12) (T := TX12) (N := 53) hx hb hts in_X12 hown hE.1 hP 0 rfl rfl 49 (by decide) (hts _ w_999) (fun _ h9 => h9) rfl dX12_write_11 ?_
    refine lv_iload_n hx hb dX12_write_14 rfl (lv_at hl 1 rfl) ?_
    refine va_iald hx hb hE.1 hP 1 1 rfl rfl (vp_in_iff.mpr (by omega)) dX12_write_15 ?_
    refine lv_topi (fun v15270 ev15270 => ?_)
    have zv15270 : v15270.toInt = (mf49 p0.toInt.toNat).toInt := by rw [ev15270]; rfl
    have tv15270 := rg_at hs49_0 ev15270 (in_lt (i := p0) (vp_in_iff.mpr (by omega)))
    refine lv_iconst (v := (-1)) hx hb dX12_write_16 (by decide) ?_
    refine lv_icmp_ne (tgt := 23) hx hb dX12_write_17 (by decide) (fun c15271 => ?_) (fun c15271 => ?_)
    · replace c15271 := ne_i c15271
      refine lv_iload_n hx hb dX12_write_23 rfl (lv_at hl 2 rfl) ?_
      refine lv_i2l hx hb dX12_write_24 rfl ?_
      refine lv_topl (fun v15272 ev15272 => ?_)
      refine lv_lconst (v := 0) hx hb dX12_write_25 (by decide) ?_
      refine lv_aload_n hx hb dX12_write_26 rfl (lv_at hl 0 rfl) ?_
      refine va_get (D := D) (ci := 11) (v := .ref ma49) (C := RX12) (T := TX12) (N := 53) hx hb hts in_X12 hown hE.1 hP 0 rfl rfl 49 (by decide) (hts _ w_999) (fun _ h9 => h9) rfl dX12_write_27 ?_
      refine lv_iload_n hx hb dX12_write_30 rfl (lv_at hl 1 rfl) ?_
      refine va_iald hx hb hE.1 hP 1 1 rfl rfl (vp_in_iff.mpr (by omega)) dX12_write_31 ?_
      refine lv_topi (fun v15273 ev15273 => ?_)
      have zv15273 : v15273.toInt = (mf49 p0.toInt.toNat).toInt := by rw [ev15273]; rfl
      have tv15273 := rg_at hs49_0 ev15273 (in_lt (i := p0) (vp_in_iff.mpr (by omega)))
      refine lv_iconst (v := 1) hx hb dX12_write_32 (by decide) ?_
      refine lv_isub hx hb dX12_write_33 ?_
      refine lv_topi (fun v15274 ev15274 => ?_)
      refine lv_i2l hx hb dX12_write_34 rfl ?_
      refine lv_topl (fun v15275 ev15275 => ?_)
      have tv15272 : v15272.toInt = (p1 : Int32).toInt := i2l_i ev15272
      have tv15274 : v15274.toInt = (v15273 : Int32).toInt - (1 : Int32).toInt := sub_i ev15274 (by omega) (by omega)
      have tv15275 : v15275.toInt = (v15274 : Int32).toInt := i2l_i ev15275
      refine ro_S (As := [.long v15272, .long 0, .long v15275]) (rest := []) hC hE kS_X12_115 (c_X12_in l D K v15272 0 v15275) (hP.sub (ws' := []) [] rfl) rfl hl.1 rfl (Nat.le_of_ble_eq_true rfl) (by decide) (by decide) dX12_write_35 (fun r15279 hq => ?_)
      rcases hq with ⟨rfl, h15276⟩ | ⟨rfl, h15277, h15278⟩
      · refine lv_if_ne (tgt := 44) hx hb dX12_write_38 (by decide) (fun h => absurd h (by decide)) (fun _ => ?_)
        refine lv_bipush (v := (-7)) hx hb dX12_write_41 (by decide) ?_
        refine W.widen (k := 0) (n := 0) (by decide) (by decide) ?_
        exact ch_iret hC hr hk hS dX12_write_43 ((fun k => [].getD k 0, fun k => [].getD k (fun _ => 0), fun k => [mf51].getD k (fun _ => 0)) : ((Nat → Int32) × (Nat → Nat → Int32) × (Nat → Nat → Int64))) (Or.inr (Or.inr (Or.inl ⟨rfl, (by omega), (by omega), (by omega), (by omega)⟩))) (hP.sub [0, 1, 2, 3] rfl) (hD.sub [0, 1, 2, 3] (by decide) rfl)
      · refine lv_if_ne (tgt := 44) hx hb dX12_write_38 (by decide) (fun _ => ?_) (fun h => absurd h (by decide))
        refine lv_aload_n hx hb dX12_write_44 rfl (lv_at hl 0 rfl) ?_
        refine va_get (D := D) (ci := 11) (v := .ref ma51) (C := RX12) (T := TX12) (N := 53) hx hb hts in_X12 hown hE.1 hP 0 rfl rfl 51 (by decide) (hts _ w_995) (fun _ h9 => h9) rfl dX12_write_45 ?_
        refine lv_bipush (v := 60) hx hb dX12_write_48 (by decide) ?_
        refine lv_iload_n hx hb dX12_write_50 rfl (lv_at hl 1 rfl) ?_
        refine lv_imul hx hb dX12_write_51 ?_
        refine lv_topi (fun v15280 ev15280 => ?_)
        refine lv_iload_n hx hb dX12_write_52 rfl (lv_at hl 2 rfl) ?_
        refine lv_iadd hx hb dX12_write_53 ?_
        refine lv_topi (fun v15281 ev15281 => ?_)
        refine lv_lload_n hx hb dX12_write_54 rfl (lv_at hl 3 rfl) ?_
        refine lv_aload_n hx hb dX12_write_55 rfl (lv_at hl 0 rfl) ?_
        refine va_get (D := D) (ci := 11) (v := .ref ma50) (C := RX12) (T := TX12) (N := 53) hx hb hts in_X12 hown hE.1 hP 0 rfl rfl 50 (by decide) (hts _ w_1150) (fun _ h9 => h9) rfl dX12_write_56 ?_
        refine lv_iload_n hx hb dX12_write_59 rfl (lv_at hl 1 rfl) ?_
        refine va_iald hx hb hE.1 hP 2 1 rfl rfl (vp_in_iff.mpr (by omega)) dX12_write_60 ?_
        refine lv_topi (fun v15282 ev15282 => ?_)
        have zv15282 : v15282.toInt = (mf50 p0.toInt.toNat).toInt := by rw [ev15282]; rfl
        have tv15282 := rg_at hs50_0 ev15282 (in_lt (i := p0) (vp_in_iff.mpr (by omega)))
        refine rol_S (As := [.long p2, .int v15282]) (rest := [.int v15281, .ref ma51]) hC hE kS_X12_495 (c_X12_cut l D K p2 v15282) (hP.sub (ws' := []) [] rfl) rfl hl.1 rfl (Nat.le_of_ble_eq_true rfl) (by decide) (by decide) dX12_write_61 (fun r15283 _ => ?_)
        have tv15280 : v15280.toInt = 60 * p0.toInt := mul_i ev15280 (by decide) rfl (by omega) (by omega)
        have tv15281 : v15281.toInt = (v15280 : Int32).toInt + (p1 : Int32).toInt := add_i ev15281 (by omega) (by omega)
        refine stl hx hb hE.1 hP hD hS 3 2 rfl rfl (vp_in_iff.mpr (by omega)) dX12_write_64 (fun g15284 eg15284 H locs hP hD hS => ?_)
        replace hP : va_P D vwCl [(md, .inr (11, [.int mn0, .ref ma1, .ref ma2, .ref ma3, .ref ma4, .int mn5, .ref ma6, .int mn7, .int mn8, .int mn9, .int mn10, .int mn11, .int mn12, .int mn13, .ref ma14, .int mn15, .int mn16, .int mn17, .int mn18, .int mn19, .int mn20, .ref ma21, .ref ma22, .ref ma23, .ref ma24, .int mn25, .ref ma26, .ref ma27, .ref ma28, .ref ma29, .ref ma30, .ref ma31, .ref ma32, .ref ma33, .ref ma34, .ref ma35, .ref ma36, .int mn37, .int mn38, .int mn39, .ref ma40, .ref ma41, .ref ma42, .int mn43, .int mn44, .ref ma45, .ref ma46, .ref ma47, .int mn48, .ref ma49, .ref ma50, .ref ma51, .ref ma52])), (ma49, .inl (K 1, 4, .inl mf49)), (ma50, .inl (K 1, 4, .inl mf50)), (ma51, .inl (K 2, 240, .inr (.inl g15284)))] H := hP
        replace hD : va_D A [(md, .inr (11, [.int mn0, .ref ma1, .ref ma2, .ref ma3, .ref ma4, .int mn5, .ref ma6, .int mn7, .int mn8, .int mn9, .int mn10, .int mn11, .int mn12, .int mn13, .ref ma14, .int mn15, .int mn16, .int mn17, .int mn18, .int mn19, .int mn20, .ref ma21, .ref ma22, .ref ma23, .ref ma24, .int mn25, .ref ma26, .ref ma27, .ref ma28, .ref ma29, .ref ma30, .ref ma31, .ref ma32, .ref ma33, .ref ma34, .ref ma35, .ref ma36, .int mn37, .int mn38, .int mn39, .ref ma40, .ref ma41, .ref ma42, .int mn43, .int mn44, .ref ma45, .ref ma46, .ref ma47, .int mn48, .ref ma49, .ref ma50, .ref ma51, .ref ma52])), (ma49, .inl (K 1, 4, .inl mf49)), (ma50, .inl (K 1, 4, .inl mf50)), (ma51, .inl (K 2, 240, .inr (.inl g15284)))] := hD
        refine lv_iconst (v := 0) hx hb dX12_write_65 (by decide) ?_
        refine W.widen (k := 0) (n := 0) (by decide) (by decide) ?_
        exact ch_iret hC hr hk hS dX12_write_66 ((fun k => [].getD k 0, fun k => [].getD k (fun _ => 0), fun k => [g15284].getD k (fun _ => 0)) : ((Nat → Int32) × (Nat → Nat → Int32) × (Nat → Nat → Int64))) (Or.inr (Or.inr (Or.inr ⟨rfl, (by omega), (by omega), (by omega), (by omega), (by omega)⟩))) (hP.sub [0, 1, 2, 3] rfl) (hD.sub [0, 1, 2, 3] (by decide) rfl)
    · replace c15271 := eq_i c15271
      refine lv_bipush (v := (-6)) hx hb dX12_write_20 (by decide) ?_
      refine W.widen (k := 0) (n := 0) (by decide) (by decide) ?_
      exact ch_iret hC hr hk hS dX12_write_22 ((fun k => [].getD k 0, fun k => [].getD k (fun _ => 0), fun k => [mf51].getD k (fun _ => 0)) : ((Nat → Int32) × (Nat → Nat → Int32) × (Nat → Nat → Int64))) (Or.inr (Or.inl ⟨rfl, (by omega), (by omega), (by omega)⟩)) (hP.sub [0, 1, 2, 3] rfl) (hD.sub [0, 1, 2, 3] (by decide) rfl)
set_option maxRecDepth 40000 in
set_option maxHeartbeats 4000000 in
theorem c_X12_paste (l : Launch) (D : va_G) (K : Nat → ClassId) (md : Nat) (ma1 : Nat) (ma2 : Nat) (ma3 : Nat) (ma4 : Nat) (ma6 : Nat) (ma14 : Nat) (ma21 : Nat) (ma22 : Nat) (ma23 : Nat) (ma24 : Nat) (ma26 : Nat) (ma27 : Nat) (ma28 : Nat) (ma29 : Nat) (ma30 : Nat) (ma31 : Nat) (ma32 : Nat) (ma33 : Nat) (ma34 : Nat) (ma35 : Nat) (ma36 : Nat) (ma40 : Nat) (ma41 : Nat) (ma42 : Nat) (ma45 : Nat) (ma46 : Nat) (ma47 : Nat) (ma49 : Nat) (ma50 : Nat) (ma51 : Nat) (ma52 : Nat) (mn0 : Int32) (mn5 : Int32) (mn7 : Int32) (mn8 : Int32) (mn9 : Int32) (mn10 : Int32) (mn11 : Int32) (mn12 : Int32) (mn13 : Int32) (mn15 : Int32) (mn16 : Int32) (mn17 : Int32) (mn18 : Int32) (mn19 : Int32) (mn20 : Int32) (mn25 : Int32) (mn37 : Int32) (mn38 : Int32) (mn39 : Int32) (mn43 : Int32) (mn44 : Int32) (mn48 : Int32) (mf49 : Nat → Int32) (mf50 : Nat → Int32) (mf51 : Nat → Int64) (mf52 : Nat → Int64) (p0 : Int32) (p1 : Int32) (p2 : Int32) (p3 : Int32) (p4 : Int32) (hs49_0 : Rg (-1) 60 4 mf49) (hs50_0 : Rg 0 3 4 mf50) : Ci (S := ((Nat → Int32) × (Nat → Nat → Int32) × (Nat → Nat → Int64))) l D K yX12_paste cX12_paste 7 (some .int) 2 45 0 0 [.ref md, .int p0, .int p1, .int p2, .int p3, .int p4] [(md, .inr (11, [.int mn0, .ref ma1, .ref ma2, .ref ma3, .ref ma4, .int mn5, .ref ma6, .int mn7, .int mn8, .int mn9, .int mn10, .int mn11, .int mn12, .int mn13, .ref ma14, .int mn15, .int mn16, .int mn17, .int mn18, .int mn19, .int mn20, .ref ma21, .ref ma22, .ref ma23, .ref ma24, .int mn25, .ref ma26, .ref ma27, .ref ma28, .ref ma29, .ref ma30, .ref ma31, .ref ma32, .ref ma33, .ref ma34, .ref ma35, .ref ma36, .int mn37, .int mn38, .int mn39, .ref ma40, .ref ma41, .ref ma42, .int mn43, .int mn44, .ref ma45, .ref ma46, .ref ma47, .int mn48, .ref ma49, .ref ma50, .ref ma51, .ref ma52])), (ma49, .inl (K 1, 4, .inl mf49)), (ma50, .inl (K 1, 4, .inl mf50)), (ma51, .inl (K 2, 240, .inr (.inl mf51))), (ma52, .inl (K 2, 60, .inr (.inl mf52)))] (fun r u => ((r = (-2) ∧ (p0.toInt < 0 ∨ 3 < p0.toInt ∨ p2.toInt < 0 ∨ 3 < p2.toInt)) ∨ (r = (-6) ∧ (0 ≤ p0.toInt) ∧ (p0.toInt ≤ 3) ∧ (0 ≤ p2.toInt) ∧ (p2.toInt ≤ 3) ∧ ((mf49 p0.toInt.toNat).toInt = -1 ∨ (mf49 p2.toInt.toNat).toInt = -1)) ∨ (r = (-8) ∧ (0 ≤ p0.toInt) ∧ (p0.toInt ≤ 3) ∧ (0 ≤ p2.toInt) ∧ (p2.toInt ≤ 3) ∧ ((mf49 p0.toInt.toNat).toInt ≠ -1) ∧ ((mf49 p2.toInt.toNat).toInt ≠ -1) ∧ ((mf50 p0.toInt.toNat).toInt ≠ (mf50 p2.toInt.toNat).toInt)) ∨ (r = (-7) ∧ (0 ≤ p0.toInt) ∧ (p0.toInt ≤ 3) ∧ (0 ≤ p2.toInt) ∧ (p2.toInt ≤ 3) ∧ ((mf49 p0.toInt.toNat).toInt ≠ -1) ∧ ((mf49 p2.toInt.toNat).toInt ≠ -1) ∧ ((mf50 p0.toInt.toNat).toInt = (mf50 p2.toInt.toNat).toInt) ∧ (p1.toInt < 0 ∨ p4.toInt < 0 ∨ p3.toInt < 0 ∨ (mf49 p0.toInt.toNat).toInt < p1.toInt + p4.toInt ∨ (mf49 p2.toInt.toNat).toInt < p3.toInt + p4.toInt)) ∨ (r = 0 ∧ (0 ≤ p0.toInt) ∧ (p0.toInt ≤ 3) ∧ (0 ≤ p2.toInt) ∧ (p2.toInt ≤ 3) ∧ ((mf49 p0.toInt.toNat).toInt ≠ -1) ∧ ((mf49 p2.toInt.toNat).toInt ≠ -1) ∧ ((mf50 p0.toInt.toNat).toInt = (mf50 p2.toInt.toNat).toInt) ∧ (0 ≤ p1.toInt) ∧ (0 ≤ p3.toInt) ∧ (0 ≤ p4.toInt) ∧ (p1.toInt + p4.toInt ≤ (mf49 p0.toInt.toNat).toInt) ∧ (p3.toInt + p4.toInt ≤ (mf49 p2.toInt.toNat).toInt)))) (fun u => [(md, .inr (11, [.int mn0, .ref ma1, .ref ma2, .ref ma3, .ref ma4, .int mn5, .ref ma6, .int mn7, .int mn8, .int mn9, .int mn10, .int mn11, .int mn12, .int mn13, .ref ma14, .int mn15, .int mn16, .int mn17, .int mn18, .int mn19, .int mn20, .ref ma21, .ref ma22, .ref ma23, .ref ma24, .int mn25, .ref ma26, .ref ma27, .ref ma28, .ref ma29, .ref ma30, .ref ma31, .ref ma32, .ref ma33, .ref ma34, .ref ma35, .ref ma36, .int mn37, .int mn38, .int mn39, .ref ma40, .ref ma41, .ref ma42, .int mn43, .int mn44, .ref ma45, .ref ma46, .ref ma47, .int mn48, .ref ma49, .ref ma50, .ref ma51, .ref ma52])), (ma49, .inl (K 1, 4, .inl mf49)), (ma50, .inl (K 1, 4, .inl mf50)), (ma51, .inl (K 2, 240, .inr (.inl (u.2.2 0)))), (ma52, .inl (K 2, 60, .inr (.inl (u.2.2 1))))]) := by
  intro sz
  refine ch_of (y := yX12_paste) (cc := cX12_paste) (maxL := 7) (ret := (some .int)) (av := [.ref md, .int p0, .int p1, .int p2, .int p3, .int p4]) (ws := [(md, .inr (11, [.int mn0, .ref ma1, .ref ma2, .ref ma3, .ref ma4, .int mn5, .ref ma6, .int mn7, .int mn8, .int mn9, .int mn10, .int mn11, .int mn12, .int mn13, .ref ma14, .int mn15, .int mn16, .int mn17, .int mn18, .int mn19, .int mn20, .ref ma21, .ref ma22, .ref ma23, .ref ma24, .int mn25, .ref ma26, .ref ma27, .ref ma28, .ref ma29, .ref ma30, .ref ma31, .ref ma32, .ref ma33, .ref ma34, .ref ma35, .ref ma36, .int mn37, .int mn38, .int mn39, .ref ma40, .ref ma41, .ref ma42, .int mn43, .int mn44, .ref ma45, .ref ma46, .ref ma47, .int mn48, .ref ma49, .ref ma50, .ref ma51, .ref ma52])), (ma49, .inl (K 1, 4, .inl mf49)), (ma50, .inl (K 1, 4, .inl mf50)), (ma51, .inl (K 2, 240, .inr (.inl mf51))), (ma52, .inl (K 2, 60, .inr (.inl mf52)))]) (D := D) (K := K) (Qc := fun A => va_Qi (S := ((Nat → Int32) × (Nat → Nat → Int32) × (Nat → Nat → Int64))) (fun r u => ((r = (-2) ∧ (p0.toInt < 0 ∨ 3 < p0.toInt ∨ p2.toInt < 0 ∨ 3 < p2.toInt)) ∨ (r = (-6) ∧ (0 ≤ p0.toInt) ∧ (p0.toInt ≤ 3) ∧ (0 ≤ p2.toInt) ∧ (p2.toInt ≤ 3) ∧ ((mf49 p0.toInt.toNat).toInt = -1 ∨ (mf49 p2.toInt.toNat).toInt = -1)) ∨ (r = (-8) ∧ (0 ≤ p0.toInt) ∧ (p0.toInt ≤ 3) ∧ (0 ≤ p2.toInt) ∧ (p2.toInt ≤ 3) ∧ ((mf49 p0.toInt.toNat).toInt ≠ -1) ∧ ((mf49 p2.toInt.toNat).toInt ≠ -1) ∧ ((mf50 p0.toInt.toNat).toInt ≠ (mf50 p2.toInt.toNat).toInt)) ∨ (r = (-7) ∧ (0 ≤ p0.toInt) ∧ (p0.toInt ≤ 3) ∧ (0 ≤ p2.toInt) ∧ (p2.toInt ≤ 3) ∧ ((mf49 p0.toInt.toNat).toInt ≠ -1) ∧ ((mf49 p2.toInt.toNat).toInt ≠ -1) ∧ ((mf50 p0.toInt.toNat).toInt = (mf50 p2.toInt.toNat).toInt) ∧ (p1.toInt < 0 ∨ p4.toInt < 0 ∨ p3.toInt < 0 ∨ (mf49 p0.toInt.toNat).toInt < p1.toInt + p4.toInt ∨ (mf49 p2.toInt.toNat).toInt < p3.toInt + p4.toInt)) ∨ (r = 0 ∧ (0 ≤ p0.toInt) ∧ (p0.toInt ≤ 3) ∧ (0 ≤ p2.toInt) ∧ (p2.toInt ≤ 3) ∧ ((mf49 p0.toInt.toNat).toInt ≠ -1) ∧ ((mf49 p2.toInt.toNat).toInt ≠ -1) ∧ ((mf50 p0.toInt.toNat).toInt = (mf50 p2.toInt.toNat).toInt) ∧ (0 ≤ p1.toInt) ∧ (0 ≤ p3.toInt) ∧ (0 ≤ p4.toInt) ∧ (p1.toInt + p4.toInt ≤ (mf49 p0.toInt.toNat).toInt) ∧ (p3.toInt + p4.toInt ≤ (mf49 p2.toInt.toNat).toInt)))) (chB D A (fun u => [(md, .inr (11, [.int mn0, .ref ma1, .ref ma2, .ref ma3, .ref ma4, .int mn5, .ref ma6, .int mn7, .int mn8, .int mn9, .int mn10, .int mn11, .int mn12, .int mn13, .ref ma14, .int mn15, .int mn16, .int mn17, .int mn18, .int mn19, .int mn20, .ref ma21, .ref ma22, .ref ma23, .ref ma24, .int mn25, .ref ma26, .ref ma27, .ref ma28, .ref ma29, .ref ma30, .ref ma31, .ref ma32, .ref ma33, .ref ma34, .ref ma35, .ref ma36, .int mn37, .int mn38, .int mn39, .ref ma40, .ref ma41, .ref ma42, .int mn43, .int mn44, .ref ma45, .ref ma46, .ref ma47, .int mn48, .ref ma49, .ref ma50, .ref ma51, .ref ma52])), (ma49, .inl (K 1, 4, .inl mf49)), (ma50, .inl (K 1, 4, .inl mf50)), (ma51, .inl (K 2, 240, .inr (.inl (u.2.2 0)))), (ma52, .inl (K 2, 60, .inr (.inl (u.2.2 1))))])) A) (by decide) (Nat.le_of_ble_eq_true rfl) ?_
  intro p e s m below meth c A hC hr hk hin hE hD hA H locs hP hS ls hl
  replace hC : CallFix p m c cX12_paste 7 s [.ref md, .int p0, .int p1, .int p2, .int p3, .int p4].toArray wl RX12 := hC
  have hx := hC.1
  have hb := hC.2.1
  have hml := hC.2.2.1
  have hown := hC.2.2.2.1
  have hts := hC.2.2.2.2
  replace hl : lv_has ls 7 [(0, .ref md), (1, .int p0), (2, .int p1), (3, .int p2), (4, .int p3), (5, .int p4)] := hl
  have kc_m1 : (-1 : Int32).toInt = -1 := by decide
  have kc_0 : (0 : Int32).toInt = 0 := by decide
  have kc_1 : (1 : Int32).toInt = 1 := by decide
  have kc_60 : (60 : Int32).toInt = 60 := by decide
  refine lv_iload_n hx hb dX12_paste_0 rfl (lv_at hl 1 rfl) ?_
  refine ro_S (As := [.int p0]) (rest := []) hC hE kS_X12_334 (c_X12_isSlot l D K p0) (hP.sub (ws' := []) [] rfl) rfl hl.1 rfl (Nat.le_of_ble_eq_true rfl) (by decide) (by decide) dX12_paste_1 (fun r15336 hq => ?_)
  rcases hq with ⟨rfl, h15333⟩ | ⟨rfl, h15334, h15335⟩
  · refine lv_if_eq (tgt := 14) hx hb dX12_paste_4 (by decide) (fun _ => ?_) (fun h => absurd h (by decide))
    refine lv_bipush (v := (-2)) hx hb dX12_paste_14 (by decide) ?_
    refine W.widen (k := 0) (n := 0) (by decide) (by decide) ?_
    exact ch_iret hC hr hk hS dX12_paste_16 ((fun k => [].getD k 0, fun k => [].getD k (fun _ => 0), fun k => [mf51, mf52].getD k (fun _ => 0)) : ((Nat → Int32) × (Nat → Nat → Int32) × (Nat → Nat → Int64))) (Or.inl ⟨rfl, (by omega)⟩) (hP.sub [0, 1, 2, 3, 4] rfl) (hD.sub [0, 1, 2, 3, 4] (by decide) rfl)
  · refine lv_if_eq (tgt := 14) hx hb dX12_paste_4 (by decide) (fun h => absurd h (by decide)) (fun _ => ?_)
    refine lv_iload_n hx hb dX12_paste_7 rfl (lv_at hl 3 rfl) ?_
    refine ro_S (As := [.int p2]) (rest := []) hC hE kS_X12_334 (c_X12_isSlot l D K p2) (hP.sub (ws' := []) [] rfl) rfl hl.1 rfl (Nat.le_of_ble_eq_true rfl) (by decide) (by decide) dX12_paste_8 (fun r15340 hq => ?_)
    rcases hq with ⟨rfl, h15337⟩ | ⟨rfl, h15338, h15339⟩
    · refine lv_if_ne (tgt := 17) hx hb dX12_paste_11 (by decide) (fun h => absurd h (by decide)) (fun _ => ?_)
      refine lv_bipush (v := (-2)) hx hb dX12_paste_14 (by decide) ?_
      refine W.widen (k := 0) (n := 0) (by decide) (by decide) ?_
      exact ch_iret hC hr hk hS dX12_paste_16 ((fun k => [].getD k 0, fun k => [].getD k (fun _ => 0), fun k => [mf51, mf52].getD k (fun _ => 0)) : ((Nat → Int32) × (Nat → Nat → Int32) × (Nat → Nat → Int64))) (Or.inl ⟨rfl, (by omega)⟩) (hP.sub [0, 1, 2, 3, 4] rfl) (hD.sub [0, 1, 2, 3, 4] (by decide) rfl)
    · refine lv_if_ne (tgt := 17) hx hb dX12_paste_11 (by decide) (fun _ => ?_) (fun h => absurd h (by decide))
      refine lv_aload_n hx hb dX12_paste_17 rfl (lv_at hl 0 rfl) ?_
      refine va_get (D := D) (ci := 11) (v := .ref ma49) (C := RX12) (T := TX12) (N := 53) hx hb hts in_X12 hown hE.1 hP 0 rfl rfl 49 (by decide) (hts _ w_999) (fun _ h9 => h9) rfl dX12_paste_18 ?_
      refine lv_iload_n hx hb dX12_paste_21 rfl (lv_at hl 1 rfl) ?_
      refine va_iald hx hb hE.1 hP 1 1 rfl rfl (vp_in_iff.mpr (by omega)) dX12_paste_22 ?_
      refine lv_topi (fun v15341 ev15341 => ?_)
      have zv15341 : v15341.toInt = (mf49 p0.toInt.toNat).toInt := by rw [ev15341]; rfl
      have tv15341 := rg_at hs49_0 ev15341 (in_lt (i := p0) (vp_in_iff.mpr (by omega)))
      refine lv_iconst (v := (-1)) hx hb dX12_paste_23 (by decide) ?_
      refine lv_icmp_eq (tgt := 37) hx hb dX12_paste_24 (by decide) (fun c15342 => ?_) (fun c15342 => ?_)
      · replace c15342 := eq_i c15342
        refine lv_bipush (v := (-6)) hx hb dX12_paste_37 (by decide) ?_
        refine W.widen (k := 0) (n := 0) (by decide) (by decide) ?_
        exact ch_iret hC hr hk hS dX12_paste_39 ((fun k => [].getD k 0, fun k => [].getD k (fun _ => 0), fun k => [mf51, mf52].getD k (fun _ => 0)) : ((Nat → Int32) × (Nat → Nat → Int32) × (Nat → Nat → Int64))) (Or.inr (Or.inl ⟨rfl, (by omega), (by omega), (by omega), (by omega), (by omega)⟩)) (hP.sub [0, 1, 2, 3, 4] rfl) (hD.sub [0, 1, 2, 3, 4] (by decide) rfl)
      · replace c15342 := ne_i c15342
        refine lv_aload_n hx hb dX12_paste_27 rfl (lv_at hl 0 rfl) ?_
        refine va_get (D := D) (ci := 11) (v := .ref ma49) (C := RX12) (T := TX12) (N := 53) hx hb hts in_X12 hown hE.1 hP 0 rfl rfl 49 (by decide) (hts _ w_999) (fun _ h9 => h9) rfl dX12_paste_28 ?_
        refine lv_iload_n hx hb dX12_paste_31 rfl (lv_at hl 3 rfl) ?_
        refine va_iald hx hb hE.1 hP 1 1 rfl rfl (vp_in_iff.mpr (by omega)) dX12_paste_32 ?_
        refine lv_topi (fun v15343 ev15343 => ?_)
        have zv15343 : v15343.toInt = (mf49 p2.toInt.toNat).toInt := by rw [ev15343]; rfl
        have tv15343 := rg_at hs49_0 ev15343 (in_lt (i := p2) (vp_in_iff.mpr (by omega)))
        refine lv_iconst (v := (-1)) hx hb dX12_paste_33 (by decide) ?_
        refine lv_icmp_ne (tgt := 40) hx hb dX12_paste_34 (by decide) (fun c15344 => ?_) (fun c15344 => ?_)
        · replace c15344 := ne_i c15344
          refine lv_aload_n hx hb dX12_paste_40 rfl (lv_at hl 0 rfl) ?_
          refine va_get (D := D) (ci := 11) (v := .ref ma50) (C := RX12) (T := TX12) (N := 53) hx hb hts in_X12 hown hE.1 hP 0 rfl rfl 50 (by decide) (hts _ w_1150) (fun _ h9 => h9) rfl dX12_paste_41 ?_
          refine lv_iload_n hx hb dX12_paste_44 rfl (lv_at hl 1 rfl) ?_
          refine va_iald hx hb hE.1 hP 2 1 rfl rfl (vp_in_iff.mpr (by omega)) dX12_paste_45 ?_
          refine lv_topi (fun v15345 ev15345 => ?_)
          have zv15345 : v15345.toInt = (mf50 p0.toInt.toNat).toInt := by rw [ev15345]; rfl
          have tv15345 := rg_at hs50_0 ev15345 (in_lt (i := p0) (vp_in_iff.mpr (by omega)))
          refine lv_aload_n hx hb dX12_paste_46 rfl (lv_at hl 0 rfl) ?_
          refine va_get (D := D) (ci := 11) (v := .ref ma50) (C := RX12) (T := TX12) (N := 53) hx hb hts in_X12 hown hE.1 hP 0 rfl rfl 50 (by decide) (hts _ w_1150) (fun _ h9 => h9) rfl dX12_paste_47 ?_
          refine lv_iload_n hx hb dX12_paste_50 rfl (lv_at hl 3 rfl) ?_
          refine va_iald hx hb hE.1 hP 2 1 rfl rfl (vp_in_iff.mpr (by omega)) dX12_paste_51 ?_
          refine lv_topi (fun v15346 ev15346 => ?_)
          have zv15346 : v15346.toInt = (mf50 p2.toInt.toNat).toInt := by rw [ev15346]; rfl
          have tv15346 := rg_at hs50_0 ev15346 (in_lt (i := p2) (vp_in_iff.mpr (by omega)))
          refine lv_icmp_eq (tgt := 58) hx hb dX12_paste_52 (by decide) (fun c15347 => ?_) (fun c15347 => ?_)
          · replace c15347 := eq_i c15347
            refine lv_iload_n hx hb dX12_paste_58 rfl (lv_at hl 2 rfl) ?_
            refine lv_if_lt (tgt := 107) hx hb dX12_paste_59 (by decide) (fun c15348 => ?_) (fun c15348 => ?_)
            · replace c15348 := lt_i c15348
              refine lv_bipush (v := (-7)) hx hb dX12_paste_107 (by decide) ?_
              refine W.widen (k := 0) (n := 0) (by decide) (by decide) ?_
              exact ch_iret hC hr hk hS dX12_paste_109 ((fun k => [].getD k 0, fun k => [].getD k (fun _ => 0), fun k => [mf51, mf52].getD k (fun _ => 0)) : ((Nat → Int32) × (Nat → Nat → Int32) × (Nat → Nat → Int64))) (Or.inr (Or.inr (Or.inr (Or.inl ⟨rfl, (by omega), (by omega), (by omega), (by omega), (by omega), (by omega), (by omega), (by omega)⟩)))) (hP.sub [0, 1, 2, 3, 4] rfl) (hD.sub [0, 1, 2, 3, 4] (by decide) rfl)
            · replace c15348 := nlt_i c15348
              refine lv_iload hx hb dX12_paste_62 (lv_at hl 4 rfl) ?_
              refine lv_if_lt (tgt := 107) hx hb dX12_paste_64 (by decide) (fun c15349 => ?_) (fun c15349 => ?_)
              · replace c15349 := lt_i c15349
                refine lv_bipush (v := (-7)) hx hb dX12_paste_107 (by decide) ?_
                refine W.widen (k := 0) (n := 0) (by decide) (by decide) ?_
                exact ch_iret hC hr hk hS dX12_paste_109 ((fun k => [].getD k 0, fun k => [].getD k (fun _ => 0), fun k => [mf51, mf52].getD k (fun _ => 0)) : ((Nat → Int32) × (Nat → Nat → Int32) × (Nat → Nat → Int64))) (Or.inr (Or.inr (Or.inr (Or.inl ⟨rfl, (by omega), (by omega), (by omega), (by omega), (by omega), (by omega), (by omega), (by omega)⟩)))) (hP.sub [0, 1, 2, 3, 4] rfl) (hD.sub [0, 1, 2, 3, 4] (by decide) rfl)
              · replace c15349 := nlt_i c15349
                refine lv_iload hx hb dX12_paste_67 (lv_at hl 5 rfl) ?_
                refine lv_if_lt (tgt := 107) hx hb dX12_paste_69 (by decide) (fun c15350 => ?_) (fun c15350 => ?_)
                · replace c15350 := lt_i c15350
                  refine lv_bipush (v := (-7)) hx hb dX12_paste_107 (by decide) ?_
                  refine W.widen (k := 0) (n := 0) (by decide) (by decide) ?_
                  exact ch_iret hC hr hk hS dX12_paste_109 ((fun k => [].getD k 0, fun k => [].getD k (fun _ => 0), fun k => [mf51, mf52].getD k (fun _ => 0)) : ((Nat → Int32) × (Nat → Nat → Int32) × (Nat → Nat → Int64))) (Or.inr (Or.inr (Or.inr (Or.inl ⟨rfl, (by omega), (by omega), (by omega), (by omega), (by omega), (by omega), (by omega), (by omega)⟩)))) (hP.sub [0, 1, 2, 3, 4] rfl) (hD.sub [0, 1, 2, 3, 4] (by decide) rfl)
                · replace c15350 := nlt_i c15350
                  refine lv_iload_n hx hb dX12_paste_72 rfl (lv_at hl 2 rfl) ?_
                  refine lv_i2l hx hb dX12_paste_73 rfl ?_
                  refine lv_topl (fun v15351 ev15351 => ?_)
                  refine lv_iload hx hb dX12_paste_74 (lv_at hl 5 rfl) ?_
                  refine lv_i2l hx hb dX12_paste_76 rfl ?_
                  refine lv_topl (fun v15352 ev15352 => ?_)
                  refine lv_ladd hx hb dX12_paste_77 ?_
                  refine lv_topl (fun v15353 ev15353 => ?_)
                  refine lv_aload_n hx hb dX12_paste_78 rfl (lv_at hl 0 rfl) ?_
                  refine va_get (D := D) (ci := 11) (v := .ref ma49) (C := RX12) (T := TX12) (N := 53) hx hb hts in_X12 hown hE.1 hP 0 rfl rfl 49 (by decide) (hts _ w_999) (fun _ h9 => h9) rfl dX12_paste_79 ?_
                  refine lv_iload_n hx hb dX12_paste_82 rfl (lv_at hl 1 rfl) ?_
                  refine va_iald hx hb hE.1 hP 1 1 rfl rfl (vp_in_iff.mpr (by omega)) dX12_paste_83 ?_
                  refine lv_topi (fun v15354 ev15354 => ?_)
                  have zv15354 : v15354.toInt = (mf49 p0.toInt.toNat).toInt := by rw [ev15354]; rfl
                  have tv15354 := rg_at hs49_0 ev15354 (in_lt (i := p0) (vp_in_iff.mpr (by omega)))
                  refine lv_i2l hx hb dX12_paste_84 rfl ?_
                  refine lv_topl (fun v15355 ev15355 => ?_)
                  refine W.lcmp hx hb dX12_paste_85 ?_
                  refine lv_topi (fun v15356 ev15356 => ?_)
                  have q15357 := i32_lo p1; have q15358 := i32_hi p1
                  have q15359 := i32_lo p4; have q15360 := i32_hi p4
                  have tv15351 : v15351.toInt = (p1 : Int32).toInt := i2l_i ev15351
                  have tv15352 : v15352.toInt = (p4 : Int32).toInt := i2l_i ev15352
                  have tv15353 : v15353.toInt = v15351.toInt + v15352.toInt := ladd_i ev15353 rfl rfl (by omega) (by omega)
                  have tv15355 : v15355.toInt = (v15354 : Int32).toInt := i2l_i ev15355
                  refine lv_if_gt (tgt := 107) hx hb dX12_paste_86 (by decide) (fun c15361 => ?_) (fun c15361 => ?_)
                  · replace c15361 := lc_gt ev15356 c15361
                    refine lv_bipush (v := (-7)) hx hb dX12_paste_107 (by decide) ?_
                    refine W.widen (k := 0) (n := 0) (by decide) (by decide) ?_
                    exact ch_iret hC hr hk hS dX12_paste_109 ((fun k => [].getD k 0, fun k => [].getD k (fun _ => 0), fun k => [mf51, mf52].getD k (fun _ => 0)) : ((Nat → Int32) × (Nat → Nat → Int32) × (Nat → Nat → Int64))) (Or.inr (Or.inr (Or.inr (Or.inl ⟨rfl, (by omega), (by omega), (by omega), (by omega), (by omega), (by omega), (by omega), (by omega)⟩)))) (hP.sub [0, 1, 2, 3, 4] rfl) (hD.sub [0, 1, 2, 3, 4] (by decide) rfl)
                  · replace c15361 := lc_ngt ev15356 c15361
                    refine lv_iload hx hb dX12_paste_89 (lv_at hl 4 rfl) ?_
                    refine lv_i2l hx hb dX12_paste_91 rfl ?_
                    refine lv_topl (fun v15362 ev15362 => ?_)
                    refine lv_iload hx hb dX12_paste_92 (lv_at hl 5 rfl) ?_
                    refine lv_i2l hx hb dX12_paste_94 rfl ?_
                    refine lv_topl (fun v15363 ev15363 => ?_)
                    refine lv_ladd hx hb dX12_paste_95 ?_
                    refine lv_topl (fun v15364 ev15364 => ?_)
                    refine lv_aload_n hx hb dX12_paste_96 rfl (lv_at hl 0 rfl) ?_
                    refine va_get (D := D) (ci := 11) (v := .ref ma49) (C := RX12) (T := TX12) (N := 53) hx hb hts in_X12 hown hE.1 hP 0 rfl rfl 49 (by decide) (hts _ w_999) (fun _ h9 => h9) rfl dX12_paste_97 ?_
                    refine lv_iload_n hx hb dX12_paste_100 rfl (lv_at hl 3 rfl) ?_
                    refine va_iald hx hb hE.1 hP 1 1 rfl rfl (vp_in_iff.mpr (by omega)) dX12_paste_101 ?_
                    refine lv_topi (fun v15365 ev15365 => ?_)
                    have zv15365 : v15365.toInt = (mf49 p2.toInt.toNat).toInt := by rw [ev15365]; rfl
                    have tv15365 := rg_at hs49_0 ev15365 (in_lt (i := p2) (vp_in_iff.mpr (by omega)))
                    refine lv_i2l hx hb dX12_paste_102 rfl ?_
                    refine lv_topl (fun v15366 ev15366 => ?_)
                    refine W.lcmp hx hb dX12_paste_103 ?_
                    refine lv_topi (fun v15367 ev15367 => ?_)
                    have q15368 := i32_lo p3; have q15369 := i32_hi p3
                    have q15370 := i32_lo p4; have q15371 := i32_hi p4
                    have tv15362 : v15362.toInt = (p3 : Int32).toInt := i2l_i ev15362
                    have tv15363 : v15363.toInt = (p4 : Int32).toInt := i2l_i ev15363
                    have tv15364 : v15364.toInt = v15362.toInt + v15363.toInt := ladd_i ev15364 rfl rfl (by omega) (by omega)
                    have tv15366 : v15366.toInt = (v15365 : Int32).toInt := i2l_i ev15366
                    refine lv_if_le (tgt := 110) hx hb dX12_paste_104 (by decide) (fun c15372 => ?_) (fun c15372 => ?_)
                    · replace c15372 := lc_le ev15367 c15372
                      refine lv_iconst (v := 0) hx hb dX12_paste_110 (by decide) ?_
                      refine lv_istore (lv' := [(6, .int 0), (0, .ref md), (1, .int p0), (2, .int p1), (3, .int p2), (4, .int p3), (5, .int p4)]) hx hb dX12_paste_111 hl (by decide) rfl (fun ls hl => ?_)
                      have hl' := hl; have hP' := hP; have hD' := hD; clear hl hP hD
                      obtain ⟨i15381, g15382, hi_113, hl, hP, hD⟩ : ∃ (i15381 : Int32) (g15382 : Nat → Int64), ((0 : Int) ≤ i15381.toInt) ∧ lv_has ls 7 [(6, .int i15381), (0, .ref md), (1, .int p0), (2, .int p1), (3, .int p2), (4, .int p3), (5, .int p4)] ∧ va_P D vwCl [(md, .inr (11, [.int mn0, .ref ma1, .ref ma2, .ref ma3, .ref ma4, .int mn5, .ref ma6, .int mn7, .int mn8, .int mn9, .int mn10, .int mn11, .int mn12, .int mn13, .ref ma14, .int mn15, .int mn16, .int mn17, .int mn18, .int mn19, .int mn20, .ref ma21, .ref ma22, .ref ma23, .ref ma24, .int mn25, .ref ma26, .ref ma27, .ref ma28, .ref ma29, .ref ma30, .ref ma31, .ref ma32, .ref ma33, .ref ma34, .ref ma35, .ref ma36, .int mn37, .int mn38, .int mn39, .ref ma40, .ref ma41, .ref ma42, .int mn43, .int mn44, .ref ma45, .ref ma46, .ref ma47, .int mn48, .ref ma49, .ref ma50, .ref ma51, .ref ma52])), (ma49, .inl (K 1, 4, .inl mf49)), (ma50, .inl (K 1, 4, .inl mf50)), (ma51, .inl (K 2, 240, .inr (.inl mf51))), (ma52, .inl (K 2, 60, .inr (.inl g15382)))] H ∧ va_D A [(md, .inr (11, [.int mn0, .ref ma1, .ref ma2, .ref ma3, .ref ma4, .int mn5, .ref ma6, .int mn7, .int mn8, .int mn9, .int mn10, .int mn11, .int mn12, .int mn13, .ref ma14, .int mn15, .int mn16, .int mn17, .int mn18, .int mn19, .int mn20, .ref ma21, .ref ma22, .ref ma23, .ref ma24, .int mn25, .ref ma26, .ref ma27, .ref ma28, .ref ma29, .ref ma30, .ref ma31, .ref ma32, .ref ma33, .ref ma34, .ref ma35, .ref ma36, .int mn37, .int mn38, .int mn39, .ref ma40, .ref ma41, .ref ma42, .int mn43, .int mn44, .ref ma45, .ref ma46, .ref ma47, .int mn48, .ref ma49, .ref ma50, .ref ma51, .ref ma52])), (ma49, .inl (K 1, 4, .inl mf49)), (ma50, .inl (K 1, 4, .inl mf50)), (ma51, .inl (K 2, 240, .inr (.inl mf51))), (ma52, .inl (K 2, 60, .inr (.inl g15382)))] := ⟨_, _, by omega, hl', hP', hD'⟩
                      clear hl' hP' hD'
                      obtain ⟨n_113, hn_113⟩ : ∃ n : Nat, (60 - i15381.toInt).toNat < n := ⟨_, Nat.lt_succ_self _⟩
                      induction n_113 generalizing i15381 g15382 H locs ls with
                      | zero => exact absurd hn_113 (Nat.not_lt_zero _)
                      | succ n_113 ih_113 =>
                        refine lv_iload hx hb dX12_paste_113 (lv_at hl 0 rfl) ?_
                        refine lv_iload hx hb dX12_paste_115 (lv_at hl 6 rfl) ?_
                        refine lv_icmp_ge (tgt := 147) hx hb dX12_paste_117 (by decide) (fun c15383 => ?_) (fun c15383 => ?_)
                        · replace c15383 := le_i c15383
                          refine lv_iconst (v := 0) hx hb dX12_paste_147 (by decide) ?_
                          refine lv_istore (lv' := [(6, .int 0), (0, .ref md), (1, .int p0), (2, .int p1), (3, .int p2), (4, .int p3), (5, .int p4)]) hx hb dX12_paste_148 hl (by decide) rfl (fun ls hl => ?_)
                          have hl' := hl; have hP' := hP; have hD' := hD; clear hl hP hD
                          obtain ⟨i15392, g15393, hi_150, hl, hP, hD⟩ : ∃ (i15392 : Int32) (g15393 : Nat → Int64), ((0 : Int) ≤ i15392.toInt) ∧ lv_has ls 7 [(6, .int i15392), (0, .ref md), (1, .int p0), (2, .int p1), (3, .int p2), (4, .int p3), (5, .int p4)] ∧ va_P D vwCl [(md, .inr (11, [.int mn0, .ref ma1, .ref ma2, .ref ma3, .ref ma4, .int mn5, .ref ma6, .int mn7, .int mn8, .int mn9, .int mn10, .int mn11, .int mn12, .int mn13, .ref ma14, .int mn15, .int mn16, .int mn17, .int mn18, .int mn19, .int mn20, .ref ma21, .ref ma22, .ref ma23, .ref ma24, .int mn25, .ref ma26, .ref ma27, .ref ma28, .ref ma29, .ref ma30, .ref ma31, .ref ma32, .ref ma33, .ref ma34, .ref ma35, .ref ma36, .int mn37, .int mn38, .int mn39, .ref ma40, .ref ma41, .ref ma42, .int mn43, .int mn44, .ref ma45, .ref ma46, .ref ma47, .int mn48, .ref ma49, .ref ma50, .ref ma51, .ref ma52])), (ma49, .inl (K 1, 4, .inl mf49)), (ma50, .inl (K 1, 4, .inl mf50)), (ma51, .inl (K 2, 240, .inr (.inl g15393))), (ma52, .inl (K 2, 60, .inr (.inl g15382)))] H ∧ va_D A [(md, .inr (11, [.int mn0, .ref ma1, .ref ma2, .ref ma3, .ref ma4, .int mn5, .ref ma6, .int mn7, .int mn8, .int mn9, .int mn10, .int mn11, .int mn12, .int mn13, .ref ma14, .int mn15, .int mn16, .int mn17, .int mn18, .int mn19, .int mn20, .ref ma21, .ref ma22, .ref ma23, .ref ma24, .int mn25, .ref ma26, .ref ma27, .ref ma28, .ref ma29, .ref ma30, .ref ma31, .ref ma32, .ref ma33, .ref ma34, .ref ma35, .ref ma36, .int mn37, .int mn38, .int mn39, .ref ma40, .ref ma41, .ref ma42, .int mn43, .int mn44, .ref ma45, .ref ma46, .ref ma47, .int mn48, .ref ma49, .ref ma50, .ref ma51, .ref ma52])), (ma49, .inl (K 1, 4, .inl mf49)), (ma50, .inl (K 1, 4, .inl mf50)), (ma51, .inl (K 2, 240, .inr (.inl g15393))), (ma52, .inl (K 2, 60, .inr (.inl g15382)))] := ⟨_, _, by omega, hl', hP', hD'⟩
                          clear hl' hP' hD'
                          obtain ⟨n_150, hn_150⟩ : ∃ n : Nat, (60 - i15392.toInt).toNat < n := ⟨_, Nat.lt_succ_self _⟩
                          induction n_150 generalizing i15392 g15393 H locs ls with
                          | zero => exact absurd hn_150 (Nat.not_lt_zero _)
                          | succ n_150 ih_150 =>
                            refine lv_iload hx hb dX12_paste_150 (lv_at hl 0 rfl) ?_
                            refine lv_iload hx hb dX12_paste_152 (lv_at hl 6 rfl) ?_
                            refine lv_icmp_ge (tgt := 185) hx hb dX12_paste_154 (by decide) (fun c15394 => ?_) (fun c15394 => ?_)
                            · replace c15394 := le_i c15394
                              refine lv_iconst (v := 0) hx hb dX12_paste_185 (by decide) ?_
                              refine W.widen (k := 0) (n := 0) (by decide) (by decide) ?_
                              exact ch_iret hC hr hk hS dX12_paste_186 ((fun k => [].getD k 0, fun k => [].getD k (fun _ => 0), fun k => [g15393, g15382].getD k (fun _ => 0)) : ((Nat → Int32) × (Nat → Nat → Int32) × (Nat → Nat → Int64))) (Or.inr (Or.inr (Or.inr (Or.inr ⟨rfl, (by omega), (by omega), (by omega), (by omega), (by omega), (by omega), (by omega), (by omega), (by omega), (by omega), (by omega), (by omega)⟩)))) (hP.sub [0, 1, 2, 3, 4] rfl) (hD.sub [0, 1, 2, 3, 4] (by decide) rfl)
                            · replace c15394 := nle_i c15394
                              refine lv_aload_n hx hb dX12_paste_157 rfl (lv_at hl 1 rfl) ?_
                              refine va_get (D := D) (ci := 11) (v := .ref ma51) (C := RX12) (T := TX12) (N := 53) hx hb hts in_X12 hown hE.1 hP 0 rfl rfl 51 (by decide) (hts _ w_995) (fun _ h9 => h9) rfl dX12_paste_158 ?_
                              refine lv_bipush (v := 60) hx hb dX12_paste_161 (by decide) ?_
                              refine lv_iload_n hx hb dX12_paste_163 rfl (lv_at hl 4 rfl) ?_
                              refine lv_imul hx hb dX12_paste_164 ?_
                              refine lv_topi (fun v15395 ev15395 => ?_)
                              refine lv_iload hx hb dX12_paste_165 (lv_at hl 5 rfl) ?_
                              refine lv_iadd hx hb dX12_paste_167 ?_
                              refine lv_topi (fun v15396 ev15396 => ?_)
                              refine lv_iload hx hb dX12_paste_168 (lv_at hl 0 rfl) ?_
                              refine lv_iadd hx hb dX12_paste_170 ?_
                              refine lv_topi (fun v15397 ev15397 => ?_)
                              refine lv_aload_n hx hb dX12_paste_171 rfl (lv_at hl 1 rfl) ?_
                              refine va_get (D := D) (ci := 11) (v := .ref ma52) (C := RX12) (T := TX12) (N := 53) hx hb hts in_X12 hown hE.1 hP 0 rfl rfl 52 (by decide) (hts _ w_1154) (fun _ h9 => h9) rfl dX12_paste_172 ?_
                              refine lv_iload hx hb dX12_paste_175 (lv_at hl 0 rfl) ?_
                              refine va_lald hx hb hE.1 hP 4 2 rfl rfl (vp_in_iff.mpr (by omega)) dX12_paste_177 ?_
                              refine lv_topl (fun v15398 ev15398 => ?_)
                              have tv15395 : v15395.toInt = 60 * p2.toInt := mul_i ev15395 (by decide) rfl (by omega) (by omega)
                              have tv15396 : v15396.toInt = (v15395 : Int32).toInt + (p3 : Int32).toInt := add_i ev15396 (by omega) (by omega)
                              have tv15397 : v15397.toInt = (v15396 : Int32).toInt + (i15392 : Int32).toInt := add_i ev15397 (by omega) (by omega)
                              refine stl hx hb hE.1 hP hD hS 3 2 rfl rfl (vp_in_iff.mpr (by omega)) dX12_paste_178 (fun g15399 eg15399 H locs hP hD hS => ?_)
                              replace hP : va_P D vwCl [(md, .inr (11, [.int mn0, .ref ma1, .ref ma2, .ref ma3, .ref ma4, .int mn5, .ref ma6, .int mn7, .int mn8, .int mn9, .int mn10, .int mn11, .int mn12, .int mn13, .ref ma14, .int mn15, .int mn16, .int mn17, .int mn18, .int mn19, .int mn20, .ref ma21, .ref ma22, .ref ma23, .ref ma24, .int mn25, .ref ma26, .ref ma27, .ref ma28, .ref ma29, .ref ma30, .ref ma31, .ref ma32, .ref ma33, .ref ma34, .ref ma35, .ref ma36, .int mn37, .int mn38, .int mn39, .ref ma40, .ref ma41, .ref ma42, .int mn43, .int mn44, .ref ma45, .ref ma46, .ref ma47, .int mn48, .ref ma49, .ref ma50, .ref ma51, .ref ma52])), (ma49, .inl (K 1, 4, .inl mf49)), (ma50, .inl (K 1, 4, .inl mf50)), (ma51, .inl (K 2, 240, .inr (.inl g15399))), (ma52, .inl (K 2, 60, .inr (.inl g15382)))] H := hP
                              replace hD : va_D A [(md, .inr (11, [.int mn0, .ref ma1, .ref ma2, .ref ma3, .ref ma4, .int mn5, .ref ma6, .int mn7, .int mn8, .int mn9, .int mn10, .int mn11, .int mn12, .int mn13, .ref ma14, .int mn15, .int mn16, .int mn17, .int mn18, .int mn19, .int mn20, .ref ma21, .ref ma22, .ref ma23, .ref ma24, .int mn25, .ref ma26, .ref ma27, .ref ma28, .ref ma29, .ref ma30, .ref ma31, .ref ma32, .ref ma33, .ref ma34, .ref ma35, .ref ma36, .int mn37, .int mn38, .int mn39, .ref ma40, .ref ma41, .ref ma42, .int mn43, .int mn44, .ref ma45, .ref ma46, .ref ma47, .int mn48, .ref ma49, .ref ma50, .ref ma51, .ref ma52])), (ma49, .inl (K 1, 4, .inl mf49)), (ma50, .inl (K 1, 4, .inl mf50)), (ma51, .inl (K 2, 240, .inr (.inl g15399))), (ma52, .inl (K 2, 60, .inr (.inl g15382)))] := hD
                              obtain ⟨v15400, ev15400⟩ : ∃ z : Int32, z = i15392 + 1 := ⟨_, rfl⟩
                              refine lv_iinc (v := v15400) (lv' := [(6, .int v15400), (0, .ref md), (1, .int p0), (2, .int p1), (3, .int p2), (4, .int p3), (5, .int p4)]) hx hb dX12_paste_179 hl (k := 0) rfl (by rw [ev15400]; rfl) (by decide) rfl (fun ls hl => ?_)
                              refine lv_goto (tgt := 150) hx hb dX12_paste_182 (by decide) ?_
                              have tv15400 : v15400.toInt = (i15392 : Int32).toInt + (1 : Int32).toInt := add_i ev15400 (by omega) (by omega)
                              exact ih_150 (i15392 := v15400) (g15393 := g15399) (hi_150 := by omega) (H := H) (locs := locs) (ls := ls) (hn_150 := by omega) (hP := hP) (hD := hD) (hS := hS) (hl := lv_sub hl [0, 1, 2, 3, 4, 5, 6] rfl)
                        · replace c15383 := nle_i c15383
                          refine lv_aload_n hx hb dX12_paste_120 rfl (lv_at hl 1 rfl) ?_
                          refine va_get (D := D) (ci := 11) (v := .ref ma52) (C := RX12) (T := TX12) (N := 53) hx hb hts in_X12 hown hE.1 hP 0 rfl rfl 52 (by decide) (hts _ w_1154) (fun _ h9 => h9) rfl dX12_paste_121 ?_
                          refine lv_iload hx hb dX12_paste_124 (lv_at hl 0 rfl) ?_
                          refine lv_aload_n hx hb dX12_paste_126 rfl (lv_at hl 1 rfl) ?_
                          refine va_get (D := D) (ci := 11) (v := .ref ma51) (C := RX12) (T := TX12) (N := 53) hx hb hts in_X12 hown hE.1 hP 0 rfl rfl 51 (by decide) (hts _ w_995) (fun _ h9 => h9) rfl dX12_paste_127 ?_
                          refine lv_bipush (v := 60) hx hb dX12_paste_130 (by decide) ?_
                          refine lv_iload_n hx hb dX12_paste_132 rfl (lv_at hl 2 rfl) ?_
                          refine lv_imul hx hb dX12_paste_133 ?_
                          refine lv_topi (fun v15401 ev15401 => ?_)
                          refine lv_iload_n hx hb dX12_paste_134 rfl (lv_at hl 3 rfl) ?_
                          refine lv_iadd hx hb dX12_paste_135 ?_
                          refine lv_topi (fun v15402 ev15402 => ?_)
                          refine lv_iload hx hb dX12_paste_136 (lv_at hl 0 rfl) ?_
                          refine lv_iadd hx hb dX12_paste_138 ?_
                          refine lv_topi (fun v15403 ev15403 => ?_)
                          have tv15401 : v15401.toInt = 60 * p0.toInt := mul_i ev15401 (by decide) rfl (by omega) (by omega)
                          have tv15402 : v15402.toInt = (v15401 : Int32).toInt + (p1 : Int32).toInt := add_i ev15402 (by omega) (by omega)
                          have tv15403 : v15403.toInt = (v15402 : Int32).toInt + (i15381 : Int32).toInt := add_i ev15403 (by omega) (by omega)
                          refine va_lald hx hb hE.1 hP 3 2 rfl rfl (vp_in_iff.mpr (by omega)) dX12_paste_139 ?_
                          refine lv_topl (fun v15404 ev15404 => ?_)
                          refine stl hx hb hE.1 hP hD hS 4 2 rfl rfl (vp_in_iff.mpr (by omega)) dX12_paste_140 (fun g15405 eg15405 H locs hP hD hS => ?_)
                          replace hP : va_P D vwCl [(md, .inr (11, [.int mn0, .ref ma1, .ref ma2, .ref ma3, .ref ma4, .int mn5, .ref ma6, .int mn7, .int mn8, .int mn9, .int mn10, .int mn11, .int mn12, .int mn13, .ref ma14, .int mn15, .int mn16, .int mn17, .int mn18, .int mn19, .int mn20, .ref ma21, .ref ma22, .ref ma23, .ref ma24, .int mn25, .ref ma26, .ref ma27, .ref ma28, .ref ma29, .ref ma30, .ref ma31, .ref ma32, .ref ma33, .ref ma34, .ref ma35, .ref ma36, .int mn37, .int mn38, .int mn39, .ref ma40, .ref ma41, .ref ma42, .int mn43, .int mn44, .ref ma45, .ref ma46, .ref ma47, .int mn48, .ref ma49, .ref ma50, .ref ma51, .ref ma52])), (ma49, .inl (K 1, 4, .inl mf49)), (ma50, .inl (K 1, 4, .inl mf50)), (ma51, .inl (K 2, 240, .inr (.inl mf51))), (ma52, .inl (K 2, 60, .inr (.inl g15405)))] H := hP
                          replace hD : va_D A [(md, .inr (11, [.int mn0, .ref ma1, .ref ma2, .ref ma3, .ref ma4, .int mn5, .ref ma6, .int mn7, .int mn8, .int mn9, .int mn10, .int mn11, .int mn12, .int mn13, .ref ma14, .int mn15, .int mn16, .int mn17, .int mn18, .int mn19, .int mn20, .ref ma21, .ref ma22, .ref ma23, .ref ma24, .int mn25, .ref ma26, .ref ma27, .ref ma28, .ref ma29, .ref ma30, .ref ma31, .ref ma32, .ref ma33, .ref ma34, .ref ma35, .ref ma36, .int mn37, .int mn38, .int mn39, .ref ma40, .ref ma41, .ref ma42, .int mn43, .int mn44, .ref ma45, .ref ma46, .ref ma47, .int mn48, .ref ma49, .ref ma50, .ref ma51, .ref ma52])), (ma49, .inl (K 1, 4, .inl mf49)), (ma50, .inl (K 1, 4, .inl mf50)), (ma51, .inl (K 2, 240, .inr (.inl mf51))), (ma52, .inl (K 2, 60, .inr (.inl g15405)))] := hD
                          obtain ⟨v15406, ev15406⟩ : ∃ z : Int32, z = i15381 + 1 := ⟨_, rfl⟩
                          refine lv_iinc (v := v15406) (lv' := [(6, .int v15406), (0, .ref md), (1, .int p0), (2, .int p1), (3, .int p2), (4, .int p3), (5, .int p4)]) hx hb dX12_paste_141 hl (k := 0) rfl (by rw [ev15406]; rfl) (by decide) rfl (fun ls hl => ?_)
                          refine lv_goto (tgt := 113) hx hb dX12_paste_144 (by decide) ?_
                          have tv15406 : v15406.toInt = (i15381 : Int32).toInt + (1 : Int32).toInt := add_i ev15406 (by omega) (by omega)
                          exact ih_113 (i15381 := v15406) (g15382 := g15405) (hi_113 := by omega) (H := H) (locs := locs) (ls := ls) (hn_113 := by omega) (hP := hP) (hD := hD) (hS := hS) (hl := lv_sub hl [0, 1, 2, 3, 4, 5, 6] rfl)
                    · replace c15372 := lc_nle ev15367 c15372
                      refine lv_bipush (v := (-7)) hx hb dX12_paste_107 (by decide) ?_
                      refine W.widen (k := 0) (n := 0) (by decide) (by decide) ?_
                      exact ch_iret hC hr hk hS dX12_paste_109 ((fun k => [].getD k 0, fun k => [].getD k (fun _ => 0), fun k => [mf51, mf52].getD k (fun _ => 0)) : ((Nat → Int32) × (Nat → Nat → Int32) × (Nat → Nat → Int64))) (Or.inr (Or.inr (Or.inr (Or.inl ⟨rfl, (by omega), (by omega), (by omega), (by omega), (by omega), (by omega), (by omega), (by omega)⟩)))) (hP.sub [0, 1, 2, 3, 4] rfl) (hD.sub [0, 1, 2, 3, 4] (by decide) rfl)
          · replace c15347 := ne_i c15347
            refine lv_bipush (v := (-8)) hx hb dX12_paste_55 (by decide) ?_
            refine W.widen (k := 0) (n := 0) (by decide) (by decide) ?_
            exact ch_iret hC hr hk hS dX12_paste_57 ((fun k => [].getD k 0, fun k => [].getD k (fun _ => 0), fun k => [mf51, mf52].getD k (fun _ => 0)) : ((Nat → Int32) × (Nat → Nat → Int32) × (Nat → Nat → Int64))) (Or.inr (Or.inr (Or.inl ⟨rfl, (by omega), (by omega), (by omega), (by omega), (by omega), (by omega), (by omega)⟩))) (hP.sub [0, 1, 2, 3, 4] rfl) (hD.sub [0, 1, 2, 3, 4] (by decide) rfl)
        · replace c15344 := eq_i c15344
          refine lv_bipush (v := (-6)) hx hb dX12_paste_37 (by decide) ?_
          refine W.widen (k := 0) (n := 0) (by decide) (by decide) ?_
          exact ch_iret hC hr hk hS dX12_paste_39 ((fun k => [].getD k 0, fun k => [].getD k (fun _ => 0), fun k => [mf51, mf52].getD k (fun _ => 0)) : ((Nat → Int32) × (Nat → Nat → Int32) × (Nat → Nat → Int64))) (Or.inr (Or.inl ⟨rfl, (by omega), (by omega), (by omega), (by omega), (by omega)⟩)) (hP.sub [0, 1, 2, 3, 4] rfl) (hD.sub [0, 1, 2, 3, 4] (by decide) rfl)
