set_option maxRecDepth 40000 in
set_option maxHeartbeats 4000000 in
theorem c_J7_fill_10 (l : Launch) (D : va_G) (K : Nat → ClassId) (a : Nat) (f : Nat → Int32) (p1 : Int32) : Cv (S := ((Nat → Int32) × (Nat → Nat → Int32) × (Nat → Nat → Int64))) l D K yJ7_fill_53178 cJ7_fill_53178 4 0 0 0 0 [.ref a, .int p1] [(a, .inl (K 1, 10, .inl f))] (fun _ => True) (fun u => [(a, .inl (K 1, 10, .inl (u.2.1 0)))]) := by
  intro sz
  refine ch_of (y := yJ7_fill_53178) (cc := cJ7_fill_53178) (maxL := 4) (ret := none) (av := [.ref a, .int p1]) (ws := [(a, .inl (K 1, 10, .inl f))]) (D := D) (K := K) (Qc := fun A => va_Qv (S := ((Nat → Int32) × (Nat → Nat → Int32) × (Nat → Nat → Int64))) (fun _ => True) (chB D A (fun u => [(a, .inl (K 1, 10, .inl (u.2.1 0)))])) A) (by decide) (Nat.le_of_ble_eq_true rfl) ?_
  intro p e s m below meth c A hC hr hk hin hE hD hA H locs hP hS ls hl
  replace hC : CallFix p m c cJ7_fill_53178 4 s [.ref a, .int p1].toArray wl RJ7 := hC
  have hx := hC.1
  have hb := hC.2.1
  have hml := hC.2.2.1
  have hown := hC.2.2.2.1
  have hts := hC.2.2.2.2
  replace hl : lv_has ls 4 [(0, .ref a), (1, .int p1)] := hl
  have kc_0 : (0 : Int32).toInt = 0 := by decide
  have kc_1 : (1 : Int32).toInt = 1 := by decide
  have kc_10 : (10 : Int32).toInt = 10 := by decide
  refine lv_iconst (v := 0) hx hb dJ7_fill_53178_0 (by decide) ?_
  refine lv_istore_n (lv' := [(2, .int 0), (0, .ref a), (1, .int p1)]) hx hb dJ7_fill_53178_1 rfl hl (by decide) rfl (fun ls hl => ?_)
  refine lv_aload_n hx hb dJ7_fill_53178_2 rfl (lv_at hl 1 rfl) ?_
  refine va_alen (v := 10) hx hb hE.1 hP 0 1 rfl rfl (show Int32.ofNat 10 = 10 by decide) dJ7_fill_53178_3 ?_
  refine lv_istore_n (lv' := [(3, .int 10), (2, .int 0), (0, .ref a), (1, .int p1)]) hx hb dJ7_fill_53178_4 rfl hl (by decide) rfl (fun ls hl => ?_)
  have hl' := hl; have hP' := hP; have hD' := hD; clear hl hP hD
  obtain ⟨i719, g720, hi_5, hl, hP, hD⟩ : ∃ (i719 : Int32) (g720 : Nat → Int32), ((0 : Int) ≤ i719.toInt) ∧ lv_has ls 4 [(3, .int 10), (2, .int i719), (0, .ref a), (1, .int p1)] ∧ va_P D vwCl [(a, .inl (K 1, 10, .inl g720))] H ∧ va_D A [(a, .inl (K 1, 10, .inl g720))] := ⟨_, _, by omega, hl', hP', hD'⟩
  clear hl' hP' hD'
  obtain ⟨n_5, hn_5⟩ : ∃ n : Nat, (10 - i719.toInt).toNat < n := ⟨_, Nat.lt_succ_self _⟩
  induction n_5 generalizing i719 g720 H locs ls with
  | zero => exact absurd hn_5 (Nat.not_lt_zero _)
  | succ n_5 ih_5 =>
    refine lv_iload_n hx hb dJ7_fill_53178_5 rfl (lv_at hl 1 rfl) ?_
    refine lv_iload_n hx hb dJ7_fill_53178_6 rfl (lv_at hl 0 rfl) ?_
    refine lv_icmp_ge (tgt := 20) hx hb dJ7_fill_53178_7 (by decide) (fun c721 => ?_) (fun c721 => ?_)
    · replace c721 := le_i c721
      refine W.widen (k := 0) (n := 0) (by decide) (by decide) ?_
      exact ch_vret hC hr hk hS dJ7_fill_53178_20 ((fun k => [].getD k 0, fun k => [g720].getD k (fun _ => 0), fun k => [].getD k (fun _ => 0)) : ((Nat → Int32) × (Nat → Nat → Int32) × (Nat → Nat → Int64))) trivial (hP.sub [0] rfl) (hD.sub [0] (by decide) rfl)
    · replace c721 := nle_i c721
      refine lv_aload_n hx hb dJ7_fill_53178_10 rfl (lv_at hl 2 rfl) ?_
      refine lv_iload_n hx hb dJ7_fill_53178_11 rfl (lv_at hl 1 rfl) ?_
      refine lv_iload_n hx hb dJ7_fill_53178_12 rfl (lv_at hl 3 rfl) ?_
      refine sti hx hb hE.1 hP hD hS 0 1 rfl rfl (vp_in_iff.mpr (by omega)) dJ7_fill_53178_13 (fun g722 eg722 H locs hP hD hS => ?_)
      replace hP : va_P D vwCl [(a, .inl (K 1, 10, .inl g722))] H := hP
      replace hD : va_D A [(a, .inl (K 1, 10, .inl g722))] := hD
      obtain ⟨v723, ev723⟩ : ∃ z : Int32, z = i719 + 1 := ⟨_, rfl⟩
      refine lv_iinc (v := v723) (lv' := [(2, .int v723), (3, .int 10), (0, .ref a), (1, .int p1)]) hx hb dJ7_fill_53178_14 hl (k := 1) rfl (by rw [ev723]; rfl) (by decide) rfl (fun ls hl => ?_)
      refine lv_goto (tgt := 5) hx hb dJ7_fill_53178_17 (by decide) ?_
      have tv723 : v723.toInt = (i719 : Int32).toInt + (1 : Int32).toInt := add_i ev723 (by omega) (by omega)
      exact ih_5 (i719 := v723) (g720 := g722) (hi_5 := by omega) (H := H) (locs := locs) (ls := ls) (hn_5 := by omega) (hP := hP) (hD := hD) (hS := hS) (hl := lv_sub hl [1, 0, 2, 3] rfl)
set_option maxRecDepth 40000 in
set_option maxHeartbeats 4000000 in
theorem c_X10_clear (l : Launch) (D : va_G) (K : Nat → ClassId) (w : Nat) (wa0 : Nat) (wa1 : Nat) (wa2 : Nat) (wa3 : Nat) (wa4 : Nat) (wa5 : Nat) (wa6 : Nat) (wa7 : Nat) (wn8 : Int32) (wn9 : Int32) (wn10 : Int32) (wn11 : Int32) (wf0 : Nat → Int32) (wf1 : Nat → Int32) : Cv (S := ((Nat → Int32) × (Nat → Nat → Int32) × (Nat → Nat → Int64))) l D K yX10_clear cX10_clear 2 1 23 0 0 [.ref w] [(w, .inr (9, [.ref wa0, .ref wa1, .ref wa2, .ref wa3, .ref wa4, .ref wa5, .ref wa6, .ref wa7, .int wn8, .int wn9, .int wn10, .int wn11])), (wa0, .inl (K 1, 40, .inl wf0)), (wa1, .inl (K 1, 10, .inl wf1))] (fun u => (0 ≤ (u.1 1).toInt) ∧ (0 ≤ (u.1 2).toInt)) (fun u => [(w, .inr (9, [.ref wa0, .ref wa1, .ref wa2, .ref wa3, .ref wa4, .ref wa5, .ref wa6, .ref wa7, .int (u.1 0), .int (u.1 1), .int (u.1 2), .int (u.1 3)])), (wa0, .inl (K 1, 40, .inl (u.2.1 0))), (wa1, .inl (K 1, 10, .inl (u.2.1 1)))]) := by
  intro sz
  refine ch_of (y := yX10_clear) (cc := cX10_clear) (maxL := 2) (ret := none) (av := [.ref w]) (ws := [(w, .inr (9, [.ref wa0, .ref wa1, .ref wa2, .ref wa3, .ref wa4, .ref wa5, .ref wa6, .ref wa7, .int wn8, .int wn9, .int wn10, .int wn11])), (wa0, .inl (K 1, 40, .inl wf0)), (wa1, .inl (K 1, 10, .inl wf1))]) (D := D) (K := K) (Qc := fun A => va_Qv (S := ((Nat → Int32) × (Nat → Nat → Int32) × (Nat → Nat → Int64))) (fun u => (0 ≤ (u.1 1).toInt) ∧ (0 ≤ (u.1 2).toInt)) (chB D A (fun u => [(w, .inr (9, [.ref wa0, .ref wa1, .ref wa2, .ref wa3, .ref wa4, .ref wa5, .ref wa6, .ref wa7, .int (u.1 0), .int (u.1 1), .int (u.1 2), .int (u.1 3)])), (wa0, .inl (K 1, 40, .inl (u.2.1 0))), (wa1, .inl (K 1, 10, .inl (u.2.1 1)))])) A) (by decide) (Nat.le_of_ble_eq_true rfl) ?_
  intro p e s m below meth c A hC hr hk hin hE hD hA H locs hP hS ls hl
  replace hC : CallFix p m c cX10_clear 2 s [.ref w].toArray wl RX10 := hC
  have hx := hC.1
  have hb := hC.2.1
  have hml := hC.2.2.1
  have hown := hC.2.2.2.1
  have hts := hC.2.2.2.2
  replace hl : lv_has ls 2 [(0, .ref w)] := hl
  have kc_0 : (0 : Int32).toInt = 0 := by decide
  have kc_1 : (1 : Int32).toInt = 1 := by decide
  have kc_40 : (40 : Int32).toInt = 40 := by decide
  refine lv_aload_n hx hb dX10_clear_0 rfl (lv_at hl 0 rfl) ?_
  refine va_get (D := D) (ci := 9) (v := .ref wa1) (C := RX10) (T := TX10) (N := 12) hx hb hts in_X10 hown hE.1 hP 0 rfl rfl 1 (by decide) (hts _ w_37) (fun _ h9 => h9) rfl dX10_clear_1 ?_
  refine lv_iconst (v := 0) hx hb dX10_clear_4 (by decide) ?_
  refine cv_S (As := [.ref wa1, .int 0]) (rest := []) (wc := [(wa1, .inl (K 1, 10, .inl wf1))]) (wr := [(w, .inr (9, [.ref wa0, .ref wa1, .ref wa2, .ref wa3, .ref wa4, .ref wa5, .ref wa6, .ref wa7, .int wn8, .int wn9, .int wn10, .int wn11])), (wa0, .inl (K 1, 40, .inl wf0))]) hC hE kS_X10_36 (c_J7_fill_10 l D K wa1 wf1 0) hP hD hS hA [2] [0, 1] rfl rfl rfl (by decide) (by decide) (by decide) rfl hl.1 rfl (Nat.le_of_ble_eq_true rfl) (by decide) (by decide) dX10_clear_5 (fun u731 H locs hw hP hD hS => ?_)
  replace hP : va_P D vwCl [(w, .inr (9, [.ref wa0, .ref wa1, .ref wa2, .ref wa3, .ref wa4, .ref wa5, .ref wa6, .ref wa7, .int wn8, .int wn9, .int wn10, .int wn11])), (wa0, .inl (K 1, 40, .inl wf0)), (wa1, .inl (K 1, 10, .inl (u731.2.1 0)))] H := hP
  replace hD : va_D A [(w, .inr (9, [.ref wa0, .ref wa1, .ref wa2, .ref wa3, .ref wa4, .ref wa5, .ref wa6, .ref wa7, .int wn8, .int wn9, .int wn10, .int wn11])), (wa0, .inl (K 1, 40, .inl wf0)), (wa1, .inl (K 1, 10, .inl (u731.2.1 0)))] := hD
  replace hP : va_P D vwCl [(w, .inr (9, [.ref wa0, .ref wa1, .ref wa2, .ref wa3, .ref wa4, .ref wa5, .ref wa6, .ref wa7, .int wn8, .int wn9, .int wn10, .int wn11])), (wa0, .inl (K 1, 40, .inl wf0)), (wa1, .inl (K 1, 10, .inl (u731.2.1 0)))] H := hP.sub [0, 1, 2] rfl
  replace hD : va_D A [(w, .inr (9, [.ref wa0, .ref wa1, .ref wa2, .ref wa3, .ref wa4, .ref wa5, .ref wa6, .ref wa7, .int wn8, .int wn9, .int wn10, .int wn11])), (wa0, .inl (K 1, 40, .inl wf0)), (wa1, .inl (K 1, 10, .inl (u731.2.1 0)))] := hD.sub [0, 1, 2] (by decide) rfl
  refine W.widen (k := 0) (n := 0) (by decide) (by decide) ?_
  refine lv_iconst (v := 0) hx hb dX10_clear_8 (by decide) ?_
  refine lv_istore_n (lv' := [(1, .int 0), (0, .ref w)]) hx hb dX10_clear_9 rfl hl (by decide) rfl (fun ls hl => ?_)
  have hl' := hl; have hP' := hP; have hD' := hD; clear hl hP hD
  obtain ⟨i738, g739, hi_10, hl, hP, hD⟩ : ∃ (i738 : Int32) (g739 : Nat → Int32), ((0 : Int) ≤ i738.toInt) ∧ lv_has ls 2 [(1, .int i738), (0, .ref w)] ∧ va_P D vwCl [(w, .inr (9, [.ref wa0, .ref wa1, .ref wa2, .ref wa3, .ref wa4, .ref wa5, .ref wa6, .ref wa7, .int wn8, .int wn9, .int wn10, .int wn11])), (wa0, .inl (K 1, 40, .inl g739)), (wa1, .inl (K 1, 10, .inl (u731.2.1 0)))] H ∧ va_D A [(w, .inr (9, [.ref wa0, .ref wa1, .ref wa2, .ref wa3, .ref wa4, .ref wa5, .ref wa6, .ref wa7, .int wn8, .int wn9, .int wn10, .int wn11])), (wa0, .inl (K 1, 40, .inl g739)), (wa1, .inl (K 1, 10, .inl (u731.2.1 0)))] := ⟨_, _, by omega, hl', hP', hD'⟩
  clear hl' hP' hD'
  obtain ⟨n_10, hn_10⟩ : ∃ n : Nat, (40 - i738.toInt).toNat < n := ⟨_, Nat.lt_succ_self _⟩
  induction n_10 generalizing i738 g739 H locs ls with
  | zero => exact absurd hn_10 (Nat.not_lt_zero _)
  | succ n_10 ih_10 =>
    refine lv_iload_n hx hb dX10_clear_10 rfl (lv_at hl 0 rfl) ?_
    refine lv_aload_n hx hb dX10_clear_11 rfl (lv_at hl 1 rfl) ?_
    refine va_get (D := D) (ci := 9) (v := .ref wa0) (C := RX10) (T := TX10) (N := 12) hx hb hts in_X10 hown hE.1 hP 0 rfl rfl 0 (by decide) (hts _ w_36) (fun _ h9 => h9) rfl dX10_clear_12 ?_
    refine va_alen (v := 40) hx hb hE.1 hP 1 1 rfl rfl (show Int32.ofNat 40 = 40 by decide) dX10_clear_15 ?_
    refine lv_icmp_ge (tgt := 34) hx hb dX10_clear_16 (by decide) (fun c740 => ?_) (fun c740 => ?_)
    · replace c740 := le_i c740
      refine lv_aload_n hx hb dX10_clear_34 rfl (lv_at hl 1 rfl) ?_
      refine lv_iconst (v := 0) hx hb dX10_clear_35 (by decide) ?_
      refine va_put (D := D) (ci := 9) (v := .int 0) (ty := .int) (C := RX10) (T := TX10) (N := 12) hx hb hts in_X10 tyX10 tyX10_ok nmX10 hown hE.1 hP hD hS 0 rfl rfl 8 (by decide) (hts _ w_21) (fun _ h9 => h9) rfl (by decide +kernel) rfl rfl (Nat.le_of_ble_eq_true rfl) dX10_clear_36 (fun H locs hP hD hS => ?_)
      replace hP : va_P D vwCl [(w, .inr (9, [.ref wa0, .ref wa1, .ref wa2, .ref wa3, .ref wa4, .ref wa5, .ref wa6, .ref wa7, .int 0, .int wn9, .int wn10, .int wn11])), (wa0, .inl (K 1, 40, .inl g739)), (wa1, .inl (K 1, 10, .inl (u731.2.1 0)))] H := hP
      replace hD : va_D A [(w, .inr (9, [.ref wa0, .ref wa1, .ref wa2, .ref wa3, .ref wa4, .ref wa5, .ref wa6, .ref wa7, .int 0, .int wn9, .int wn10, .int wn11])), (wa0, .inl (K 1, 40, .inl g739)), (wa1, .inl (K 1, 10, .inl (u731.2.1 0)))] := hD
      refine lv_aload_n hx hb dX10_clear_39 rfl (lv_at hl 1 rfl) ?_
      refine lv_iconst (v := 0) hx hb dX10_clear_40 (by decide) ?_
      refine va_put (D := D) (ci := 9) (v := .int 0) (ty := .int) (C := RX10) (T := TX10) (N := 12) hx hb hts in_X10 tyX10 tyX10_ok nmX10 hown hE.1 hP hD hS 0 rfl rfl 9 (by decide) (hts _ w_22) (fun _ h9 => h9) rfl (by decide +kernel) rfl rfl (Nat.le_of_ble_eq_true rfl) dX10_clear_41 (fun H locs hP hD hS => ?_)
      replace hP : va_P D vwCl [(w, .inr (9, [.ref wa0, .ref wa1, .ref wa2, .ref wa3, .ref wa4, .ref wa5, .ref wa6, .ref wa7, .int 0, .int 0, .int wn10, .int wn11])), (wa0, .inl (K 1, 40, .inl g739)), (wa1, .inl (K 1, 10, .inl (u731.2.1 0)))] H := hP
      replace hD : va_D A [(w, .inr (9, [.ref wa0, .ref wa1, .ref wa2, .ref wa3, .ref wa4, .ref wa5, .ref wa6, .ref wa7, .int 0, .int 0, .int wn10, .int wn11])), (wa0, .inl (K 1, 40, .inl g739)), (wa1, .inl (K 1, 10, .inl (u731.2.1 0)))] := hD
      refine lv_aload_n hx hb dX10_clear_44 rfl (lv_at hl 1 rfl) ?_
      refine lv_iconst (v := 0) hx hb dX10_clear_45 (by decide) ?_
      refine va_put (D := D) (ci := 9) (v := .int 0) (ty := .int) (C := RX10) (T := TX10) (N := 12) hx hb hts in_X10 tyX10 tyX10_ok nmX10 hown hE.1 hP hD hS 0 rfl rfl 10 (by decide) (hts _ w_96) (fun _ h9 => h9) rfl (by decide +kernel) rfl rfl (Nat.le_of_ble_eq_true rfl) dX10_clear_46 (fun H locs hP hD hS => ?_)
      replace hP : va_P D vwCl [(w, .inr (9, [.ref wa0, .ref wa1, .ref wa2, .ref wa3, .ref wa4, .ref wa5, .ref wa6, .ref wa7, .int 0, .int 0, .int 0, .int wn11])), (wa0, .inl (K 1, 40, .inl g739)), (wa1, .inl (K 1, 10, .inl (u731.2.1 0)))] H := hP
      replace hD : va_D A [(w, .inr (9, [.ref wa0, .ref wa1, .ref wa2, .ref wa3, .ref wa4, .ref wa5, .ref wa6, .ref wa7, .int 0, .int 0, .int 0, .int wn11])), (wa0, .inl (K 1, 40, .inl g739)), (wa1, .inl (K 1, 10, .inl (u731.2.1 0)))] := hD
      refine lv_aload_n hx hb dX10_clear_49 rfl (lv_at hl 1 rfl) ?_
      refine lv_iconst (v := 0) hx hb dX10_clear_50 (by decide) ?_
      refine va_put (D := D) (ci := 9) (v := .int 0) (ty := .int) (C := RX10) (T := TX10) (N := 12) hx hb hts in_X10 tyX10 tyX10_ok nmX10 hown hE.1 hP hD hS 0 rfl rfl 11 (by decide) (hts _ w_23) (fun _ h9 => h9) rfl (by decide +kernel) rfl rfl (Nat.le_of_ble_eq_true rfl) dX10_clear_51 (fun H locs hP hD hS => ?_)
      replace hP : va_P D vwCl [(w, .inr (9, [.ref wa0, .ref wa1, .ref wa2, .ref wa3, .ref wa4, .ref wa5, .ref wa6, .ref wa7, .int 0, .int 0, .int 0, .int 0])), (wa0, .inl (K 1, 40, .inl g739)), (wa1, .inl (K 1, 10, .inl (u731.2.1 0)))] H := hP
      replace hD : va_D A [(w, .inr (9, [.ref wa0, .ref wa1, .ref wa2, .ref wa3, .ref wa4, .ref wa5, .ref wa6, .ref wa7, .int 0, .int 0, .int 0, .int 0])), (wa0, .inl (K 1, 40, .inl g739)), (wa1, .inl (K 1, 10, .inl (u731.2.1 0)))] := hD
      refine W.widen (k := 0) (n := 0) (by decide) (by decide) ?_
      exact ch_vret hC hr hk hS dX10_clear_54 ((fun k => [0, 0, 0, 0].getD k 0, fun k => [g739, (u731.2.1 0)].getD k (fun _ => 0), fun k => [].getD k (fun _ => 0)) : ((Nat → Int32) × (Nat → Nat → Int32) × (Nat → Nat → Int64))) ⟨(show 0 ≤ (0 : Int32).toInt from by omega), (show 0 ≤ (0 : Int32).toInt from by omega)⟩ (hP.sub [0, 1, 2] rfl) (hD.sub [0, 1, 2] (by decide) rfl)
    · replace c740 := nle_i c740
      refine lv_aload_n hx hb dX10_clear_19 rfl (lv_at hl 1 rfl) ?_
      refine va_get (D := D) (ci := 9) (v := .ref wa0) (C := RX10) (T := TX10) (N := 12) hx hb hts in_X10 hown hE.1 hP 0 rfl rfl 0 (by decide) (hts _ w_36) (fun _ h9 => h9) rfl dX10_clear_20 ?_
      refine lv_iload_n hx hb dX10_clear_23 rfl (lv_at hl 0 rfl) ?_
      refine lv_iload_n hx hb dX10_clear_24 rfl (lv_at hl 0 rfl) ?_
      refine lv_iconst (v := 4) hx hb dX10_clear_25 (by decide) ?_
      refine lv_idiv hx hb dX10_clear_26 (by decide) ?_
      refine lv_topi (fun v741 ev741 => ?_)
      refine sti hx hb hE.1 hP hD hS 1 1 rfl rfl (vp_in_iff.mpr (by omega)) dX10_clear_27 (fun g742 eg742 H locs hP hD hS => ?_)
      replace hP : va_P D vwCl [(w, .inr (9, [.ref wa0, .ref wa1, .ref wa2, .ref wa3, .ref wa4, .ref wa5, .ref wa6, .ref wa7, .int wn8, .int wn9, .int wn10, .int wn11])), (wa0, .inl (K 1, 40, .inl g742)), (wa1, .inl (K 1, 10, .inl (u731.2.1 0)))] H := hP
      replace hD : va_D A [(w, .inr (9, [.ref wa0, .ref wa1, .ref wa2, .ref wa3, .ref wa4, .ref wa5, .ref wa6, .ref wa7, .int wn8, .int wn9, .int wn10, .int wn11])), (wa0, .inl (K 1, 40, .inl g742)), (wa1, .inl (K 1, 10, .inl (u731.2.1 0)))] := hD
      obtain ⟨v743, ev743⟩ : ∃ z : Int32, z = i738 + 1 := ⟨_, rfl⟩
      refine lv_iinc (v := v743) (lv' := [(1, .int v743), (0, .ref w)]) hx hb dX10_clear_28 hl (k := 0) rfl (by rw [ev743]; rfl) (by decide) rfl (fun ls hl => ?_)
      refine lv_goto (tgt := 10) hx hb dX10_clear_31 (by decide) ?_
      have tv743 : v743.toInt = (i738 : Int32).toInt + (1 : Int32).toInt := add_i ev743 (by omega) (by omega)
      exact ih_10 (i738 := v743) (g739 := g742) (hi_10 := by omega) (H := H) (locs := locs) (ls := ls) (hn_10 := by omega) (hP := hP) (hD := hD) (hS := hS) (hl := lv_sub hl [0, 1] rfl)
set_option maxRecDepth 40000 in
set_option maxHeartbeats 4000000 in
theorem c_X5_make (l : Launch) (D : va_G) (K : Nat → ClassId) (w : Nat) (wa0 : Nat) (wa1 : Nat) (wa2 : Nat) (wf0 : Nat → Int64) (wf1 : Nat → Int32) (wf2 : Nat → Int32) (p0 : Int32) (p1 : Int32) (p2 : Int32) (hsz : ∀ j, j < 4 → -1 ≤ (wf2 j).toInt ∧ (wf2 j).toInt ≤ 60) : Cv (S := ((Nat → Int32) × (Nat → Nat → Int32) × (Nat → Nat → Int64))) l D K yX5_make cX5_make 5 2 47 0 0 [.ref w, .int p0, .int p1, .int p2] [(w, .inr (5, [.ref wa0, .ref wa1, .ref wa2])), (wa0, .inl (K 2, 240, .inr (.inl wf0))), (wa1, .inl (K 1, 4, .inl wf1)), (wa2, .inl (K 1, 4, .inl wf2))] (fun u => (∀ j, j < 4 → -1 ≤ ((u.2.1 1) j).toInt ∧ ((u.2.1 1) j).toInt ≤ 60)) (fun u => [(w, .inr (5, [.ref wa0, .ref wa1, .ref wa2])), (wa0, .inl (K 2, 240, .inr (.inl (u.2.2 0)))), (wa1, .inl (K 1, 4, .inl (u.2.1 0))), (wa2, .inl (K 1, 4, .inl (u.2.1 1)))]) := by
  intro sz
  refine ch_of (y := yX5_make) (cc := cX5_make) (maxL := 5) (ret := none) (av := [.ref w, .int p0, .int p1, .int p2]) (ws := [(w, .inr (5, [.ref wa0, .ref wa1, .ref wa2])), (wa0, .inl (K 2, 240, .inr (.inl wf0))), (wa1, .inl (K 1, 4, .inl wf1)), (wa2, .inl (K 1, 4, .inl wf2))]) (D := D) (K := K) (Qc := fun A => va_Qv (S := ((Nat → Int32) × (Nat → Nat → Int32) × (Nat → Nat → Int64))) (fun u => (∀ j, j < 4 → -1 ≤ ((u.2.1 1) j).toInt ∧ ((u.2.1 1) j).toInt ≤ 60)) (chB D A (fun u => [(w, .inr (5, [.ref wa0, .ref wa1, .ref wa2])), (wa0, .inl (K 2, 240, .inr (.inl (u.2.2 0)))), (wa1, .inl (K 1, 4, .inl (u.2.1 0))), (wa2, .inl (K 1, 4, .inl (u.2.1 1)))])) A) (by decide) (Nat.le_of_ble_eq_true rfl) ?_
  intro p e s m below meth c A hC hr hk hin hE hD hA H locs hP hS ls hl
  replace hC : CallFix p m c cX5_make 5 s [.ref w, .int p0, .int p1, .int p2].toArray wl RX5 := hC
  have hx := hC.1
  have hb := hC.2.1
  have hml := hC.2.2.1
  have hown := hC.2.2.2.1
  have hts := hC.2.2.2.2
  replace hl : lv_has ls 5 [(0, .ref w), (1, .int p0), (2, .int p1), (3, .int p2)] := hl
  have kc_0 : (0 : Int32).toInt = 0 := by decide
  have kc_60 : (60 : Int32).toInt = 60 := by decide
  have kl_0 : (0 : Int64).toInt = 0 := by decide
  refine lv_iload_n hx hb dX5_make_0 rfl (lv_at hl 1 rfl) ?_
  refine ro_SN (As := [.int p0]) (rest := []) hC hE kSN_X5_28 (c_X11_isSlot l D K p0) (hP.sub (ws' := []) [] rfl) rfl hl.1 rfl (Nat.le_of_ble_eq_true rfl) (by decide) (by decide) dX5_make_1 (fun r759 hq => ?_)
  rcases hq with ⟨rfl, h756⟩ | ⟨rfl, h757, h758⟩
  · refine lv_if_eq (tgt := 17) hx hb dX5_make_4 (by decide) (fun _ => ?_) (fun h => absurd h (by decide))
    refine W.widen (k := 0) (n := 0) (by decide) (by decide) ?_
    exact ch_vret hC hr hk hS dX5_make_17 ((fun k => [].getD k 0, fun k => [wf1, wf2].getD k (fun _ => 0), fun k => [wf0].getD k (fun _ => 0)) : ((Nat → Int32) × (Nat → Nat → Int32) × (Nat → Nat → Int64))) (show ∀ j, j < 4 → -1 ≤ (wf2 j).toInt ∧ (wf2 j).toInt ≤ 60 from hsz) (hP.sub [0, 1, 2, 3] rfl) (hD.sub [0, 1, 2, 3] (by decide) rfl)
  · refine lv_if_eq (tgt := 17) hx hb dX5_make_4 (by decide) (fun h => absurd h (by decide)) (fun _ => ?_)
    refine lv_iload_n hx hb dX5_make_7 rfl (lv_at hl 3 rfl) ?_
    refine lv_if_lt (tgt := 17) hx hb dX5_make_8 (by decide) (fun c760 => ?_) (fun c760 => ?_)
    · replace c760 := lt_i c760
      refine W.widen (k := 0) (n := 0) (by decide) (by decide) ?_
      exact ch_vret hC hr hk hS dX5_make_17 ((fun k => [].getD k 0, fun k => [wf1, wf2].getD k (fun _ => 0), fun k => [wf0].getD k (fun _ => 0)) : ((Nat → Int32) × (Nat → Nat → Int32) × (Nat → Nat → Int64))) (show ∀ j, j < 4 → -1 ≤ (wf2 j).toInt ∧ (wf2 j).toInt ≤ 60 from hsz) (hP.sub [0, 1, 2, 3] rfl) (hD.sub [0, 1, 2, 3] (by decide) rfl)
    · replace c760 := nlt_i c760
      refine lv_iload_n hx hb dX5_make_11 rfl (lv_at hl 3 rfl) ?_
      refine lv_bipush (v := 60) hx hb dX5_make_12 (by decide) ?_
      refine lv_icmp_le (tgt := 18) hx hb dX5_make_14 (by decide) (fun c761 => ?_) (fun c761 => ?_)
      · replace c761 := le_i c761
        refine lv_iload_n hx hb dX5_make_18 rfl (lv_at hl 1 rfl) ?_
        refine lv_bipush (v := 60) hx hb dX5_make_19 (by decide) ?_
        refine lv_imul hx hb dX5_make_21 ?_
        refine lv_topi (fun v762 ev762 => ?_)
        refine lv_istore (lv' := [(4, .int v762), (0, .ref w), (1, .int p0), (2, .int p1), (3, .int p2)]) hx hb dX5_make_22 hl (by decide) rfl (fun ls hl => ?_)
        refine lv_aload_n hx hb dX5_make_24 rfl (lv_at hl 1 rfl) ?_
        refine va_get (D := D) (ci := 5) (v := .ref wa0) (C := RX5) (T := TX5) (N := 3) hx hb hts in_X5 hown hE.1 hP 0 rfl rfl 0 (by decide) (hts _ w_113) (fun _ h9 => h9) rfl dX5_make_25 ?_
        refine lv_iload hx hb dX5_make_28 (lv_at hl 0 rfl) ?_
        refine lv_iload hx hb dX5_make_30 (lv_at hl 0 rfl) ?_
        refine lv_bipush (v := 60) hx hb dX5_make_32 (by decide) ?_
        refine lv_iadd hx hb dX5_make_34 ?_
        refine lv_topi (fun v763 ev763 => ?_)
        refine lv_lconst (v := 0) hx hb dX5_make_35 (by decide) ?_
        have tv762 : v762.toInt = p0.toInt * 60 := mul_i ev762 rfl (by decide) (by omega) (by omega)
        have tv763 : v763.toInt = (v762 : Int32).toInt + (60 : Int32).toInt := add_i ev763 (by omega) (by omega)
        refine cv_S (As := [.ref wa0, .int v762, .int v763, .long 0]) (rest := []) (wc := [(wa0, .inl (K 2, 240, .inr (.inl wf0)))]) (wr := [(w, .inr (5, [.ref wa0, .ref wa1, .ref wa2])), (wa1, .inl (K 1, 4, .inl wf1)), (wa2, .inl (K 1, 4, .inl wf2))]) hC hE kS_X5_32 (c_J7_fill_bad5a l D K wa0 wf0 v762 v763 0 (by omega) (by omega) (by omega)) hP hD hS hA [1] [0, 2, 3] rfl rfl rfl (by decide) (by decide) (by decide) rfl hl.1 rfl (Nat.le_of_ble_eq_true rfl) (by decide) (by decide) dX5_make_36 (fun u764 H locs hw hP hD hS => ?_)
        replace hP : va_P D vwCl [(w, .inr (5, [.ref wa0, .ref wa1, .ref wa2])), (wa1, .inl (K 1, 4, .inl wf1)), (wa2, .inl (K 1, 4, .inl wf2)), (wa0, .inl (K 2, 240, .inr (.inl (u764.2.2 0))))] H := hP
        replace hD : va_D A [(w, .inr (5, [.ref wa0, .ref wa1, .ref wa2])), (wa1, .inl (K 1, 4, .inl wf1)), (wa2, .inl (K 1, 4, .inl wf2)), (wa0, .inl (K 2, 240, .inr (.inl (u764.2.2 0))))] := hD
        replace hP : va_P D vwCl [(w, .inr (5, [.ref wa0, .ref wa1, .ref wa2])), (wa0, .inl (K 2, 240, .inr (.inl (u764.2.2 0)))), (wa1, .inl (K 1, 4, .inl wf1)), (wa2, .inl (K 1, 4, .inl wf2))] H := hP.sub [0, 3, 1, 2] rfl
        replace hD : va_D A [(w, .inr (5, [.ref wa0, .ref wa1, .ref wa2])), (wa0, .inl (K 2, 240, .inr (.inl (u764.2.2 0)))), (wa1, .inl (K 1, 4, .inl wf1)), (wa2, .inl (K 1, 4, .inl wf2))] := hD.sub [0, 3, 1, 2] (by decide) rfl
        refine W.widen (k := 0) (n := 0) (by decide) (by decide) ?_
        refine lv_aload_n hx hb dX5_make_39 rfl (lv_at hl 1 rfl) ?_
        refine va_get (D := D) (ci := 5) (v := .ref wa1) (C := RX5) (T := TX5) (N := 3) hx hb hts in_X5 hown hE.1 hP 0 rfl rfl 1 (by decide) (hts _ w_103) (fun _ h9 => h9) rfl dX5_make_40 ?_
        refine lv_iload_n hx hb dX5_make_43 rfl (lv_at hl 2 rfl) ?_
        refine lv_iload_n hx hb dX5_make_44 rfl (lv_at hl 3 rfl) ?_
        refine sti hx hb hE.1 hP hD hS 2 1 rfl rfl (vp_in_iff.mpr (by omega)) dX5_make_45 (fun g766 eg766 H locs hP hD hS => ?_)
        replace hP : va_P D vwCl [(w, .inr (5, [.ref wa0, .ref wa1, .ref wa2])), (wa0, .inl (K 2, 240, .inr (.inl (u764.2.2 0)))), (wa1, .inl (K 1, 4, .inl g766)), (wa2, .inl (K 1, 4, .inl wf2))] H := hP
        replace hD : va_D A [(w, .inr (5, [.ref wa0, .ref wa1, .ref wa2])), (wa0, .inl (K 2, 240, .inr (.inl (u764.2.2 0)))), (wa1, .inl (K 1, 4, .inl g766)), (wa2, .inl (K 1, 4, .inl wf2))] := hD
        refine lv_aload_n hx hb dX5_make_46 rfl (lv_at hl 1 rfl) ?_
        refine va_get (D := D) (ci := 5) (v := .ref wa2) (C := RX5) (T := TX5) (N := 3) hx hb hts in_X5 hown hE.1 hP 0 rfl rfl 2 (by decide) (hts _ w_102) (fun _ h9 => h9) rfl dX5_make_47 ?_
        refine lv_iload_n hx hb dX5_make_50 rfl (lv_at hl 2 rfl) ?_
        refine lv_iload_n hx hb dX5_make_51 rfl (lv_at hl 4 rfl) ?_
        refine sti hx hb hE.1 hP hD hS 3 1 rfl rfl (vp_in_iff.mpr (by omega)) dX5_make_52 (fun g767 eg767 H locs hP hD hS => ?_)
        replace hP : va_P D vwCl [(w, .inr (5, [.ref wa0, .ref wa1, .ref wa2])), (wa0, .inl (K 2, 240, .inr (.inl (u764.2.2 0)))), (wa1, .inl (K 1, 4, .inl g766)), (wa2, .inl (K 1, 4, .inl g767))] H := hP
        replace hD : va_D A [(w, .inr (5, [.ref wa0, .ref wa1, .ref wa2])), (wa0, .inl (K 2, 240, .inr (.inl (u764.2.2 0)))), (wa1, .inl (K 1, 4, .inl g766)), (wa2, .inl (K 1, 4, .inl g767))] := hD
        refine W.widen (k := 0) (n := 0) (by decide) (by decide) ?_
        exact ch_vret hC hr hk hS dX5_make_53 ((fun k => [].getD k 0, fun k => [g766, g767].getD k (fun _ => 0), fun k => [(u764.2.2 0)].getD k (fun _ => 0)) : ((Nat → Int32) × (Nat → Nat → Int32) × (Nat → Nat → Int64))) (show ∀ j, j < 4 → -1 ≤ (g767 j).toInt ∧ (g767 j).toInt ≤ 60 from (sz_up eg767 hsz (by omega) (by omega))) (hP.sub [0, 1, 2, 3] rfl) (hD.sub [0, 1, 2, 3] (by decide) rfl)
      · replace c761 := nle_i c761
        refine W.widen (k := 0) (n := 0) (by decide) (by decide) ?_
        exact ch_vret hC hr hk hS dX5_make_17 ((fun k => [].getD k 0, fun k => [wf1, wf2].getD k (fun _ => 0), fun k => [wf0].getD k (fun _ => 0)) : ((Nat → Int32) × (Nat → Nat → Int32) × (Nat → Nat → Int64))) (show ∀ j, j < 4 → -1 ≤ (wf2 j).toInt ∧ (wf2 j).toInt ≤ 60 from hsz) (hP.sub [0, 1, 2, 3] rfl) (hD.sub [0, 1, 2, 3] (by decide) rfl)
set_option maxRecDepth 40000 in
set_option maxHeartbeats 4000000 in
theorem c_X8_chance (l : Launch) (D : va_G) (K : Nat → ClassId) (w : Nat) (wa0 : Nat) (wa1 : Nat) (wa2 : Nat) (wf1 : Nat → Int32) (p0 : Int32) : Ro l D K yX8_chance cX8_chance 2 (some .int) 0 0 [.ref w, .int p0] [(w, .inr (7, [.ref wa0, .ref wa1, .ref wa2])), (wa1, .inl (K 1, 10, .inl wf1))] (fun _ => True) := by
  refine ro_of (by decide) (Nat.le_of_ble_eq_true rfl) ?_
  intro p e s m below meth c hC hr hk hE hP ls hl
  replace hC : CallFix p m c cX8_chance 2 s [.ref w, .int p0].toArray wl RX8 := hC
  have hx := hC.1
  have hb := hC.2.1
  have hml := hC.2.2.1
  have hown := hC.2.2.2.1
  have hts := hC.2.2.2.2
  replace hl : lv_has ls 2 [(0, .ref w), (1, .int p0)] := hl
  have kc_0 : (0 : Int32).toInt = 0 := by decide
  have kc_10 : (10 : Int32).toInt = 10 := by decide
  refine lv_iload_n hx hb dX8_chance_0 rfl (lv_at hl 1 rfl) ?_
  refine lv_if_lt (tgt := 19) hx hb dX8_chance_1 (by decide) (fun c768 => ?_) (fun c768 => ?_)
  · replace c768 := lt_i c768
    refine lv_iconst (v := 0) hx hb dX8_chance_19 (by decide) ?_
    exact ro_ret hC hr hk dX8_chance_20 trivial
  · replace c768 := nlt_i c768
    refine lv_iload_n hx hb dX8_chance_4 rfl (lv_at hl 1 rfl) ?_
    refine lv_bipush (v := 10) hx hb dX8_chance_5 (by decide) ?_
    refine lv_icmp_ge (tgt := 19) hx hb dX8_chance_7 (by decide) (fun c769 => ?_) (fun c769 => ?_)
    · replace c769 := le_i c769
      refine lv_iconst (v := 0) hx hb dX8_chance_19 (by decide) ?_
      exact ro_ret hC hr hk dX8_chance_20 trivial
    · replace c769 := nle_i c769
      refine lv_aload_n hx hb dX8_chance_10 rfl (lv_at hl 0 rfl) ?_
      refine va_get (D := D) (ci := 7) (v := .ref wa1) (C := RX8) (T := TX8) (N := 3) hx hb hts in_X8 hown hE.1 hP 0 rfl rfl 1 (by decide) (hts _ w_139) (fun _ h9 => h9) rfl dX8_chance_11 ?_
      refine lv_iload_n hx hb dX8_chance_14 rfl (lv_at hl 1 rfl) ?_
      refine va_iald hx hb hE.1 hP 1 1 rfl rfl (vp_in_iff.mpr (by omega)) dX8_chance_15 ?_
      refine lv_topi (fun v770 ev770 => ?_)
      refine lv_goto (tgt := 20) hx hb dX8_chance_16 (by decide) ?_
      exact ro_ret hC hr hk dX8_chance_20 trivial
set_option maxRecDepth 40000 in
set_option maxHeartbeats 4000000 in
theorem c_X8_relax (l : Launch) (D : va_G) (K : Nat → ClassId) (w : Nat) (wa0 : Nat) (wa1 : Nat) (wa2 : Nat) (v : Nat) (va0 : Nat) (va1 : Nat) (va2 : Nat) (va3 : Nat) (va4 : Nat) (va5 : Nat) (va6 : Nat) (va7 : Nat) (vn8 : Int32) (vn9 : Int32) (vn10 : Int32) (vn11 : Int32) (wf0 : Nat → Int32) (vf0 : Nat → Int32) (vf1 : Nat → Int32) (p1 : Int32) (p2 : Int32) (h1 : 0 ≤ p1.toInt) (h2 : p1.toInt < 10) : Cv (S := ((Nat → Int32) × (Nat → Nat → Int32) × (Nat → Nat → Int64))) l D K yX8_relax cX8_relax 7 2 43 0 0 [.ref w, .ref v, .int p1, .int p2] [(w, .inr (7, [.ref wa0, .ref wa1, .ref wa2])), (wa0, .inl (K 1, 10, .inl wf0)), (v, .inr (9, [.ref va0, .ref va1, .ref va2, .ref va3, .ref va4, .ref va5, .ref va6, .ref va7, .int vn8, .int vn9, .int vn10, .int vn11])), (va0, .inl (K 1, 40, .inl vf0)), (va1, .inl (K 1, 10, .inl vf1))] (fun _ => True) (fun u => [(w, .inr (7, [.ref wa0, .ref wa1, .ref wa2])), (wa0, .inl (K 1, 10, .inl (u.2.1 0))), (v, .inr (9, [.ref va0, .ref va1, .ref va2, .ref va3, .ref va4, .ref va5, .ref va6, .ref va7, .int vn8, .int vn9, .int vn10, .int vn11])), (va0, .inl (K 1, 40, .inl vf0)), (va1, .inl (K 1, 10, .inl vf1))]) := by
  intro sz
  refine ch_of (y := yX8_relax) (cc := cX8_relax) (maxL := 7) (ret := none) (av := [.ref w, .ref v, .int p1, .int p2]) (ws := [(w, .inr (7, [.ref wa0, .ref wa1, .ref wa2])), (wa0, .inl (K 1, 10, .inl wf0)), (v, .inr (9, [.ref va0, .ref va1, .ref va2, .ref va3, .ref va4, .ref va5, .ref va6, .ref va7, .int vn8, .int vn9, .int vn10, .int vn11])), (va0, .inl (K 1, 40, .inl vf0)), (va1, .inl (K 1, 10, .inl vf1))]) (D := D) (K := K) (Qc := fun A => va_Qv (S := ((Nat → Int32) × (Nat → Nat → Int32) × (Nat → Nat → Int64))) (fun _ => True) (chB D A (fun u => [(w, .inr (7, [.ref wa0, .ref wa1, .ref wa2])), (wa0, .inl (K 1, 10, .inl (u.2.1 0))), (v, .inr (9, [.ref va0, .ref va1, .ref va2, .ref va3, .ref va4, .ref va5, .ref va6, .ref va7, .int vn8, .int vn9, .int vn10, .int vn11])), (va0, .inl (K 1, 40, .inl vf0)), (va1, .inl (K 1, 10, .inl vf1))])) A) (by decide) (Nat.le_of_ble_eq_true rfl) ?_
  intro p e s m below meth c A hC hr hk hin hE hD hA H locs hP hS ls hl
  replace hC : CallFix p m c cX8_relax 7 s [.ref w, .ref v, .int p1, .int p2].toArray wl RX8 := hC
  have hx := hC.1
  have hb := hC.2.1
  have hml := hC.2.2.1
  have hown := hC.2.2.2.1
  have hts := hC.2.2.2.2
  replace hl : lv_has ls 7 [(0, .ref w), (1, .ref v), (2, .int p1), (3, .int p2)] := hl
  have kc_0 : (0 : Int32).toInt = 0 := by decide
  have kc_1 : (1 : Int32).toInt = 1 := by decide
  have kc_4 : (4 : Int32).toInt = 4 := by decide
  have kc_1000000000 : (1000000000 : Int32).toInt = 1000000000 := by decide
  refine lv_aload_n hx hb dX8_relax_0 rfl (lv_at hl 0 rfl) ?_
  refine va_get (D := D) (ci := 7) (v := .ref wa0) (C := RX8) (T := TX8) (N := 3) hx hb hts in_X8 hown hE.1 hP 0 rfl rfl 0 (by decide) (hts _ w_140) (fun _ h9 => h9) rfl dX8_relax_1 ?_
  refine lv_iload_n hx hb dX8_relax_4 rfl (lv_at hl 2 rfl) ?_
  refine va_iald hx hb hE.1 hP 1 1 rfl rfl (vp_in_iff.mpr (by omega)) dX8_relax_5 ?_
  refine lv_topi (fun v795 ev795 => ?_)
  refine lv_ldc (v := 1000000000) hx hb hown (hts _ w_145) dX8_relax_6 ?_
  refine lv_icmp_ne (tgt := 12) hx hb dX8_relax_8 (by decide) (fun c796 => ?_) (fun c796 => ?_)
  · replace c796 := ne_i c796
    refine lv_iconst (v := 0) hx hb dX8_relax_12 (by decide) ?_
    refine lv_istore (lv' := [(4, .int 0), (0, .ref w), (1, .ref v), (2, .int p1), (3, .int p2)]) hx hb dX8_relax_13 hl (by decide) rfl (fun ls hl => ?_)
    have hl' := hl; have hP' := hP; have hD' := hD; clear hl hP hD
    obtain ⟨i819, g820, hi_15, hl, hP, hD⟩ : ∃ (i819 : Int32) (g820 : Nat → Int32), ((0 : Int) ≤ i819.toInt) ∧ lv_has ls 7 [(4, .int i819), (0, .ref w), (1, .ref v), (2, .int p1), (3, .int p2)] ∧ va_P D vwCl [(w, .inr (7, [.ref wa0, .ref wa1, .ref wa2])), (wa0, .inl (K 1, 10, .inl g820)), (v, .inr (9, [.ref va0, .ref va1, .ref va2, .ref va3, .ref va4, .ref va5, .ref va6, .ref va7, .int vn8, .int vn9, .int vn10, .int vn11])), (va0, .inl (K 1, 40, .inl vf0)), (va1, .inl (K 1, 10, .inl vf1))] H ∧ va_D A [(w, .inr (7, [.ref wa0, .ref wa1, .ref wa2])), (wa0, .inl (K 1, 10, .inl g820)), (v, .inr (9, [.ref va0, .ref va1, .ref va2, .ref va3, .ref va4, .ref va5, .ref va6, .ref va7, .int vn8, .int vn9, .int vn10, .int vn11])), (va0, .inl (K 1, 40, .inl vf0)), (va1, .inl (K 1, 10, .inl vf1))] := ⟨_, _, by omega, hl', hP', hD'⟩
    clear hl' hP' hD'
    obtain ⟨n_15, hn_15⟩ : ∃ n : Nat, (4 - i819.toInt).toNat < n := ⟨_, Nat.lt_succ_self _⟩
    induction n_15 generalizing i819 g820 H locs ls with
    | zero => exact absurd hn_15 (Nat.not_lt_zero _)
    | succ n_15 ih_15 =>
      refine lv_iload hx hb dX8_relax_15 (lv_at hl 0 rfl) ?_
      refine lv_iconst (v := 4) hx hb dX8_relax_17 (by decide) ?_
      refine lv_icmp_ge (tgt := 89) hx hb dX8_relax_18 (by decide) (fun c821 => ?_) (fun c821 => ?_)
      · replace c821 := le_i c821
        refine W.widen (k := 0) (n := 0) (by decide) (by decide) ?_
        exact ch_vret hC hr hk hS dX8_relax_89 ((fun k => [].getD k 0, fun k => [g820].getD k (fun _ => 0), fun k => [].getD k (fun _ => 0)) : ((Nat → Int32) × (Nat → Nat → Int32) × (Nat → Nat → Int64))) trivial (hP.sub [0, 1, 2, 3, 4] rfl) (hD.sub [0, 1, 2, 3, 4] (by decide) rfl)
      · replace c821 := nle_i c821
        refine lv_aload_n hx hb dX8_relax_21 rfl (lv_at hl 2 rfl) ?_
        refine lv_iload_n hx hb dX8_relax_22 rfl (lv_at hl 3 rfl) ?_
        refine lv_iload hx hb dX8_relax_23 (lv_at hl 0 rfl) ?_
        refine ro_V (As := [.int p1, .int i819]) (rest := []) hC hE kV_X8_42 (c_X10_after l D K v va0 va1 va2 va3 va4 va5 va6 va7 vn8 vn9 vn10 vn11 vf0 p1 i819) (hP.sub (ws' := [(v, .inr (9, [.ref va0, .ref va1, .ref va2, .ref va3, .ref va4, .ref va5, .ref va6, .ref va7, .int vn8, .int vn9, .int vn10, .int vn11])), (va0, .inl (K 1, 40, .inl vf0))]) [2, 3] rfl) 0 9 rfl rfl rfl hl.1 rfl (Nat.le_of_ble_eq_true rfl) (by decide) (by decide) dX8_relax_25 (fun r822 _ => ?_)
        refine lv_istore (lv' := [(5, .int r822), (4, .int i819), (0, .ref w), (1, .ref v), (2, .int p1), (3, .int p2)]) hx hb dX8_relax_28 hl (by decide) rfl (fun ls hl => ?_)
        refine lv_aload_n hx hb dX8_relax_30 rfl (lv_at hl 3 rfl) ?_
        refine lv_iload hx hb dX8_relax_31 (lv_at hl 0 rfl) ?_
        refine ro_V (As := [.int r822]) (rest := []) hC hE kV_X8_21 (c_X10_hasPlace l D K v va0 va1 va2 va3 va4 va5 va6 va7 vn8 vn9 vn10 vn11 r822) (hP.sub (ws' := [(v, .inr (9, [.ref va0, .ref va1, .ref va2, .ref va3, .ref va4, .ref va5, .ref va6, .ref va7, .int vn8, .int vn9, .int vn10, .int vn11]))]) [2] rfl) 0 9 rfl rfl rfl hl.1 rfl (Nat.le_of_ble_eq_true rfl) (by decide) (by decide) dX8_relax_33 (fun r825 hq => ?_)
        rcases hq with rfl | ⟨rfl, h823, h824⟩
        · refine lv_if_eq (tgt := 83) hx hb dX8_relax_36 (by decide) (fun _ => ?_) (fun h => absurd h (by decide))
          obtain ⟨v826, ev826⟩ : ∃ z : Int32, z = i819 + 1 := ⟨_, rfl⟩
          refine lv_iinc (v := v826) (lv' := [(4, .int v826), (5, .int r822), (0, .ref w), (1, .ref v), (2, .int p1), (3, .int p2)]) hx hb dX8_relax_83 hl (k := 1) rfl (by rw [ev826]; rfl) (by decide) rfl (fun ls hl => ?_)
          refine lv_goto (tgt := 15) hx hb dX8_relax_86 (by decide) ?_
          have tv826 : v826.toInt = (i819 : Int32).toInt + (1 : Int32).toInt := add_i ev826 (by omega) (by omega)
          exact ih_15 (i819 := v826) (g820 := g820) (hi_15 := by omega) (H := H) (locs := locs) (ls := ls) (hn_15 := by omega) (hP := hP) (hD := hD) (hS := hS) (hl := lv_sub hl [0, 2, 3, 4, 5] rfl)
        · refine lv_if_eq (tgt := 83) hx hb dX8_relax_36 (by decide) (fun h => absurd h (by decide)) (fun _ => ?_)
          refine lv_iconst (v := 1) hx hb dX8_relax_39 (by decide) ?_
          refine lv_aload_n hx hb dX8_relax_40 rfl (lv_at hl 3 rfl) ?_
          refine lv_iload hx hb dX8_relax_41 (lv_at hl 0 rfl) ?_
          refine ro_V (As := [.int r822]) (rest := [.int 1]) hC hE kV_X8_46 (c_X10_sign l D K v va0 va1 va2 va3 va4 va5 va6 va7 vn8 vn9 vn10 vn11 vf1 r822) (hP.sub (ws' := [(v, .inr (9, [.ref va0, .ref va1, .ref va2, .ref va3, .ref va4, .ref va5, .ref va6, .ref va7, .int vn8, .int vn9, .int vn10, .int vn11])), (va1, .inl (K 1, 10, .inl vf1))]) [2, 4] rfl) 0 9 rfl rfl rfl hl.1 rfl (Nat.le_of_ble_eq_true rfl) (by decide) (by decide) dX8_relax_43 (fun r827 _ => ?_)
          refine lv_if_ne (tgt := 53) hx hb dX8_relax_46 (by decide) (fun c828 => ?_) (fun c828 => ?_)
          · replace c828 := ne_i c828
            refine lv_iconst (v := 0) hx hb dX8_relax_53 (by decide) ?_
            refine lv_iadd hx hb dX8_relax_54 ?_
            refine tc (y := 1) (by decide) ?_
            refine lv_istore (lv' := [(6, .int 1), (5, .int r822), (4, .int i819), (0, .ref w), (1, .ref v), (2, .int p1), (3, .int p2)]) hx hb dX8_relax_55 hl (by decide) rfl (fun ls hl => ?_)
            refine lv_aload_n hx hb dX8_relax_57 rfl (lv_at hl 3 rfl) ?_
            refine va_get (D := D) (ci := 7) (v := .ref wa0) (C := RX8) (T := TX8) (N := 3) hx hb hts in_X8 hown hE.1 hP 0 rfl rfl 0 (by decide) (hts _ w_140) (fun _ h9 => h9) rfl dX8_relax_58 ?_
            refine lv_iload hx hb dX8_relax_61 (lv_at hl 1 rfl) ?_
            refine lv_aload_n hx hb dX8_relax_63 rfl (lv_at hl 3 rfl) ?_
            refine va_get (D := D) (ci := 7) (v := .ref wa0) (C := RX8) (T := TX8) (N := 3) hx hb hts in_X8 hown hE.1 hP 0 rfl rfl 0 (by decide) (hts _ w_140) (fun _ h9 => h9) rfl dX8_relax_64 ?_
            refine lv_iload hx hb dX8_relax_67 (lv_at hl 1 rfl) ?_
            refine va_iald hx hb hE.1 hP 1 1 rfl rfl (vp_in_iff.mpr (by omega)) dX8_relax_69 ?_
            refine lv_topi (fun v829 ev829 => ?_)
            refine lv_aload_n hx hb dX8_relax_70 rfl (lv_at hl 3 rfl) ?_
            refine va_get (D := D) (ci := 7) (v := .ref wa0) (C := RX8) (T := TX8) (N := 3) hx hb hts in_X8 hown hE.1 hP 0 rfl rfl 0 (by decide) (hts _ w_140) (fun _ h9 => h9) rfl dX8_relax_71 ?_
            refine lv_iload_n hx hb dX8_relax_74 rfl (lv_at hl 5 rfl) ?_
            refine va_iald hx hb hE.1 hP 1 1 rfl rfl (vp_in_iff.mpr (by omega)) dX8_relax_75 ?_
            refine lv_topi (fun v830 ev830 => ?_)
            refine lv_iload hx hb dX8_relax_76 (lv_at hl 0 rfl) ?_
            refine lv_iadd hx hb dX8_relax_78 ?_
            refine lv_topi (fun v831 ev831 => ?_)
            refine va_mmin hx hb (hml.trans hl.1.symm) hown (hts _ w_141) (hts _ w_142) (hts _ w_143) (hts _ w_144) (by decide) (Nat.le_of_ble_eq_true rfl) (by decide) (by decide) dX8_relax_79 ?_
            refine lv_topi (fun v832 ev832 => ?_)
            have tv832 := min_i ev832
            refine sti hx hb hE.1 hP hD hS 1 1 rfl rfl (vp_in_iff.mpr (by omega)) dX8_relax_82 (fun g833 eg833 H locs hP hD hS => ?_)
            replace hP : va_P D vwCl [(w, .inr (7, [.ref wa0, .ref wa1, .ref wa2])), (wa0, .inl (K 1, 10, .inl g833)), (v, .inr (9, [.ref va0, .ref va1, .ref va2, .ref va3, .ref va4, .ref va5, .ref va6, .ref va7, .int vn8, .int vn9, .int vn10, .int vn11])), (va0, .inl (K 1, 40, .inl vf0)), (va1, .inl (K 1, 10, .inl vf1))] H := hP
            replace hD : va_D A [(w, .inr (7, [.ref wa0, .ref wa1, .ref wa2])), (wa0, .inl (K 1, 10, .inl g833)), (v, .inr (9, [.ref va0, .ref va1, .ref va2, .ref va3, .ref va4, .ref va5, .ref va6, .ref va7, .int vn8, .int vn9, .int vn10, .int vn11])), (va0, .inl (K 1, 40, .inl vf0)), (va1, .inl (K 1, 10, .inl vf1))] := hD
            obtain ⟨v834, ev834⟩ : ∃ z : Int32, z = i819 + 1 := ⟨_, rfl⟩
            refine lv_iinc (v := v834) (lv' := [(4, .int v834), (6, .int 1), (5, .int r822), (0, .ref w), (1, .ref v), (2, .int p1), (3, .int p2)]) hx hb dX8_relax_83 hl (k := 2) rfl (by rw [ev834]; rfl) (by decide) rfl (fun ls hl => ?_)
            refine lv_goto (tgt := 15) hx hb dX8_relax_86 (by decide) ?_
            have tv834 : v834.toInt = (i819 : Int32).toInt + (1 : Int32).toInt := add_i ev834 (by omega) (by omega)
            exact ih_15 (i819 := v834) (g820 := g833) (hi_15 := by omega) (H := H) (locs := locs) (ls := ls) (hn_15 := by omega) (hP := hP) (hD := hD) (hS := hS) (hl := lv_sub hl [0, 3, 4, 5, 6] rfl)
          · replace c828 := eq_i c828
            refine lv_iload_n hx hb dX8_relax_49 rfl (lv_at hl 5 rfl) ?_
            refine lv_goto (tgt := 54) hx hb dX8_relax_50 (by decide) ?_
            refine lv_iadd hx hb dX8_relax_54 ?_
            refine lv_topi (fun v835 ev835 => ?_)
            refine lv_istore (lv' := [(6, .int v835), (5, .int r822), (4, .int i819), (0, .ref w), (1, .ref v), (2, .int p1), (3, .int p2)]) hx hb dX8_relax_55 hl (by decide) rfl (fun ls hl => ?_)
            refine lv_aload_n hx hb dX8_relax_57 rfl (lv_at hl 3 rfl) ?_
            refine va_get (D := D) (ci := 7) (v := .ref wa0) (C := RX8) (T := TX8) (N := 3) hx hb hts in_X8 hown hE.1 hP 0 rfl rfl 0 (by decide) (hts _ w_140) (fun _ h9 => h9) rfl dX8_relax_58 ?_
            refine lv_iload hx hb dX8_relax_61 (lv_at hl 1 rfl) ?_
            refine lv_aload_n hx hb dX8_relax_63 rfl (lv_at hl 3 rfl) ?_
            refine va_get (D := D) (ci := 7) (v := .ref wa0) (C := RX8) (T := TX8) (N := 3) hx hb hts in_X8 hown hE.1 hP 0 rfl rfl 0 (by decide) (hts _ w_140) (fun _ h9 => h9) rfl dX8_relax_64 ?_
            refine lv_iload hx hb dX8_relax_67 (lv_at hl 1 rfl) ?_
            refine va_iald hx hb hE.1 hP 1 1 rfl rfl (vp_in_iff.mpr (by omega)) dX8_relax_69 ?_
            refine lv_topi (fun v836 ev836 => ?_)
            refine lv_aload_n hx hb dX8_relax_70 rfl (lv_at hl 3 rfl) ?_
            refine va_get (D := D) (ci := 7) (v := .ref wa0) (C := RX8) (T := TX8) (N := 3) hx hb hts in_X8 hown hE.1 hP 0 rfl rfl 0 (by decide) (hts _ w_140) (fun _ h9 => h9) rfl dX8_relax_71 ?_
            refine lv_iload_n hx hb dX8_relax_74 rfl (lv_at hl 5 rfl) ?_
            refine va_iald hx hb hE.1 hP 1 1 rfl rfl (vp_in_iff.mpr (by omega)) dX8_relax_75 ?_
            refine lv_topi (fun v837 ev837 => ?_)
            refine lv_iload hx hb dX8_relax_76 (lv_at hl 0 rfl) ?_
            refine lv_iadd hx hb dX8_relax_78 ?_
            refine lv_topi (fun v838 ev838 => ?_)
            refine va_mmin hx hb (hml.trans hl.1.symm) hown (hts _ w_141) (hts _ w_142) (hts _ w_143) (hts _ w_144) (by decide) (Nat.le_of_ble_eq_true rfl) (by decide) (by decide) dX8_relax_79 ?_
            refine lv_topi (fun v839 ev839 => ?_)
            have tv839 := min_i ev839
            refine sti hx hb hE.1 hP hD hS 1 1 rfl rfl (vp_in_iff.mpr (by omega)) dX8_relax_82 (fun g840 eg840 H locs hP hD hS => ?_)
            replace hP : va_P D vwCl [(w, .inr (7, [.ref wa0, .ref wa1, .ref wa2])), (wa0, .inl (K 1, 10, .inl g840)), (v, .inr (9, [.ref va0, .ref va1, .ref va2, .ref va3, .ref va4, .ref va5, .ref va6, .ref va7, .int vn8, .int vn9, .int vn10, .int vn11])), (va0, .inl (K 1, 40, .inl vf0)), (va1, .inl (K 1, 10, .inl vf1))] H := hP
            replace hD : va_D A [(w, .inr (7, [.ref wa0, .ref wa1, .ref wa2])), (wa0, .inl (K 1, 10, .inl g840)), (v, .inr (9, [.ref va0, .ref va1, .ref va2, .ref va3, .ref va4, .ref va5, .ref va6, .ref va7, .int vn8, .int vn9, .int vn10, .int vn11])), (va0, .inl (K 1, 40, .inl vf0)), (va1, .inl (K 1, 10, .inl vf1))] := hD
            obtain ⟨v841, ev841⟩ : ∃ z : Int32, z = i819 + 1 := ⟨_, rfl⟩
            refine lv_iinc (v := v841) (lv' := [(4, .int v841), (6, .int v835), (5, .int r822), (0, .ref w), (1, .ref v), (2, .int p1), (3, .int p2)]) hx hb dX8_relax_83 hl (k := 2) rfl (by rw [ev841]; rfl) (by decide) rfl (fun ls hl => ?_)
            refine lv_goto (tgt := 15) hx hb dX8_relax_86 (by decide) ?_
            have tv841 : v841.toInt = (i819 : Int32).toInt + (1 : Int32).toInt := add_i ev841 (by omega) (by omega)
            exact ih_15 (i819 := v841) (g820 := g840) (hi_15 := by omega) (H := H) (locs := locs) (ls := ls) (hn_15 := by omega) (hP := hP) (hD := hD) (hS := hS) (hl := lv_sub hl [0, 3, 4, 5, 6] rfl)
  · replace c796 := eq_i c796
    refine W.widen (k := 0) (n := 0) (by decide) (by decide) ?_
    exact ch_vret hC hr hk hS dX8_relax_11 ((fun k => [].getD k 0, fun k => [wf0].getD k (fun _ => 0), fun k => [].getD k (fun _ => 0)) : ((Nat → Int32) × (Nat → Nat → Int32) × (Nat → Nat → Int64))) trivial (hP.sub [0, 1, 2, 3, 4] rfl) (hD.sub [0, 1, 2, 3, 4] (by decide) rfl)
set_option maxRecDepth 40000 in
set_option maxHeartbeats 4000000 in
theorem c_X8_cheapest (l : Launch) (D : va_G) (K : Nat → ClassId) (w : Nat) (wa0 : Nat) (wa1 : Nat) (wa2 : Nat) (v : Nat) (va0 : Nat) (va1 : Nat) (va2 : Nat) (va3 : Nat) (va4 : Nat) (va5 : Nat) (va6 : Nat) (va7 : Nat) (vn8 : Int32) (vn9 : Int32) (vn10 : Int32) (vn11 : Int32) (wf0 : Nat → Int32) (vf0 : Nat → Int32) (vf1 : Nat → Int32) (p1 : Int32) (p2 : Int32) (p3 : Int32) : Ci (S := ((Nat → Int32) × (Nat → Nat → Int32) × (Nat → Nat → Int64))) l D K yX8_cheapest cX8_cheapest 7 (some .int) 3 69 0 0 [.ref w, .ref v, .int p1, .int p2, .int p3] [(w, .inr (7, [.ref wa0, .ref wa1, .ref wa2])), (wa0, .inl (K 1, 10, .inl wf0)), (v, .inr (9, [.ref va0, .ref va1, .ref va2, .ref va3, .ref va4, .ref va5, .ref va6, .ref va7, .int vn8, .int vn9, .int vn10, .int vn11])), (va0, .inl (K 1, 40, .inl vf0)), (va1, .inl (K 1, 10, .inl vf1))] (fun _ _ => True) (fun u => [(w, .inr (7, [.ref wa0, .ref wa1, .ref wa2])), (wa0, .inl (K 1, 10, .inl (u.2.1 0))), (v, .inr (9, [.ref va0, .ref va1, .ref va2, .ref va3, .ref va4, .ref va5, .ref va6, .ref va7, .int vn8, .int vn9, .int vn10, .int vn11])), (va0, .inl (K 1, 40, .inl vf0)), (va1, .inl (K 1, 10, .inl vf1))]) := by
  intro sz
  refine ch_of (y := yX8_cheapest) (cc := cX8_cheapest) (maxL := 7) (ret := (some .int)) (av := [.ref w, .ref v, .int p1, .int p2, .int p3]) (ws := [(w, .inr (7, [.ref wa0, .ref wa1, .ref wa2])), (wa0, .inl (K 1, 10, .inl wf0)), (v, .inr (9, [.ref va0, .ref va1, .ref va2, .ref va3, .ref va4, .ref va5, .ref va6, .ref va7, .int vn8, .int vn9, .int vn10, .int vn11])), (va0, .inl (K 1, 40, .inl vf0)), (va1, .inl (K 1, 10, .inl vf1))]) (D := D) (K := K) (Qc := fun A => va_Qi (S := ((Nat → Int32) × (Nat → Nat → Int32) × (Nat → Nat → Int64))) (fun _ _ => True) (chB D A (fun u => [(w, .inr (7, [.ref wa0, .ref wa1, .ref wa2])), (wa0, .inl (K 1, 10, .inl (u.2.1 0))), (v, .inr (9, [.ref va0, .ref va1, .ref va2, .ref va3, .ref va4, .ref va5, .ref va6, .ref va7, .int vn8, .int vn9, .int vn10, .int vn11])), (va0, .inl (K 1, 40, .inl vf0)), (va1, .inl (K 1, 10, .inl vf1))])) A) (by decide) (Nat.le_of_ble_eq_true rfl) ?_
  intro p e s m below meth c A hC hr hk hin hE hD hA H locs hP hS ls hl
  replace hC : CallFix p m c cX8_cheapest 7 s [.ref w, .ref v, .int p1, .int p2, .int p3].toArray wl RX8 := hC
  have hx := hC.1
  have hb := hC.2.1
  have hml := hC.2.2.1
  have hown := hC.2.2.2.1
  have hts := hC.2.2.2.2
  replace hl : lv_has ls 7 [(0, .ref w), (1, .ref v), (2, .int p1), (3, .int p2), (4, .int p3)] := hl
  have kc_0 : (0 : Int32).toInt = 0 := by decide
  have kc_1 : (1 : Int32).toInt = 1 := by decide
  have kc_10 : (10 : Int32).toInt = 10 := by decide
  have kc_1000000000 : (1000000000 : Int32).toInt = 1000000000 := by decide
  refine lv_aload_n hx hb dX8_cheapest_0 rfl (lv_at hl 1 rfl) ?_
  refine lv_iload_n hx hb dX8_cheapest_1 rfl (lv_at hl 2 rfl) ?_
  refine ro_V (As := [.int p1]) (rest := []) hC hE kV_X8_21 (c_X10_hasPlace l D K v va0 va1 va2 va3 va4 va5 va6 va7 vn8 vn9 vn10 vn11 p1) (hP.sub (ws' := [(v, .inr (9, [.ref va0, .ref va1, .ref va2, .ref va3, .ref va4, .ref va5, .ref va6, .ref va7, .int vn8, .int vn9, .int vn10, .int vn11]))]) [2] rfl) 0 9 rfl rfl rfl hl.1 rfl (Nat.le_of_ble_eq_true rfl) (by decide) (by decide) dX8_cheapest_2 (fun r866 hq => ?_)
  rcases hq with rfl | ⟨rfl, h864, h865⟩
  · refine lv_if_eq (tgt := 16) hx hb dX8_cheapest_5 (by decide) (fun _ => ?_) (fun h => absurd h (by decide))
    refine lv_iconst (v := (-1)) hx hb dX8_cheapest_16 (by decide) ?_
    refine W.widen (k := 0) (n := 0) (by decide) (by decide) ?_
    exact ch_iret hC hr hk hS dX8_cheapest_17 ((fun k => [].getD k 0, fun k => [wf0].getD k (fun _ => 0), fun k => [].getD k (fun _ => 0)) : ((Nat → Int32) × (Nat → Nat → Int32) × (Nat → Nat → Int64))) trivial (hP.sub [0, 1, 2, 3, 4] rfl) (hD.sub [0, 1, 2, 3, 4] (by decide) rfl)
  · refine lv_if_eq (tgt := 16) hx hb dX8_cheapest_5 (by decide) (fun h => absurd h (by decide)) (fun _ => ?_)
    refine lv_aload_n hx hb dX8_cheapest_8 rfl (lv_at hl 1 rfl) ?_
    refine lv_iload_n hx hb dX8_cheapest_9 rfl (lv_at hl 3 rfl) ?_
    refine ro_V (As := [.int p2]) (rest := []) hC hE kV_X8_21 (c_X10_hasPlace l D K v va0 va1 va2 va3 va4 va5 va6 va7 vn8 vn9 vn10 vn11 p2) (hP.sub (ws' := [(v, .inr (9, [.ref va0, .ref va1, .ref va2, .ref va3, .ref va4, .ref va5, .ref va6, .ref va7, .int vn8, .int vn9, .int vn10, .int vn11]))]) [2] rfl) 0 9 rfl rfl rfl hl.1 rfl (Nat.le_of_ble_eq_true rfl) (by decide) (by decide) dX8_cheapest_10 (fun r869 hq => ?_)
    rcases hq with rfl | ⟨rfl, h867, h868⟩
    · refine lv_if_ne (tgt := 18) hx hb dX8_cheapest_13 (by decide) (fun h => absurd h (by decide)) (fun _ => ?_)
      refine lv_iconst (v := (-1)) hx hb dX8_cheapest_16 (by decide) ?_
      refine W.widen (k := 0) (n := 0) (by decide) (by decide) ?_
      exact ch_iret hC hr hk hS dX8_cheapest_17 ((fun k => [].getD k 0, fun k => [wf0].getD k (fun _ => 0), fun k => [].getD k (fun _ => 0)) : ((Nat → Int32) × (Nat → Nat → Int32) × (Nat → Nat → Int64))) trivial (hP.sub [0, 1, 2, 3, 4] rfl) (hD.sub [0, 1, 2, 3, 4] (by decide) rfl)
    · refine lv_if_ne (tgt := 18) hx hb dX8_cheapest_13 (by decide) (fun _ => ?_) (fun h => absurd h (by decide))
      refine lv_aload_n hx hb dX8_cheapest_18 rfl (lv_at hl 0 rfl) ?_
      refine va_get (D := D) (ci := 7) (v := .ref wa0) (C := RX8) (T := TX8) (N := 3) hx hb hts in_X8 hown hE.1 hP 0 rfl rfl 0 (by decide) (hts _ w_140) (fun _ h9 => h9) rfl dX8_cheapest_19 ?_
      refine lv_ldc (v := 1000000000) hx hb hown (hts _ w_145) dX8_cheapest_22 ?_
      refine cv_S (As := [.ref wa0, .int 1000000000]) (rest := []) (wc := [(wa0, .inl (K 1, 10, .inl wf0))]) (wr := [(w, .inr (7, [.ref wa0, .ref wa1, .ref wa2])), (v, .inr (9, [.ref va0, .ref va1, .ref va2, .ref va3, .ref va4, .ref va5, .ref va6, .ref va7, .int vn8, .int vn9, .int vn10, .int vn11])), (va0, .inl (K 1, 40, .inl vf0)), (va1, .inl (K 1, 10, .inl vf1))]) hC hE kS_X8_28 (c_J7_fill_10 l D K wa0 wf0 1000000000) hP hD hS hA [1] [0, 2, 3, 4] rfl rfl rfl (by decide) (by decide) (by decide) rfl hl.1 rfl (Nat.le_of_ble_eq_true rfl) (by decide) (by decide) dX8_cheapest_24 (fun u870 H locs hw hP hD hS => ?_)
      replace hP : va_P D vwCl [(w, .inr (7, [.ref wa0, .ref wa1, .ref wa2])), (v, .inr (9, [.ref va0, .ref va1, .ref va2, .ref va3, .ref va4, .ref va5, .ref va6, .ref va7, .int vn8, .int vn9, .int vn10, .int vn11])), (va0, .inl (K 1, 40, .inl vf0)), (va1, .inl (K 1, 10, .inl vf1)), (wa0, .inl (K 1, 10, .inl (u870.2.1 0)))] H := hP
      replace hD : va_D A [(w, .inr (7, [.ref wa0, .ref wa1, .ref wa2])), (v, .inr (9, [.ref va0, .ref va1, .ref va2, .ref va3, .ref va4, .ref va5, .ref va6, .ref va7, .int vn8, .int vn9, .int vn10, .int vn11])), (va0, .inl (K 1, 40, .inl vf0)), (va1, .inl (K 1, 10, .inl vf1)), (wa0, .inl (K 1, 10, .inl (u870.2.1 0)))] := hD
      replace hP : va_P D vwCl [(w, .inr (7, [.ref wa0, .ref wa1, .ref wa2])), (wa0, .inl (K 1, 10, .inl (u870.2.1 0))), (v, .inr (9, [.ref va0, .ref va1, .ref va2, .ref va3, .ref va4, .ref va5, .ref va6, .ref va7, .int vn8, .int vn9, .int vn10, .int vn11])), (va0, .inl (K 1, 40, .inl vf0)), (va1, .inl (K 1, 10, .inl vf1))] H := hP.sub [0, 4, 1, 2, 3] rfl
      replace hD : va_D A [(w, .inr (7, [.ref wa0, .ref wa1, .ref wa2])), (wa0, .inl (K 1, 10, .inl (u870.2.1 0))), (v, .inr (9, [.ref va0, .ref va1, .ref va2, .ref va3, .ref va4, .ref va5, .ref va6, .ref va7, .int vn8, .int vn9, .int vn10, .int vn11])), (va0, .inl (K 1, 40, .inl vf0)), (va1, .inl (K 1, 10, .inl vf1))] := hD.sub [0, 4, 1, 2, 3] (by decide) rfl
      refine W.widen (k := 0) (n := 0) (by decide) (by decide) ?_
      refine lv_aload_n hx hb dX8_cheapest_27 rfl (lv_at hl 0 rfl) ?_
      refine va_get (D := D) (ci := 7) (v := .ref wa0) (C := RX8) (T := TX8) (N := 3) hx hb hts in_X8 hown hE.1 hP 0 rfl rfl 0 (by decide) (hts _ w_140) (fun _ h9 => h9) rfl dX8_cheapest_28 ?_
      refine lv_iload_n hx hb dX8_cheapest_31 rfl (lv_at hl 2 rfl) ?_
      refine lv_iconst (v := 0) hx hb dX8_cheapest_32 (by decide) ?_
      refine sti hx hb hE.1 hP hD hS 1 1 rfl rfl (vp_in_iff.mpr (by omega)) dX8_cheapest_33 (fun g872 eg872 H locs hP hD hS => ?_)
      replace hP : va_P D vwCl [(w, .inr (7, [.ref wa0, .ref wa1, .ref wa2])), (wa0, .inl (K 1, 10, .inl g872)), (v, .inr (9, [.ref va0, .ref va1, .ref va2, .ref va3, .ref va4, .ref va5, .ref va6, .ref va7, .int vn8, .int vn9, .int vn10, .int vn11])), (va0, .inl (K 1, 40, .inl vf0)), (va1, .inl (K 1, 10, .inl vf1))] H := hP
      replace hD : va_D A [(w, .inr (7, [.ref wa0, .ref wa1, .ref wa2])), (wa0, .inl (K 1, 10, .inl g872)), (v, .inr (9, [.ref va0, .ref va1, .ref va2, .ref va3, .ref va4, .ref va5, .ref va6, .ref va7, .int vn8, .int vn9, .int vn10, .int vn11])), (va0, .inl (K 1, 40, .inl vf0)), (va1, .inl (K 1, 10, .inl vf1))] := hD
      refine lv_iconst (v := 0) hx hb dX8_cheapest_34 (by decide) ?_
      refine lv_istore (lv' := [(5, .int 0), (0, .ref w), (1, .ref v), (2, .int p1), (3, .int p2), (4, .int p3)]) hx hb dX8_cheapest_35 hl (by decide) rfl (fun ls hl => ?_)
      have hl' := hl; have hP' := hP; have hD' := hD; clear hl hP hD
      obtain ⟨i883, g884, hi_37, hl, hP, hD⟩ : ∃ (i883 : Int32) (g884 : Nat → Int32), ((0 : Int) ≤ i883.toInt) ∧ lv_has ls 7 [(5, .int i883), (0, .ref w), (1, .ref v), (2, .int p1), (3, .int p2), (4, .int p3)] ∧ va_P D vwCl [(w, .inr (7, [.ref wa0, .ref wa1, .ref wa2])), (wa0, .inl (K 1, 10, .inl g884)), (v, .inr (9, [.ref va0, .ref va1, .ref va2, .ref va3, .ref va4, .ref va5, .ref va6, .ref va7, .int vn8, .int vn9, .int vn10, .int vn11])), (va0, .inl (K 1, 40, .inl vf0)), (va1, .inl (K 1, 10, .inl vf1))] H ∧ va_D A [(w, .inr (7, [.ref wa0, .ref wa1, .ref wa2])), (wa0, .inl (K 1, 10, .inl g884)), (v, .inr (9, [.ref va0, .ref va1, .ref va2, .ref va3, .ref va4, .ref va5, .ref va6, .ref va7, .int vn8, .int vn9, .int vn10, .int vn11])), (va0, .inl (K 1, 40, .inl vf0)), (va1, .inl (K 1, 10, .inl vf1))] := ⟨_, _, by omega, hl', hP', hD'⟩
      clear hl' hP' hD'
      obtain ⟨n_37, hn_37⟩ : ∃ n : Nat, (10 - i883.toInt).toNat < n := ⟨_, Nat.lt_succ_self _⟩
      induction n_37 generalizing i883 g884 H locs ls with
      | zero => exact absurd hn_37 (Nat.not_lt_zero _)
      | succ n_37 ih_37 =>
        refine lv_iload hx hb dX8_cheapest_37 (lv_at hl 0 rfl) ?_
        refine lv_bipush (v := 10) hx hb dX8_cheapest_39 (by decide) ?_
        refine lv_icmp_ge (tgt := 84) hx hb dX8_cheapest_41 (by decide) (fun c885 => ?_) (fun c885 => ?_)
        · replace c885 := le_i c885
          refine lv_aload_n hx hb dX8_cheapest_84 rfl (lv_at hl 1 rfl) ?_
          refine va_get (D := D) (ci := 7) (v := .ref wa0) (C := RX8) (T := TX8) (N := 3) hx hb hts in_X8 hown hE.1 hP 0 rfl rfl 0 (by decide) (hts _ w_140) (fun _ h9 => h9) rfl dX8_cheapest_85 ?_
          refine lv_iload_n hx hb dX8_cheapest_88 rfl (lv_at hl 4 rfl) ?_
          refine va_iald hx hb hE.1 hP 1 1 rfl rfl (vp_in_iff.mpr (by omega)) dX8_cheapest_89 ?_
          refine lv_topi (fun v886 ev886 => ?_)
          refine lv_ldc (v := 1000000000) hx hb hown (hts _ w_145) dX8_cheapest_90 ?_
          refine lv_icmp_ne (tgt := 99) hx hb dX8_cheapest_92 (by decide) (fun c887 => ?_) (fun c887 => ?_)
          · replace c887 := ne_i c887
            refine lv_aload_n hx hb dX8_cheapest_99 rfl (lv_at hl 1 rfl) ?_
            refine va_get (D := D) (ci := 7) (v := .ref wa0) (C := RX8) (T := TX8) (N := 3) hx hb hts in_X8 hown hE.1 hP 0 rfl rfl 0 (by decide) (hts _ w_140) (fun _ h9 => h9) rfl dX8_cheapest_100 ?_
            refine lv_iload_n hx hb dX8_cheapest_103 rfl (lv_at hl 4 rfl) ?_
            refine va_iald hx hb hE.1 hP 1 1 rfl rfl (vp_in_iff.mpr (by omega)) dX8_cheapest_104 ?_
            refine lv_topi (fun v888 ev888 => ?_)
            refine W.widen (k := 0) (n := 0) (by decide) (by decide) ?_
            exact ch_iret hC hr hk hS dX8_cheapest_105 ((fun k => [].getD k 0, fun k => [g884].getD k (fun _ => 0), fun k => [].getD k (fun _ => 0)) : ((Nat → Int32) × (Nat → Nat → Int32) × (Nat → Nat → Int64))) trivial (hP.sub [0, 1, 2, 3, 4] rfl) (hD.sub [0, 1, 2, 3, 4] (by decide) rfl)
          · replace c887 := eq_i c887
            refine lv_iconst (v := (-1)) hx hb dX8_cheapest_95 (by decide) ?_
            refine lv_goto (tgt := 105) hx hb dX8_cheapest_96 (by decide) ?_
            refine W.widen (k := 0) (n := 0) (by decide) (by decide) ?_
            exact ch_iret hC hr hk hS dX8_cheapest_105 ((fun k => [].getD k 0, fun k => [g884].getD k (fun _ => 0), fun k => [].getD k (fun _ => 0)) : ((Nat → Int32) × (Nat → Nat → Int32) × (Nat → Nat → Int64))) trivial (hP.sub [0, 1, 2, 3, 4] rfl) (hD.sub [0, 1, 2, 3, 4] (by decide) rfl)
        · replace c885 := nle_i c885
          refine lv_iconst (v := 0) hx hb dX8_cheapest_44 (by decide) ?_
          refine lv_istore (lv' := [(6, .int 0), (5, .int i883), (0, .ref w), (1, .ref v), (2, .int p1), (3, .int p2), (4, .int p3)]) hx hb dX8_cheapest_45 hl (by decide) rfl (fun ls hl => ?_)
          have hl' := hl; have hP' := hP; have hD' := hD; clear hl hP hD
          obtain ⟨i895, g896, hi_47, hl, hP, hD⟩ : ∃ (i895 : Int32) (g896 : Nat → Int32), ((0 : Int) ≤ i895.toInt) ∧ lv_has ls 7 [(6, .int i895), (5, .int i883), (0, .ref w), (1, .ref v), (2, .int p1), (3, .int p2), (4, .int p3)] ∧ va_P D vwCl [(w, .inr (7, [.ref wa0, .ref wa1, .ref wa2])), (wa0, .inl (K 1, 10, .inl g896)), (v, .inr (9, [.ref va0, .ref va1, .ref va2, .ref va3, .ref va4, .ref va5, .ref va6, .ref va7, .int vn8, .int vn9, .int vn10, .int vn11])), (va0, .inl (K 1, 40, .inl vf0)), (va1, .inl (K 1, 10, .inl vf1))] H ∧ va_D A [(w, .inr (7, [.ref wa0, .ref wa1, .ref wa2])), (wa0, .inl (K 1, 10, .inl g896)), (v, .inr (9, [.ref va0, .ref va1, .ref va2, .ref va3, .ref va4, .ref va5, .ref va6, .ref va7, .int vn8, .int vn9, .int vn10, .int vn11])), (va0, .inl (K 1, 40, .inl vf0)), (va1, .inl (K 1, 10, .inl vf1))] := ⟨_, _, by omega, hl', hP', hD'⟩
          clear hl' hP' hD'
          obtain ⟨n_47, hn_47⟩ : ∃ n : Nat, (10 - i895.toInt).toNat < n := ⟨_, Nat.lt_succ_self _⟩
          induction n_47 generalizing i895 g896 H locs ls with
          | zero => exact absurd hn_47 (Nat.not_lt_zero _)
          | succ n_47 ih_47 =>
            refine lv_iload hx hb dX8_cheapest_47 (lv_at hl 0 rfl) ?_
            refine lv_aload_n hx hb dX8_cheapest_49 rfl (lv_at hl 3 rfl) ?_
            refine va_get (D := D) (ci := 9) (v := .int vn8) (C := RX10) (T := TX10) (N := 12) hx hb hts in_X10 hown hE.1 hP 2 rfl rfl 8 (by decide) (hts _ w_149) (fun _ h9 => h9) rfl dX8_cheapest_50 ?_
            refine lv_icmp_ge (tgt := 78) hx hb dX8_cheapest_53 (by decide) (fun c897 => ?_) (fun c897 => ?_)
            · replace c897 := le_i c897
              obtain ⟨v898, ev898⟩ : ∃ z : Int32, z = i883 + 1 := ⟨_, rfl⟩
              refine lv_iinc (v := v898) (lv' := [(5, .int v898), (6, .int i895), (0, .ref w), (1, .ref v), (2, .int p1), (3, .int p2), (4, .int p3)]) hx hb dX8_cheapest_78 hl (k := 1) rfl (by rw [ev898]; rfl) (by decide) rfl (fun ls hl => ?_)
              refine lv_goto (tgt := 37) hx hb dX8_cheapest_81 (by decide) ?_
              have tv898 : v898.toInt = (i883 : Int32).toInt + (1 : Int32).toInt := add_i ev898 (by omega) (by omega)
              exact ih_37 (i883 := v898) (g884 := g896) (hi_37 := by omega) (H := H) (locs := locs) (ls := ls) (hn_37 := by omega) (hP := hP) (hD := hD) (hS := hS) (hl := lv_sub hl [0, 2, 3, 4, 5, 6] rfl)
            · replace c897 := nle_i c897
              refine lv_iload hx hb dX8_cheapest_56 (lv_at hl 0 rfl) ?_
              refine lv_bipush (v := 10) hx hb dX8_cheapest_58 (by decide) ?_
              refine lv_icmp_ge (tgt := 78) hx hb dX8_cheapest_60 (by decide) (fun c899 => ?_) (fun c899 => ?_)
              · replace c899 := le_i c899
                obtain ⟨v900, ev900⟩ : ∃ z : Int32, z = i883 + 1 := ⟨_, rfl⟩
                refine lv_iinc (v := v900) (lv' := [(5, .int v900), (6, .int i895), (0, .ref w), (1, .ref v), (2, .int p1), (3, .int p2), (4, .int p3)]) hx hb dX8_cheapest_78 hl (k := 1) rfl (by rw [ev900]; rfl) (by decide) rfl (fun ls hl => ?_)
                refine lv_goto (tgt := 37) hx hb dX8_cheapest_81 (by decide) ?_
                have tv900 : v900.toInt = (i883 : Int32).toInt + (1 : Int32).toInt := add_i ev900 (by omega) (by omega)
                exact ih_37 (i883 := v900) (g884 := g896) (hi_37 := by omega) (H := H) (locs := locs) (ls := ls) (hn_37 := by omega) (hP := hP) (hD := hD) (hS := hS) (hl := lv_sub hl [0, 2, 3, 4, 5, 6] rfl)
              · replace c899 := nle_i c899
                refine lv_aload_n hx hb dX8_cheapest_63 rfl (lv_at hl 2 rfl) ?_
                refine lv_aload_n hx hb dX8_cheapest_64 rfl (lv_at hl 3 rfl) ?_
                refine lv_iload hx hb dX8_cheapest_65 (lv_at hl 0 rfl) ?_
                refine lv_iload hx hb dX8_cheapest_67 (lv_at hl 6 rfl) ?_
                refine cv_V (As := [.ref v, .int i895, .int p3]) (rest := []) (wc := [(w, .inr (7, [.ref wa0, .ref wa1, .ref wa2])), (wa0, .inl (K 1, 10, .inl g896)), (v, .inr (9, [.ref va0, .ref va1, .ref va2, .ref va3, .ref va4, .ref va5, .ref va6, .ref va7, .int vn8, .int vn9, .int vn10, .int vn11])), (va0, .inl (K 1, 40, .inl vf0)), (va1, .inl (K 1, 10, .inl vf1))]) (wr := []) hC hE kV_X8_38 (c_X8_relax l D K w wa0 wa1 wa2 v va0 va1 va2 va3 va4 va5 va6 va7 vn8 vn9 vn10 vn11 g896 vf0 vf1 i895 p3 (by omega) (by omega)) hP hD hS hA [0, 1, 2, 3, 4] [] rfl rfl rfl (by decide) (by decide) (by decide) 0 7 rfl rfl rfl hl.1 rfl (Nat.le_of_ble_eq_true rfl) (by decide) (by decide) dX8_cheapest_69 (fun u901 H locs hw hP hD hS => ?_)
                replace hP : va_P D vwCl [(w, .inr (7, [.ref wa0, .ref wa1, .ref wa2])), (wa0, .inl (K 1, 10, .inl (u901.2.1 0))), (v, .inr (9, [.ref va0, .ref va1, .ref va2, .ref va3, .ref va4, .ref va5, .ref va6, .ref va7, .int vn8, .int vn9, .int vn10, .int vn11])), (va0, .inl (K 1, 40, .inl vf0)), (va1, .inl (K 1, 10, .inl vf1))] H := hP
                replace hD : va_D A [(w, .inr (7, [.ref wa0, .ref wa1, .ref wa2])), (wa0, .inl (K 1, 10, .inl (u901.2.1 0))), (v, .inr (9, [.ref va0, .ref va1, .ref va2, .ref va3, .ref va4, .ref va5, .ref va6, .ref va7, .int vn8, .int vn9, .int vn10, .int vn11])), (va0, .inl (K 1, 40, .inl vf0)), (va1, .inl (K 1, 10, .inl vf1))] := hD
                replace hP : va_P D vwCl [(w, .inr (7, [.ref wa0, .ref wa1, .ref wa2])), (wa0, .inl (K 1, 10, .inl (u901.2.1 0))), (v, .inr (9, [.ref va0, .ref va1, .ref va2, .ref va3, .ref va4, .ref va5, .ref va6, .ref va7, .int vn8, .int vn9, .int vn10, .int vn11])), (va0, .inl (K 1, 40, .inl vf0)), (va1, .inl (K 1, 10, .inl vf1))] H := hP.sub [0, 1, 2, 3, 4] rfl
                replace hD : va_D A [(w, .inr (7, [.ref wa0, .ref wa1, .ref wa2])), (wa0, .inl (K 1, 10, .inl (u901.2.1 0))), (v, .inr (9, [.ref va0, .ref va1, .ref va2, .ref va3, .ref va4, .ref va5, .ref va6, .ref va7, .int vn8, .int vn9, .int vn10, .int vn11])), (va0, .inl (K 1, 40, .inl vf0)), (va1, .inl (K 1, 10, .inl vf1))] := hD.sub [0, 1, 2, 3, 4] (by decide) rfl
                refine W.widen (k := 0) (n := 0) (by decide) (by decide) ?_
                obtain ⟨v903, ev903⟩ : ∃ z : Int32, z = i895 + 1 := ⟨_, rfl⟩
                refine lv_iinc (v := v903) (lv' := [(6, .int v903), (5, .int i883), (0, .ref w), (1, .ref v), (2, .int p1), (3, .int p2), (4, .int p3)]) hx hb dX8_cheapest_72 hl (k := 0) rfl (by rw [ev903]; rfl) (by decide) rfl (fun ls hl => ?_)
                refine lv_goto (tgt := 47) hx hb dX8_cheapest_75 (by decide) ?_
                have tv903 : v903.toInt = (i895 : Int32).toInt + (1 : Int32).toInt := add_i ev903 (by omega) (by omega)
                exact ih_47 (i895 := v903) (g896 := (u901.2.1 0)) (hi_47 := by omega) (H := H) (locs := locs) (ls := ls) (hn_47 := by omega) (hP := hP) (hD := hD) (hS := hS) (hl := lv_sub hl [0, 1, 2, 3, 4, 5, 6] rfl)
set_option maxRecDepth 40000 in
set_option maxHeartbeats 4000000 in
theorem c_X8_drift (l : Launch) (D : va_G) (K : Nat → ClassId) (w : Nat) (wa0 : Nat) (wa1 : Nat) (wa2 : Nat) (v : Nat) (va0 : Nat) (va1 : Nat) (va2 : Nat) (va3 : Nat) (va4 : Nat) (va5 : Nat) (va6 : Nat) (va7 : Nat) (vn8 : Int32) (vn9 : Int32) (vn10 : Int32) (vn11 : Int32) (wf0 : Nat → Int32) (wf1 : Nat → Int32) (wf2 : Nat → Int32) (vf0 : Nat → Int32) (p1 : Int32) (p2 : Int32) : Cv (S := ((Nat → Int32) × (Nat → Nat → Int32) × (Nat → Nat → Int64))) l D K yX8_drift cX8_drift 8 2 43 0 0 [.ref w, .ref v, .int p1, .int p2] [(w, .inr (7, [.ref wa0, .ref wa1, .ref wa2])), (wa0, .inl (K 1, 10, .inl wf0)), (wa1, .inl (K 1, 10, .inl wf1)), (wa2, .inl (K 1, 10, .inl wf2)), (v, .inr (9, [.ref va0, .ref va1, .ref va2, .ref va3, .ref va4, .ref va5, .ref va6, .ref va7, .int vn8, .int vn9, .int vn10, .int vn11])), (va0, .inl (K 1, 40, .inl vf0))] (fun _ => True) (fun u => [(w, .inr (7, [.ref wa0, .ref wa1, .ref wa2])), (wa0, .inl (K 1, 10, .inl wf0)), (wa1, .inl (K 1, 10, .inl (u.2.1 0))), (wa2, .inl (K 1, 10, .inl (u.2.1 1))), (v, .inr (9, [.ref va0, .ref va1, .ref va2, .ref va3, .ref va4, .ref va5, .ref va6, .ref va7, .int vn8, .int vn9, .int vn10, .int vn11])), (va0, .inl (K 1, 40, .inl vf0))]) := by
  intro sz
  refine ch_of (y := yX8_drift) (cc := cX8_drift) (maxL := 8) (ret := none) (av := [.ref w, .ref v, .int p1, .int p2]) (ws := [(w, .inr (7, [.ref wa0, .ref wa1, .ref wa2])), (wa0, .inl (K 1, 10, .inl wf0)), (wa1, .inl (K 1, 10, .inl wf1)), (wa2, .inl (K 1, 10, .inl wf2)), (v, .inr (9, [.ref va0, .ref va1, .ref va2, .ref va3, .ref va4, .ref va5, .ref va6, .ref va7, .int vn8, .int vn9, .int vn10, .int vn11])), (va0, .inl (K 1, 40, .inl vf0))]) (D := D) (K := K) (Qc := fun A => va_Qv (S := ((Nat → Int32) × (Nat → Nat → Int32) × (Nat → Nat → Int64))) (fun _ => True) (chB D A (fun u => [(w, .inr (7, [.ref wa0, .ref wa1, .ref wa2])), (wa0, .inl (K 1, 10, .inl wf0)), (wa1, .inl (K 1, 10, .inl (u.2.1 0))), (wa2, .inl (K 1, 10, .inl (u.2.1 1))), (v, .inr (9, [.ref va0, .ref va1, .ref va2, .ref va3, .ref va4, .ref va5, .ref va6, .ref va7, .int vn8, .int vn9, .int vn10, .int vn11])), (va0, .inl (K 1, 40, .inl vf0))])) A) (by decide) (Nat.le_of_ble_eq_true rfl) ?_
  intro p e s m below meth c A hC hr hk hin hE hD hA H locs hP hS ls hl
  replace hC : CallFix p m c cX8_drift 8 s [.ref w, .ref v, .int p1, .int p2].toArray wl RX8 := hC
  have hx := hC.1
  have hb := hC.2.1
  have hml := hC.2.2.1
  have hown := hC.2.2.2.1
  have hts := hC.2.2.2.2
  replace hl : lv_has ls 8 [(0, .ref w), (1, .ref v), (2, .int p1), (3, .int p2)] := hl
  have kc_0 : (0 : Int32).toInt = 0 := by decide
  have kc_1 : (1 : Int32).toInt = 1 := by decide
  have kc_4 : (4 : Int32).toInt = 4 := by decide
  have kc_10 : (10 : Int32).toInt = 10 := by decide
  refine lv_aload_n hx hb dX8_drift_0 rfl (lv_at hl 0 rfl) ?_
  refine va_get (D := D) (ci := 7) (v := .ref wa1) (C := RX8) (T := TX8) (N := 3) hx hb hts in_X8 hown hE.1 hP 0 rfl rfl 1 (by decide) (hts _ w_139) (fun _ h9 => h9) rfl dX8_drift_1 ?_
  refine lv_iconst (v := 0) hx hb dX8_drift_4 (by decide) ?_
  refine cv_S (As := [.ref wa1, .int 0]) (rest := []) (wc := [(wa1, .inl (K 1, 10, .inl wf1))]) (wr := [(w, .inr (7, [.ref wa0, .ref wa1, .ref wa2])), (wa0, .inl (K 1, 10, .inl wf0)), (wa2, .inl (K 1, 10, .inl wf2)), (v, .inr (9, [.ref va0, .ref va1, .ref va2, .ref va3, .ref va4, .ref va5, .ref va6, .ref va7, .int vn8, .int vn9, .int vn10, .int vn11])), (va0, .inl (K 1, 40, .inl vf0))]) hC hE kS_X8_28 (c_J7_fill_10 l D K wa1 wf1 0) hP hD hS hA [2] [0, 1, 3, 4, 5] rfl rfl rfl (by decide) (by decide) (by decide) rfl hl.1 rfl (Nat.le_of_ble_eq_true rfl) (by decide) (by decide) dX8_drift_5 (fun u958 H locs hw hP hD hS => ?_)
  replace hP : va_P D vwCl [(w, .inr (7, [.ref wa0, .ref wa1, .ref wa2])), (wa0, .inl (K 1, 10, .inl wf0)), (wa2, .inl (K 1, 10, .inl wf2)), (v, .inr (9, [.ref va0, .ref va1, .ref va2, .ref va3, .ref va4, .ref va5, .ref va6, .ref va7, .int vn8, .int vn9, .int vn10, .int vn11])), (va0, .inl (K 1, 40, .inl vf0)), (wa1, .inl (K 1, 10, .inl (u958.2.1 0)))] H := hP
  replace hD : va_D A [(w, .inr (7, [.ref wa0, .ref wa1, .ref wa2])), (wa0, .inl (K 1, 10, .inl wf0)), (wa2, .inl (K 1, 10, .inl wf2)), (v, .inr (9, [.ref va0, .ref va1, .ref va2, .ref va3, .ref va4, .ref va5, .ref va6, .ref va7, .int vn8, .int vn9, .int vn10, .int vn11])), (va0, .inl (K 1, 40, .inl vf0)), (wa1, .inl (K 1, 10, .inl (u958.2.1 0)))] := hD
  replace hP : va_P D vwCl [(w, .inr (7, [.ref wa0, .ref wa1, .ref wa2])), (wa0, .inl (K 1, 10, .inl wf0)), (wa1, .inl (K 1, 10, .inl (u958.2.1 0))), (wa2, .inl (K 1, 10, .inl wf2)), (v, .inr (9, [.ref va0, .ref va1, .ref va2, .ref va3, .ref va4, .ref va5, .ref va6, .ref va7, .int vn8, .int vn9, .int vn10, .int vn11])), (va0, .inl (K 1, 40, .inl vf0))] H := hP.sub [0, 1, 5, 2, 3, 4] rfl
  replace hD : va_D A [(w, .inr (7, [.ref wa0, .ref wa1, .ref wa2])), (wa0, .inl (K 1, 10, .inl wf0)), (wa1, .inl (K 1, 10, .inl (u958.2.1 0))), (wa2, .inl (K 1, 10, .inl wf2)), (v, .inr (9, [.ref va0, .ref va1, .ref va2, .ref va3, .ref va4, .ref va5, .ref va6, .ref va7, .int vn8, .int vn9, .int vn10, .int vn11])), (va0, .inl (K 1, 40, .inl vf0))] := hD.sub [0, 1, 5, 2, 3, 4] (by decide) rfl
  refine W.widen (k := 0) (n := 0) (by decide) (by decide) ?_
  refine lv_aload_n hx hb dX8_drift_8 rfl (lv_at hl 1 rfl) ?_
  refine lv_iload_n hx hb dX8_drift_9 rfl (lv_at hl 2 rfl) ?_
  refine ro_V (As := [.int p1]) (rest := []) hC hE kV_X8_21 (c_X10_hasPlace l D K v va0 va1 va2 va3 va4 va5 va6 va7 vn8 vn9 vn10 vn11 p1) (hP.sub (ws' := [(v, .inr (9, [.ref va0, .ref va1, .ref va2, .ref va3, .ref va4, .ref va5, .ref va6, .ref va7, .int vn8, .int vn9, .int vn10, .int vn11]))]) [4] rfl) 0 9 rfl rfl rfl hl.1 rfl (Nat.le_of_ble_eq_true rfl) (by decide) (by decide) dX8_drift_10 (fun r962 hq => ?_)
  rcases hq with rfl | ⟨rfl, h960, h961⟩
  · refine lv_if_eq (tgt := 23) hx hb dX8_drift_13 (by decide) (fun _ => ?_) (fun h => absurd h (by decide))
    refine lv_iconst (v := 0) hx hb dX8_drift_23 (by decide) ?_
    refine lv_istore (lv' := [(4, .int 0), (0, .ref w), (1, .ref v), (2, .int p1), (3, .int p2)]) hx hb dX8_drift_24 hl (by decide) rfl (fun ls hl => ?_)
    have hl' := hl; have hP' := hP; have hD' := hD; clear hl hP hD
    obtain ⟨i987, g988, g989, hi_26, hl, hP, hD⟩ : ∃ (i987 : Int32) (g988 : Nat → Int32) (g989 : Nat → Int32), ((0 : Int) ≤ i987.toInt) ∧ lv_has ls 8 [(4, .int i987), (0, .ref w), (1, .ref v), (2, .int p1), (3, .int p2)] ∧ va_P D vwCl [(w, .inr (7, [.ref wa0, .ref wa1, .ref wa2])), (wa0, .inl (K 1, 10, .inl wf0)), (wa1, .inl (K 1, 10, .inl g988)), (wa2, .inl (K 1, 10, .inl g989)), (v, .inr (9, [.ref va0, .ref va1, .ref va2, .ref va3, .ref va4, .ref va5, .ref va6, .ref va7, .int vn8, .int vn9, .int vn10, .int vn11])), (va0, .inl (K 1, 40, .inl vf0))] H ∧ va_D A [(w, .inr (7, [.ref wa0, .ref wa1, .ref wa2])), (wa0, .inl (K 1, 10, .inl wf0)), (wa1, .inl (K 1, 10, .inl g988)), (wa2, .inl (K 1, 10, .inl g989)), (v, .inr (9, [.ref va0, .ref va1, .ref va2, .ref va3, .ref va4, .ref va5, .ref va6, .ref va7, .int vn8, .int vn9, .int vn10, .int vn11])), (va0, .inl (K 1, 40, .inl vf0))] := ⟨_, _, _, by omega, hl', hP', hD'⟩
    clear hl' hP' hD'
    have hb_26 := i32_hi p2
    obtain ⟨n_26, hn_26⟩ : ∃ n : Nat, (p2.toInt - i987.toInt).toNat < n := ⟨_, Nat.lt_succ_self _⟩
    induction n_26 generalizing i987 g988 g989 H locs ls with
    | zero => exact absurd hn_26 (Nat.not_lt_zero _)
    | succ n_26 ih_26 =>
      refine lv_iload hx hb dX8_drift_26 (lv_at hl 0 rfl) ?_
      refine lv_iload_n hx hb dX8_drift_28 rfl (lv_at hl 4 rfl) ?_
      refine lv_icmp_ge (tgt := 140) hx hb dX8_drift_29 (by decide) (fun c990 => ?_) (fun c990 => ?_)
      · replace c990 := le_i c990
        refine W.widen (k := 0) (n := 0) (by decide) (by decide) ?_
        exact ch_vret hC hr hk hS dX8_drift_140 ((fun k => [].getD k 0, fun k => [g988, g989].getD k (fun _ => 0), fun k => [].getD k (fun _ => 0)) : ((Nat → Int32) × (Nat → Nat → Int32) × (Nat → Nat → Int64))) trivial (hP.sub [0, 1, 2, 3, 4, 5] rfl) (hD.sub [0, 1, 2, 3, 4, 5] (by decide) rfl)
      · replace c990 := nle_i c990
        refine lv_aload_n hx hb dX8_drift_32 rfl (lv_at hl 1 rfl) ?_
        refine va_get (D := D) (ci := 7) (v := .ref wa2) (C := RX8) (T := TX8) (N := 3) hx hb hts in_X8 hown hE.1 hP 0 rfl rfl 2 (by decide) (hts _ w_156) (fun _ h9 => h9) rfl dX8_drift_33 ?_
        refine lv_iconst (v := 0) hx hb dX8_drift_36 (by decide) ?_
        refine cv_S (As := [.ref wa2, .int 0]) (rest := []) (wc := [(wa2, .inl (K 1, 10, .inl g989))]) (wr := [(w, .inr (7, [.ref wa0, .ref wa1, .ref wa2])), (wa0, .inl (K 1, 10, .inl wf0)), (wa1, .inl (K 1, 10, .inl g988)), (v, .inr (9, [.ref va0, .ref va1, .ref va2, .ref va3, .ref va4, .ref va5, .ref va6, .ref va7, .int vn8, .int vn9, .int vn10, .int vn11])), (va0, .inl (K 1, 40, .inl vf0))]) hC hE kS_X8_28 (c_J7_fill_10 l D K wa2 g989 0) hP hD hS hA [3] [0, 1, 2, 4, 5] rfl rfl rfl (by decide) (by decide) (by decide) rfl hl.1 rfl (Nat.le_of_ble_eq_true rfl) (by decide) (by decide) dX8_drift_37 (fun u991 H locs hw hP hD hS => ?_)
        replace hP : va_P D vwCl [(w, .inr (7, [.ref wa0, .ref wa1, .ref wa2])), (wa0, .inl (K 1, 10, .inl wf0)), (wa1, .inl (K 1, 10, .inl g988)), (v, .inr (9, [.ref va0, .ref va1, .ref va2, .ref va3, .ref va4, .ref va5, .ref va6, .ref va7, .int vn8, .int vn9, .int vn10, .int vn11])), (va0, .inl (K 1, 40, .inl vf0)), (wa2, .inl (K 1, 10, .inl (u991.2.1 0)))] H := hP
        replace hD : va_D A [(w, .inr (7, [.ref wa0, .ref wa1, .ref wa2])), (wa0, .inl (K 1, 10, .inl wf0)), (wa1, .inl (K 1, 10, .inl g988)), (v, .inr (9, [.ref va0, .ref va1, .ref va2, .ref va3, .ref va4, .ref va5, .ref va6, .ref va7, .int vn8, .int vn9, .int vn10, .int vn11])), (va0, .inl (K 1, 40, .inl vf0)), (wa2, .inl (K 1, 10, .inl (u991.2.1 0)))] := hD
        replace hP : va_P D vwCl [(w, .inr (7, [.ref wa0, .ref wa1, .ref wa2])), (wa0, .inl (K 1, 10, .inl wf0)), (wa1, .inl (K 1, 10, .inl g988)), (wa2, .inl (K 1, 10, .inl (u991.2.1 0))), (v, .inr (9, [.ref va0, .ref va1, .ref va2, .ref va3, .ref va4, .ref va5, .ref va6, .ref va7, .int vn8, .int vn9, .int vn10, .int vn11])), (va0, .inl (K 1, 40, .inl vf0))] H := hP.sub [0, 1, 2, 5, 3, 4] rfl
        replace hD : va_D A [(w, .inr (7, [.ref wa0, .ref wa1, .ref wa2])), (wa0, .inl (K 1, 10, .inl wf0)), (wa1, .inl (K 1, 10, .inl g988)), (wa2, .inl (K 1, 10, .inl (u991.2.1 0))), (v, .inr (9, [.ref va0, .ref va1, .ref va2, .ref va3, .ref va4, .ref va5, .ref va6, .ref va7, .int vn8, .int vn9, .int vn10, .int vn11])), (va0, .inl (K 1, 40, .inl vf0))] := hD.sub [0, 1, 2, 5, 3, 4] (by decide) rfl
        refine W.widen (k := 0) (n := 0) (by decide) (by decide) ?_
        refine lv_iconst (v := 0) hx hb dX8_drift_40 (by decide) ?_
        refine lv_istore (lv' := [(5, .int 0), (4, .int i987), (0, .ref w), (1, .ref v), (2, .int p1), (3, .int p2)]) hx hb dX8_drift_41 hl (by decide) rfl (fun ls hl => ?_)
        have hl' := hl; have hP' := hP; have hD' := hD; clear hl hP hD
        obtain ⟨i1009, g1010, hi_43, hl, hP, hD⟩ : ∃ (i1009 : Int32) (g1010 : Nat → Int32), ((0 : Int) ≤ i1009.toInt) ∧ lv_has ls 8 [(5, .int i1009), (4, .int i987), (0, .ref w), (1, .ref v), (2, .int p1), (3, .int p2)] ∧ va_P D vwCl [(w, .inr (7, [.ref wa0, .ref wa1, .ref wa2])), (wa0, .inl (K 1, 10, .inl wf0)), (wa1, .inl (K 1, 10, .inl g988)), (wa2, .inl (K 1, 10, .inl g1010)), (v, .inr (9, [.ref va0, .ref va1, .ref va2, .ref va3, .ref va4, .ref va5, .ref va6, .ref va7, .int vn8, .int vn9, .int vn10, .int vn11])), (va0, .inl (K 1, 40, .inl vf0))] H ∧ va_D A [(w, .inr (7, [.ref wa0, .ref wa1, .ref wa2])), (wa0, .inl (K 1, 10, .inl wf0)), (wa1, .inl (K 1, 10, .inl g988)), (wa2, .inl (K 1, 10, .inl g1010)), (v, .inr (9, [.ref va0, .ref va1, .ref va2, .ref va3, .ref va4, .ref va5, .ref va6, .ref va7, .int vn8, .int vn9, .int vn10, .int vn11])), (va0, .inl (K 1, 40, .inl vf0))] := ⟨_, _, by omega, hl', hP', hD'⟩
        clear hl' hP' hD'
        obtain ⟨n_43, hn_43⟩ : ∃ n : Nat, (10 - i1009.toInt).toNat < n := ⟨_, Nat.lt_succ_self _⟩
        induction n_43 generalizing i1009 g1010 H locs ls with
        | zero => exact absurd hn_43 (Nat.not_lt_zero _)
        | succ n_43 ih_43 =>
          refine lv_iload hx hb dX8_drift_43 (lv_at hl 0 rfl) ?_
          refine lv_aload_n hx hb dX8_drift_45 rfl (lv_at hl 3 rfl) ?_
          refine va_get (D := D) (ci := 9) (v := .int vn8) (C := RX10) (T := TX10) (N := 12) hx hb hts in_X10 hown hE.1 hP 4 rfl rfl 8 (by decide) (hts _ w_149) (fun _ h9 => h9) rfl dX8_drift_46 ?_
          refine lv_icmp_ge (tgt := 116) hx hb dX8_drift_49 (by decide) (fun c1011 => ?_) (fun c1011 => ?_)
          · replace c1011 := le_i c1011
            refine lv_aload_n hx hb dX8_drift_116 rfl (lv_at hl 2 rfl) ?_
            refine va_get (D := D) (ci := 7) (v := .ref wa2) (C := RX8) (T := TX8) (N := 3) hx hb hts in_X8 hown hE.1 hP 0 rfl rfl 2 (by decide) (hts _ w_156) (fun _ h9 => h9) rfl dX8_drift_117 ?_
            refine lv_iconst (v := 0) hx hb dX8_drift_120 (by decide) ?_
            refine lv_aload_n hx hb dX8_drift_121 rfl (lv_at hl 2 rfl) ?_
            refine va_get (D := D) (ci := 7) (v := .ref wa1) (C := RX8) (T := TX8) (N := 3) hx hb hts in_X8 hown hE.1 hP 0 rfl rfl 1 (by decide) (hts _ w_139) (fun _ h9 => h9) rfl dX8_drift_122 ?_
            refine lv_iconst (v := 0) hx hb dX8_drift_125 (by decide) ?_
            refine lv_aload_n hx hb dX8_drift_126 rfl (lv_at hl 2 rfl) ?_
            refine va_get (D := D) (ci := 7) (v := .ref wa1) (C := RX8) (T := TX8) (N := 3) hx hb hts in_X8 hown hE.1 hP 0 rfl rfl 1 (by decide) (hts _ w_139) (fun _ h9 => h9) rfl dX8_drift_127 ?_
            refine va_alen (v := 10) hx hb hE.1 hP 2 1 rfl rfl (show Int32.ofNat 10 = 10 by decide) dX8_drift_130 ?_
            refine cpi hC hE hl.1 w_157 w_81 w_82 w_83 hP hD hS 3 2 rfl rfl (by decide) (by decide) (by decide) (by decide) (by decide) (by decide) (Nat.le_of_ble_eq_true rfl) dX8_drift_131 (fun g1012 H locs hP hD hS => ?_)
            replace hP : va_P D vwCl [(w, .inr (7, [.ref wa0, .ref wa1, .ref wa2])), (wa0, .inl (K 1, 10, .inl wf0)), (wa1, .inl (K 1, 10, .inl g1012)), (wa2, .inl (K 1, 10, .inl g1010)), (v, .inr (9, [.ref va0, .ref va1, .ref va2, .ref va3, .ref va4, .ref va5, .ref va6, .ref va7, .int vn8, .int vn9, .int vn10, .int vn11])), (va0, .inl (K 1, 40, .inl vf0))] H := hP
            replace hD : va_D A [(w, .inr (7, [.ref wa0, .ref wa1, .ref wa2])), (wa0, .inl (K 1, 10, .inl wf0)), (wa1, .inl (K 1, 10, .inl g1012)), (wa2, .inl (K 1, 10, .inl g1010)), (v, .inr (9, [.ref va0, .ref va1, .ref va2, .ref va3, .ref va4, .ref va5, .ref va6, .ref va7, .int vn8, .int vn9, .int vn10, .int vn11])), (va0, .inl (K 1, 40, .inl vf0))] := hD
            obtain ⟨v1013, ev1013⟩ : ∃ z : Int32, z = i987 + 1 := ⟨_, rfl⟩
            refine lv_iinc (v := v1013) (lv' := [(4, .int v1013), (5, .int i1009), (0, .ref w), (1, .ref v), (2, .int p1), (3, .int p2)]) hx hb dX8_drift_134 hl (k := 1) rfl (by rw [ev1013]; rfl) (by decide) rfl (fun ls hl => ?_)
            refine lv_goto (tgt := 26) hx hb dX8_drift_137 (by decide) ?_
            have tv1013 : v1013.toInt = (i987 : Int32).toInt + (1 : Int32).toInt := add_i ev1013 (by omega) (by omega)
            exact ih_26 (i987 := v1013) (g988 := g1012) (g989 := g1010) (hi_26 := by omega) (H := H) (locs := locs) (ls := ls) (hn_26 := by omega) (hP := hP) (hD := hD) (hS := hS) (hl := lv_sub hl [0, 2, 3, 4, 5] rfl)
          · replace c1011 := nle_i c1011
            refine lv_iload hx hb dX8_drift_52 (lv_at hl 0 rfl) ?_
            refine lv_bipush (v := 10) hx hb dX8_drift_54 (by decide) ?_
            refine lv_icmp_ge (tgt := 116) hx hb dX8_drift_56 (by decide) (fun c1014 => ?_) (fun c1014 => ?_)
            · replace c1014 := le_i c1014
              refine lv_aload_n hx hb dX8_drift_116 rfl (lv_at hl 2 rfl) ?_
              refine va_get (D := D) (ci := 7) (v := .ref wa2) (C := RX8) (T := TX8) (N := 3) hx hb hts in_X8 hown hE.1 hP 0 rfl rfl 2 (by decide) (hts _ w_156) (fun _ h9 => h9) rfl dX8_drift_117 ?_
              refine lv_iconst (v := 0) hx hb dX8_drift_120 (by decide) ?_
              refine lv_aload_n hx hb dX8_drift_121 rfl (lv_at hl 2 rfl) ?_
              refine va_get (D := D) (ci := 7) (v := .ref wa1) (C := RX8) (T := TX8) (N := 3) hx hb hts in_X8 hown hE.1 hP 0 rfl rfl 1 (by decide) (hts _ w_139) (fun _ h9 => h9) rfl dX8_drift_122 ?_
              refine lv_iconst (v := 0) hx hb dX8_drift_125 (by decide) ?_
              refine lv_aload_n hx hb dX8_drift_126 rfl (lv_at hl 2 rfl) ?_
              refine va_get (D := D) (ci := 7) (v := .ref wa1) (C := RX8) (T := TX8) (N := 3) hx hb hts in_X8 hown hE.1 hP 0 rfl rfl 1 (by decide) (hts _ w_139) (fun _ h9 => h9) rfl dX8_drift_127 ?_
              refine va_alen (v := 10) hx hb hE.1 hP 2 1 rfl rfl (show Int32.ofNat 10 = 10 by decide) dX8_drift_130 ?_
              refine cpi hC hE hl.1 w_157 w_81 w_82 w_83 hP hD hS 3 2 rfl rfl (by decide) (by decide) (by decide) (by decide) (by decide) (by decide) (Nat.le_of_ble_eq_true rfl) dX8_drift_131 (fun g1015 H locs hP hD hS => ?_)
              replace hP : va_P D vwCl [(w, .inr (7, [.ref wa0, .ref wa1, .ref wa2])), (wa0, .inl (K 1, 10, .inl wf0)), (wa1, .inl (K 1, 10, .inl g1015)), (wa2, .inl (K 1, 10, .inl g1010)), (v, .inr (9, [.ref va0, .ref va1, .ref va2, .ref va3, .ref va4, .ref va5, .ref va6, .ref va7, .int vn8, .int vn9, .int vn10, .int vn11])), (va0, .inl (K 1, 40, .inl vf0))] H := hP
              replace hD : va_D A [(w, .inr (7, [.ref wa0, .ref wa1, .ref wa2])), (wa0, .inl (K 1, 10, .inl wf0)), (wa1, .inl (K 1, 10, .inl g1015)), (wa2, .inl (K 1, 10, .inl g1010)), (v, .inr (9, [.ref va0, .ref va1, .ref va2, .ref va3, .ref va4, .ref va5, .ref va6, .ref va7, .int vn8, .int vn9, .int vn10, .int vn11])), (va0, .inl (K 1, 40, .inl vf0))] := hD
              obtain ⟨v1016, ev1016⟩ : ∃ z : Int32, z = i987 + 1 := ⟨_, rfl⟩
              refine lv_iinc (v := v1016) (lv' := [(4, .int v1016), (5, .int i1009), (0, .ref w), (1, .ref v), (2, .int p1), (3, .int p2)]) hx hb dX8_drift_134 hl (k := 1) rfl (by rw [ev1016]; rfl) (by decide) rfl (fun ls hl => ?_)
              refine lv_goto (tgt := 26) hx hb dX8_drift_137 (by decide) ?_
              have tv1016 : v1016.toInt = (i987 : Int32).toInt + (1 : Int32).toInt := add_i ev1016 (by omega) (by omega)
              exact ih_26 (i987 := v1016) (g988 := g1015) (g989 := g1010) (hi_26 := by omega) (H := H) (locs := locs) (ls := ls) (hn_26 := by omega) (hP := hP) (hD := hD) (hS := hS) (hl := lv_sub hl [0, 2, 3, 4, 5] rfl)
            · replace c1014 := nle_i c1014
              refine lv_iconst (v := 0) hx hb dX8_drift_59 (by decide) ?_
              refine lv_istore (lv' := [(6, .int 0), (5, .int i1009), (4, .int i987), (0, .ref w), (1, .ref v), (2, .int p1), (3, .int p2)]) hx hb dX8_drift_60 hl (by decide) rfl (fun ls hl => ?_)
              have hl' := hl; have hP' := hP; have hD' := hD; clear hl hP hD
              obtain ⟨i1029, g1030, hi_62, hl, hP, hD⟩ : ∃ (i1029 : Int32) (g1030 : Nat → Int32), ((0 : Int) ≤ i1029.toInt) ∧ lv_has ls 8 [(6, .int i1029), (5, .int i1009), (4, .int i987), (0, .ref w), (1, .ref v), (2, .int p1), (3, .int p2)] ∧ va_P D vwCl [(w, .inr (7, [.ref wa0, .ref wa1, .ref wa2])), (wa0, .inl (K 1, 10, .inl wf0)), (wa1, .inl (K 1, 10, .inl g988)), (wa2, .inl (K 1, 10, .inl g1030)), (v, .inr (9, [.ref va0, .ref va1, .ref va2, .ref va3, .ref va4, .ref va5, .ref va6, .ref va7, .int vn8, .int vn9, .int vn10, .int vn11])), (va0, .inl (K 1, 40, .inl vf0))] H ∧ va_D A [(w, .inr (7, [.ref wa0, .ref wa1, .ref wa2])), (wa0, .inl (K 1, 10, .inl wf0)), (wa1, .inl (K 1, 10, .inl g988)), (wa2, .inl (K 1, 10, .inl g1030)), (v, .inr (9, [.ref va0, .ref va1, .ref va2, .ref va3, .ref va4, .ref va5, .ref va6, .ref va7, .int vn8, .int vn9, .int vn10, .int vn11])), (va0, .inl (K 1, 40, .inl vf0))] := ⟨_, _, by omega, hl', hP', hD'⟩
              clear hl' hP' hD'
              obtain ⟨n_62, hn_62⟩ : ∃ n : Nat, (4 - i1029.toInt).toNat < n := ⟨_, Nat.lt_succ_self _⟩
              induction n_62 generalizing i1029 g1030 H locs ls with
              | zero => exact absurd hn_62 (Nat.not_lt_zero _)
              | succ n_62 ih_62 =>
                refine lv_iload hx hb dX8_drift_62 (lv_at hl 0 rfl) ?_
                refine lv_iconst (v := 4) hx hb dX8_drift_64 (by decide) ?_
                refine lv_icmp_ge (tgt := 110) hx hb dX8_drift_65 (by decide) (fun c1031 => ?_) (fun c1031 => ?_)
                · replace c1031 := le_i c1031
                  obtain ⟨v1032, ev1032⟩ : ∃ z : Int32, z = i1009 + 1 := ⟨_, rfl⟩
                  refine lv_iinc (v := v1032) (lv' := [(5, .int v1032), (6, .int i1029), (4, .int i987), (0, .ref w), (1, .ref v), (2, .int p1), (3, .int p2)]) hx hb dX8_drift_110 hl (k := 1) rfl (by rw [ev1032]; rfl) (by decide) rfl (fun ls hl => ?_)
                  refine lv_goto (tgt := 43) hx hb dX8_drift_113 (by decide) ?_
                  have tv1032 : v1032.toInt = (i1009 : Int32).toInt + (1 : Int32).toInt := add_i ev1032 (by omega) (by omega)
                  exact ih_43 (i1009 := v1032) (g1010 := g1030) (hi_43 := by omega) (H := H) (locs := locs) (ls := ls) (hn_43 := by omega) (hP := hP) (hD := hD) (hS := hS) (hl := lv_sub hl [0, 2, 3, 4, 5, 6] rfl)
                · replace c1031 := nle_i c1031
                  refine lv_aload_n hx hb dX8_drift_68 rfl (lv_at hl 4 rfl) ?_
                  refine lv_iload hx hb dX8_drift_69 (lv_at hl 1 rfl) ?_
                  refine lv_iload hx hb dX8_drift_71 (lv_at hl 0 rfl) ?_
                  refine ro_V (As := [.int i1009, .int i1029]) (rest := []) hC hE kV_X8_42 (c_X10_after l D K v va0 va1 va2 va3 va4 va5 va6 va7 vn8 vn9 vn10 vn11 vf0 i1009 i1029) (hP.sub (ws' := [(v, .inr (9, [.ref va0, .ref va1, .ref va2, .ref va3, .ref va4, .ref va5, .ref va6, .ref va7, .int vn8, .int vn9, .int vn10, .int vn11])), (va0, .inl (K 1, 40, .inl vf0))]) [4, 5] rfl) 0 9 rfl rfl rfl hl.1 rfl (Nat.le_of_ble_eq_true rfl) (by decide) (by decide) dX8_drift_73 (fun r1033 _ => ?_)
                  refine lv_istore (lv' := [(7, .int r1033), (6, .int i1029), (5, .int i1009), (4, .int i987), (0, .ref w), (1, .ref v), (2, .int p1), (3, .int p2)]) hx hb dX8_drift_76 hl (by decide) rfl (fun ls hl => ?_)
                  refine lv_aload_n hx hb dX8_drift_78 rfl (lv_at hl 5 rfl) ?_
                  refine lv_iload hx hb dX8_drift_79 (lv_at hl 0 rfl) ?_
                  refine ro_V (As := [.int r1033]) (rest := []) hC hE kV_X8_21 (c_X10_hasPlace l D K v va0 va1 va2 va3 va4 va5 va6 va7 vn8 vn9 vn10 vn11 r1033) (hP.sub (ws' := [(v, .inr (9, [.ref va0, .ref va1, .ref va2, .ref va3, .ref va4, .ref va5, .ref va6, .ref va7, .int vn8, .int vn9, .int vn10, .int vn11]))]) [4] rfl) 0 9 rfl rfl rfl hl.1 rfl (Nat.le_of_ble_eq_true rfl) (by decide) (by decide) dX8_drift_81 (fun r1036 hq => ?_)
                  rcases hq with rfl | ⟨rfl, h1034, h1035⟩
                  · refine lv_if_eq (tgt := 104) hx hb dX8_drift_84 (by decide) (fun _ => ?_) (fun h => absurd h (by decide))
                    obtain ⟨v1037, ev1037⟩ : ∃ z : Int32, z = i1029 + 1 := ⟨_, rfl⟩
                    refine lv_iinc (v := v1037) (lv' := [(6, .int v1037), (7, .int r1033), (5, .int i1009), (4, .int i987), (0, .ref w), (1, .ref v), (2, .int p1), (3, .int p2)]) hx hb dX8_drift_104 hl (k := 1) rfl (by rw [ev1037]; rfl) (by decide) rfl (fun ls hl => ?_)
                    refine lv_goto (tgt := 62) hx hb dX8_drift_107 (by decide) ?_
                    have tv1037 : v1037.toInt = (i1029 : Int32).toInt + (1 : Int32).toInt := add_i ev1037 (by omega) (by omega)
                    exact ih_62 (i1029 := v1037) (g1030 := g1030) (hi_62 := by omega) (H := H) (locs := locs) (ls := ls) (hn_62 := by omega) (hP := hP) (hD := hD) (hS := hS) (hl := lv_sub hl [0, 2, 3, 4, 5, 6, 7] rfl)
                  · refine lv_if_eq (tgt := 104) hx hb dX8_drift_84 (by decide) (fun h => absurd h (by decide)) (fun _ => ?_)
                    refine lv_aload_n hx hb dX8_drift_87 rfl (lv_at hl 4 rfl) ?_
                    refine va_get (D := D) (ci := 7) (v := .ref wa2) (C := RX8) (T := TX8) (N := 3) hx hb hts in_X8 hown hE.1 hP 0 rfl rfl 2 (by decide) (hts _ w_156) (fun _ h9 => h9) rfl dX8_drift_88 ?_
                    refine lv_iload hx hb dX8_drift_91 (lv_at hl 0 rfl) ?_
                    refine lv_dup2_11 hx hb dX8_drift_93 rfl rfl ?_
                    refine va_iald hx hb hE.1 hP 3 1 rfl rfl (vp_in_iff.mpr (by omega)) dX8_drift_94 ?_
                    refine lv_topi (fun v1038 ev1038 => ?_)
                    refine lv_aload_n hx hb dX8_drift_95 rfl (lv_at hl 4 rfl) ?_
                    refine va_get (D := D) (ci := 7) (v := .ref wa1) (C := RX8) (T := TX8) (N := 3) hx hb hts in_X8 hown hE.1 hP 0 rfl rfl 1 (by decide) (hts _ w_139) (fun _ h9 => h9) rfl dX8_drift_96 ?_
                    refine lv_iload hx hb dX8_drift_99 (lv_at hl 2 rfl) ?_
                    refine va_iald hx hb hE.1 hP 2 1 rfl rfl (vp_in_iff.mpr (by omega)) dX8_drift_101 ?_
                    refine lv_topi (fun v1039 ev1039 => ?_)
                    refine lv_iadd hx hb dX8_drift_102 ?_
                    refine lv_topi (fun v1040 ev1040 => ?_)
                    refine sti hx hb hE.1 hP hD hS 3 1 rfl rfl (vp_in_iff.mpr (by omega)) dX8_drift_103 (fun g1041 eg1041 H locs hP hD hS => ?_)
                    replace hP : va_P D vwCl [(w, .inr (7, [.ref wa0, .ref wa1, .ref wa2])), (wa0, .inl (K 1, 10, .inl wf0)), (wa1, .inl (K 1, 10, .inl g988)), (wa2, .inl (K 1, 10, .inl g1041)), (v, .inr (9, [.ref va0, .ref va1, .ref va2, .ref va3, .ref va4, .ref va5, .ref va6, .ref va7, .int vn8, .int vn9, .int vn10, .int vn11])), (va0, .inl (K 1, 40, .inl vf0))] H := hP
                    replace hD : va_D A [(w, .inr (7, [.ref wa0, .ref wa1, .ref wa2])), (wa0, .inl (K 1, 10, .inl wf0)), (wa1, .inl (K 1, 10, .inl g988)), (wa2, .inl (K 1, 10, .inl g1041)), (v, .inr (9, [.ref va0, .ref va1, .ref va2, .ref va3, .ref va4, .ref va5, .ref va6, .ref va7, .int vn8, .int vn9, .int vn10, .int vn11])), (va0, .inl (K 1, 40, .inl vf0))] := hD
                    obtain ⟨v1042, ev1042⟩ : ∃ z : Int32, z = i1029 + 1 := ⟨_, rfl⟩
                    refine lv_iinc (v := v1042) (lv' := [(6, .int v1042), (7, .int r1033), (5, .int i1009), (4, .int i987), (0, .ref w), (1, .ref v), (2, .int p1), (3, .int p2)]) hx hb dX8_drift_104 hl (k := 1) rfl (by rw [ev1042]; rfl) (by decide) rfl (fun ls hl => ?_)
                    refine lv_goto (tgt := 62) hx hb dX8_drift_107 (by decide) ?_
                    have tv1042 : v1042.toInt = (i1029 : Int32).toInt + (1 : Int32).toInt := add_i ev1042 (by omega) (by omega)
                    exact ih_62 (i1029 := v1042) (g1030 := g1041) (hi_62 := by omega) (H := H) (locs := locs) (ls := ls) (hn_62 := by omega) (hP := hP) (hD := hD) (hS := hS) (hl := lv_sub hl [0, 2, 3, 4, 5, 6, 7] rfl)
  · refine lv_if_eq (tgt := 23) hx hb dX8_drift_13 (by decide) (fun h => absurd h (by decide)) (fun _ => ?_)
    refine lv_aload_n hx hb dX8_drift_16 rfl (lv_at hl 0 rfl) ?_
    refine va_get (D := D) (ci := 7) (v := .ref wa1) (C := RX8) (T := TX8) (N := 3) hx hb hts in_X8 hown hE.1 hP 0 rfl rfl 1 (by decide) (hts _ w_139) (fun _ h9 => h9) rfl dX8_drift_17 ?_
    refine lv_iload_n hx hb dX8_drift_20 rfl (lv_at hl 2 rfl) ?_
    refine lv_iconst (v := 1) hx hb dX8_drift_21 (by decide) ?_
    refine sti hx hb hE.1 hP hD hS 2 1 rfl rfl (vp_in_iff.mpr (by omega)) dX8_drift_22 (fun g1043 eg1043 H locs hP hD hS => ?_)
    replace hP : va_P D vwCl [(w, .inr (7, [.ref wa0, .ref wa1, .ref wa2])), (wa0, .inl (K 1, 10, .inl wf0)), (wa1, .inl (K 1, 10, .inl g1043)), (wa2, .inl (K 1, 10, .inl wf2)), (v, .inr (9, [.ref va0, .ref va1, .ref va2, .ref va3, .ref va4, .ref va5, .ref va6, .ref va7, .int vn8, .int vn9, .int vn10, .int vn11])), (va0, .inl (K 1, 40, .inl vf0))] H := hP
    replace hD : va_D A [(w, .inr (7, [.ref wa0, .ref wa1, .ref wa2])), (wa0, .inl (K 1, 10, .inl wf0)), (wa1, .inl (K 1, 10, .inl g1043)), (wa2, .inl (K 1, 10, .inl wf2)), (v, .inr (9, [.ref va0, .ref va1, .ref va2, .ref va3, .ref va4, .ref va5, .ref va6, .ref va7, .int vn8, .int vn9, .int vn10, .int vn11])), (va0, .inl (K 1, 40, .inl vf0))] := hD
    refine lv_iconst (v := 0) hx hb dX8_drift_23 (by decide) ?_
    refine lv_istore (lv' := [(4, .int 0), (0, .ref w), (1, .ref v), (2, .int p1), (3, .int p2)]) hx hb dX8_drift_24 hl (by decide) rfl (fun ls hl => ?_)
    have hl' := hl; have hP' := hP; have hD' := hD; clear hl hP hD
    obtain ⟨i1068, g1069, g1070, hi_26, hl, hP, hD⟩ : ∃ (i1068 : Int32) (g1069 : Nat → Int32) (g1070 : Nat → Int32), ((0 : Int) ≤ i1068.toInt) ∧ lv_has ls 8 [(4, .int i1068), (0, .ref w), (1, .ref v), (2, .int p1), (3, .int p2)] ∧ va_P D vwCl [(w, .inr (7, [.ref wa0, .ref wa1, .ref wa2])), (wa0, .inl (K 1, 10, .inl wf0)), (wa1, .inl (K 1, 10, .inl g1069)), (wa2, .inl (K 1, 10, .inl g1070)), (v, .inr (9, [.ref va0, .ref va1, .ref va2, .ref va3, .ref va4, .ref va5, .ref va6, .ref va7, .int vn8, .int vn9, .int vn10, .int vn11])), (va0, .inl (K 1, 40, .inl vf0))] H ∧ va_D A [(w, .inr (7, [.ref wa0, .ref wa1, .ref wa2])), (wa0, .inl (K 1, 10, .inl wf0)), (wa1, .inl (K 1, 10, .inl g1069)), (wa2, .inl (K 1, 10, .inl g1070)), (v, .inr (9, [.ref va0, .ref va1, .ref va2, .ref va3, .ref va4, .ref va5, .ref va6, .ref va7, .int vn8, .int vn9, .int vn10, .int vn11])), (va0, .inl (K 1, 40, .inl vf0))] := ⟨_, _, _, by omega, hl', hP', hD'⟩
    clear hl' hP' hD'
    have hb_26 := i32_hi p2
    obtain ⟨n_26, hn_26⟩ : ∃ n : Nat, (p2.toInt - i1068.toInt).toNat < n := ⟨_, Nat.lt_succ_self _⟩
    induction n_26 generalizing i1068 g1069 g1070 H locs ls with
    | zero => exact absurd hn_26 (Nat.not_lt_zero _)
    | succ n_26 ih_26 =>
      refine lv_iload hx hb dX8_drift_26 (lv_at hl 0 rfl) ?_
      refine lv_iload_n hx hb dX8_drift_28 rfl (lv_at hl 4 rfl) ?_
      refine lv_icmp_ge (tgt := 140) hx hb dX8_drift_29 (by decide) (fun c1071 => ?_) (fun c1071 => ?_)
      · replace c1071 := le_i c1071
        refine W.widen (k := 0) (n := 0) (by decide) (by decide) ?_
        exact ch_vret hC hr hk hS dX8_drift_140 ((fun k => [].getD k 0, fun k => [g1069, g1070].getD k (fun _ => 0), fun k => [].getD k (fun _ => 0)) : ((Nat → Int32) × (Nat → Nat → Int32) × (Nat → Nat → Int64))) trivial (hP.sub [0, 1, 2, 3, 4, 5] rfl) (hD.sub [0, 1, 2, 3, 4, 5] (by decide) rfl)
      · replace c1071 := nle_i c1071
        refine lv_aload_n hx hb dX8_drift_32 rfl (lv_at hl 1 rfl) ?_
        refine va_get (D := D) (ci := 7) (v := .ref wa2) (C := RX8) (T := TX8) (N := 3) hx hb hts in_X8 hown hE.1 hP 0 rfl rfl 2 (by decide) (hts _ w_156) (fun _ h9 => h9) rfl dX8_drift_33 ?_
        refine lv_iconst (v := 0) hx hb dX8_drift_36 (by decide) ?_
        refine cv_S (As := [.ref wa2, .int 0]) (rest := []) (wc := [(wa2, .inl (K 1, 10, .inl g1070))]) (wr := [(w, .inr (7, [.ref wa0, .ref wa1, .ref wa2])), (wa0, .inl (K 1, 10, .inl wf0)), (wa1, .inl (K 1, 10, .inl g1069)), (v, .inr (9, [.ref va0, .ref va1, .ref va2, .ref va3, .ref va4, .ref va5, .ref va6, .ref va7, .int vn8, .int vn9, .int vn10, .int vn11])), (va0, .inl (K 1, 40, .inl vf0))]) hC hE kS_X8_28 (c_J7_fill_10 l D K wa2 g1070 0) hP hD hS hA [3] [0, 1, 2, 4, 5] rfl rfl rfl (by decide) (by decide) (by decide) rfl hl.1 rfl (Nat.le_of_ble_eq_true rfl) (by decide) (by decide) dX8_drift_37 (fun u1072 H locs hw hP hD hS => ?_)
        replace hP : va_P D vwCl [(w, .inr (7, [.ref wa0, .ref wa1, .ref wa2])), (wa0, .inl (K 1, 10, .inl wf0)), (wa1, .inl (K 1, 10, .inl g1069)), (v, .inr (9, [.ref va0, .ref va1, .ref va2, .ref va3, .ref va4, .ref va5, .ref va6, .ref va7, .int vn8, .int vn9, .int vn10, .int vn11])), (va0, .inl (K 1, 40, .inl vf0)), (wa2, .inl (K 1, 10, .inl (u1072.2.1 0)))] H := hP
        replace hD : va_D A [(w, .inr (7, [.ref wa0, .ref wa1, .ref wa2])), (wa0, .inl (K 1, 10, .inl wf0)), (wa1, .inl (K 1, 10, .inl g1069)), (v, .inr (9, [.ref va0, .ref va1, .ref va2, .ref va3, .ref va4, .ref va5, .ref va6, .ref va7, .int vn8, .int vn9, .int vn10, .int vn11])), (va0, .inl (K 1, 40, .inl vf0)), (wa2, .inl (K 1, 10, .inl (u1072.2.1 0)))] := hD
        replace hP : va_P D vwCl [(w, .inr (7, [.ref wa0, .ref wa1, .ref wa2])), (wa0, .inl (K 1, 10, .inl wf0)), (wa1, .inl (K 1, 10, .inl g1069)), (wa2, .inl (K 1, 10, .inl (u1072.2.1 0))), (v, .inr (9, [.ref va0, .ref va1, .ref va2, .ref va3, .ref va4, .ref va5, .ref va6, .ref va7, .int vn8, .int vn9, .int vn10, .int vn11])), (va0, .inl (K 1, 40, .inl vf0))] H := hP.sub [0, 1, 2, 5, 3, 4] rfl
        replace hD : va_D A [(w, .inr (7, [.ref wa0, .ref wa1, .ref wa2])), (wa0, .inl (K 1, 10, .inl wf0)), (wa1, .inl (K 1, 10, .inl g1069)), (wa2, .inl (K 1, 10, .inl (u1072.2.1 0))), (v, .inr (9, [.ref va0, .ref va1, .ref va2, .ref va3, .ref va4, .ref va5, .ref va6, .ref va7, .int vn8, .int vn9, .int vn10, .int vn11])), (va0, .inl (K 1, 40, .inl vf0))] := hD.sub [0, 1, 2, 5, 3, 4] (by decide) rfl
        refine W.widen (k := 0) (n := 0) (by decide) (by decide) ?_
        refine lv_iconst (v := 0) hx hb dX8_drift_40 (by decide) ?_
        refine lv_istore (lv' := [(5, .int 0), (4, .int i1068), (0, .ref w), (1, .ref v), (2, .int p1), (3, .int p2)]) hx hb dX8_drift_41 hl (by decide) rfl (fun ls hl => ?_)
        have hl' := hl; have hP' := hP; have hD' := hD; clear hl hP hD
        obtain ⟨i1090, g1091, hi_43, hl, hP, hD⟩ : ∃ (i1090 : Int32) (g1091 : Nat → Int32), ((0 : Int) ≤ i1090.toInt) ∧ lv_has ls 8 [(5, .int i1090), (4, .int i1068), (0, .ref w), (1, .ref v), (2, .int p1), (3, .int p2)] ∧ va_P D vwCl [(w, .inr (7, [.ref wa0, .ref wa1, .ref wa2])), (wa0, .inl (K 1, 10, .inl wf0)), (wa1, .inl (K 1, 10, .inl g1069)), (wa2, .inl (K 1, 10, .inl g1091)), (v, .inr (9, [.ref va0, .ref va1, .ref va2, .ref va3, .ref va4, .ref va5, .ref va6, .ref va7, .int vn8, .int vn9, .int vn10, .int vn11])), (va0, .inl (K 1, 40, .inl vf0))] H ∧ va_D A [(w, .inr (7, [.ref wa0, .ref wa1, .ref wa2])), (wa0, .inl (K 1, 10, .inl wf0)), (wa1, .inl (K 1, 10, .inl g1069)), (wa2, .inl (K 1, 10, .inl g1091)), (v, .inr (9, [.ref va0, .ref va1, .ref va2, .ref va3, .ref va4, .ref va5, .ref va6, .ref va7, .int vn8, .int vn9, .int vn10, .int vn11])), (va0, .inl (K 1, 40, .inl vf0))] := ⟨_, _, by omega, hl', hP', hD'⟩
        clear hl' hP' hD'
        obtain ⟨n_43, hn_43⟩ : ∃ n : Nat, (10 - i1090.toInt).toNat < n := ⟨_, Nat.lt_succ_self _⟩
        induction n_43 generalizing i1090 g1091 H locs ls with
        | zero => exact absurd hn_43 (Nat.not_lt_zero _)
        | succ n_43 ih_43 =>
          refine lv_iload hx hb dX8_drift_43 (lv_at hl 0 rfl) ?_
          refine lv_aload_n hx hb dX8_drift_45 rfl (lv_at hl 3 rfl) ?_
          refine va_get (D := D) (ci := 9) (v := .int vn8) (C := RX10) (T := TX10) (N := 12) hx hb hts in_X10 hown hE.1 hP 4 rfl rfl 8 (by decide) (hts _ w_149) (fun _ h9 => h9) rfl dX8_drift_46 ?_
          refine lv_icmp_ge (tgt := 116) hx hb dX8_drift_49 (by decide) (fun c1092 => ?_) (fun c1092 => ?_)
          · replace c1092 := le_i c1092
            refine lv_aload_n hx hb dX8_drift_116 rfl (lv_at hl 2 rfl) ?_
            refine va_get (D := D) (ci := 7) (v := .ref wa2) (C := RX8) (T := TX8) (N := 3) hx hb hts in_X8 hown hE.1 hP 0 rfl rfl 2 (by decide) (hts _ w_156) (fun _ h9 => h9) rfl dX8_drift_117 ?_
            refine lv_iconst (v := 0) hx hb dX8_drift_120 (by decide) ?_
            refine lv_aload_n hx hb dX8_drift_121 rfl (lv_at hl 2 rfl) ?_
            refine va_get (D := D) (ci := 7) (v := .ref wa1) (C := RX8) (T := TX8) (N := 3) hx hb hts in_X8 hown hE.1 hP 0 rfl rfl 1 (by decide) (hts _ w_139) (fun _ h9 => h9) rfl dX8_drift_122 ?_
            refine lv_iconst (v := 0) hx hb dX8_drift_125 (by decide) ?_
            refine lv_aload_n hx hb dX8_drift_126 rfl (lv_at hl 2 rfl) ?_
            refine va_get (D := D) (ci := 7) (v := .ref wa1) (C := RX8) (T := TX8) (N := 3) hx hb hts in_X8 hown hE.1 hP 0 rfl rfl 1 (by decide) (hts _ w_139) (fun _ h9 => h9) rfl dX8_drift_127 ?_
            refine va_alen (v := 10) hx hb hE.1 hP 2 1 rfl rfl (show Int32.ofNat 10 = 10 by decide) dX8_drift_130 ?_
            refine cpi hC hE hl.1 w_157 w_81 w_82 w_83 hP hD hS 3 2 rfl rfl (by decide) (by decide) (by decide) (by decide) (by decide) (by decide) (Nat.le_of_ble_eq_true rfl) dX8_drift_131 (fun g1093 H locs hP hD hS => ?_)
            replace hP : va_P D vwCl [(w, .inr (7, [.ref wa0, .ref wa1, .ref wa2])), (wa0, .inl (K 1, 10, .inl wf0)), (wa1, .inl (K 1, 10, .inl g1093)), (wa2, .inl (K 1, 10, .inl g1091)), (v, .inr (9, [.ref va0, .ref va1, .ref va2, .ref va3, .ref va4, .ref va5, .ref va6, .ref va7, .int vn8, .int vn9, .int vn10, .int vn11])), (va0, .inl (K 1, 40, .inl vf0))] H := hP
            replace hD : va_D A [(w, .inr (7, [.ref wa0, .ref wa1, .ref wa2])), (wa0, .inl (K 1, 10, .inl wf0)), (wa1, .inl (K 1, 10, .inl g1093)), (wa2, .inl (K 1, 10, .inl g1091)), (v, .inr (9, [.ref va0, .ref va1, .ref va2, .ref va3, .ref va4, .ref va5, .ref va6, .ref va7, .int vn8, .int vn9, .int vn10, .int vn11])), (va0, .inl (K 1, 40, .inl vf0))] := hD
            obtain ⟨v1094, ev1094⟩ : ∃ z : Int32, z = i1068 + 1 := ⟨_, rfl⟩
            refine lv_iinc (v := v1094) (lv' := [(4, .int v1094), (5, .int i1090), (0, .ref w), (1, .ref v), (2, .int p1), (3, .int p2)]) hx hb dX8_drift_134 hl (k := 1) rfl (by rw [ev1094]; rfl) (by decide) rfl (fun ls hl => ?_)
            refine lv_goto (tgt := 26) hx hb dX8_drift_137 (by decide) ?_
            have tv1094 : v1094.toInt = (i1068 : Int32).toInt + (1 : Int32).toInt := add_i ev1094 (by omega) (by omega)
            exact ih_26 (i1068 := v1094) (g1069 := g1093) (g1070 := g1091) (hi_26 := by omega) (H := H) (locs := locs) (ls := ls) (hn_26 := by omega) (hP := hP) (hD := hD) (hS := hS) (hl := lv_sub hl [0, 2, 3, 4, 5] rfl)
          · replace c1092 := nle_i c1092
            refine lv_iload hx hb dX8_drift_52 (lv_at hl 0 rfl) ?_
            refine lv_bipush (v := 10) hx hb dX8_drift_54 (by decide) ?_
            refine lv_icmp_ge (tgt := 116) hx hb dX8_drift_56 (by decide) (fun c1095 => ?_) (fun c1095 => ?_)
            · replace c1095 := le_i c1095
              refine lv_aload_n hx hb dX8_drift_116 rfl (lv_at hl 2 rfl) ?_
              refine va_get (D := D) (ci := 7) (v := .ref wa2) (C := RX8) (T := TX8) (N := 3) hx hb hts in_X8 hown hE.1 hP 0 rfl rfl 2 (by decide) (hts _ w_156) (fun _ h9 => h9) rfl dX8_drift_117 ?_
              refine lv_iconst (v := 0) hx hb dX8_drift_120 (by decide) ?_
              refine lv_aload_n hx hb dX8_drift_121 rfl (lv_at hl 2 rfl) ?_
              refine va_get (D := D) (ci := 7) (v := .ref wa1) (C := RX8) (T := TX8) (N := 3) hx hb hts in_X8 hown hE.1 hP 0 rfl rfl 1 (by decide) (hts _ w_139) (fun _ h9 => h9) rfl dX8_drift_122 ?_
              refine lv_iconst (v := 0) hx hb dX8_drift_125 (by decide) ?_
              refine lv_aload_n hx hb dX8_drift_126 rfl (lv_at hl 2 rfl) ?_
              refine va_get (D := D) (ci := 7) (v := .ref wa1) (C := RX8) (T := TX8) (N := 3) hx hb hts in_X8 hown hE.1 hP 0 rfl rfl 1 (by decide) (hts _ w_139) (fun _ h9 => h9) rfl dX8_drift_127 ?_
              refine va_alen (v := 10) hx hb hE.1 hP 2 1 rfl rfl (show Int32.ofNat 10 = 10 by decide) dX8_drift_130 ?_
              refine cpi hC hE hl.1 w_157 w_81 w_82 w_83 hP hD hS 3 2 rfl rfl (by decide) (by decide) (by decide) (by decide) (by decide) (by decide) (Nat.le_of_ble_eq_true rfl) dX8_drift_131 (fun g1096 H locs hP hD hS => ?_)
              replace hP : va_P D vwCl [(w, .inr (7, [.ref wa0, .ref wa1, .ref wa2])), (wa0, .inl (K 1, 10, .inl wf0)), (wa1, .inl (K 1, 10, .inl g1096)), (wa2, .inl (K 1, 10, .inl g1091)), (v, .inr (9, [.ref va0, .ref va1, .ref va2, .ref va3, .ref va4, .ref va5, .ref va6, .ref va7, .int vn8, .int vn9, .int vn10, .int vn11])), (va0, .inl (K 1, 40, .inl vf0))] H := hP
              replace hD : va_D A [(w, .inr (7, [.ref wa0, .ref wa1, .ref wa2])), (wa0, .inl (K 1, 10, .inl wf0)), (wa1, .inl (K 1, 10, .inl g1096)), (wa2, .inl (K 1, 10, .inl g1091)), (v, .inr (9, [.ref va0, .ref va1, .ref va2, .ref va3, .ref va4, .ref va5, .ref va6, .ref va7, .int vn8, .int vn9, .int vn10, .int vn11])), (va0, .inl (K 1, 40, .inl vf0))] := hD
              obtain ⟨v1097, ev1097⟩ : ∃ z : Int32, z = i1068 + 1 := ⟨_, rfl⟩
              refine lv_iinc (v := v1097) (lv' := [(4, .int v1097), (5, .int i1090), (0, .ref w), (1, .ref v), (2, .int p1), (3, .int p2)]) hx hb dX8_drift_134 hl (k := 1) rfl (by rw [ev1097]; rfl) (by decide) rfl (fun ls hl => ?_)
              refine lv_goto (tgt := 26) hx hb dX8_drift_137 (by decide) ?_
              have tv1097 : v1097.toInt = (i1068 : Int32).toInt + (1 : Int32).toInt := add_i ev1097 (by omega) (by omega)
              exact ih_26 (i1068 := v1097) (g1069 := g1096) (g1070 := g1091) (hi_26 := by omega) (H := H) (locs := locs) (ls := ls) (hn_26 := by omega) (hP := hP) (hD := hD) (hS := hS) (hl := lv_sub hl [0, 2, 3, 4, 5] rfl)
            · replace c1095 := nle_i c1095
              refine lv_iconst (v := 0) hx hb dX8_drift_59 (by decide) ?_
              refine lv_istore (lv' := [(6, .int 0), (5, .int i1090), (4, .int i1068), (0, .ref w), (1, .ref v), (2, .int p1), (3, .int p2)]) hx hb dX8_drift_60 hl (by decide) rfl (fun ls hl => ?_)
              have hl' := hl; have hP' := hP; have hD' := hD; clear hl hP hD
              obtain ⟨i1110, g1111, hi_62, hl, hP, hD⟩ : ∃ (i1110 : Int32) (g1111 : Nat → Int32), ((0 : Int) ≤ i1110.toInt) ∧ lv_has ls 8 [(6, .int i1110), (5, .int i1090), (4, .int i1068), (0, .ref w), (1, .ref v), (2, .int p1), (3, .int p2)] ∧ va_P D vwCl [(w, .inr (7, [.ref wa0, .ref wa1, .ref wa2])), (wa0, .inl (K 1, 10, .inl wf0)), (wa1, .inl (K 1, 10, .inl g1069)), (wa2, .inl (K 1, 10, .inl g1111)), (v, .inr (9, [.ref va0, .ref va1, .ref va2, .ref va3, .ref va4, .ref va5, .ref va6, .ref va7, .int vn8, .int vn9, .int vn10, .int vn11])), (va0, .inl (K 1, 40, .inl vf0))] H ∧ va_D A [(w, .inr (7, [.ref wa0, .ref wa1, .ref wa2])), (wa0, .inl (K 1, 10, .inl wf0)), (wa1, .inl (K 1, 10, .inl g1069)), (wa2, .inl (K 1, 10, .inl g1111)), (v, .inr (9, [.ref va0, .ref va1, .ref va2, .ref va3, .ref va4, .ref va5, .ref va6, .ref va7, .int vn8, .int vn9, .int vn10, .int vn11])), (va0, .inl (K 1, 40, .inl vf0))] := ⟨_, _, by omega, hl', hP', hD'⟩
              clear hl' hP' hD'
              obtain ⟨n_62, hn_62⟩ : ∃ n : Nat, (4 - i1110.toInt).toNat < n := ⟨_, Nat.lt_succ_self _⟩
              induction n_62 generalizing i1110 g1111 H locs ls with
              | zero => exact absurd hn_62 (Nat.not_lt_zero _)
              | succ n_62 ih_62 =>
                refine lv_iload hx hb dX8_drift_62 (lv_at hl 0 rfl) ?_
                refine lv_iconst (v := 4) hx hb dX8_drift_64 (by decide) ?_
                refine lv_icmp_ge (tgt := 110) hx hb dX8_drift_65 (by decide) (fun c1112 => ?_) (fun c1112 => ?_)
                · replace c1112 := le_i c1112
                  obtain ⟨v1113, ev1113⟩ : ∃ z : Int32, z = i1090 + 1 := ⟨_, rfl⟩
                  refine lv_iinc (v := v1113) (lv' := [(5, .int v1113), (6, .int i1110), (4, .int i1068), (0, .ref w), (1, .ref v), (2, .int p1), (3, .int p2)]) hx hb dX8_drift_110 hl (k := 1) rfl (by rw [ev1113]; rfl) (by decide) rfl (fun ls hl => ?_)
                  refine lv_goto (tgt := 43) hx hb dX8_drift_113 (by decide) ?_
                  have tv1113 : v1113.toInt = (i1090 : Int32).toInt + (1 : Int32).toInt := add_i ev1113 (by omega) (by omega)
                  exact ih_43 (i1090 := v1113) (g1091 := g1111) (hi_43 := by omega) (H := H) (locs := locs) (ls := ls) (hn_43 := by omega) (hP := hP) (hD := hD) (hS := hS) (hl := lv_sub hl [0, 2, 3, 4, 5, 6] rfl)
                · replace c1112 := nle_i c1112
                  refine lv_aload_n hx hb dX8_drift_68 rfl (lv_at hl 4 rfl) ?_
                  refine lv_iload hx hb dX8_drift_69 (lv_at hl 1 rfl) ?_
                  refine lv_iload hx hb dX8_drift_71 (lv_at hl 0 rfl) ?_
                  refine ro_V (As := [.int i1090, .int i1110]) (rest := []) hC hE kV_X8_42 (c_X10_after l D K v va0 va1 va2 va3 va4 va5 va6 va7 vn8 vn9 vn10 vn11 vf0 i1090 i1110) (hP.sub (ws' := [(v, .inr (9, [.ref va0, .ref va1, .ref va2, .ref va3, .ref va4, .ref va5, .ref va6, .ref va7, .int vn8, .int vn9, .int vn10, .int vn11])), (va0, .inl (K 1, 40, .inl vf0))]) [4, 5] rfl) 0 9 rfl rfl rfl hl.1 rfl (Nat.le_of_ble_eq_true rfl) (by decide) (by decide) dX8_drift_73 (fun r1114 _ => ?_)
                  refine lv_istore (lv' := [(7, .int r1114), (6, .int i1110), (5, .int i1090), (4, .int i1068), (0, .ref w), (1, .ref v), (2, .int p1), (3, .int p2)]) hx hb dX8_drift_76 hl (by decide) rfl (fun ls hl => ?_)
                  refine lv_aload_n hx hb dX8_drift_78 rfl (lv_at hl 5 rfl) ?_
                  refine lv_iload hx hb dX8_drift_79 (lv_at hl 0 rfl) ?_
                  refine ro_V (As := [.int r1114]) (rest := []) hC hE kV_X8_21 (c_X10_hasPlace l D K v va0 va1 va2 va3 va4 va5 va6 va7 vn8 vn9 vn10 vn11 r1114) (hP.sub (ws' := [(v, .inr (9, [.ref va0, .ref va1, .ref va2, .ref va3, .ref va4, .ref va5, .ref va6, .ref va7, .int vn8, .int vn9, .int vn10, .int vn11]))]) [4] rfl) 0 9 rfl rfl rfl hl.1 rfl (Nat.le_of_ble_eq_true rfl) (by decide) (by decide) dX8_drift_81 (fun r1117 hq => ?_)
                  rcases hq with rfl | ⟨rfl, h1115, h1116⟩
                  · refine lv_if_eq (tgt := 104) hx hb dX8_drift_84 (by decide) (fun _ => ?_) (fun h => absurd h (by decide))
                    obtain ⟨v1118, ev1118⟩ : ∃ z : Int32, z = i1110 + 1 := ⟨_, rfl⟩
                    refine lv_iinc (v := v1118) (lv' := [(6, .int v1118), (7, .int r1114), (5, .int i1090), (4, .int i1068), (0, .ref w), (1, .ref v), (2, .int p1), (3, .int p2)]) hx hb dX8_drift_104 hl (k := 1) rfl (by rw [ev1118]; rfl) (by decide) rfl (fun ls hl => ?_)
                    refine lv_goto (tgt := 62) hx hb dX8_drift_107 (by decide) ?_
                    have tv1118 : v1118.toInt = (i1110 : Int32).toInt + (1 : Int32).toInt := add_i ev1118 (by omega) (by omega)
                    exact ih_62 (i1110 := v1118) (g1111 := g1111) (hi_62 := by omega) (H := H) (locs := locs) (ls := ls) (hn_62 := by omega) (hP := hP) (hD := hD) (hS := hS) (hl := lv_sub hl [0, 2, 3, 4, 5, 6, 7] rfl)
                  · refine lv_if_eq (tgt := 104) hx hb dX8_drift_84 (by decide) (fun h => absurd h (by decide)) (fun _ => ?_)
                    refine lv_aload_n hx hb dX8_drift_87 rfl (lv_at hl 4 rfl) ?_
                    refine va_get (D := D) (ci := 7) (v := .ref wa2) (C := RX8) (T := TX8) (N := 3) hx hb hts in_X8 hown hE.1 hP 0 rfl rfl 2 (by decide) (hts _ w_156) (fun _ h9 => h9) rfl dX8_drift_88 ?_
                    refine lv_iload hx hb dX8_drift_91 (lv_at hl 0 rfl) ?_
                    refine lv_dup2_11 hx hb dX8_drift_93 rfl rfl ?_
                    refine va_iald hx hb hE.1 hP 3 1 rfl rfl (vp_in_iff.mpr (by omega)) dX8_drift_94 ?_
                    refine lv_topi (fun v1119 ev1119 => ?_)
                    refine lv_aload_n hx hb dX8_drift_95 rfl (lv_at hl 4 rfl) ?_
                    refine va_get (D := D) (ci := 7) (v := .ref wa1) (C := RX8) (T := TX8) (N := 3) hx hb hts in_X8 hown hE.1 hP 0 rfl rfl 1 (by decide) (hts _ w_139) (fun _ h9 => h9) rfl dX8_drift_96 ?_
                    refine lv_iload hx hb dX8_drift_99 (lv_at hl 2 rfl) ?_
                    refine va_iald hx hb hE.1 hP 2 1 rfl rfl (vp_in_iff.mpr (by omega)) dX8_drift_101 ?_
                    refine lv_topi (fun v1120 ev1120 => ?_)
                    refine lv_iadd hx hb dX8_drift_102 ?_
                    refine lv_topi (fun v1121 ev1121 => ?_)
                    refine sti hx hb hE.1 hP hD hS 3 1 rfl rfl (vp_in_iff.mpr (by omega)) dX8_drift_103 (fun g1122 eg1122 H locs hP hD hS => ?_)
                    replace hP : va_P D vwCl [(w, .inr (7, [.ref wa0, .ref wa1, .ref wa2])), (wa0, .inl (K 1, 10, .inl wf0)), (wa1, .inl (K 1, 10, .inl g1069)), (wa2, .inl (K 1, 10, .inl g1122)), (v, .inr (9, [.ref va0, .ref va1, .ref va2, .ref va3, .ref va4, .ref va5, .ref va6, .ref va7, .int vn8, .int vn9, .int vn10, .int vn11])), (va0, .inl (K 1, 40, .inl vf0))] H := hP
                    replace hD : va_D A [(w, .inr (7, [.ref wa0, .ref wa1, .ref wa2])), (wa0, .inl (K 1, 10, .inl wf0)), (wa1, .inl (K 1, 10, .inl g1069)), (wa2, .inl (K 1, 10, .inl g1122)), (v, .inr (9, [.ref va0, .ref va1, .ref va2, .ref va3, .ref va4, .ref va5, .ref va6, .ref va7, .int vn8, .int vn9, .int vn10, .int vn11])), (va0, .inl (K 1, 40, .inl vf0))] := hD
                    obtain ⟨v1123, ev1123⟩ : ∃ z : Int32, z = i1110 + 1 := ⟨_, rfl⟩
                    refine lv_iinc (v := v1123) (lv' := [(6, .int v1123), (7, .int r1114), (5, .int i1090), (4, .int i1068), (0, .ref w), (1, .ref v), (2, .int p1), (3, .int p2)]) hx hb dX8_drift_104 hl (k := 1) rfl (by rw [ev1123]; rfl) (by decide) rfl (fun ls hl => ?_)
                    refine lv_goto (tgt := 62) hx hb dX8_drift_107 (by decide) ?_
                    have tv1123 : v1123.toInt = (i1110 : Int32).toInt + (1 : Int32).toInt := add_i ev1123 (by omega) (by omega)
                    exact ih_62 (i1110 := v1123) (g1111 := g1122) (hi_62 := by omega) (H := H) (locs := locs) (ls := ls) (hn_62 := by omega) (hP := hP) (hD := hD) (hS := hS) (hl := lv_sub hl [0, 2, 3, 4, 5, 6, 7] rfl)
set_option maxRecDepth 40000 in
set_option maxHeartbeats 4000000 in
theorem c_X3_isEven (l : Launch) (D : va_G) (K : Nat → ClassId) (w : Nat) (wa0 : Nat) (wa1 : Nat) (wa2 : Nat) (wn3 : Int32) (wn4 : Int32) (wf2 : Nat → Int32) (p0 : Int32) : Ro l D K yX3_isEven cX3_isEven 3 (some .boolean) 2 41 [.ref w, .int p0] [(w, .inr (3, [.ref wa0, .ref wa1, .ref wa2, .int wn3, .int wn4])), (wa2, .inl (K 1, 10, .inl wf2))] (fun r => (r = 0) ∨ (r = 1)) := by
  refine ro_of (by decide) (Nat.le_of_ble_eq_true rfl) ?_
  intro p e s m below meth c hC hr hk hE hP ls hl
  replace hC : CallFix p m c cX3_isEven 3 s [.ref w, .int p0].toArray wl RX3 := hC
  have hx := hC.1
  have hb := hC.2.1
  have hml := hC.2.2.1
  have hown := hC.2.2.2.1
  have hts := hC.2.2.2.2
  replace hl : lv_has ls 3 [(0, .ref w), (1, .int p0)] := hl
  have kc_0 : (0 : Int32).toInt = 0 := by decide
  have kc_10 : (10 : Int32).toInt = 10 := by decide
  refine lv_iload_n hx hb dX3_isEven_0 rfl (lv_at hl 1 rfl) ?_
  refine ro_SN (As := [.int p0]) (rest := []) hC hE kSN_X3_65 (c_X11_lowest l D K p0) (hP.sub (ws' := []) [] rfl) rfl hl.1 rfl (Nat.le_of_ble_eq_true rfl) (by decide) (by decide) dX3_isEven_1 (fun r1124 _ => ?_)
  refine lv_istore_n (lv' := [(2, .int r1124), (0, .ref w), (1, .int p0)]) hx hb dX3_isEven_4 rfl hl (by decide) rfl (fun ls hl => ?_)
  refine lv_iload_n hx hb dX3_isEven_5 rfl (lv_at hl 0 rfl) ?_
  refine lv_if_lt (tgt := 32) hx hb dX3_isEven_6 (by decide) (fun c1125 => ?_) (fun c1125 => ?_)
  · replace c1125 := lt_i c1125
    refine lv_iconst (v := 0) hx hb dX3_isEven_32 (by decide) ?_
    exact ro_zret hC hr hk dX3_isEven_33 rfl (Or.inl rfl)
  · replace c1125 := nlt_i c1125
    refine lv_iload_n hx hb dX3_isEven_9 rfl (lv_at hl 0 rfl) ?_
    refine lv_bipush (v := 10) hx hb dX3_isEven_10 (by decide) ?_
    refine lv_icmp_ge (tgt := 32) hx hb dX3_isEven_12 (by decide) (fun c1126 => ?_) (fun c1126 => ?_)
    · replace c1126 := le_i c1126
      refine lv_iconst (v := 0) hx hb dX3_isEven_32 (by decide) ?_
      exact ro_zret hC hr hk dX3_isEven_33 rfl (Or.inl rfl)
    · replace c1126 := nle_i c1126
      refine lv_iload_n hx hb dX3_isEven_15 rfl (lv_at hl 2 rfl) ?_
      refine lv_aload_n hx hb dX3_isEven_16 rfl (lv_at hl 1 rfl) ?_
      refine va_get (D := D) (ci := 3) (v := .ref wa2) (C := RX3) (T := TX3) (N := 5) hx hb hts in_X3 hown hE.1 hP 0 rfl rfl 2 (by decide) (hts _ w_165) (fun _ h9 => h9) rfl dX3_isEven_17 ?_
      refine lv_iload_n hx hb dX3_isEven_20 rfl (lv_at hl 0 rfl) ?_
      refine va_iald hx hb hE.1 hP 1 1 rfl rfl (vp_in_iff.mpr (by omega)) dX3_isEven_21 ?_
      refine lv_topi (fun v1127 ev1127 => ?_)
      refine lv_iconst (v := (-1)) hx hb dX3_isEven_22 (by decide) ?_
      refine lv_ixor hx hb dX3_isEven_23 ?_
      refine lv_topi (fun v1128 ev1128 => ?_)
      refine lv_iand hx hb dX3_isEven_24 ?_
      refine lv_topi (fun v1129 ev1129 => ?_)
      refine lv_if_ne (tgt := 32) hx hb dX3_isEven_25 (by decide) (fun c1130 => ?_) (fun c1130 => ?_)
      · replace c1130 := ne_i c1130
        refine lv_iconst (v := 0) hx hb dX3_isEven_32 (by decide) ?_
        exact ro_zret hC hr hk dX3_isEven_33 rfl (Or.inl rfl)
      · replace c1130 := eq_i c1130
        refine lv_iconst (v := 1) hx hb dX3_isEven_28 (by decide) ?_
        refine lv_goto (tgt := 33) hx hb dX3_isEven_29 (by decide) ?_
        exact ro_zret hC hr hk dX3_isEven_33 rfl (Or.inr rfl)
set_option maxRecDepth 40000 in
set_option maxHeartbeats 4000000 in
theorem c_X3_deepest (l : Launch) (D : va_G) (K : Nat → ClassId) (w : Nat) (wa0 : Nat) (wa1 : Nat) (wa2 : Nat) (wn3 : Int32) (wn4 : Int32) (wf0 : Nat → Int32) (wf2 : Nat → Int32) (p0 : Int32) : Ro l D K yX3_deepest cX3_deepest 6 (some .int) 1 13 [.ref w, .int p0] [(w, .inr (3, [.ref wa0, .ref wa1, .ref wa2, .int wn3, .int wn4])), (wa0, .inl (K 1, 1024, .inl wf0)), (wa2, .inl (K 1, 10, .inl wf2))] (fun _ => True) := by
  refine ro_of (by decide) (Nat.le_of_ble_eq_true rfl) ?_
  intro p e s m below meth c hC hr hk hE hP ls hl
  replace hC : CallFix p m c cX3_deepest 6 s [.ref w, .int p0].toArray wl RX3 := hC
  have hx := hC.1
  have hb := hC.2.1
  have hml := hC.2.2.1
  have hown := hC.2.2.2.1
  have hts := hC.2.2.2.2
  replace hl : lv_has ls 6 [(0, .ref w), (1, .int p0)] := hl
  have kc_m1 : (-1 : Int32).toInt = -1 := by decide
  have kc_0 : (0 : Int32).toInt = 0 := by decide
  have kc_1 : (1 : Int32).toInt = 1 := by decide
  have kc_10 : (10 : Int32).toInt = 10 := by decide
  have kc_1023 : (1023 : Int32).toInt = 1023 := by decide
  refine lv_iconst (v := 0) hx hb dX3_deepest_0 (by decide) ?_
  refine lv_istore_n (lv' := [(2, .int 0), (0, .ref w), (1, .int p0)]) hx hb dX3_deepest_1 rfl hl (by decide) rfl (fun ls hl => ?_)
  refine lv_iload_n hx hb dX3_deepest_2 rfl (lv_at hl 2 rfl) ?_
  refine lv_aload_n hx hb dX3_deepest_3 rfl (lv_at hl 1 rfl) ?_
  refine va_get (D := D) (ci := 3) (v := .int wn3) (C := RX3) (T := TX3) (N := 5) hx hb hts in_X3 hown hE.1 hP 0 rfl rfl 3 (by decide) (hts _ w_166) (fun _ h9 => h9) rfl dX3_deepest_4 ?_
  refine lv_iand hx hb dX3_deepest_7 ?_
  refine lv_topi (fun v1131 ev1131 => ?_)
  refine lv_istore_n (lv' := [(3, .int v1131), (2, .int 0), (0, .ref w), (1, .int p0)]) hx hb dX3_deepest_8 rfl hl (by decide) rfl (fun ls hl => ?_)
  refine lv_iconst (v := 0) hx hb dX3_deepest_9 (by decide) ?_
  refine lv_istore (lv' := [(4, .int 0), (3, .int v1131), (2, .int 0), (0, .ref w), (1, .int p0)]) hx hb dX3_deepest_10 hl (by decide) rfl (fun ls hl => ?_)
  have hl' := hl; clear hl
  obtain ⟨i1151, i1152, i1153, hi_12, hl⟩ : ∃ (i1151 : Int32) (i1152 : Int32) (i1153 : Int32), ((0 : Int) ≤ i1151.toInt) ∧ lv_has ls 6 [(4, .int i1151), (3, .int i1152), (2, .int i1153), (0, .ref w), (1, .int p0)] := ⟨_, _, _, by omega, hl'⟩
  clear hl'
  obtain ⟨n_12, hn_12⟩ : ∃ n : Nat, (10 - i1151.toInt).toNat < n := ⟨_, Nat.lt_succ_self _⟩
  induction n_12 generalizing i1151 i1152 i1153 ls with
  | zero => exact absurd hn_12 (Nat.not_lt_zero _)
  | succ n_12 ih_12 =>
    refine lv_iload hx hb dX3_deepest_12 (lv_at hl 0 rfl) ?_
    refine lv_bipush (v := 10) hx hb dX3_deepest_14 (by decide) ?_
    refine lv_icmp_ge (tgt := 88) hx hb dX3_deepest_16 (by decide) (fun c1154 => ?_) (fun c1154 => ?_)
    · replace c1154 := le_i c1154
      refine lv_iload_n hx hb dX3_deepest_88 rfl (lv_at hl 2 rfl) ?_
      exact ro_ret hC hr hk dX3_deepest_89 trivial
    · replace c1154 := nle_i c1154
      refine lv_iload_n hx hb dX3_deepest_19 rfl (lv_at hl 1 rfl) ?_
      refine lv_if_eq (tgt := 88) hx hb dX3_deepest_20 (by decide) (fun c1155 => ?_) (fun c1155 => ?_)
      · replace c1155 := eq_i c1155
        refine lv_iload_n hx hb dX3_deepest_88 rfl (lv_at hl 2 rfl) ?_
        exact ro_ret hC hr hk dX3_deepest_89 trivial
      · replace c1155 := ne_i c1155
        refine lv_iload_n hx hb dX3_deepest_23 rfl (lv_at hl 1 rfl) ?_
        refine lv_iload hx hb dX3_deepest_24 (lv_at hl 0 rfl) ?_
        refine lv_ishr hx hb dX3_deepest_26 ?_
        refine lv_topi (fun v1156 ev1156 => ?_)
        refine lv_iconst (v := 1) hx hb dX3_deepest_27 (by decide) ?_
        refine lv_iand hx hb dX3_deepest_28 ?_
        refine lv_topi (fun v1157 ev1157 => ?_)
        have tv1157 : 0 ≤ v1157.toInt ∧ v1157.toInt ≤ 1 := and_i2 ev1157 (by decide) (by decide)
        refine lv_if_ne (tgt := 35) hx hb dX3_deepest_29 (by decide) (fun c1158 => ?_) (fun c1158 => ?_)
        · replace c1158 := ne_i c1158
          refine lv_aload_n hx hb dX3_deepest_35 rfl (lv_at hl 3 rfl) ?_
          refine va_get (D := D) (ci := 3) (v := .ref wa0) (C := RX3) (T := TX3) (N := 5) hx hb hts in_X3 hown hE.1 hP 0 rfl rfl 0 (by decide) (hts _ w_167) (fun _ h9 => h9) rfl dX3_deepest_36 ?_
          refine lv_iload_n hx hb dX3_deepest_39 rfl (lv_at hl 1 rfl) ?_
          refine lv_aload_n hx hb dX3_deepest_40 rfl (lv_at hl 3 rfl) ?_
          refine va_get (D := D) (ci := 3) (v := .ref wa2) (C := RX3) (T := TX3) (N := 5) hx hb hts in_X3 hown hE.1 hP 0 rfl rfl 2 (by decide) (hts _ w_165) (fun _ h9 => h9) rfl dX3_deepest_41 ?_
          refine lv_iload hx hb dX3_deepest_44 (lv_at hl 0 rfl) ?_
          refine va_iald hx hb hE.1 hP 2 1 rfl rfl (vp_in_iff.mpr (by omega)) dX3_deepest_46 ?_
          refine lv_topi (fun v1159 ev1159 => ?_)
          refine lv_iand hx hb dX3_deepest_47 ?_
          refine lv_topi (fun v1160 ev1160 => ?_)
          refine lv_sipush (v := 1023) hx hb dX3_deepest_48 (by decide) ?_
          refine lv_iand hx hb dX3_deepest_51 ?_
          refine lv_topi (fun v1161 ev1161 => ?_)
          have tv1161 : 0 ≤ v1161.toInt ∧ v1161.toInt ≤ 1023 := and_i2 ev1161 (by decide) (by decide)
          refine va_iald hx hb hE.1 hP 1 1 rfl rfl (vp_in_iff.mpr (by omega)) dX3_deepest_52 ?_
          refine lv_topi (fun v1162 ev1162 => ?_)
          refine lv_istore (lv' := [(5, .int v1162), (4, .int i1151), (3, .int i1152), (2, .int i1153), (0, .ref w), (1, .int p0)]) hx hb dX3_deepest_53 hl (by decide) rfl (fun ls hl => ?_)
          refine lv_iload hx hb dX3_deepest_55 (lv_at hl 0 rfl) ?_
          refine lv_iconst (v := (-1)) hx hb dX3_deepest_57 (by decide) ?_
          refine lv_icmp_ne (tgt := 63) hx hb dX3_deepest_58 (by decide) (fun c1163 => ?_) (fun c1163 => ?_)
          · replace c1163 := ne_i c1163
            refine lv_iload_n hx hb dX3_deepest_63 rfl (lv_at hl 3 rfl) ?_
            refine lv_iload hx hb dX3_deepest_64 (lv_at hl 0 rfl) ?_
            refine va_mmax hx hb (hml.trans hl.1.symm) hown (hts _ w_168) (hts _ w_169) (hts _ w_143) (hts _ w_170) (by decide) (Nat.le_of_ble_eq_true rfl) (by decide) (by decide) dX3_deepest_66 ?_
            refine lv_topi (fun v1164 ev1164 => ?_)
            have tv1164 := max_i ev1164
            refine lv_istore_n (lv' := [(2, .int v1164), (5, .int v1162), (4, .int i1151), (3, .int i1152), (0, .ref w), (1, .int p0)]) hx hb dX3_deepest_69 rfl hl (by decide) rfl (fun ls hl => ?_)
            refine lv_iload_n hx hb dX3_deepest_70 rfl (lv_at hl 3 rfl) ?_
            refine lv_aload_n hx hb dX3_deepest_71 rfl (lv_at hl 4 rfl) ?_
            refine va_get (D := D) (ci := 3) (v := .ref wa2) (C := RX3) (T := TX3) (N := 5) hx hb hts in_X3 hown hE.1 hP 0 rfl rfl 2 (by decide) (hts _ w_165) (fun _ h9 => h9) rfl dX3_deepest_72 ?_
            refine lv_iload hx hb dX3_deepest_75 (lv_at hl 2 rfl) ?_
            refine va_iald hx hb hE.1 hP 2 1 rfl rfl (vp_in_iff.mpr (by omega)) dX3_deepest_77 ?_
            refine lv_topi (fun v1165 ev1165 => ?_)
            refine lv_iconst (v := (-1)) hx hb dX3_deepest_78 (by decide) ?_
            refine lv_ixor hx hb dX3_deepest_79 ?_
            refine lv_topi (fun v1166 ev1166 => ?_)
            refine lv_iand hx hb dX3_deepest_80 ?_
            refine lv_topi (fun v1167 ev1167 => ?_)
            refine lv_istore_n (lv' := [(3, .int v1167), (2, .int v1164), (5, .int v1162), (4, .int i1151), (0, .ref w), (1, .int p0)]) hx hb dX3_deepest_81 rfl hl (by decide) rfl (fun ls hl => ?_)
            obtain ⟨v1168, ev1168⟩ : ∃ z : Int32, z = i1151 + 1 := ⟨_, rfl⟩
            refine lv_iinc (v := v1168) (lv' := [(4, .int v1168), (3, .int v1167), (2, .int v1164), (5, .int v1162), (0, .ref w), (1, .int p0)]) hx hb dX3_deepest_82 hl (k := 3) rfl (by rw [ev1168]; rfl) (by decide) rfl (fun ls hl => ?_)
            refine lv_goto (tgt := 12) hx hb dX3_deepest_85 (by decide) ?_
            have tv1168 : v1168.toInt = (i1151 : Int32).toInt + (1 : Int32).toInt := add_i ev1168 (by omega) (by omega)
            exact ih_12 (i1151 := v1168) (i1152 := v1167) (i1153 := v1164) (hi_12 := by omega) (ls := ls) (hn_12 := by omega) (hl := lv_sub hl [0, 1, 2, 4, 5] rfl)
          · replace c1163 := eq_i c1163
            refine lv_iconst (v := (-1)) hx hb dX3_deepest_61 (by decide) ?_
            exact ro_ret hC hr hk dX3_deepest_62 trivial
        · replace c1158 := eq_i c1158
          refine lv_goto (tgt := 82) hx hb dX3_deepest_32 (by decide) ?_
          obtain ⟨v1169, ev1169⟩ : ∃ z : Int32, z = i1151 + 1 := ⟨_, rfl⟩
          refine lv_iinc (v := v1169) (lv' := [(4, .int v1169), (3, .int i1152), (2, .int i1153), (0, .ref w), (1, .int p0)]) hx hb dX3_deepest_82 hl (k := 0) rfl (by rw [ev1169]; rfl) (by decide) rfl (fun ls hl => ?_)
          refine lv_goto (tgt := 12) hx hb dX3_deepest_85 (by decide) ?_
          have tv1169 : v1169.toInt = (i1151 : Int32).toInt + (1 : Int32).toInt := add_i ev1169 (by omega) (by omega)
          exact ih_12 (i1151 := v1169) (i1152 := i1152) (i1153 := i1153) (hi_12 := by omega) (ls := ls) (hn_12 := by omega) (hl := lv_sub hl [0, 1, 2, 3, 4] rfl)
set_option maxRecDepth 40000 in
set_option maxHeartbeats 4000000 in
theorem c_X3_windTo (l : Launch) (D : va_G) (K : Nat → ClassId) (w : Nat) (wa0 : Nat) (wa1 : Nat) (wa2 : Nat) (wn3 : Int32) (wn4 : Int32) (wf0 : Nat → Int32) (wf1 : Nat → Int32) (wf2 : Nat → Int32) (p0 : Int32) (p1 : Int32) : Ro l D K yX3_windTo cX3_windTo 5 (some .int) 2 38 [.ref w, .int p0, .int p1] [(w, .inr (3, [.ref wa0, .ref wa1, .ref wa2, .int wn3, .int wn4])), (wa0, .inl (K 1, 1024, .inl wf0)), (wa1, .inl (K 1, 4096, .inl wf1)), (wa2, .inl (K 1, 10, .inl wf2))] (fun _ => True) := by
  refine ro_of (by decide) (Nat.le_of_ble_eq_true rfl) ?_
  intro p e s m below meth c hC hr hk hE hP ls hl
  replace hC : CallFix p m c cX3_windTo 5 s [.ref w, .int p0, .int p1].toArray wl RX3 := hC
  have hx := hC.1
  have hb := hC.2.1
  have hml := hC.2.2.1
  have hown := hC.2.2.2.1
  have hts := hC.2.2.2.2
  replace hl : lv_has ls 5 [(0, .ref w), (1, .int p0), (2, .int p1)] := hl
  have kc_m1 : (-1 : Int32).toInt = -1 := by decide
  have kc_0 : (0 : Int32).toInt = 0 := by decide
  have kc_1 : (1 : Int32).toInt = 1 := by decide
  have kc_4 : (4 : Int32).toInt = 4 := by decide
  have kc_1024 : (1024 : Int32).toInt = 1024 := by decide
  refine lv_iload_n hx hb dX3_windTo_0 rfl (lv_at hl 1 rfl) ?_
  refine lv_if_lt (tgt := 11) hx hb dX3_windTo_1 (by decide) (fun c1170 => ?_) (fun c1170 => ?_)
  · replace c1170 := lt_i c1170
    refine lv_iconst (v := (-1)) hx hb dX3_windTo_11 (by decide) ?_
    exact ro_ret hC hr hk dX3_windTo_12 trivial
  · replace c1170 := nlt_i c1170
    refine lv_iload_n hx hb dX3_windTo_4 rfl (lv_at hl 1 rfl) ?_
    refine lv_sipush (v := 1024) hx hb dX3_windTo_5 (by decide) ?_
    refine lv_icmp_lt (tgt := 13) hx hb dX3_windTo_8 (by decide) (fun c1171 => ?_) (fun c1171 => ?_)
    · replace c1171 := lt_i c1171
      refine lv_iconst (v := 0) hx hb dX3_windTo_13 (by decide) ?_
      refine lv_istore_n (lv' := [(3, .int 0), (0, .ref w), (1, .int p0), (2, .int p1)]) hx hb dX3_windTo_14 rfl hl (by decide) rfl (fun ls hl => ?_)
      have hl' := hl; clear hl
      obtain ⟨i1182, hi_15, hl⟩ : ∃ (i1182 : Int32), ((0 : Int) ≤ i1182.toInt) ∧ lv_has ls 5 [(3, .int i1182), (0, .ref w), (1, .int p0), (2, .int p1)] := ⟨_, by omega, hl'⟩
      clear hl'
      obtain ⟨n_15, hn_15⟩ : ∃ n : Nat, (4 - i1182.toInt).toNat < n := ⟨_, Nat.lt_succ_self _⟩
      induction n_15 generalizing i1182 ls with
      | zero => exact absurd hn_15 (Nat.not_lt_zero _)
      | succ n_15 ih_15 =>
        refine lv_iload_n hx hb dX3_windTo_15 rfl (lv_at hl 0 rfl) ?_
        refine lv_iconst (v := 4) hx hb dX3_windTo_16 (by decide) ?_
        refine lv_icmp_ge (tgt := 56) hx hb dX3_windTo_17 (by decide) (fun c1183 => ?_) (fun c1183 => ?_)
        · replace c1183 := le_i c1183
          refine lv_iconst (v := (-1)) hx hb dX3_windTo_56 (by decide) ?_
          exact ro_ret hC hr hk dX3_windTo_57 trivial
        · replace c1183 := nle_i c1183
          refine lv_aload_n hx hb dX3_windTo_20 rfl (lv_at hl 1 rfl) ?_
          refine lv_aload_n hx hb dX3_windTo_21 rfl (lv_at hl 1 rfl) ?_
          refine va_get (D := D) (ci := 3) (v := .ref wa1) (C := RX3) (T := TX3) (N := 5) hx hb hts in_X3 hown hE.1 hP 0 rfl rfl 1 (by decide) (hts _ w_171) (fun _ h9 => h9) rfl dX3_windTo_22 ?_
          refine lv_iload_n hx hb dX3_windTo_25 rfl (lv_at hl 2 rfl) ?_
          refine lv_iconst (v := 4) hx hb dX3_windTo_26 (by decide) ?_
          refine lv_imul hx hb dX3_windTo_27 ?_
          refine lv_topi (fun v1184 ev1184 => ?_)
          refine lv_iload_n hx hb dX3_windTo_28 rfl (lv_at hl 0 rfl) ?_
          refine lv_iadd hx hb dX3_windTo_29 ?_
          refine lv_topi (fun v1185 ev1185 => ?_)
          have tv1184 : v1184.toInt = p0.toInt * 4 := mul_i ev1184 rfl (by decide) (by omega) (by omega)
          have tv1185 : v1185.toInt = (v1184 : Int32).toInt + (i1182 : Int32).toInt := add_i ev1185 (by omega) (by omega)
          refine va_iald hx hb hE.1 hP 2 1 rfl rfl (vp_in_iff.mpr (by omega)) dX3_windTo_30 ?_
          refine lv_topi (fun v1186 ev1186 => ?_)
          refine ro_V (As := [.int v1186]) (rest := []) hC hE kV_X3_68 (c_X3_deepest l D K w wa0 wa1 wa2 wn3 wn4 wf0 wf2 v1186) (hP.sub (ws' := [(w, .inr (3, [.ref wa0, .ref wa1, .ref wa2, .int wn3, .int wn4])), (wa0, .inl (K 1, 1024, .inl wf0)), (wa2, .inl (K 1, 10, .inl wf2))]) [0, 1, 3] rfl) 0 3 rfl rfl rfl hl.1 rfl (Nat.le_of_ble_eq_true rfl) (by decide) (by decide) dX3_windTo_31 (fun r1187 _ => ?_)
          refine lv_istore (lv' := [(4, .int r1187), (3, .int i1182), (0, .ref w), (1, .int p0), (2, .int p1)]) hx hb dX3_windTo_34 hl (by decide) rfl (fun ls hl => ?_)
          refine lv_iload hx hb dX3_windTo_36 (lv_at hl 0 rfl) ?_
          refine lv_iconst (v := (-1)) hx hb dX3_windTo_38 (by decide) ?_
          refine lv_icmp_eq (tgt := 50) hx hb dX3_windTo_39 (by decide) (fun c1188 => ?_) (fun c1188 => ?_)
          · replace c1188 := eq_i c1188
            obtain ⟨v1189, ev1189⟩ : ∃ z : Int32, z = i1182 + 1 := ⟨_, rfl⟩
            refine lv_iinc (v := v1189) (lv' := [(3, .int v1189), (4, .int r1187), (0, .ref w), (1, .int p0), (2, .int p1)]) hx hb dX3_windTo_50 hl (k := 1) rfl (by rw [ev1189]; rfl) (by decide) rfl (fun ls hl => ?_)
            refine lv_goto (tgt := 15) hx hb dX3_windTo_53 (by decide) ?_
            have tv1189 : v1189.toInt = (i1182 : Int32).toInt + (1 : Int32).toInt := add_i ev1189 (by omega) (by omega)
            exact ih_15 (i1182 := v1189) (hi_15 := by omega) (ls := ls) (hn_15 := by omega) (hl := lv_sub hl [0, 2, 3, 4] rfl)
          · replace c1188 := ne_i c1188
            refine lv_iload hx hb dX3_windTo_42 (lv_at hl 0 rfl) ?_
            refine lv_iload_n hx hb dX3_windTo_44 rfl (lv_at hl 4 rfl) ?_
            refine lv_icmp_ge (tgt := 50) hx hb dX3_windTo_45 (by decide) (fun c1190 => ?_) (fun c1190 => ?_)
            · replace c1190 := le_i c1190
              obtain ⟨v1191, ev1191⟩ : ∃ z : Int32, z = i1182 + 1 := ⟨_, rfl⟩
              refine lv_iinc (v := v1191) (lv' := [(3, .int v1191), (4, .int r1187), (0, .ref w), (1, .int p0), (2, .int p1)]) hx hb dX3_windTo_50 hl (k := 1) rfl (by rw [ev1191]; rfl) (by decide) rfl (fun ls hl => ?_)
              refine lv_goto (tgt := 15) hx hb dX3_windTo_53 (by decide) ?_
              have tv1191 : v1191.toInt = (i1182 : Int32).toInt + (1 : Int32).toInt := add_i ev1191 (by omega) (by omega)
              exact ih_15 (i1182 := v1191) (hi_15 := by omega) (ls := ls) (hn_15 := by omega) (hl := lv_sub hl [0, 2, 3, 4] rfl)
            · replace c1190 := nle_i c1190
              refine lv_iload_n hx hb dX3_windTo_48 rfl (lv_at hl 1 rfl) ?_
              exact ro_ret hC hr hk dX3_windTo_49 trivial
    · replace c1171 := nlt_i c1171
      refine lv_iconst (v := (-1)) hx hb dX3_windTo_11 (by decide) ?_
      exact ro_ret hC hr hk dX3_windTo_12 trivial
set_option maxRecDepth 40000 in
set_option maxHeartbeats 4000000 in
theorem c_X3_settle (l : Launch) (D : va_G) (K : Nat → ClassId) (w : Nat) (wa0 : Nat) (wa1 : Nat) (wa2 : Nat) (wn3 : Int32) (wn4 : Int32) (wf0 : Nat → Int32) (wf1 : Nat → Int32) (wf2 : Nat → Int32) (p0 : Int32) : Ci (S := ((Nat → Int32) × (Nat → Nat → Int32) × (Nat → Nat → Int64))) l D K yX3_settle cX3_settle 4 (some .boolean) 3 63 0 0 [.ref w, .int p0] [(w, .inr (3, [.ref wa0, .ref wa1, .ref wa2, .int wn3, .int wn4])), (wa0, .inl (K 1, 1024, .inl wf0)), (wa1, .inl (K 1, 4096, .inl wf1)), (wa2, .inl (K 1, 10, .inl wf2))] (fun r u => ((r = 0) ∨ (r = 1))) (fun u => [(w, .inr (3, [.ref wa0, .ref wa1, .ref wa2, .int wn3, .int wn4])), (wa0, .inl (K 1, 1024, .inl (u.2.1 0))), (wa1, .inl (K 1, 4096, .inl wf1)), (wa2, .inl (K 1, 10, .inl wf2))]) := by
  intro sz
  refine ch_of (y := yX3_settle) (cc := cX3_settle) (maxL := 4) (ret := (some .boolean)) (av := [.ref w, .int p0]) (ws := [(w, .inr (3, [.ref wa0, .ref wa1, .ref wa2, .int wn3, .int wn4])), (wa0, .inl (K 1, 1024, .inl wf0)), (wa1, .inl (K 1, 4096, .inl wf1)), (wa2, .inl (K 1, 10, .inl wf2))]) (D := D) (K := K) (Qc := fun A => va_Qi (S := ((Nat → Int32) × (Nat → Nat → Int32) × (Nat → Nat → Int64))) (fun r u => ((r = 0) ∨ (r = 1))) (chB D A (fun u => [(w, .inr (3, [.ref wa0, .ref wa1, .ref wa2, .int wn3, .int wn4])), (wa0, .inl (K 1, 1024, .inl (u.2.1 0))), (wa1, .inl (K 1, 4096, .inl wf1)), (wa2, .inl (K 1, 10, .inl wf2))])) A) (by decide) (Nat.le_of_ble_eq_true rfl) ?_
  intro p e s m below meth c A hC hr hk hin hE hD hA H locs hP hS ls hl
  replace hC : CallFix p m c cX3_settle 4 s [.ref w, .int p0].toArray wl RX3 := hC
  have hx := hC.1
  have hb := hC.2.1
  have hml := hC.2.2.1
  have hown := hC.2.2.2.1
  have hts := hC.2.2.2.2
  replace hl : lv_has ls 4 [(0, .ref w), (1, .int p0)] := hl
  have kc_m1 : (-1 : Int32).toInt = -1 := by decide
  have kc_0 : (0 : Int32).toInt = 0 := by decide
  have kc_1 : (1 : Int32).toInt = 1 := by decide
  have kc_1024 : (1024 : Int32).toInt = 1024 := by decide
  refine lv_iconst (v := 0) hx hb dX3_settle_0 (by decide) ?_
  refine lv_istore_n (lv' := [(2, .int 0), (0, .ref w), (1, .int p0)]) hx hb dX3_settle_1 rfl hl (by decide) rfl (fun ls hl => ?_)
  refine lv_iconst (v := 1) hx hb dX3_settle_2 (by decide) ?_
  refine lv_istore_n (lv' := [(3, .int 1), (2, .int 0), (0, .ref w), (1, .int p0)]) hx hb dX3_settle_3 rfl hl (by decide) rfl (fun ls hl => ?_)
  have hl' := hl; have hP' := hP; have hD' := hD; clear hl hP hD
  obtain ⟨i1220, i1221, g1222, hi_4, hs_4, hl, hP, hD⟩ : ∃ (i1220 : Int32) (i1221 : Int32) (g1222 : Nat → Int32), ((1 : Int) ≤ i1220.toInt) ∧ (i1221.toInt = 0 ∨ i1221.toInt = 1) ∧ lv_has ls 4 [(3, .int i1220), (2, .int i1221), (0, .ref w), (1, .int p0)] ∧ va_P D vwCl [(w, .inr (3, [.ref wa0, .ref wa1, .ref wa2, .int wn3, .int wn4])), (wa0, .inl (K 1, 1024, .inl g1222)), (wa1, .inl (K 1, 4096, .inl wf1)), (wa2, .inl (K 1, 10, .inl wf2))] H ∧ va_D A [(w, .inr (3, [.ref wa0, .ref wa1, .ref wa2, .int wn3, .int wn4])), (wa0, .inl (K 1, 1024, .inl g1222)), (wa1, .inl (K 1, 4096, .inl wf1)), (wa2, .inl (K 1, 10, .inl wf2))] := ⟨_, _, _, by omega, by omega, hl', hP', hD'⟩
  clear hl' hP' hD'
  obtain ⟨n_4, hn_4⟩ : ∃ n : Nat, (1024 - i1220.toInt).toNat < n := ⟨_, Nat.lt_succ_self _⟩
  induction n_4 generalizing i1220 i1221 g1222 H locs ls with
  | zero => exact absurd hn_4 (Nat.not_lt_zero _)
  | succ n_4 ih_4 =>
    refine lv_iload_n hx hb dX3_settle_4 rfl (lv_at hl 0 rfl) ?_
    refine lv_aload_n hx hb dX3_settle_5 rfl (lv_at hl 2 rfl) ?_
    refine va_get (D := D) (ci := 3) (v := .int wn3) (C := RX3) (T := TX3) (N := 5) hx hb hts in_X3 hown hE.1 hP 0 rfl rfl 3 (by decide) (hts _ w_166) (fun _ h9 => h9) rfl dX3_settle_6 ?_
    refine lv_icmp_gt (tgt := 62) hx hb dX3_settle_9 (by decide) (fun c1223 => ?_) (fun c1223 => ?_)
    · replace c1223 := lt_i c1223
      refine lv_iload_n hx hb dX3_settle_62 rfl (lv_at hl 1 rfl) ?_
      rcases b01 (show (i1221 : Int32).toInt = 0 ∨ (i1221 : Int32).toInt = 1 by omega) with hb1224 | hb1224
      · refine tc (y := 0) hb1224 ?_
        refine W.widen (k := 0) (n := 0) (by decide) (by decide) ?_
        exact ch_zret hC hr hk hS dX3_settle_63 rfl ((fun k => [].getD k 0, fun k => [g1222].getD k (fun _ => 0), fun k => [].getD k (fun _ => 0)) : ((Nat → Int32) × (Nat → Nat → Int32) × (Nat → Nat → Int64))) (Or.inl rfl) (hP.sub [0, 1, 2, 3] rfl) (hD.sub [0, 1, 2, 3] (by decide) rfl)
      · refine tc (y := 1) hb1224 ?_
        refine W.widen (k := 0) (n := 0) (by decide) (by decide) ?_
        exact ch_zret hC hr hk hS dX3_settle_63 rfl ((fun k => [].getD k 0, fun k => [g1222].getD k (fun _ => 0), fun k => [].getD k (fun _ => 0)) : ((Nat → Int32) × (Nat → Nat → Int32) × (Nat → Nat → Int64))) (Or.inr rfl) (hP.sub [0, 1, 2, 3] rfl) (hD.sub [0, 1, 2, 3] (by decide) rfl)
    · replace c1223 := nlt_i c1223
      refine lv_iload_n hx hb dX3_settle_12 rfl (lv_at hl 0 rfl) ?_
      refine lv_sipush (v := 1024) hx hb dX3_settle_13 (by decide) ?_
      refine lv_icmp_ge (tgt := 62) hx hb dX3_settle_16 (by decide) (fun c1225 => ?_) (fun c1225 => ?_)
      · replace c1225 := le_i c1225
        refine lv_iload_n hx hb dX3_settle_62 rfl (lv_at hl 1 rfl) ?_
        rcases b01 (show (i1221 : Int32).toInt = 0 ∨ (i1221 : Int32).toInt = 1 by omega) with hb1226 | hb1226
        · refine tc (y := 0) hb1226 ?_
          refine W.widen (k := 0) (n := 0) (by decide) (by decide) ?_
          exact ch_zret hC hr hk hS dX3_settle_63 rfl ((fun k => [].getD k 0, fun k => [g1222].getD k (fun _ => 0), fun k => [].getD k (fun _ => 0)) : ((Nat → Int32) × (Nat → Nat → Int32) × (Nat → Nat → Int64))) (Or.inl rfl) (hP.sub [0, 1, 2, 3] rfl) (hD.sub [0, 1, 2, 3] (by decide) rfl)
        · refine tc (y := 1) hb1226 ?_
          refine W.widen (k := 0) (n := 0) (by decide) (by decide) ?_
          exact ch_zret hC hr hk hS dX3_settle_63 rfl ((fun k => [].getD k 0, fun k => [g1222].getD k (fun _ => 0), fun k => [].getD k (fun _ => 0)) : ((Nat → Int32) × (Nat → Nat → Int32) × (Nat → Nat → Int64))) (Or.inr rfl) (hP.sub [0, 1, 2, 3] rfl) (hD.sub [0, 1, 2, 3] (by decide) rfl)
      · replace c1225 := nle_i c1225
        refine lv_aload_n hx hb dX3_settle_19 rfl (lv_at hl 2 rfl) ?_
        refine va_get (D := D) (ci := 3) (v := .ref wa0) (C := RX3) (T := TX3) (N := 5) hx hb hts in_X3 hown hE.1 hP 0 rfl rfl 0 (by decide) (hts _ w_167) (fun _ h9 => h9) rfl dX3_settle_20 ?_
        refine lv_iload_n hx hb dX3_settle_23 rfl (lv_at hl 0 rfl) ?_
        refine va_iald hx hb hE.1 hP 1 1 rfl rfl (vp_in_iff.mpr (by omega)) dX3_settle_24 ?_
        refine lv_topi (fun v1227 ev1227 => ?_)
        refine lv_iconst (v := (-1)) hx hb dX3_settle_25 (by decide) ?_
        refine lv_icmp_ne (tgt := 56) hx hb dX3_settle_26 (by decide) (fun c1228 => ?_) (fun c1228 => ?_)
        · replace c1228 := ne_i c1228
          obtain ⟨v1229, ev1229⟩ : ∃ z : Int32, z = i1220 + 1 := ⟨_, rfl⟩
          refine lv_iinc (v := v1229) (lv' := [(3, .int v1229), (2, .int i1221), (0, .ref w), (1, .int p0)]) hx hb dX3_settle_56 hl (k := 0) rfl (by rw [ev1229]; rfl) (by decide) rfl (fun ls hl => ?_)
          refine lv_goto (tgt := 4) hx hb dX3_settle_59 (by decide) ?_
          have tv1229 : v1229.toInt = (i1220 : Int32).toInt + (1 : Int32).toInt := add_i ev1229 (by omega) (by omega)
          exact ih_4 (i1220 := v1229) (i1221 := i1221) (g1222 := g1222) (hi_4 := by omega) (hs_4 := by omega) (H := H) (locs := locs) (ls := ls) (hn_4 := by omega) (hP := hP) (hD := hD) (hS := hS) (hl := lv_sub hl [0, 1, 2, 3] rfl)
        · replace c1228 := eq_i c1228
          refine lv_aload_n hx hb dX3_settle_29 rfl (lv_at hl 2 rfl) ?_
          refine lv_iload_n hx hb dX3_settle_30 rfl (lv_at hl 0 rfl) ?_
          refine ro_V (As := [.int i1220]) (rest := []) hC hE kV_X3_59 (c_X3_isEven l D K w wa0 wa1 wa2 wn3 wn4 wf2 i1220) (hP.sub (ws' := [(w, .inr (3, [.ref wa0, .ref wa1, .ref wa2, .int wn3, .int wn4])), (wa2, .inl (K 1, 10, .inl wf2))]) [0, 3] rfl) 0 3 rfl rfl rfl hl.1 rfl (Nat.le_of_ble_eq_true rfl) (by decide) (by decide) dX3_settle_31 (fun r1230 hq => ?_)
          rcases hq with rfl | rfl
          · refine lv_if_eq (tgt := 56) hx hb dX3_settle_34 (by decide) (fun _ => ?_) (fun h => absurd h (by decide))
            obtain ⟨v1231, ev1231⟩ : ∃ z : Int32, z = i1220 + 1 := ⟨_, rfl⟩
            refine lv_iinc (v := v1231) (lv' := [(3, .int v1231), (2, .int i1221), (0, .ref w), (1, .int p0)]) hx hb dX3_settle_56 hl (k := 0) rfl (by rw [ev1231]; rfl) (by decide) rfl (fun ls hl => ?_)
            refine lv_goto (tgt := 4) hx hb dX3_settle_59 (by decide) ?_
            have tv1231 : v1231.toInt = (i1220 : Int32).toInt + (1 : Int32).toInt := add_i ev1231 (by omega) (by omega)
            exact ih_4 (i1220 := v1231) (i1221 := i1221) (g1222 := g1222) (hi_4 := by omega) (hs_4 := by omega) (H := H) (locs := locs) (ls := ls) (hn_4 := by omega) (hP := hP) (hD := hD) (hS := hS) (hl := lv_sub hl [0, 1, 2, 3] rfl)
          · refine lv_if_eq (tgt := 56) hx hb dX3_settle_34 (by decide) (fun h => absurd h (by decide)) (fun _ => ?_)
            refine lv_aload_n hx hb dX3_settle_37 rfl (lv_at hl 2 rfl) ?_
            refine lv_iload_n hx hb dX3_settle_38 rfl (lv_at hl 0 rfl) ?_
            refine lv_iload_n hx hb dX3_settle_39 rfl (lv_at hl 3 rfl) ?_
            refine ro_V (As := [.int i1220, .int p0]) (rest := []) hC hE kV_X3_62 (c_X3_windTo l D K w wa0 wa1 wa2 wn3 wn4 g1222 wf1 wf2 i1220 p0) (hP.sub (ws' := [(w, .inr (3, [.ref wa0, .ref wa1, .ref wa2, .int wn3, .int wn4])), (wa0, .inl (K 1, 1024, .inl g1222)), (wa1, .inl (K 1, 4096, .inl wf1)), (wa2, .inl (K 1, 10, .inl wf2))]) [0, 1, 2, 3] rfl) 0 3 rfl rfl rfl hl.1 rfl (Nat.le_of_ble_eq_true rfl) (by decide) (by decide) dX3_settle_40 (fun r1232 _ => ?_)
            refine lv_iconst (v := (-1)) hx hb dX3_settle_43 (by decide) ?_
            refine lv_icmp_eq (tgt := 56) hx hb dX3_settle_44 (by decide) (fun c1233 => ?_) (fun c1233 => ?_)
            · replace c1233 := eq_i c1233
              obtain ⟨v1234, ev1234⟩ : ∃ z : Int32, z = i1220 + 1 := ⟨_, rfl⟩
              refine lv_iinc (v := v1234) (lv' := [(3, .int v1234), (2, .int i1221), (0, .ref w), (1, .int p0)]) hx hb dX3_settle_56 hl (k := 0) rfl (by rw [ev1234]; rfl) (by decide) rfl (fun ls hl => ?_)
              refine lv_goto (tgt := 4) hx hb dX3_settle_59 (by decide) ?_
              have tv1234 : v1234.toInt = (i1220 : Int32).toInt + (1 : Int32).toInt := add_i ev1234 (by omega) (by omega)
              exact ih_4 (i1220 := v1234) (i1221 := i1221) (g1222 := g1222) (hi_4 := by omega) (hs_4 := by omega) (H := H) (locs := locs) (ls := ls) (hn_4 := by omega) (hP := hP) (hD := hD) (hS := hS) (hl := lv_sub hl [0, 1, 2, 3] rfl)
            · replace c1233 := ne_i c1233
              refine lv_aload_n hx hb dX3_settle_47 rfl (lv_at hl 2 rfl) ?_
              refine va_get (D := D) (ci := 3) (v := .ref wa0) (C := RX3) (T := TX3) (N := 5) hx hb hts in_X3 hown hE.1 hP 0 rfl rfl 0 (by decide) (hts _ w_167) (fun _ h9 => h9) rfl dX3_settle_48 ?_
              refine lv_iload_n hx hb dX3_settle_51 rfl (lv_at hl 0 rfl) ?_
              refine lv_iload_n hx hb dX3_settle_52 rfl (lv_at hl 3 rfl) ?_
              refine sti hx hb hE.1 hP hD hS 1 1 rfl rfl (vp_in_iff.mpr (by omega)) dX3_settle_53 (fun g1235 eg1235 H locs hP hD hS => ?_)
              replace hP : va_P D vwCl [(w, .inr (3, [.ref wa0, .ref wa1, .ref wa2, .int wn3, .int wn4])), (wa0, .inl (K 1, 1024, .inl g1235)), (wa1, .inl (K 1, 4096, .inl wf1)), (wa2, .inl (K 1, 10, .inl wf2))] H := hP
              replace hD : va_D A [(w, .inr (3, [.ref wa0, .ref wa1, .ref wa2, .int wn3, .int wn4])), (wa0, .inl (K 1, 1024, .inl g1235)), (wa1, .inl (K 1, 4096, .inl wf1)), (wa2, .inl (K 1, 10, .inl wf2))] := hD
              refine lv_iconst (v := 1) hx hb dX3_settle_54 (by decide) ?_
              refine lv_istore_n (lv' := [(2, .int 1), (3, .int i1220), (0, .ref w), (1, .int p0)]) hx hb dX3_settle_55 rfl hl (by decide) rfl (fun ls hl => ?_)
              obtain ⟨v1236, ev1236⟩ : ∃ z : Int32, z = i1220 + 1 := ⟨_, rfl⟩
              refine lv_iinc (v := v1236) (lv' := [(3, .int v1236), (2, .int 1), (0, .ref w), (1, .int p0)]) hx hb dX3_settle_56 hl (k := 1) rfl (by rw [ev1236]; rfl) (by decide) rfl (fun ls hl => ?_)
              refine lv_goto (tgt := 4) hx hb dX3_settle_59 (by decide) ?_
              have tv1236 : v1236.toInt = (i1220 : Int32).toInt + (1 : Int32).toInt := add_i ev1236 (by omega) (by omega)
              exact ih_4 (i1220 := v1236) (i1221 := 1) (g1222 := g1235) (hi_4 := by omega) (hs_4 := by omega) (H := H) (locs := locs) (ls := ls) (hn_4 := by omega) (hP := hP) (hD := hD) (hS := hS) (hl := lv_sub hl [0, 1, 2, 3] rfl)
set_option maxRecDepth 40000 in
set_option maxHeartbeats 4000000 in
theorem c_X3_leastWind (l : Launch) (D : va_G) (K : Nat → ClassId) (w : Nat) (wa0 : Nat) (wa1 : Nat) (wa2 : Nat) (wn3 : Int32) (wn4 : Int32) (wf0 : Nat → Int32) (wf1 : Nat → Int32) (wf2 : Nat → Int32) (p0 : Int32) : Ro l D K yX3_leastWind cX3_leastWind 2 (some .int) 3 63 [.ref w, .int p0] [(w, .inr (3, [.ref wa0, .ref wa1, .ref wa2, .int wn3, .int wn4])), (wa0, .inl (K 1, 1024, .inl wf0)), (wa1, .inl (K 1, 4096, .inl wf1)), (wa2, .inl (K 1, 10, .inl wf2))] (fun _ => True) := by
  refine ro_of (by decide) (Nat.le_of_ble_eq_true rfl) ?_
  intro p e s m below meth c hC hr hk hE hP ls hl
  replace hC : CallFix p m c cX3_leastWind 2 s [.ref w, .int p0].toArray wl RX3 := hC
  have hx := hC.1
  have hb := hC.2.1
  have hml := hC.2.2.1
  have hown := hC.2.2.2.1
  have hts := hC.2.2.2.2
  replace hl : lv_has ls 2 [(0, .ref w), (1, .int p0)] := hl
  have kc_1 : (1 : Int32).toInt = 1 := by decide
  have kc_1024 : (1024 : Int32).toInt = 1024 := by decide
  refine lv_iload_n hx hb dX3_leastWind_0 rfl (lv_at hl 1 rfl) ?_
  refine lv_iconst (v := 1) hx hb dX3_leastWind_1 (by decide) ?_
  refine lv_icmp_lt (tgt := 30) hx hb dX3_leastWind_2 (by decide) (fun c1237 => ?_) (fun c1237 => ?_)
  · replace c1237 := lt_i c1237
    refine lv_iconst (v := (-1)) hx hb dX3_leastWind_30 (by decide) ?_
    exact ro_ret hC hr hk dX3_leastWind_31 trivial
  · replace c1237 := nlt_i c1237
    refine lv_iload_n hx hb dX3_leastWind_5 rfl (lv_at hl 1 rfl) ?_
    refine lv_sipush (v := 1024) hx hb dX3_leastWind_6 (by decide) ?_
    refine lv_icmp_ge (tgt := 30) hx hb dX3_leastWind_9 (by decide) (fun c1238 => ?_) (fun c1238 => ?_)
    · replace c1238 := le_i c1238
      refine lv_iconst (v := (-1)) hx hb dX3_leastWind_30 (by decide) ?_
      exact ro_ret hC hr hk dX3_leastWind_31 trivial
    · replace c1238 := nle_i c1238
      refine lv_aload_n hx hb dX3_leastWind_12 rfl (lv_at hl 0 rfl) ?_
      refine lv_iload_n hx hb dX3_leastWind_13 rfl (lv_at hl 1 rfl) ?_
      refine ro_V (As := [.int p0]) (rest := []) hC hE kV_X3_59 (c_X3_isEven l D K w wa0 wa1 wa2 wn3 wn4 wf2 p0) (hP.sub (ws' := [(w, .inr (3, [.ref wa0, .ref wa1, .ref wa2, .int wn3, .int wn4])), (wa2, .inl (K 1, 10, .inl wf2))]) [0, 3] rfl) 0 3 rfl rfl rfl hl.1 rfl (Nat.le_of_ble_eq_true rfl) (by decide) (by decide) dX3_leastWind_14 (fun r1239 hq => ?_)
      rcases hq with rfl | rfl
      · refine lv_if_eq (tgt := 30) hx hb dX3_leastWind_17 (by decide) (fun _ => ?_) (fun h => absurd h (by decide))
        refine lv_iconst (v := (-1)) hx hb dX3_leastWind_30 (by decide) ?_
        exact ro_ret hC hr hk dX3_leastWind_31 trivial
      · refine lv_if_eq (tgt := 30) hx hb dX3_leastWind_17 (by decide) (fun h => absurd h (by decide)) (fun _ => ?_)
        refine lv_aload_n hx hb dX3_leastWind_20 rfl (lv_at hl 0 rfl) ?_
        refine va_get (D := D) (ci := 3) (v := .ref wa0) (C := RX3) (T := TX3) (N := 5) hx hb hts in_X3 hown hE.1 hP 0 rfl rfl 0 (by decide) (hts _ w_167) (fun _ h9 => h9) rfl dX3_leastWind_21 ?_
        refine lv_iload_n hx hb dX3_leastWind_24 rfl (lv_at hl 1 rfl) ?_
        refine va_iald hx hb hE.1 hP 1 1 rfl rfl (vp_in_iff.mpr (by omega)) dX3_leastWind_25 ?_
        refine lv_topi (fun v1240 ev1240 => ?_)
        refine lv_iconst (v := 1) hx hb dX3_leastWind_26 (by decide) ?_
        refine lv_icmp_ge (tgt := 32) hx hb dX3_leastWind_27 (by decide) (fun c1241 => ?_) (fun c1241 => ?_)
        · replace c1241 := le_i c1241
          refine lv_aload_n hx hb dX3_leastWind_32 rfl (lv_at hl 0 rfl) ?_
          refine lv_iload_n hx hb dX3_leastWind_33 rfl (lv_at hl 1 rfl) ?_
          refine lv_aload_n hx hb dX3_leastWind_34 rfl (lv_at hl 0 rfl) ?_
          refine va_get (D := D) (ci := 3) (v := .ref wa0) (C := RX3) (T := TX3) (N := 5) hx hb hts in_X3 hown hE.1 hP 0 rfl rfl 0 (by decide) (hts _ w_167) (fun _ h9 => h9) rfl dX3_leastWind_35 ?_
          refine lv_iload_n hx hb dX3_leastWind_38 rfl (lv_at hl 1 rfl) ?_
          refine va_iald hx hb hE.1 hP 1 1 rfl rfl (vp_in_iff.mpr (by omega)) dX3_leastWind_39 ?_
          refine lv_topi (fun v1242 ev1242 => ?_)
          refine ro_V (As := [.int p0, .int v1242]) (rest := []) hC hE kV_X3_62 (c_X3_windTo l D K w wa0 wa1 wa2 wn3 wn4 wf0 wf1 wf2 p0 v1242) (hP.sub (ws' := [(w, .inr (3, [.ref wa0, .ref wa1, .ref wa2, .int wn3, .int wn4])), (wa0, .inl (K 1, 1024, .inl wf0)), (wa1, .inl (K 1, 4096, .inl wf1)), (wa2, .inl (K 1, 10, .inl wf2))]) [0, 1, 2, 3] rfl) 0 3 rfl rfl rfl hl.1 rfl (Nat.le_of_ble_eq_true rfl) (by decide) (by decide) dX3_leastWind_40 (fun r1243 _ => ?_)
          exact ro_ret hC hr hk dX3_leastWind_43 trivial
        · replace c1241 := nle_i c1241
          refine lv_iconst (v := (-1)) hx hb dX3_leastWind_30 (by decide) ?_
          exact ro_ret hC hr hk dX3_leastWind_31 trivial
