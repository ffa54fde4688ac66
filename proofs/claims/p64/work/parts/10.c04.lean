set_option maxRecDepth 40000 in
set_option maxHeartbeats 4000000 in
theorem c_J7_fill_10 (l : Launch) (D : va_G) (K : Nat → ClassId) (a : Nat) (f : Nat → Int32) (p1 : Int32) : Cv (S := ((Nat → Int32) × (Nat → Nat → Int32) × (Nat → Nat → Int64))) l D K yJ7_fill_53178 cJ7_fill_53178 4 0 0 0 0 [.ref a, .int p1] [(a, .inl (K 1, 10, .inl f))] (fun _ => True) (fun u => [(a, .inl (K 1, 10, .inl (u.2.1 0)))]) := by
  intro sz
  refine ch_of (y := yJ7_fill_53178) (cc := cJ7_fill_53178) (maxL := 4) (ret := none) (av := [.ref a, .int p1]) (ws := [(a, .inl (K 1, 10, .inl f))]) (D := D) (K := K) (Qc := fun A => va_Qv (S := ((Nat → Int32) × (Nat → Nat → Int32) × (Nat → Nat → Int64))) (fun _ => True) (chB D A (fun u => [(a, .inl (K 1, 10, .inl (u.2.1 0)))])) A) (by decide) (Nat.le_of_ble_eq_true rfl) ?_
  intro p e s m below meth c A hC hr hk hin hE hD hA H locs hP hS ls hl
  replace hC : CallFix p m c cJ7_fill_53178 4 s [.ref a, .int p1].toArray wl RJ7 := hC
  have hx := hC.1
  have hb := hC.2.1
  have hml := hC.2.2.1
  have hown := hC.2.2.2.1
  have hts := hC.2.2.2.2
  replace hl : lv_has ls 4 [(0, .ref a), (1, .int p1)] := hl
  have kc_0 : (0 : Int32).toInt = 0 := by decide
  have kc_1 : (1 : Int32).toInt = 1 := by decide
  have kc_10 : (10 : Int32).toInt = 10 := by decide
  refine lv_iconst (v := 0) hx hb dJ7_fill_53178_0 (by decide) ?_
  refine lv_istore_n (lv' := [(2, .int 0), (0, .ref a), (1, .int p1)]) hx hb dJ7_fill_53178_1 rfl hl (by decide) rfl (fun ls hl => ?_)
  refine lv_aload_n hx hb dJ7_fill_53178_2 rfl (lv_at hl 1 rfl) ?_
  refine va_alen (v := 10) hx hb hE.1 hP 0 1 rfl rfl (show Int32.ofNat 10 = 10 by decide) dJ7_fill_53178_3 ?_
  refine lv_istore_n (lv' := [(3, .int 10), (2, .int 0), (0, .ref a), (1, .int p1)]) hx hb dJ7_fill_53178_4 rfl hl (by decide) rfl (fun ls hl => ?_)
  have hl' := hl; have hP' := hP; have hD' := hD; clear hl hP hD
  obtain ⟨i661, g662, hi_5, hl, hP, hD⟩ : ∃ (i661 : Int32) (g662 : Nat → Int32), ((0 : Int) ≤ i661.toInt) ∧ lv_has ls 4 [(3, .int 10), (2, .int i661), (0, .ref a), (1, .int p1)] ∧ va_P D vwCl [(a, .inl (K 1, 10, .inl g662))] H ∧ va_D A [(a, .inl (K 1, 10, .inl g662))] := ⟨_, _, by omega, hl', hP', hD'⟩
  clear hl' hP' hD'
  obtain ⟨n_5, hn_5⟩ : ∃ n : Nat, (10 - i661.toInt).toNat < n := ⟨_, Nat.lt_succ_self _⟩
  induction n_5 generalizing i661 g662 H locs ls with
  | zero => exact absurd hn_5 (Nat.not_lt_zero _)
  | succ n_5 ih_5 =>
    refine lv_iload_n hx hb dJ7_fill_53178_5 rfl (lv_at hl 1 rfl) ?_
    refine lv_iload_n hx hb dJ7_fill_53178_6 rfl (lv_at hl 0 rfl) ?_
    refine lv_icmp_ge (tgt := 20) hx hb dJ7_fill_53178_7 (by decide) (fun c663 => ?_) (fun c663 => ?_)
    · replace c663 := le_i c663
      refine W.widen (k := 0) (n := 0) (by decide) (by decide) ?_
      exact ch_vret hC hr hk hS dJ7_fill_53178_20 ((fun k => [].getD k 0, fun k => [g662].getD k (fun _ => 0), fun k => [].getD k (fun _ => 0)) : ((Nat → Int32) × (Nat → Nat → Int32) × (Nat → Nat → Int64))) trivial (hP.sub [0] rfl) (hD.sub [0] (by decide) rfl)
    · replace c663 := nle_i c663
      refine lv_aload_n hx hb dJ7_fill_53178_10 rfl (lv_at hl 2 rfl) ?_
      refine lv_iload_n hx hb dJ7_fill_53178_11 rfl (lv_at hl 1 rfl) ?_
      refine lv_iload_n hx hb dJ7_fill_53178_12 rfl (lv_at hl 3 rfl) ?_
      refine sti hx hb hE.1 hP hD hS 0 1 rfl rfl (vp_in_iff.mpr (by omega)) dJ7_fill_53178_13 (fun g664 eg664 H locs hP hD hS => ?_)
      replace hP : va_P D vwCl [(a, .inl (K 1, 10, .inl g664))] H := hP
      replace hD : va_D A [(a, .inl (K 1, 10, .inl g664))] := hD
      obtain ⟨v665, ev665⟩ : ∃ z : Int32, z = i661 + 1 := ⟨_, rfl⟩
      refine lv_iinc (v := v665) (lv' := [(2, .int v665), (3, .int 10), (0, .ref a), (1, .int p1)]) hx hb dJ7_fill_53178_14 hl (k := 1) rfl (by rw [ev665]; rfl) (by decide) rfl (fun ls hl => ?_)
      refine lv_goto (tgt := 5) hx hb dJ7_fill_53178_17 (by decide) ?_
      have tv665 : v665.toInt = (i661 : Int32).toInt + (1 : Int32).toInt := add_i ev665 (by omega) (by omega)
      exact ih_5 (i661 := v665) (g662 := g664) (hi_5 := by omega) (H := H) (locs := locs) (ls := ls) (hn_5 := by omega) (hP := hP) (hD := hD) (hS := hS) (hl := lv_sub hl [1, 0, 2, 3] rfl)
set_option maxRecDepth 40000 in
set_option maxHeartbeats 4000000 in
theorem c_X10_clear (l : Launch) (D : va_G) (K : Nat → ClassId) (w : Nat) (wa0 : Nat) (wa1 : Nat) (wa2 : Nat) (wa3 : Nat) (wa4 : Nat) (wa5 : Nat) (wa6 : Nat) (wa7 : Nat) (wn8 : Int32) (wn9 : Int32) (wn10 : Int32) (wn11 : Int32) (wf0 : Nat → Int32) (wf1 : Nat → Int32) : Cv (S := ((Nat → Int32) × (Nat → Nat → Int32) × (Nat → Nat → Int64))) l D K yX10_clear cX10_clear 2 1 23 0 0 [.ref w] [(w, .inr (9, [.ref wa0, .ref wa1, .ref wa2, .ref wa3, .ref wa4, .ref wa5, .ref wa6, .ref wa7, .int wn8, .int wn9, .int wn10, .int wn11])), (wa0, .inl (K 1, 40, .inl wf0)), (wa1, .inl (K 1, 10, .inl wf1))] (fun u => (0 ≤ (u.1 1).toInt) ∧ (0 ≤ (u.1 2).toInt)) (fun u => [(w, .inr (9, [.ref wa0, .ref wa1, .ref wa2, .ref wa3, .ref wa4, .ref wa5, .ref wa6, .ref wa7, .int (u.1 0), .int (u.1 1), .int (u.1 2), .int (u.1 3)])), (wa0, .inl (K 1, 40, .inl (u.2.1 0))), (wa1, .inl (K 1, 10, .inl (u.2.1 1)))]) := by
  intro sz
  refine ch_of (y := yX10_clear) (cc := cX10_clear) (maxL := 2) (ret := none) (av := [.ref w]) (ws := [(w, .inr (9, [.ref wa0, .ref wa1, .ref wa2, .ref wa3, .ref wa4, .ref wa5, .ref wa6, .ref wa7, .int wn8, .int wn9, .int wn10, .int wn11])), (wa0, .inl (K 1, 40, .inl wf0)), (wa1, .inl (K 1, 10, .inl wf1))]) (D := D) (K := K) (Qc := fun A => va_Qv (S := ((Nat → Int32) × (Nat → Nat → Int32) × (Nat → Nat → Int64))) (fun u => (0 ≤ (u.1 1).toInt) ∧ (0 ≤ (u.1 2).toInt)) (chB D A (fun u => [(w, .inr (9, [.ref wa0, .ref wa1, .ref wa2, .ref wa3, .ref wa4, .ref wa5, .ref wa6, .ref wa7, .int (u.1 0), .int (u.1 1), .int (u.1 2), .int (u.1 3)])), (wa0, .inl (K 1, 40, .inl (u.2.1 0))), (wa1, .inl (K 1, 10, .inl (u.2.1 1)))])) A) (by decide) (Nat.le_of_ble_eq_true rfl) ?_
  intro p e s m below meth c A hC hr hk hin hE hD hA H locs hP hS ls hl
  replace hC : CallFix p m c cX10_clear 2 s [.ref w].toArray wl RX10 := hC
  have hx := hC.1
  have hb := hC.2.1
  have hml := hC.2.2.1
  have hown := hC.2.2.2.1
  have hts := hC.2.2.2.2
  replace hl : lv_has ls 2 [(0, .ref w)] := hl
  have kc_0 : (0 : Int32).toInt = 0 := by decide
  have kc_1 : (1 : Int32).toInt = 1 := by decide
  have kc_40 : (40 : Int32).toInt = 40 := by decide
  refine lv_aload_n hx hb dX10_clear_0 rfl (lv_at hl 0 rfl) ?_
  refine va_get (D := D) (ci := 9) (v := .ref wa1) (C := RX10) (T := TX10) (N := 12) hx hb hts in_X10 hown hE.1 hP 0 rfl rfl 1 (by decide) (hts _ w_37) (fun _ h9 => h9) rfl dX10_clear_1 ?_
  refine lv_iconst (v := 0) hx hb dX10_clear_4 (by decide) ?_
  refine cv_S (As := [.ref wa1, .int 0]) (rest := []) (wc := [(wa1, .inl (K 1, 10, .inl wf1))]) (wr := [(w, .inr (9, [.ref wa0, .ref wa1, .ref wa2, .ref wa3, .ref wa4, .ref wa5, .ref wa6, .ref wa7, .int wn8, .int wn9, .int wn10, .int wn11])), (wa0, .inl (K 1, 40, .inl wf0))]) hC hE kS_X10_36 (c_J7_fill_10 l D K wa1 wf1 0) hP hD hS hA [2] [0, 1] rfl rfl rfl (by decide) (by decide) (by decide) rfl hl.1 rfl (Nat.le_of_ble_eq_true rfl) (by decide) (by decide) dX10_clear_5 (fun u673 H locs hw hP hD hS => ?_)
  replace hP : va_P D vwCl [(w, .inr (9, [.ref wa0, .ref wa1, .ref wa2, .ref wa3, .ref wa4, .ref wa5, .ref wa6, .ref wa7, .int wn8, .int wn9, .int wn10, .int wn11])), (wa0, .inl (K 1, 40, .inl wf0)), (wa1, .inl (K 1, 10, .inl (u673.2.1 0)))] H := hP
  replace hD : va_D A [(w, .inr (9, [.ref wa0, .ref wa1, .ref wa2, .ref wa3, .ref wa4, .ref wa5, .ref wa6, .ref wa7, .int wn8, .int wn9, .int wn10, .int wn11])), (wa0, .inl (K 1, 40, .inl wf0)), (wa1, .inl (K 1, 10, .inl (u673.2.1 0)))] := hD
  replace hP : va_P D vwCl [(w, .inr (9, [.ref wa0, .ref wa1, .ref wa2, .ref wa3, .ref wa4, .ref wa5, .ref wa6, .ref wa7, .int wn8, .int wn9, .int wn10, .int wn11])), (wa0, .inl (K 1, 40, .inl wf0)), (wa1, .inl (K 1, 10, .inl (u673.2.1 0)))] H := hP.sub [0, 1, 2] rfl
  replace hD : va_D A [(w, .inr (9, [.ref wa0, .ref wa1, .ref wa2, .ref wa3, .ref wa4, .ref wa5, .ref wa6, .ref wa7, .int wn8, .int wn9, .int wn10, .int wn11])), (wa0, .inl (K 1, 40, .inl wf0)), (wa1, .inl (K 1, 10, .inl (u673.2.1 0)))] := hD.sub [0, 1, 2] (by decide) rfl
  refine W.widen (k := 0) (n := 0) (by decide) (by decide) ?_
  refine lv_iconst (v := 0) hx hb dX10_clear_8 (by decide) ?_
  refine lv_istore_n (lv' := [(1, .int 0), (0, .ref w)]) hx hb dX10_clear_9 rfl hl (by decide) rfl (fun ls hl => ?_)
  have hl' := hl; have hP' := hP; have hD' := hD; clear hl hP hD
  obtain ⟨i680, g681, hi_10, hl, hP, hD⟩ : ∃ (i680 : Int32) (g681 : Nat → Int32), ((0 : Int) ≤ i680.toInt) ∧ lv_has ls 2 [(1, .int i680), (0, .ref w)] ∧ va_P D vwCl [(w, .inr (9, [.ref wa0, .ref wa1, .ref wa2, .ref wa3, .ref wa4, .ref wa5, .ref wa6, .ref wa7, .int wn8, .int wn9, .int wn10, .int wn11])), (wa0, .inl (K 1, 40, .inl g681)), (wa1, .inl (K 1, 10, .inl (u673.2.1 0)))] H ∧ va_D A [(w, .inr (9, [.ref wa0, .ref wa1, .ref wa2, .ref wa3, .ref wa4, .ref wa5, .ref wa6, .ref wa7, .int wn8, .int wn9, .int wn10, .int wn11])), (wa0, .inl (K 1, 40, .inl g681)), (wa1, .inl (K 1, 10, .inl (u673.2.1 0)))] := ⟨_, _, by omega, hl', hP', hD'⟩
  clear hl' hP' hD'
  obtain ⟨n_10, hn_10⟩ : ∃ n : Nat, (40 - i680.toInt).toNat < n := ⟨_, Nat.lt_succ_self _⟩
  induction n_10 generalizing i680 g681 H locs ls with
  | zero => exact absurd hn_10 (Nat.not_lt_zero _)
  | succ n_10 ih_10 =>
    refine lv_iload_n hx hb dX10_clear_10 rfl (lv_at hl 0 rfl) ?_
    refine lv_aload_n hx hb dX10_clear_11 rfl (lv_at hl 1 rfl) ?_
    refine va_get (D := D) (ci := 9) (v := .ref wa0) (C := RX10) (T := TX10) (N := 12) hx hb hts in_X10 hown hE.1 hP 0 rfl rfl 0 (by decide) (hts _ w_36) (fun _ h9 => h9) rfl dX10_clear_12 ?_
    refine va_alen (v := 40) hx hb hE.1 hP 1 1 rfl rfl (show Int32.ofNat 40 = 40 by decide) dX10_clear_15 ?_
    refine lv_icmp_ge (tgt := 34) hx hb dX10_clear_16 (by decide) (fun c682 => ?_) (fun c682 => ?_)
    · replace c682 := le_i c682
      refine lv_aload_n hx hb dX10_clear_34 rfl (lv_at hl 1 rfl) ?_
      refine lv_iconst (v := 0) hx hb dX10_clear_35 (by decide) ?_
      refine va_put (D := D) (ci := 9) (v := .int 0) (ty := .int) (C := RX10) (T := TX10) (N := 12) hx hb hts in_X10 tyX10 tyX10_ok nmX10 hown hE.1 hP hD hS 0 rfl rfl 8 (by decide) (hts _ w_21) (fun _ h9 => h9) rfl (by decide +kernel) rfl rfl (Nat.le_of_ble_eq_true rfl) dX10_clear_36 (fun H locs hP hD hS => ?_)
      replace hP : va_P D vwCl [(w, .inr (9, [.ref wa0, .ref wa1, .ref wa2, .ref wa3, .ref wa4, .ref wa5, .ref wa6, .ref wa7, .int 0, .int wn9, .int wn10, .int wn11])), (wa0, .inl (K 1, 40, .inl g681)), (wa1, .inl (K 1, 10, .inl (u673.2.1 0)))] H := hP
      replace hD : va_D A [(w, .inr (9, [.ref wa0, .ref wa1, .ref wa2, .ref wa3, .ref wa4, .ref wa5, .ref wa6, .ref wa7, .int 0, .int wn9, .int wn10, .int wn11])), (wa0, .inl (K 1, 40, .inl g681)), (wa1, .inl (K 1, 10, .inl (u673.2.1 0)))] := hD
      refine lv_aload_n hx hb dX10_clear_39 rfl (lv_at hl 1 rfl) ?_
      refine lv_iconst (v := 0) hx hb dX10_clear_40 (by decide) ?_
      refine va_put (D := D) (ci := 9) (v := .int 0) (ty := .int) (C := RX10) (T := TX10) (N := 12) hx hb hts in_X10 tyX10 tyX10_ok nmX10 hown hE.1 hP hD hS 0 rfl rfl 9 (by decide) (hts _ w_22) (fun _ h9 => h9) rfl (by decide +kernel) rfl rfl (Nat.le_of_ble_eq_true rfl) dX10_clear_41 (fun H locs hP hD hS => ?_)
      replace hP : va_P D vwCl [(w, .inr (9, [.ref wa0, .ref wa1, .ref wa2, .ref wa3, .ref wa4, .ref wa5, .ref wa6, .ref wa7, .int 0, .int 0, .int wn10, .int wn11])), (wa0, .inl (K 1, 40, .inl g681)), (wa1, .inl (K 1, 10, .inl (u673.2.1 0)))] H := hP
      replace hD : va_D A [(w, .inr (9, [.ref wa0, .ref wa1, .ref wa2, .ref wa3, .ref wa4, .ref wa5, .ref wa6, .ref wa7, .int 0, .int 0, .int wn10, .int wn11])), (wa0, .inl (K 1, 40, .inl g681)), (wa1, .inl (K 1, 10, .inl (u673.2.1 0)))] := hD
      refine lv_aload_n hx hb dX10_clear_44 rfl (lv_at hl 1 rfl) ?_
      refine lv_iconst (v := 0) hx hb dX10_clear_45 (by decide) ?_
      refine va_put (D := D) (ci := 9) (v := .int 0) (ty := .int) (C := RX10) (T := TX10) (N := 12) hx hb hts in_X10 tyX10 tyX10_ok nmX10 hown hE.1 hP hD hS 0 rfl rfl 10 (by decide) (hts _ w_96) (fun _ h9 => h9) rfl (by decide +kernel) rfl rfl (Nat.le_of_ble_eq_true rfl) dX10_clear_46 (fun H locs hP hD hS => ?_)
      replace hP : va_P D vwCl [(w, .inr (9, [.ref wa0, .ref wa1, .ref wa2, .ref wa3, .ref wa4, .ref wa5, .ref wa6, .ref wa7, .int 0, .int 0, .int 0, .int wn11])), (wa0, .inl (K 1, 40, .inl g681)), (wa1, .inl (K 1, 10, .inl (u673.2.1 0)))] H := hP
      replace hD : va_D A [(w, .inr (9, [.ref wa0, .ref wa1, .ref wa2, .ref wa3, .ref wa4, .ref wa5, .ref wa6, .ref wa7, .int 0, .int 0, .int 0, .int wn11])), (wa0, .inl (K 1, 40, .inl g681)), (wa1, .inl (K 1, 10, .inl (u673.2.1 0)))] := hD
      refine lv_aload_n hx hb dX10_clear_49 rfl (lv_at hl 1 rfl) ?_
      refine lv_iconst (v := 0) hx hb dX10_clear_50 (by decide) ?_
      refine va_put (D := D) (ci := 9) (v := .int 0) (ty := .int) (C := RX10) (T := TX10) (N := 12) hx hb hts in_X10 tyX10 tyX10_ok nmX10 hown hE.1 hP hD hS 0 rfl rfl 11 (by decide) (hts _ w_23) (fun _ h9 => h9) rfl (by decide +kernel) rfl rfl (Nat.le_of_ble_eq_true rfl) dX10_clear_51 (fun H locs hP hD hS => ?_)
      replace hP : va_P D vwCl [(w, .inr (9, [.ref wa0, .ref wa1, .ref wa2, .ref wa3, .ref wa4, .ref wa5, .ref wa6, .ref wa7, .int 0, .int 0, .int 0, .int 0])), (wa0, .inl (K 1, 40, .inl g681)), (wa1, .inl (K 1, 10, .inl (u673.2.1 0)))] H := hP
      replace hD : va_D A [(w, .inr (9, [.ref wa0, .ref wa1, .ref wa2, .ref wa3, .ref wa4, .ref wa5, .ref wa6, .ref wa7, .int 0, .int 0, .int 0, .int 0])), (wa0, .inl (K 1, 40, .inl g681)), (wa1, .inl (K 1, 10, .inl (u673.2.1 0)))] := hD
      refine W.widen (k := 0) (n := 0) (by decide) (by decide) ?_
      exact ch_vret hC hr hk hS dX10_clear_54 ((fun k => [0, 0, 0, 0].getD k 0, fun k => [g681, (u673.2.1 0)].getD k (fun _ => 0), fun k => [].getD k (fun _ => 0)) : ((Nat → Int32) × (Nat → Nat → Int32) × (Nat → Nat → Int64))) ⟨(show 0 ≤ (0 : Int32).toInt from by omega), (show 0 ≤ (0 : Int32).toInt from by omega)⟩ (hP.sub [0, 1, 2] rfl) (hD.sub [0, 1, 2] (by decide) rfl)
    · replace c682 := nle_i c682
      refine lv_aload_n hx hb dX10_clear_19 rfl (lv_at hl 1 rfl) ?_
      refine va_get (D := D) (ci := 9) (v := .ref wa0) (C := RX10) (T := TX10) (N := 12) hx hb hts in_X10 hown hE.1 hP 0 rfl rfl 0 (by decide) (hts _ w_36) (fun _ h9 => h9) rfl dX10_clear_20 ?_
      refine lv_iload_n hx hb dX10_clear_23 rfl (lv_at hl 0 rfl) ?_
      refine lv_iload_n hx hb dX10_clear_24 rfl (lv_at hl 0 rfl) ?_
      refine lv_iconst (v := 4) hx hb dX10_clear_25 (by decide) ?_
      refine lv_idiv hx hb dX10_clear_26 (by decide) ?_
      refine lv_topi (fun v683 ev683 => ?_)
      refine sti hx hb hE.1 hP hD hS 1 1 rfl rfl (vp_in_iff.mpr (by omega)) dX10_clear_27 (fun g684 eg684 H locs hP hD hS => ?_)
      replace hP : va_P D vwCl [(w, .inr (9, [.ref wa0, .ref wa1, .ref wa2, .ref wa3, .ref wa4, .ref wa5, .ref wa6, .ref wa7, .int wn8, .int wn9, .int wn10, .int wn11])), (wa0, .inl (K 1, 40, .inl g684)), (wa1, .inl (K 1, 10, .inl (u673.2.1 0)))] H := hP
      replace hD : va_D A [(w, .inr (9, [.ref wa0, .ref wa1, .ref wa2, .ref wa3, .ref wa4, .ref wa5, .ref wa6, .ref wa7, .int wn8, .int wn9, .int wn10, .int wn11])), (wa0, .inl (K 1, 40, .inl g684)), (wa1, .inl (K 1, 10, .inl (u673.2.1 0)))] := hD
      obtain ⟨v685, ev685⟩ : ∃ z : Int32, z = i680 + 1 := ⟨_, rfl⟩
      refine lv_iinc (v := v685) (lv' := [(1, .int v685), (0, .ref w)]) hx hb dX10_clear_28 hl (k := 0) rfl (by rw [ev685]; rfl) (by decide) rfl (fun ls hl => ?_)
      refine lv_goto (tgt := 10) hx hb dX10_clear_31 (by decide) ?_
      have tv685 : v685.toInt = (i680 : Int32).toInt + (1 : Int32).toInt := add_i ev685 (by omega) (by omega)
      exact ih_10 (i680 := v685) (g681 := g684) (hi_10 := by omega) (H := H) (locs := locs) (ls := ls) (hn_10 := by omega) (hP := hP) (hD := hD) (hS := hS) (hl := lv_sub hl [0, 1] rfl)
set_option maxRecDepth 40000 in
set_option maxHeartbeats 4000000 in
theorem c_X5_make (l : Launch) (D : va_G) (K : Nat → ClassId) (w : Nat) (wa0 : Nat) (wa1 : Nat) (wa2 : Nat) (wf0 : Nat → Int64) (wf1 : Nat → Int32) (wf2 : Nat → Int32) (p0 : Int32) (p1 : Int32) (p2 : Int32) (hsz : ∀ j, j < 4 → -1 ≤ (wf2 j).toInt ∧ (wf2 j).toInt ≤ 60) : Cv (S := ((Nat → Int32) × (Nat → Nat → Int32) × (Nat → Nat → Int64))) l D K yX5_make cX5_make 5 2 47 0 0 [.ref w, .int p0, .int p1, .int p2] [(w, .inr (5, [.ref wa0, .ref wa1, .ref wa2])), (wa0, .inl (K 2, 240, .inr (.inl wf0))), (wa1, .inl (K 1, 4, .inl wf1)), (wa2, .inl (K 1, 4, .inl wf2))] (fun u => (∀ j, j < 4 → -1 ≤ ((u.2.1 1) j).toInt ∧ ((u.2.1 1) j).toInt ≤ 60)) (fun u => [(w, .inr (5, [.ref wa0, .ref wa1, .ref wa2])), (wa0, .inl (K 2, 240, .inr (.inl (u.2.2 0)))), (wa1, .inl (K 1, 4, .inl (u.2.1 0))), (wa2, .inl (K 1, 4, .inl (u.2.1 1)))]) := by
  intro sz
  refine ch_of (y := yX5_make) (cc := cX5_make) (maxL := 5) (ret := none) (av := [.ref w, .int p0, .int p1, .int p2]) (ws := [(w, .inr (5, [.ref wa0, .ref wa1, .ref wa2])), (wa0, .inl (K 2, 240, .inr (.inl wf0))), (wa1, .inl (K 1, 4, .inl wf1)), (wa2, .inl (K 1, 4, .inl wf2))]) (D := D) (K := K) (Qc := fun A => va_Qv (S := ((Nat → Int32) × (Nat → Nat → Int32) × (Nat → Nat → Int64))) (fun u => (∀ j, j < 4 → -1 ≤ ((u.2.1 1) j).toInt ∧ ((u.2.1 1) j).toInt ≤ 60)) (chB D A (fun u => [(w, .inr (5, [.ref wa0, .ref wa1, .ref wa2])), (wa0, .inl (K 2, 240, .inr (.inl (u.2.2 0)))), (wa1, .inl (K 1, 4, .inl (u.2.1 0))), (wa2, .inl (K 1, 4, .inl (u.2.1 1)))])) A) (by decide) (Nat.le_of_ble_eq_true rfl) ?_
  intro p e s m below meth c A hC hr hk hin hE hD hA H locs hP hS ls hl
  replace hC : CallFix p m c cX5_make 5 s [.ref w, .int p0, .int p1, .int p2].toArray wl RX5 := hC
  have hx := hC.1
  have hb := hC.2.1
  have hml := hC.2.2.1
  have hown := hC.2.2.2.1
  have hts := hC.2.2.2.2
  replace hl : lv_has ls 5 [(0, .ref w), (1, .int p0), (2, .int p1), (3, .int p2)] := hl
  have kc_0 : (0 : Int32).toInt = 0 := by decide
  have kc_60 : (60 : Int32).toInt = 60 := by decide
  refine lv_iload_n hx hb dX5_make_0 rfl (lv_at hl 1 rfl) ?_
  refine ro_SN (As := [.int p0]) (rest := []) hC hE kSN_X5_28 (c_X11_isSlot l D K p0) (hP.sub (ws' := []) [] rfl) rfl hl.1 rfl (Nat.le_of_ble_eq_true rfl) (by decide) (by decide) dX5_make_1 (fun r699 hq => ?_)
  rcases hq with rfl | ⟨rfl, h697, h698⟩
  · refine lv_if_eq (tgt := 17) hx hb dX5_make_4 (by decide) (fun _ => ?_) (fun h => absurd h (by decide))
    refine W.widen (k := 0) (n := 0) (by decide) (by decide) ?_
    exact ch_vret hC hr hk hS dX5_make_17 ((fun k => [].getD k 0, fun k => [wf1, wf2].getD k (fun _ => 0), fun k => [wf0].getD k (fun _ => 0)) : ((Nat → Int32) × (Nat → Nat → Int32) × (Nat → Nat → Int64))) (show ∀ j, j < 4 → -1 ≤ (wf2 j).toInt ∧ (wf2 j).toInt ≤ 60 from hsz) (hP.sub [0, 1, 2, 3] rfl) (hD.sub [0, 1, 2, 3] (by decide) rfl)
  · refine lv_if_eq (tgt := 17) hx hb dX5_make_4 (by decide) (fun h => absurd h (by decide)) (fun _ => ?_)
    refine lv_iload_n hx hb dX5_make_7 rfl (lv_at hl 3 rfl) ?_
    refine lv_if_lt (tgt := 17) hx hb dX5_make_8 (by decide) (fun c700 => ?_) (fun c700 => ?_)
    · replace c700 := lt_i c700
      refine W.widen (k := 0) (n := 0) (by decide) (by decide) ?_
      exact ch_vret hC hr hk hS dX5_make_17 ((fun k => [].getD k 0, fun k => [wf1, wf2].getD k (fun _ => 0), fun k => [wf0].getD k (fun _ => 0)) : ((Nat → Int32) × (Nat → Nat → Int32) × (Nat → Nat → Int64))) (show ∀ j, j < 4 → -1 ≤ (wf2 j).toInt ∧ (wf2 j).toInt ≤ 60 from hsz) (hP.sub [0, 1, 2, 3] rfl) (hD.sub [0, 1, 2, 3] (by decide) rfl)
    · replace c700 := nlt_i c700
      refine lv_iload_n hx hb dX5_make_11 rfl (lv_at hl 3 rfl) ?_
      refine lv_bipush (v := 60) hx hb dX5_make_12 (by decide) ?_
      refine lv_icmp_le (tgt := 18) hx hb dX5_make_14 (by decide) (fun c701 => ?_) (fun c701 => ?_)
      · replace c701 := le_i c701
        refine lv_iload_n hx hb dX5_make_18 rfl (lv_at hl 1 rfl) ?_
        refine lv_bipush (v := 60) hx hb dX5_make_19 (by decide) ?_
        refine lv_imul hx hb dX5_make_21 ?_
        refine lv_topi (fun v702 ev702 => ?_)
        refine lv_istore (lv' := [(4, .int v702), (0, .ref w), (1, .int p0), (2, .int p1), (3, .int p2)]) hx hb dX5_make_22 hl (by decide) rfl (fun ls hl => ?_)
        refine lv_aload_n hx hb dX5_make_24 rfl (lv_at hl 1 rfl) ?_
        refine va_get (D := D) (ci := 5) (v := .ref wa0) (C := RX5) (T := TX5) (N := 3) hx hb hts in_X5 hown hE.1 hP 0 rfl rfl 0 (by decide) (hts _ w_113) (fun _ h9 => h9) rfl dX5_make_25 ?_
        refine lv_iload hx hb dX5_make_28 (lv_at hl 0 rfl) ?_
        refine lv_iload hx hb dX5_make_30 (lv_at hl 0 rfl) ?_
        refine lv_bipush (v := 60) hx hb dX5_make_32 (by decide) ?_
        refine lv_iadd hx hb dX5_make_34 ?_
        refine lv_topi (fun v703 ev703 => ?_)
        refine lv_lconst (v := 0) hx hb dX5_make_35 (by decide) ?_
        have tv702 : v702.toInt = p0.toInt * 60 := mul_i ev702 rfl (by decide) (by omega) (by omega)
        have tv703 : v703.toInt = (v702 : Int32).toInt + (60 : Int32).toInt := add_i ev703 (by omega) (by omega)
        refine cv_S (As := [.ref wa0, .int v702, .int v703, .long 0]) (rest := []) (wc := [(wa0, .inl (K 2, 240, .inr (.inl wf0)))]) (wr := [(w, .inr (5, [.ref wa0, .ref wa1, .ref wa2])), (wa1, .inl (K 1, 4, .inl wf1)), (wa2, .inl (K 1, 4, .inl wf2))]) hC hE kS_X5_32 (c_J7_fill_bad5a l D K wa0 wf0 v702 v703 0 (by omega) (by omega) (by omega)) hP hD hS hA [1] [0, 2, 3] rfl rfl rfl (by decide) (by decide) (by decide) rfl hl.1 rfl (Nat.le_of_ble_eq_true rfl) (by decide) (by decide) dX5_make_36 (fun u704 H locs hw hP hD hS => ?_)
        replace hP : va_P D vwCl [(w, .inr (5, [.ref wa0, .ref wa1, .ref wa2])), (wa1, .inl (K 1, 4, .inl wf1)), (wa2, .inl (K 1, 4, .inl wf2)), (wa0, .inl (K 2, 240, .inr (.inl (u704.2.2 0))))] H := hP
        replace hD : va_D A [(w, .inr (5, [.ref wa0, .ref wa1, .ref wa2])), (wa1, .inl (K 1, 4, .inl wf1)), (wa2, .inl (K 1, 4, .inl wf2)), (wa0, .inl (K 2, 240, .inr (.inl (u704.2.2 0))))] := hD
        replace hP : va_P D vwCl [(w, .inr (5, [.ref wa0, .ref wa1, .ref wa2])), (wa0, .inl (K 2, 240, .inr (.inl (u704.2.2 0)))), (wa1, .inl (K 1, 4, .inl wf1)), (wa2, .inl (K 1, 4, .inl wf2))] H := hP.sub [0, 3, 1, 2] rfl
        replace hD : va_D A [(w, .inr (5, [.ref wa0, .ref wa1, .ref wa2])), (wa0, .inl (K 2, 240, .inr (.inl (u704.2.2 0)))), (wa1, .inl (K 1, 4, .inl wf1)), (wa2, .inl (K 1, 4, .inl wf2))] := hD.sub [0, 3, 1, 2] (by decide) rfl
        refine W.widen (k := 0) (n := 0) (by decide) (by decide) ?_
        refine lv_aload_n hx hb dX5_make_39 rfl (lv_at hl 1 rfl) ?_
        refine va_get (D := D) (ci := 5) (v := .ref wa1) (C := RX5) (T := TX5) (N := 3) hx hb hts in_X5 hown hE.1 hP 0 rfl rfl 1 (by decide) (hts _ w_103) (fun _ h9 => h9) rfl dX5_make_40 ?_
        refine lv_iload_n hx hb dX5_make_43 rfl (lv_at hl 2 rfl) ?_
        refine lv_iload_n hx hb dX5_make_44 rfl (lv_at hl 3 rfl) ?_
        refine sti hx hb hE.1 hP hD hS 2 1 rfl rfl (vp_in_iff.mpr (by omega)) dX5_make_45 (fun g706 eg706 H locs hP hD hS => ?_)
        replace hP : va_P D vwCl [(w, .inr (5, [.ref wa0, .ref wa1, .ref wa2])), (wa0, .inl (K 2, 240, .inr (.inl (u704.2.2 0)))), (wa1, .inl (K 1, 4, .inl g706)), (wa2, .inl (K 1, 4, .inl wf2))] H := hP
        replace hD : va_D A [(w, .inr (5, [.ref wa0, .ref wa1, .ref wa2])), (wa0, .inl (K 2, 240, .inr (.inl (u704.2.2 0)))), (wa1, .inl (K 1, 4, .inl g706)), (wa2, .inl (K 1, 4, .inl wf2))] := hD
        refine lv_aload_n hx hb dX5_make_46 rfl (lv_at hl 1 rfl) ?_
        refine va_get (D := D) (ci := 5) (v := .ref wa2) (C := RX5) (T := TX5) (N := 3) hx hb hts in_X5 hown hE.1 hP 0 rfl rfl 2 (by decide) (hts _ w_102) (fun _ h9 => h9) rfl dX5_make_47 ?_
        refine lv_iload_n hx hb dX5_make_50 rfl (lv_at hl 2 rfl) ?_
        refine lv_iload_n hx hb dX5_make_51 rfl (lv_at hl 4 rfl) ?_
        refine sti hx hb hE.1 hP hD hS 3 1 rfl rfl (vp_in_iff.mpr (by omega)) dX5_make_52 (fun g707 eg707 H locs hP hD hS => ?_)
        replace hP : va_P D vwCl [(w, .inr (5, [.ref wa0, .ref wa1, .ref wa2])), (wa0, .inl (K 2, 240, .inr (.inl (u704.2.2 0)))), (wa1, .inl (K 1, 4, .inl g706)), (wa2, .inl (K 1, 4, .inl g707))] H := hP
        replace hD : va_D A [(w, .inr (5, [.ref wa0, .ref wa1, .ref wa2])), (wa0, .inl (K 2, 240, .inr (.inl (u704.2.2 0)))), (wa1, .inl (K 1, 4, .inl g706)), (wa2, .inl (K 1, 4, .inl g707))] := hD
        refine W.widen (k := 0) (n := 0) (by decide) (by decide) ?_
        exact ch_vret hC hr hk hS dX5_make_53 ((fun k => [].getD k 0, fun k => [g706, g707].getD k (fun _ => 0), fun k => [(u704.2.2 0)].getD k (fun _ => 0)) : ((Nat → Int32) × (Nat → Nat → Int32) × (Nat → Nat → Int64))) (show ∀ j, j < 4 → -1 ≤ (g707 j).toInt ∧ (g707 j).toInt ≤ 60 from (sz_up eg707 hsz (by omega) (by omega))) (hP.sub [0, 1, 2, 3] rfl) (hD.sub [0, 1, 2, 3] (by decide) rfl)
      · replace c701 := nle_i c701
        refine W.widen (k := 0) (n := 0) (by decide) (by decide) ?_
        exact ch_vret hC hr hk hS dX5_make_17 ((fun k => [].getD k 0, fun k => [wf1, wf2].getD k (fun _ => 0), fun k => [wf0].getD k (fun _ => 0)) : ((Nat → Int32) × (Nat → Nat → Int32) × (Nat → Nat → Int64))) (show ∀ j, j < 4 → -1 ≤ (wf2 j).toInt ∧ (wf2 j).toInt ≤ 60 from hsz) (hP.sub [0, 1, 2, 3] rfl) (hD.sub [0, 1, 2, 3] (by decide) rfl)
set_option maxRecDepth 40000 in
set_option maxHeartbeats 4000000 in
theorem c_X8_chance (l : Launch) (D : va_G) (K : Nat → ClassId) (w : Nat) (wa0 : Nat) (wa1 : Nat) (wa2 : Nat) (wf1 : Nat → Int32) (p0 : Int32) : Ro l D K yX8_chance cX8_chance 2 (some .int) 0 0 [.ref w, .int p0] [(w, .inr (7, [.ref wa0, .ref wa1, .ref wa2])), (wa1, .inl (K 1, 10, .inl wf1))] (fun _ => True) := by
  refine ro_of (by decide) (Nat.le_of_ble_eq_true rfl) ?_
  intro p e s m below meth c hC hr hk hE hP ls hl
  replace hC : CallFix p m c cX8_chance 2 s [.ref w, .int p0].toArray wl RX8 := hC
  have hx := hC.1
  have hb := hC.2.1
  have hml := hC.2.2.1
  have hown := hC.2.2.2.1
  have hts := hC.2.2.2.2
  replace hl : lv_has ls 2 [(0, .ref w), (1, .int p0)] := hl
  have kc_0 : (0 : Int32).toInt = 0 := by decide
  have kc_10 : (10 : Int32).toInt = 10 := by decide
  refine lv_iload_n hx hb dX8_chance_0 rfl (lv_at hl 1 rfl) ?_
  refine lv_if_lt (tgt := 19) hx hb dX8_chance_1 (by decide) (fun c708 => ?_) (fun c708 => ?_)
  · replace c708 := lt_i c708
    refine lv_iconst (v := 0) hx hb dX8_chance_19 (by decide) ?_
    exact ro_ret hC hr hk dX8_chance_20 trivial
  · replace c708 := nlt_i c708
    refine lv_iload_n hx hb dX8_chance_4 rfl (lv_at hl 1 rfl) ?_
    refine lv_bipush (v := 10) hx hb dX8_chance_5 (by decide) ?_
    refine lv_icmp_ge (tgt := 19) hx hb dX8_chance_7 (by decide) (fun c709 => ?_) (fun c709 => ?_)
    · replace c709 := le_i c709
      refine lv_iconst (v := 0) hx hb dX8_chance_19 (by decide) ?_
      exact ro_ret hC hr hk dX8_chance_20 trivial
    · replace c709 := nle_i c709
      refine lv_aload_n hx hb dX8_chance_10 rfl (lv_at hl 0 rfl) ?_
      refine va_get (D := D) (ci := 7) (v := .ref wa1) (C := RX8) (T := TX8) (N := 3) hx hb hts in_X8 hown hE.1 hP 0 rfl rfl 1 (by decide) (hts _ w_139) (fun _ h9 => h9) rfl dX8_chance_11 ?_
      refine lv_iload_n hx hb dX8_chance_14 rfl (lv_at hl 1 rfl) ?_
      refine va_iald hx hb hE.1 hP 1 1 rfl rfl (vp_in_iff.mpr (by omega)) dX8_chance_15 ?_
      refine lv_topi (fun v710 ev710 => ?_)
      refine lv_goto (tgt := 20) hx hb dX8_chance_16 (by decide) ?_
      exact ro_ret hC hr hk dX8_chance_20 trivial
set_option maxRecDepth 40000 in
set_option maxHeartbeats 4000000 in
theorem c_X8_relax (l : Launch) (D : va_G) (K : Nat → ClassId) (w : Nat) (wa0 : Nat) (wa1 : Nat) (wa2 : Nat) (v : Nat) (va0 : Nat) (va1 : Nat) (va2 : Nat) (va3 : Nat) (va4 : Nat) (va5 : Nat) (va6 : Nat) (va7 : Nat) (vn8 : Int32) (vn9 : Int32) (vn10 : Int32) (vn11 : Int32) (wf0 : Nat → Int32) (vf0 : Nat → Int32) (vf1 : Nat → Int32) (p1 : Int32) (p2 : Int32) (h1 : 0 ≤ p1.toInt) (h2 : p1.toInt < 10) : Cv (S := ((Nat → Int32) × (Nat → Nat → Int32) × (Nat → Nat → Int64))) l D K yX8_relax cX8_relax 7 2 43 0 0 [.ref w, .ref v, .int p1, .int p2] [(w, .inr (7, [.ref wa0, .ref wa1, .ref wa2])), (wa0, .inl (K 1, 10, .inl wf0)), (v, .inr (9, [.ref va0, .ref va1, .ref va2, .ref va3, .ref va4, .ref va5, .ref va6, .ref va7, .int vn8, .int vn9, .int vn10, .int vn11])), (va0, .inl (K 1, 40, .inl vf0)), (va1, .inl (K 1, 10, .inl vf1))] (fun _ => True) (fun u => [(w, .inr (7, [.ref wa0, .ref wa1, .ref wa2])), (wa0, .inl (K 1, 10, .inl (u.2.1 0))), (v, .inr (9, [.ref va0, .ref va1, .ref va2, .ref va3, .ref va4, .ref va5, .ref va6, .ref va7, .int vn8, .int vn9, .int vn10, .int vn11])), (va0, .inl (K 1, 40, .inl vf0)), (va1, .inl (K 1, 10, .inl vf1))]) := by
  intro sz
  refine ch_of (y := yX8_relax) (cc := cX8_relax) (maxL := 7) (ret := none) (av := [.ref w, .ref v, .int p1, .int p2]) (ws := [(w, .inr (7, [.ref wa0, .ref wa1, .ref wa2])), (wa0, .inl (K 1, 10, .inl wf0)), (v, .inr (9, [.ref va0, .ref va1, .ref va2, .ref va3, .ref va4, .ref va5, .ref va6, .ref va7, .int vn8, .int vn9, .int vn10, .int vn11])), (va0, .inl (K 1, 40, .inl vf0)), (va1, .inl (K 1, 10, .inl vf1))]) (D := D) (K := K) (Qc := fun A => va_Qv (S := ((Nat → Int32) × (Nat → Nat → Int32) × (Nat → Nat → Int64))) (fun _ => True) (chB D A (fun u => [(w, .inr (7, [.ref wa0, .ref wa1, .ref wa2])), (wa0, .inl (K 1, 10, .inl (u.2.1 0))), (v, .inr (9, [.ref va0, .ref va1, .ref va2, .ref va3, .ref va4, .ref va5, .ref va6, .ref va7, .int vn8, .int vn9, .int vn10, .int vn11])), (va0, .inl (K 1, 40, .inl vf0)), (va1, .inl (K 1, 10, .inl vf1))])) A) (by decide) (Nat.le_of_ble_eq_true rfl) ?_
  intro p e s m below meth c A hC hr hk hin hE hD hA H locs hP hS ls hl
  replace hC : CallFix p m c cX8_relax 7 s [.ref w, .ref v, .int p1, .int p2].toArray wl RX8 := hC
  have hx := hC.1
  have hb := hC.2.1
  have hml := hC.2.2.1
  have hown := hC.2.2.2.1
  have hts := hC.2.2.2.2
  replace hl : lv_has ls 7 [(0, .ref w), (1, .ref v), (2, .int p1), (3, .int p2)] := hl
  have kc_0 : (0 : Int32).toInt = 0 := by decide
  have kc_1 : (1 : Int32).toInt = 1 := by decide
  have kc_4 : (4 : Int32).toInt = 4 := by decide
  have kc_1000000000 : (1000000000 : Int32).toInt = 1000000000 := by decide
  refine lv_aload_n hx hb dX8_relax_0 rfl (lv_at hl 0 rfl) ?_
  refine va_get (D := D) (ci := 7) (v := .ref wa0) (C := RX8) (T := TX8) (N := 3) hx hb hts in_X8 hown hE.1 hP 0 rfl rfl 0 (by decide) (hts _ w_140) (fun _ h9 => h9) rfl dX8_relax_1 ?_
  refine lv_iload_n hx hb dX8_relax_4 rfl (lv_at hl 2 rfl) ?_
  refine va_iald hx hb hE.1 hP 1 1 rfl rfl (vp_in_iff.mpr (by omega)) dX8_relax_5 ?_
  refine lv_topi (fun v735 ev735 => ?_)
  refine lv_ldc (v := 1000000000) hx hb hown (hts _ w_145) dX8_relax_6 ?_
  refine lv_icmp_ne (tgt := 12) hx hb dX8_relax_8 (by decide) (fun c736 => ?_) (fun c736 => ?_)
  · replace c736 := ne_i c736
    refine lv_iconst (v := 0) hx hb dX8_relax_12 (by decide) ?_
    refine lv_istore (lv' := [(4, .int 0), (0, .ref w), (1, .ref v), (2, .int p1), (3, .int p2)]) hx hb dX8_relax_13 hl (by decide) rfl (fun ls hl => ?_)
    have hl' := hl; have hP' := hP; have hD' := hD; clear hl hP hD
    obtain ⟨i759, g760, hi_15, hl, hP, hD⟩ : ∃ (i759 : Int32) (g760 : Nat → Int32), ((0 : Int) ≤ i759.toInt) ∧ lv_has ls 7 [(4, .int i759), (0, .ref w), (1, .ref v), (2, .int p1), (3, .int p2)] ∧ va_P D vwCl [(w, .inr (7, [.ref wa0, .ref wa1, .ref wa2])), (wa0, .inl (K 1, 10, .inl g760)), (v, .inr (9, [.ref va0, .ref va1, .ref va2, .ref va3, .ref va4, .ref va5, .ref va6, .ref va7, .int vn8, .int vn9, .int vn10, .int vn11])), (va0, .inl (K 1, 40, .inl vf0)), (va1, .inl (K 1, 10, .inl vf1))] H ∧ va_D A [(w, .inr (7, [.ref wa0, .ref wa1, .ref wa2])), (wa0, .inl (K 1, 10, .inl g760)), (v, .inr (9, [.ref va0, .ref va1, .ref va2, .ref va3, .ref va4, .ref va5, .ref va6, .ref va7, .int vn8, .int vn9, .int vn10, .int vn11])), (va0, .inl (K 1, 40, .inl vf0)), (va1, .inl (K 1, 10, .inl vf1))] := ⟨_, _, by omega, hl', hP', hD'⟩
    clear hl' hP' hD'
    obtain ⟨n_15, hn_15⟩ : ∃ n : Nat, (4 - i759.toInt).toNat < n := ⟨_, Nat.lt_succ_self _⟩
    induction n_15 generalizing i759 g760 H locs ls with
    | zero => exact absurd hn_15 (Nat.not_lt_zero _)
    | succ n_15 ih_15 =>
      refine lv_iload hx hb dX8_relax_15 (lv_at hl 0 rfl) ?_
      refine lv_iconst (v := 4) hx hb dX8_relax_17 (by decide) ?_
      refine lv_icmp_ge (tgt := 89) hx hb dX8_relax_18 (by decide) (fun c761 => ?_) (fun c761 => ?_)
      · replace c761 := le_i c761
        refine W.widen (k := 0) (n := 0) (by decide) (by decide) ?_
        exact ch_vret hC hr hk hS dX8_relax_89 ((fun k => [].getD k 0, fun k => [g760].getD k (fun _ => 0), fun k => [].getD k (fun _ => 0)) : ((Nat → Int32) × (Nat → Nat → Int32) × (Nat → Nat → Int64))) trivial (hP.sub [0, 1, 2, 3, 4] rfl) (hD.sub [0, 1, 2, 3, 4] (by decide) rfl)
      · replace c761 := nle_i c761
        refine lv_aload_n hx hb dX8_relax_21 rfl (lv_at hl 2 rfl) ?_
        refine lv_iload_n hx hb dX8_relax_22 rfl (lv_at hl 3 rfl) ?_
        refine lv_iload hx hb dX8_relax_23 (lv_at hl 0 rfl) ?_
        refine ro_V (As := [.int p1, .int i759]) (rest := []) hC hE kV_X8_42 (c_X10_after l D K v va0 va1 va2 va3 va4 va5 va6 va7 vn8 vn9 vn10 vn11 vf0 p1 i759) (hP.sub (ws' := [(v, .inr (9, [.ref va0, .ref va1, .ref va2, .ref va3, .ref va4, .ref va5, .ref va6, .ref va7, .int vn8, .int vn9, .int vn10, .int vn11])), (va0, .inl (K 1, 40, .inl vf0))]) [2, 3] rfl) 0 9 rfl rfl rfl hl.1 rfl (Nat.le_of_ble_eq_true rfl) (by decide) (by decide) dX8_relax_25 (fun r762 _ => ?_)
        refine lv_istore (lv' := [(5, .int r762), (4, .int i759), (0, .ref w), (1, .ref v), (2, .int p1), (3, .int p2)]) hx hb dX8_relax_28 hl (by decide) rfl (fun ls hl => ?_)
        refine lv_aload_n hx hb dX8_relax_30 rfl (lv_at hl 3 rfl) ?_
        refine lv_iload hx hb dX8_relax_31 (lv_at hl 0 rfl) ?_
        refine ro_V (As := [.int r762]) (rest := []) hC hE kV_X8_21 (c_X10_hasPlace l D K v va0 va1 va2 va3 va4 va5 va6 va7 vn8 vn9 vn10 vn11 r762) (hP.sub (ws' := [(v, .inr (9, [.ref va0, .ref va1, .ref va2, .ref va3, .ref va4, .ref va5, .ref va6, .ref va7, .int vn8, .int vn9, .int vn10, .int vn11]))]) [2] rfl) 0 9 rfl rfl rfl hl.1 rfl (Nat.le_of_ble_eq_true rfl) (by decide) (by decide) dX8_relax_33 (fun r765 hq => ?_)
        rcases hq with rfl | ⟨rfl, h763, h764⟩
        · refine lv_if_eq (tgt := 83) hx hb dX8_relax_36 (by decide) (fun _ => ?_) (fun h => absurd h (by decide))
          obtain ⟨v766, ev766⟩ : ∃ z : Int32, z = i759 + 1 := ⟨_, rfl⟩
          refine lv_iinc (v := v766) (lv' := [(4, .int v766), (5, .int r762), (0, .ref w), (1, .ref v), (2, .int p1), (3, .int p2)]) hx hb dX8_relax_83 hl (k := 1) rfl (by rw [ev766]; rfl) (by decide) rfl (fun ls hl => ?_)
          refine lv_goto (tgt := 15) hx hb dX8_relax_86 (by decide) ?_
          have tv766 : v766.toInt = (i759 : Int32).toInt + (1 : Int32).toInt := add_i ev766 (by omega) (by omega)
          exact ih_15 (i759 := v766) (g760 := g760) (hi_15 := by omega) (H := H) (locs := locs) (ls := ls) (hn_15 := by omega) (hP := hP) (hD := hD) (hS := hS) (hl := lv_sub hl [0, 2, 3, 4, 5] rfl)
        · refine lv_if_eq (tgt := 83) hx hb dX8_relax_36 (by decide) (fun h => absurd h (by decide)) (fun _ => ?_)
          refine lv_iconst (v := 1) hx hb dX8_relax_39 (by decide) ?_
          refine lv_aload_n hx hb dX8_relax_40 rfl (lv_at hl 3 rfl) ?_
          refine lv_iload hx hb dX8_relax_41 (lv_at hl 0 rfl) ?_
          refine ro_V (As := [.int r762]) (rest := [.int 1]) hC hE kV_X8_46 (c_X10_sign l D K v va0 va1 va2 va3 va4 va5 va6 va7 vn8 vn9 vn10 vn11 vf1 r762) (hP.sub (ws' := [(v, .inr (9, [.ref va0, .ref va1, .ref va2, .ref va3, .ref va4, .ref va5, .ref va6, .ref va7, .int vn8, .int vn9, .int vn10, .int vn11])), (va1, .inl (K 1, 10, .inl vf1))]) [2, 4] rfl) 0 9 rfl rfl rfl hl.1 rfl (Nat.le_of_ble_eq_true rfl) (by decide) (by decide) dX8_relax_43 (fun r767 _ => ?_)
          refine lv_if_ne (tgt := 53) hx hb dX8_relax_46 (by decide) (fun c768 => ?_) (fun c768 => ?_)
          · replace c768 := ne_i c768
            refine lv_iconst (v := 0) hx hb dX8_relax_53 (by decide) ?_
            refine lv_iadd hx hb dX8_relax_54 ?_
            refine tc (y := 1) (by decide) ?_
            refine lv_istore (lv' := [(6, .int 1), (5, .int r762), (4, .int i759), (0, .ref w), (1, .ref v), (2, .int p1), (3, .int p2)]) hx hb dX8_relax_55 hl (by decide) rfl (fun ls hl => ?_)
            refine lv_aload_n hx hb dX8_relax_57 rfl (lv_at hl 3 rfl) ?_
            refine va_get (D := D) (ci := 7) (v := .ref wa0) (C := RX8) (T := TX8) (N := 3) hx hb hts in_X8 hown hE.1 hP 0 rfl rfl 0 (by decide) (hts _ w_140) (fun _ h9 => h9) rfl dX8_relax_58 ?_
            refine lv_iload hx hb dX8_relax_61 (lv_at hl 1 rfl) ?_
            refine lv_aload_n hx hb dX8_relax_63 rfl (lv_at hl 3 rfl) ?_
            refine va_get (D := D) (ci := 7) (v := .ref wa0) (C := RX8) (T := TX8) (N := 3) hx hb hts in_X8 hown hE.1 hP 0 rfl rfl 0 (by decide) (hts _ w_140) (fun _ h9 => h9) rfl dX8_relax_64 ?_
            refine lv_iload hx hb dX8_relax_67 (lv_at hl 1 rfl) ?_
            refine va_iald hx hb hE.1 hP 1 1 rfl rfl (vp_in_iff.mpr (by omega)) dX8_relax_69 ?_
            refine lv_topi (fun v769 ev769 => ?_)
            refine lv_aload_n hx hb dX8_relax_70 rfl (lv_at hl 3 rfl) ?_
            refine va_get (D := D) (ci := 7) (v := .ref wa0) (C := RX8) (T := TX8) (N := 3) hx hb hts in_X8 hown hE.1 hP 0 rfl rfl 0 (by decide) (hts _ w_140) (fun _ h9 => h9) rfl dX8_relax_71 ?_
            refine lv_iload_n hx hb dX8_relax_74 rfl (lv_at hl 5 rfl) ?_
            refine va_iald hx hb hE.1 hP 1 1 rfl rfl (vp_in_iff.mpr (by omega)) dX8_relax_75 ?_
            refine lv_topi (fun v770 ev770 => ?_)
            refine lv_iload hx hb dX8_relax_76 (lv_at hl 0 rfl) ?_
            refine lv_iadd hx hb dX8_relax_78 ?_
            refine lv_topi (fun v771 ev771 => ?_)
            refine va_mmin hx hb (hml.trans hl.1.symm) hown (hts _ w_141) (hts _ w_142) (hts _ w_143) (hts _ w_144) (by decide) (Nat.le_of_ble_eq_true rfl) (by decide) (by decide) dX8_relax_79 ?_
            refine lv_topi (fun v772 ev772 => ?_)
            have tv772 := min_i ev772
            refine sti hx hb hE.1 hP hD hS 1 1 rfl rfl (vp_in_iff.mpr (by omega)) dX8_relax_82 (fun g773 eg773 H locs hP hD hS => ?_)
            replace hP : va_P D vwCl [(w, .inr (7, [.ref wa0, .ref wa1, .ref wa2])), (wa0, .inl (K 1, 10, .inl g773)), (v, .inr (9, [.ref va0, .ref va1, .ref va2, .ref va3, .ref va4, .ref va5, .ref va6, .ref va7, .int vn8, .int vn9, .int vn10, .int vn11])), (va0, .inl (K 1, 40, .inl vf0)), (va1, .inl (K 1, 10, .inl vf1))] H := hP
            replace hD : va_D A [(w, .inr (7, [.ref wa0, .ref wa1, .ref wa2])), (wa0, .inl (K 1, 10, .inl g773)), (v, .inr (9, [.ref va0, .ref va1, .ref va2, .ref va3, .ref va4, .ref va5, .ref va6, .ref va7, .int vn8, .int vn9, .int vn10, .int vn11])), (va0, .inl (K 1, 40, .inl vf0)), (va1, .inl (K 1, 10, .inl vf1))] := hD
            obtain ⟨v774, ev774⟩ : ∃ z : Int32, z = i759 + 1 := ⟨_, rfl⟩
            refine lv_iinc (v := v774) (lv' := [(4, .int v774), (6, .int 1), (5, .int r762), (0, .ref w), (1, .ref v), (2, .int p1), (3, .int p2)]) hx hb dX8_relax_83 hl (k := 2) rfl (by rw [ev774]; rfl) (by decide) rfl (fun ls hl => ?_)
            refine lv_goto (tgt := 15) hx hb dX8_relax_86 (by decide) ?_
            have tv774 : v774.toInt = (i759 : Int32).toInt + (1 : Int32).toInt := add_i ev774 (by omega) (by omega)
            exact ih_15 (i759 := v774) (g760 := g773) (hi_15 := by omega) (H := H) (locs := locs) (ls := ls) (hn_15 := by omega) (hP := hP) (hD := hD) (hS := hS) (hl := lv_sub hl [0, 3, 4, 5, 6] rfl)
          · replace c768 := eq_i c768
            refine lv_iload_n hx hb dX8_relax_49 rfl (lv_at hl 5 rfl) ?_
            refine lv_goto (tgt := 54) hx hb dX8_relax_50 (by decide) ?_
            refine lv_iadd hx hb dX8_relax_54 ?_
            refine lv_topi (fun v775 ev775 => ?_)
            refine lv_istore (lv' := [(6, .int v775), (5, .int r762), (4, .int i759), (0, .ref w), (1, .ref v), (2, .int p1), (3, .int p2)]) hx hb dX8_relax_55 hl (by decide) rfl (fun ls hl => ?_)
            refine lv_aload_n hx hb dX8_relax_57 rfl (lv_at hl 3 rfl) ?_
            refine va_get (D := D) (ci := 7) (v := .ref wa0) (C := RX8) (T := TX8) (N := 3) hx hb hts in_X8 hown hE.1 hP 0 rfl rfl 0 (by decide) (hts _ w_140) (fun _ h9 => h9) rfl dX8_relax_58 ?_
            refine lv_iload hx hb dX8_relax_61 (lv_at hl 1 rfl) ?_
            refine lv_aload_n hx hb dX8_relax_63 rfl (lv_at hl 3 rfl) ?_
            refine va_get (D := D) (ci := 7) (v := .ref wa0) (C := RX8) (T := TX8) (N := 3) hx hb hts in_X8 hown hE.1 hP 0 rfl rfl 0 (by decide) (hts _ w_140) (fun _ h9 => h9) rfl dX8_relax_64 ?_
            refine lv_iload hx hb dX8_relax_67 (lv_at hl 1 rfl) ?_
            refine va_iald hx hb hE.1 hP 1 1 rfl rfl (vp_in_iff.mpr (by omega)) dX8_relax_69 ?_
            refine lv_topi (fun v776 ev776 => ?_)
            refine lv_aload_n hx hb dX8_relax_70 rfl (lv_at hl 3 rfl) ?_
            refine va_get (D := D) (ci := 7) (v := .ref wa0) (C := RX8) (T := TX8) (N := 3) hx hb hts in_X8 hown hE.1 hP 0 rfl rfl 0 (by decide) (hts _ w_140) (fun _ h9 => h9) rfl dX8_relax_71 ?_
            refine lv_iload_n hx hb dX8_relax_74 rfl (lv_at hl 5 rfl) ?_
            refine va_iald hx hb hE.1 hP 1 1 rfl rfl (vp_in_iff.mpr (by omega)) dX8_relax_75 ?_
            refine lv_topi (fun v777 ev777 => ?_)
            refine lv_iload hx hb dX8_relax_76 (lv_at hl 0 rfl) ?_
            refine lv_iadd hx hb dX8_relax_78 ?_
            refine lv_topi (fun v778 ev778 => ?_)
            refine va_mmin hx hb (hml.trans hl.1.symm) hown (hts _ w_141) (hts _ w_142) (hts _ w_143) (hts _ w_144) (by decide) (Nat.le_of_ble_eq_true rfl) (by decide) (by decide) dX8_relax_79 ?_
            refine lv_topi (fun v779 ev779 => ?_)
            have tv779 := min_i ev779
            refine sti hx hb hE.1 hP hD hS 1 1 rfl rfl (vp_in_iff.mpr (by omega)) dX8_relax_82 (fun g780 eg780 H locs hP hD hS => ?_)
            replace hP : va_P D vwCl [(w, .inr (7, [.ref wa0, .ref wa1, .ref wa2])), (wa0, .inl (K 1, 10, .inl g780)), (v, .inr (9, [.ref va0, .ref va1, .ref va2, .ref va3, .ref va4, .ref va5, .ref va6, .ref va7, .int vn8, .int vn9, .int vn10, .int vn11])), (va0, .inl (K 1, 40, .inl vf0)), (va1, .inl (K 1, 10, .inl vf1))] H := hP
            replace hD : va_D A [(w, .inr (7, [.ref wa0, .ref wa1, .ref wa2])), (wa0, .inl (K 1, 10, .inl g780)), (v, .inr (9, [.ref va0, .ref va1, .ref va2, .ref va3, .ref va4, .ref va5, .ref va6, .ref va7, .int vn8, .int vn9, .int vn10, .int vn11])), (va0, .inl (K 1, 40, .inl vf0)), (va1, .inl (K 1, 10, .inl vf1))] := hD
            obtain ⟨v781, ev781⟩ : ∃ z : Int32, z = i759 + 1 := ⟨_, rfl⟩
            refine lv_iinc (v := v781) (lv' := [(4, .int v781), (6, .int v775), (5, .int r762), (0, .ref w), (1, .ref v), (2, .int p1), (3, .int p2)]) hx hb dX8_relax_83 hl (k := 2) rfl (by rw [ev781]; rfl) (by decide) rfl (fun ls hl => ?_)
            refine lv_goto (tgt := 15) hx hb dX8_relax_86 (by decide) ?_
            have tv781 : v781.toInt = (i759 : Int32).toInt + (1 : Int32).toInt := add_i ev781 (by omega) (by omega)
            exact ih_15 (i759 := v781) (g760 := g780) (hi_15 := by omega) (H := H) (locs := locs) (ls := ls) (hn_15 := by omega) (hP := hP) (hD := hD) (hS := hS) (hl := lv_sub hl [0, 3, 4, 5, 6] rfl)
  · replace c736 := eq_i c736
    refine W.widen (k := 0) (n := 0) (by decide) (by decide) ?_
    exact ch_vret hC hr hk hS dX8_relax_11 ((fun k => [].getD k 0, fun k => [wf0].getD k (fun _ => 0), fun k => [].getD k (fun _ => 0)) : ((Nat → Int32) × (Nat → Nat → Int32) × (Nat → Nat → Int64))) trivial (hP.sub [0, 1, 2, 3, 4] rfl) (hD.sub [0, 1, 2, 3, 4] (by decide) rfl)
set_option maxRecDepth 40000 in
set_option maxHeartbeats 4000000 in
theorem c_X8_cheapest (l : Launch) (D : va_G) (K : Nat → ClassId) (w : Nat) (wa0 : Nat) (wa1 : Nat) (wa2 : Nat) (v : Nat) (va0 : Nat) (va1 : Nat) (va2 : Nat) (va3 : Nat) (va4 : Nat) (va5 : Nat) (va6 : Nat) (va7 : Nat) (vn8 : Int32) (vn9 : Int32) (vn10 : Int32) (vn11 : Int32) (wf0 : Nat → Int32) (vf0 : Nat → Int32) (vf1 : Nat → Int32) (p1 : Int32) (p2 : Int32) (p3 : Int32) : Ci (S := ((Nat → Int32) × (Nat → Nat → Int32) × (Nat → Nat → Int64))) l D K yX8_cheapest cX8_cheapest 7 (some .int) 3 69 0 0 [.ref w, .ref v, .int p1, .int p2, .int p3] [(w, .inr (7, [.ref wa0, .ref wa1, .ref wa2])), (wa0, .inl (K 1, 10, .inl wf0)), (v, .inr (9, [.ref va0, .ref va1, .ref va2, .ref va3, .ref va4, .ref va5, .ref va6, .ref va7, .int vn8, .int vn9, .int vn10, .int vn11])), (va0, .inl (K 1, 40, .inl vf0)), (va1, .inl (K 1, 10, .inl vf1))] (fun _ _ => True) (fun u => [(w, .inr (7, [.ref wa0, .ref wa1, .ref wa2])), (wa0, .inl (K 1, 10, .inl (u.2.1 0))), (v, .inr (9, [.ref va0, .ref va1, .ref va2, .ref va3, .ref va4, .ref va5, .ref va6, .ref va7, .int vn8, .int vn9, .int vn10, .int vn11])), (va0, .inl (K 1, 40, .inl vf0)), (va1, .inl (K 1, 10, .inl vf1))]) := by
  intro sz
  refine ch_of (y := yX8_cheapest) (cc := cX8_cheapest) (maxL := 7) (ret := (some .int)) (av := [.ref w, .ref v, .int p1, .int p2, .int p3]) (ws := [(w, .inr (7, [.ref wa0, .ref wa1, .ref wa2])), (wa0, .inl (K 1, 10, .inl wf0)), (v, .inr (9, [.ref va0, .ref va1, .ref va2, .ref va3, .ref va4, .ref va5, .ref va6, .ref va7, .int vn8, .int vn9, .int vn10, .int vn11])), (va0, .inl (K 1, 40, .inl vf0)), (va1, .inl (K 1, 10, .inl vf1))]) (D := D) (K := K) (Qc := fun A => va_Qi (S := ((Nat → Int32) × (Nat → Nat → Int32) × (Nat → Nat → Int64))) (fun _ _ => True) (chB D A (fun u => [(w, .inr (7, [.ref wa0, .ref wa1, .ref wa2])), (wa0, .inl (K 1, 10, .inl (u.2.1 0))), (v, .inr (9, [.ref va0, .ref va1, .ref va2, .ref va3, .ref va4, .ref va5, .ref va6, .ref va7, .int vn8, .int vn9, .int vn10, .int vn11])), (va0, .inl (K 1, 40, .inl vf0)), (va1, .inl (K 1, 10, .inl vf1))])) A) (by decide) (Nat.le_of_ble_eq_true rfl) ?_
  intro p e s m below meth c A hC hr hk hin hE hD hA H locs hP hS ls hl
  replace hC : CallFix p m c cX8_cheapest 7 s [.ref w, .ref v, .int p1, .int p2, .int p3].toArray wl RX8 := hC
  have hx := hC.1
  have hb := hC.2.1
  have hml := hC.2.2.1
  have hown := hC.2.2.2.1
  have hts := hC.2.2.2.2
  replace hl : lv_has ls 7 [(0, .ref w), (1, .ref v), (2, .int p1), (3, .int p2), (4, .int p3)] := hl
  have kc_0 : (0 : Int32).toInt = 0 := by decide
  have kc_1 : (1 : Int32).toInt = 1 := by decide
  have kc_10 : (10 : Int32).toInt = 10 := by decide
  have kc_1000000000 : (1000000000 : Int32).toInt = 1000000000 := by decide
  refine lv_aload_n hx hb dX8_cheapest_0 rfl (lv_at hl 1 rfl) ?_
  refine lv_iload_n hx hb dX8_cheapest_1 rfl (lv_at hl 2 rfl) ?_
  refine ro_V (As := [.int p1]) (rest := []) hC hE kV_X8_21 (c_X10_hasPlace l D K v va0 va1 va2 va3 va4 va5 va6 va7 vn8 vn9 vn10 vn11 p1) (hP.sub (ws' := [(v, .inr (9, [.ref va0, .ref va1, .ref va2, .ref va3, .ref va4, .ref va5, .ref va6, .ref va7, .int vn8, .int vn9, .int vn10, .int vn11]))]) [2] rfl) 0 9 rfl rfl rfl hl.1 rfl (Nat.le_of_ble_eq_true rfl) (by decide) (by decide) dX8_cheapest_2 (fun r806 hq => ?_)
  rcases hq with rfl | ⟨rfl, h804, h805⟩
  · refine lv_if_eq (tgt := 16) hx hb dX8_cheapest_5 (by decide) (fun _ => ?_) (fun h => absurd h (by decide))
    refine lv_iconst (v := (-1)) hx hb dX8_cheapest_16 (by decide) ?_
    refine W.widen (k := 0) (n := 0) (by decide) (by decide) ?_
    exact ch_iret hC hr hk hS dX8_cheapest_17 ((fun k => [].getD k 0, fun k => [wf0].getD k (fun _ => 0), fun k => [].getD k (fun _ => 0)) : ((Nat → Int32) × (Nat → Nat → Int32) × (Nat → Nat → Int64))) trivial (hP.sub [0, 1, 2, 3, 4] rfl) (hD.sub [0, 1, 2, 3, 4] (by decide) rfl)
  · refine lv_if_eq (tgt := 16) hx hb dX8_cheapest_5 (by decide) (fun h => absurd h (by decide)) (fun _ => ?_)
    refine lv_aload_n hx hb dX8_cheapest_8 rfl (lv_at hl 1 rfl) ?_
    refine lv_iload_n hx hb dX8_cheapest_9 rfl (lv_at hl 3 rfl) ?_
    refine ro_V (As := [.int p2]) (rest := []) hC hE kV_X8_21 (c_X10_hasPlace l D K v va0 va1 va2 va3 va4 va5 va6 va7 vn8 vn9 vn10 vn11 p2) (hP.sub (ws' := [(v, .inr (9, [.ref va0, .ref va1, .ref va2, .ref va3, .ref va4, .ref va5, .ref va6, .ref va7, .int vn8, .int vn9, .int vn10, .int vn11]))]) [2] rfl) 0 9 rfl rfl rfl hl.1 rfl (Nat.le_of_ble_eq_true rfl) (by decide) (by decide) dX8_cheapest_10 (fun r809 hq => ?_)
    rcases hq with rfl | ⟨rfl, h807, h808⟩
    · refine lv_if_ne (tgt := 18) hx hb dX8_cheapest_13 (by decide) (fun h => absurd h (by decide)) (fun _ => ?_)
      refine lv_iconst (v := (-1)) hx hb dX8_cheapest_16 (by decide) ?_
      refine W.widen (k := 0) (n := 0) (by decide) (by decide) ?_
      exact ch_iret hC hr hk hS dX8_cheapest_17 ((fun k => [].getD k 0, fun k => [wf0].getD k (fun _ => 0), fun k => [].getD k (fun _ => 0)) : ((Nat → Int32) × (Nat → Nat → Int32) × (Nat → Nat → Int64))) trivial (hP.sub [0, 1, 2, 3, 4] rfl) (hD.sub [0, 1, 2, 3, 4] (by decide) rfl)
    · refine lv_if_ne (tgt := 18) hx hb dX8_cheapest_13 (by decide) (fun _ => ?_) (fun h => absurd h (by decide))
      refine lv_aload_n hx hb dX8_cheapest_18 rfl (lv_at hl 0 rfl) ?_
      refine va_get (D := D) (ci := 7) (v := .ref wa0) (C := RX8) (T := TX8) (N := 3) hx hb hts in_X8 hown hE.1 hP 0 rfl rfl 0 (by decide) (hts _ w_140) (fun _ h9 => h9) rfl dX8_cheapest_19 ?_
      refine lv_ldc (v := 1000000000) hx hb hown (hts _ w_145) dX8_cheapest_22 ?_
      refine cv_S (As := [.ref wa0, .int 1000000000]) (rest := []) (wc := [(wa0, .inl (K 1, 10, .inl wf0))]) (wr := [(w, .inr (7, [.ref wa0, .ref wa1, .ref wa2])), (v, .inr (9, [.ref va0, .ref va1, .ref va2, .ref va3, .ref va4, .ref va5, .ref va6, .ref va7, .int vn8, .int vn9, .int vn10, .int vn11])), (va0, .inl (K 1, 40, .inl vf0)), (va1, .inl (K 1, 10, .inl vf1))]) hC hE kS_X8_28 (c_J7_fill_10 l D K wa0 wf0 1000000000) hP hD hS hA [1] [0, 2, 3, 4] rfl rfl rfl (by decide) (by decide) (by decide) rfl hl.1 rfl (Nat.le_of_ble_eq_true rfl) (by decide) (by decide) dX8_cheapest_24 (fun u810 H locs hw hP hD hS => ?_)
      replace hP : va_P D vwCl [(w, .inr (7, [.ref wa0, .ref wa1, .ref wa2])), (v, .inr (9, [.ref va0, .ref va1, .ref va2, .ref va3, .ref va4, .ref va5, .ref va6, .ref va7, .int vn8, .int vn9, .int vn10, .int vn11])), (va0, .inl (K 1, 40, .inl vf0)), (va1, .inl (K 1, 10, .inl vf1)), (wa0, .inl (K 1, 10, .inl (u810.2.1 0)))] H := hP
      replace hD : va_D A [(w, .inr (7, [.ref wa0, .ref wa1, .ref wa2])), (v, .inr (9, [.ref va0, .ref va1, .ref va2, .ref va3, .ref va4, .ref va5, .ref va6, .ref va7, .int vn8, .int vn9, .int vn10, .int vn11])), (va0, .inl (K 1, 40, .inl vf0)), (va1, .inl (K 1, 10, .inl vf1)), (wa0, .inl (K 1, 10, .inl (u810.2.1 0)))] := hD
      replace hP : va_P D vwCl [(w, .inr (7, [.ref wa0, .ref wa1, .ref wa2])), (wa0, .inl (K 1, 10, .inl (u810.2.1 0))), (v, .inr (9, [.ref va0, .ref va1, .ref va2, .ref va3, .ref va4, .ref va5, .ref va6, .ref va7, .int vn8, .int vn9, .int vn10, .int vn11])), (va0, .inl (K 1, 40, .inl vf0)), (va1, .inl (K 1, 10, .inl vf1))] H := hP.sub [0, 4, 1, 2, 3] rfl
      replace hD : va_D A [(w, .inr (7, [.ref wa0, .ref wa1, .ref wa2])), (wa0, .inl (K 1, 10, .inl (u810.2.1 0))), (v, .inr (9, [.ref va0, .ref va1, .ref va2, .ref va3, .ref va4, .ref va5, .ref va6, .ref va7, .int vn8, .int vn9, .int vn10, .int vn11])), (va0, .inl (K 1, 40, .inl vf0)), (va1, .inl (K 1, 10, .inl vf1))] := hD.sub [0, 4, 1, 2, 3] (by decide) rfl
      refine W.widen (k := 0) (n := 0) (by decide) (by decide) ?_
      refine lv_aload_n hx hb dX8_cheapest_27 rfl (lv_at hl 0 rfl) ?_
      refine va_get (D := D) (ci := 7) (v := .ref wa0) (C := RX8) (T := TX8) (N := 3) hx hb hts in_X8 hown hE.1 hP 0 rfl rfl 0 (by decide) (hts _ w_140) (fun _ h9 => h9) rfl dX8_cheapest_28 ?_
      refine lv_iload_n hx hb dX8_cheapest_31 rfl (lv_at hl 2 rfl) ?_
      refine lv_iconst (v := 0) hx hb dX8_cheapest_32 (by decide) ?_
      refine sti hx hb hE.1 hP hD hS 1 1 rfl rfl (vp_in_iff.mpr (by omega)) dX8_cheapest_33 (fun g812 eg812 H locs hP hD hS => ?_)
      replace hP : va_P D vwCl [(w, .inr (7, [.ref wa0, .ref wa1, .ref wa2])), (wa0, .inl (K 1, 10, .inl g812)), (v, .inr (9, [.ref va0, .ref va1, .ref va2, .ref va3, .ref va4, .ref va5, .ref va6, .ref va7, .int vn8, .int vn9, .int vn10, .int vn11])), (va0, .inl (K 1, 40, .inl vf0)), (va1, .inl (K 1, 10, .inl vf1))] H := hP
      replace hD : va_D A [(w, .inr (7, [.ref wa0, .ref wa1, .ref wa2])), (wa0, .inl (K 1, 10, .inl g812)), (v, .inr (9, [.ref va0, .ref va1, .ref va2, .ref va3, .ref va4, .ref va5, .ref va6, .ref va7, .int vn8, .int vn9, .int vn10, .int vn11])), (va0, .inl (K 1, 40, .inl vf0)), (va1, .inl (K 1, 10, .inl vf1))] := hD
      refine lv_iconst (v := 0) hx hb dX8_cheapest_34 (by decide) ?_
      refine lv_istore (lv' := [(5, .int 0), (0, .ref w), (1, .ref v), (2, .int p1), (3, .int p2), (4, .int p3)]) hx hb dX8_cheapest_35 hl (by decide) rfl (fun ls hl => ?_)
      have hl' := hl; have hP' := hP; have hD' := hD; clear hl hP hD
      obtain ⟨i823, g824, hi_37, hl, hP, hD⟩ : ∃ (i823 : Int32) (g824 : Nat → Int32), ((0 : Int) ≤ i823.toInt) ∧ lv_has ls 7 [(5, .int i823), (0, .ref w), (1, .ref v), (2, .int p1), (3, .int p2), (4, .int p3)] ∧ va_P D vwCl [(w, .inr (7, [.ref wa0, .ref wa1, .ref wa2])), (wa0, .inl (K 1, 10, .inl g824)), (v, .inr (9, [.ref va0, .ref va1, .ref va2, .ref va3, .ref va4, .ref va5, .ref va6, .ref va7, .int vn8, .int vn9, .int vn10, .int vn11])), (va0, .inl (K 1, 40, .inl vf0)), (va1, .inl (K 1, 10, .inl vf1))] H ∧ va_D A [(w, .inr (7, [.ref wa0, .ref wa1, .ref wa2])), (wa0, .inl (K 1, 10, .inl g824)), (v, .inr (9, [.ref va0, .ref va1, .ref va2, .ref va3, .ref va4, .ref va5, .ref va6, .ref va7, .int vn8, .int vn9, .int vn10, .int vn11])), (va0, .inl (K 1, 40, .inl vf0)), (va1, .inl (K 1, 10, .inl vf1))] := ⟨_, _, by omega, hl', hP', hD'⟩
      clear hl' hP' hD'
      obtain ⟨n_37, hn_37⟩ : ∃ n : Nat, (10 - i823.toInt).toNat < n := ⟨_, Nat.lt_succ_self _⟩
      induction n_37 generalizing i823 g824 H locs ls with
      | zero => exact absurd hn_37 (Nat.not_lt_zero _)
      | succ n_37 ih_37 =>
        refine lv_iload hx hb dX8_cheapest_37 (lv_at hl 0 rfl) ?_
        refine lv_bipush (v := 10) hx hb dX8_cheapest_39 (by decide) ?_
        refine lv_icmp_ge (tgt := 84) hx hb dX8_cheapest_41 (by decide) (fun c825 => ?_) (fun c825 => ?_)
        · replace c825 := le_i c825
          refine lv_aload_n hx hb dX8_cheapest_84 rfl (lv_at hl 1 rfl) ?_
          refine va_get (D := D) (ci := 7) (v := .ref wa0) (C := RX8) (T := TX8) (N := 3) hx hb hts in_X8 hown hE.1 hP 0 rfl rfl 0 (by decide) (hts _ w_140) (fun _ h9 => h9) rfl dX8_cheapest_85 ?_
          refine lv_iload_n hx hb dX8_cheapest_88 rfl (lv_at hl 4 rfl) ?_
          refine va_iald hx hb hE.1 hP 1 1 rfl rfl (vp_in_iff.mpr (by omega)) dX8_cheapest_89 ?_
          refine lv_topi (fun v826 ev826 => ?_)
          refine lv_ldc (v := 1000000000) hx hb hown (hts _ w_145) dX8_cheapest_90 ?_
          refine lv_icmp_ne (tgt := 99) hx hb dX8_cheapest_92 (by decide) (fun c827 => ?_) (fun c827 => ?_)
          · replace c827 := ne_i c827
            refine lv_aload_n hx hb dX8_cheapest_99 rfl (lv_at hl 1 rfl) ?_
            refine va_get (D := D) (ci := 7) (v := .ref wa0) (C := RX8) (T := TX8) (N := 3) hx hb hts in_X8 hown hE.1 hP 0 rfl rfl 0 (by decide) (hts _ w_140) (fun _ h9 => h9) rfl dX8_cheapest_100 ?_
            refine lv_iload_n hx hb dX8_cheapest_103 rfl (lv_at hl 4 rfl) ?_
            refine va_iald hx hb hE.1 hP 1 1 rfl rfl (vp_in_iff.mpr (by omega)) dX8_cheapest_104 ?_
            refine lv_topi (fun v828 ev828 => ?_)
            refine W.widen (k := 0) (n := 0) (by decide) (by decide) ?_
            exact ch_iret hC hr hk hS dX8_cheapest_105 ((fun k => [].getD k 0, fun k => [g824].getD k (fun _ => 0), fun k => [].getD k (fun _ => 0)) : ((Nat → Int32) × (Nat → Nat → Int32) × (Nat → Nat → Int64))) trivial (hP.sub [0, 1, 2, 3, 4] rfl) (hD.sub [0, 1, 2, 3, 4] (by decide) rfl)
          · replace c827 := eq_i c827
            refine lv_iconst (v := (-1)) hx hb dX8_cheapest_95 (by decide) ?_
            refine lv_goto (tgt := 105) hx hb dX8_cheapest_96 (by decide) ?_
            refine W.widen (k := 0) (n := 0) (by decide) (by decide) ?_
            exact ch_iret hC hr hk hS dX8_cheapest_105 ((fun k => [].getD k 0, fun k => [g824].getD k (fun _ => 0), fun k => [].getD k (fun _ => 0)) : ((Nat → Int32) × (Nat → Nat → Int32) × (Nat → Nat → Int64))) trivial (hP.sub [0, 1, 2, 3, 4] rfl) (hD.sub [0, 1, 2, 3, 4] (by decide) rfl)
        · replace c825 := nle_i c825
          refine lv_iconst (v := 0) hx hb dX8_cheapest_44 (by decide) ?_
          refine lv_istore (lv' := [(6, .int 0), (5, .int i823), (0, .ref w), (1, .ref v), (2, .int p1), (3, .int p2), (4, .int p3)]) hx hb dX8_cheapest_45 hl (by decide) rfl (fun ls hl => ?_)
          have hl' := hl; have hP' := hP; have hD' := hD; clear hl hP hD
          obtain ⟨i835, g836, hi_47, hl, hP, hD⟩ : ∃ (i835 : Int32) (g836 : Nat → Int32), ((0 : Int) ≤ i835.toInt) ∧ lv_has ls 7 [(6, .int i835), (5, .int i823), (0, .ref w), (1, .ref v), (2, .int p1), (3, .int p2), (4, .int p3)] ∧ va_P D vwCl [(w, .inr (7, [.ref wa0, .ref wa1, .ref wa2])), (wa0, .inl (K 1, 10, .inl g836)), (v, .inr (9, [.ref va0, .ref va1, .ref va2, .ref va3, .ref va4, .ref va5, .ref va6, .ref va7, .int vn8, .int vn9, .int vn10, .int vn11])), (va0, .inl (K 1, 40, .inl vf0)), (va1, .inl (K 1, 10, .inl vf1))] H ∧ va_D A [(w, .inr (7, [.ref wa0, .ref wa1, .ref wa2])), (wa0, .inl (K 1, 10, .inl g836)), (v, .inr (9, [.ref va0, .ref va1, .ref va2, .ref va3, .ref va4, .ref va5, .ref va6, .ref va7, .int vn8, .int vn9, .int vn10, .int vn11])), (va0, .inl (K 1, 40, .inl vf0)), (va1, .inl (K 1, 10, .inl vf1))] := ⟨_, _, by omega, hl', hP', hD'⟩
          clear hl' hP' hD'
          obtain ⟨n_47, hn_47⟩ : ∃ n : Nat, (10 - i835.toInt).toNat < n := ⟨_, Nat.lt_succ_self _⟩
          induction n_47 generalizing i835 g836 H locs ls with
          | zero => exact absurd hn_47 (Nat.not_lt_zero _)
          | succ n_47 ih_47 =>
            refine lv_iload hx hb dX8_cheapest_47 (lv_at hl 0 rfl) ?_
            refine lv_aload_n hx hb dX8_cheapest_49 rfl (lv_at hl 3 rfl) ?_
            refine va_get (D := D) (ci := 9) (v := .int vn8) (C := RX10) (T := TX10) (N := 12) hx hb hts in_X10 hown hE.1 hP 2 rfl rfl 8 (by decide) (hts _ w_149) (fun _ h9 => h9) rfl dX8_cheapest_50 ?_
            refine lv_icmp_ge (tgt := 78) hx hb dX8_cheapest_53 (by decide) (fun c837 => ?_) (fun c837 => ?_)
            · replace c837 := le_i c837
              obtain ⟨v838, ev838⟩ : ∃ z : Int32, z = i823 + 1 := ⟨_, rfl⟩
              refine lv_iinc (v := v838) (lv' := [(5, .int v838), (6, .int i835), (0, .ref w), (1, .ref v), (2, .int p1), (3, .int p2), (4, .int p3)]) hx hb dX8_cheapest_78 hl (k := 1) rfl (by rw [ev838]; rfl) (by decide) rfl (fun ls hl => ?_)
              refine lv_goto (tgt := 37) hx hb dX8_cheapest_81 (by decide) ?_
              have tv838 : v838.toInt = (i823 : Int32).toInt + (1 : Int32).toInt := add_i ev838 (by omega) (by omega)
              exact ih_37 (i823 := v838) (g824 := g836) (hi_37 := by omega) (H := H) (locs := locs) (ls := ls) (hn_37 := by omega) (hP := hP) (hD := hD) (hS := hS) (hl := lv_sub hl [0, 2, 3, 4, 5, 6] rfl)
            · replace c837 := nle_i c837
              refine lv_iload hx hb dX8_cheapest_56 (lv_at hl 0 rfl) ?_
              refine lv_bipush (v := 10) hx hb dX8_cheapest_58 (by decide) ?_
              refine lv_icmp_ge (tgt := 78) hx hb dX8_cheapest_60 (by decide) (fun c839 => ?_) (fun c839 => ?_)
              · replace c839 := le_i c839
                obtain ⟨v840, ev840⟩ : ∃ z : Int32, z = i823 + 1 := ⟨_, rfl⟩
                refine lv_iinc (v := v840) (lv' := [(5, .int v840), (6, .int i835), (0, .ref w), (1, .ref v), (2, .int p1), (3, .int p2), (4, .int p3)]) hx hb dX8_cheapest_78 hl (k := 1) rfl (by rw [ev840]; rfl) (by decide) rfl (fun ls hl => ?_)
                refine lv_goto (tgt := 37) hx hb dX8_cheapest_81 (by decide) ?_
                have tv840 : v840.toInt = (i823 : Int32).toInt + (1 : Int32).toInt := add_i ev840 (by omega) (by omega)
                exact ih_37 (i823 := v840) (g824 := g836) (hi_37 := by omega) (H := H) (locs := locs) (ls := ls) (hn_37 := by omega) (hP := hP) (hD := hD) (hS := hS) (hl := lv_sub hl [0, 2, 3, 4, 5, 6] rfl)
              · replace c839 := nle_i c839
                refine lv_aload_n hx hb dX8_cheapest_63 rfl (lv_at hl 2 rfl) ?_
                refine lv_aload_n hx hb dX8_cheapest_64 rfl (lv_at hl 3 rfl) ?_
                refine lv_iload hx hb dX8_cheapest_65 (lv_at hl 0 rfl) ?_
                refine lv_iload hx hb dX8_cheapest_67 (lv_at hl 6 rfl) ?_
                refine cv_V (As := [.ref v, .int i835, .int p3]) (rest := []) (wc := [(w, .inr (7, [.ref wa0, .ref wa1, .ref wa2])), (wa0, .inl (K 1, 10, .inl g836)), (v, .inr (9, [.ref va0, .ref va1, .ref va2, .ref va3, .ref va4, .ref va5, .ref va6, .ref va7, .int vn8, .int vn9, .int vn10, .int vn11])), (va0, .inl (K 1, 40, .inl vf0)), (va1, .inl (K 1, 10, .inl vf1))]) (wr := []) hC hE kV_X8_38 (c_X8_relax l D K w wa0 wa1 wa2 v va0 va1 va2 va3 va4 va5 va6 va7 vn8 vn9 vn10 vn11 g836 vf0 vf1 i835 p3 (by omega) (by omega)) hP hD hS hA [0, 1, 2, 3, 4] [] rfl rfl rfl (by decide) (by decide) (by decide) 0 7 rfl rfl rfl hl.1 rfl (Nat.le_of_ble_eq_true rfl) (by decide) (by decide) dX8_cheapest_69 (fun u841 H locs hw hP hD hS => ?_)
                replace hP : va_P D vwCl [(w, .inr (7, [.ref wa0, .ref wa1, .ref wa2])), (wa0, .inl (K 1, 10, .inl (u841.2.1 0))), (v, .inr (9, [.ref va0, .ref va1, .ref va2, .ref va3, .ref va4, .ref va5, .ref va6, .ref va7, .int vn8, .int vn9, .int vn10, .int vn11])), (va0, .inl (K 1, 40, .inl vf0)), (va1, .inl (K 1, 10, .inl vf1))] H := hP
                replace hD : va_D A [(w, .inr (7, [.ref wa0, .ref wa1, .ref wa2])), (wa0, .inl (K 1, 10, .inl (u841.2.1 0))), (v, .inr (9, [.ref va0, .ref va1, .ref va2, .ref va3, .ref va4, .ref va5, .ref va6, .ref va7, .int vn8, .int vn9, .int vn10, .int vn11])), (va0, .inl (K 1, 40, .inl vf0)), (va1, .inl (K 1, 10, .inl vf1))] := hD
                replace hP : va_P D vwCl [(w, .inr (7, [.ref wa0, .ref wa1, .ref wa2])), (wa0, .inl (K 1, 10, .inl (u841.2.1 0))), (v, .inr (9, [.ref va0, .ref va1, .ref va2, .ref va3, .ref va4, .ref va5, .ref va6, .ref va7, .int vn8, .int vn9, .int vn10, .int vn11])), (va0, .inl (K 1, 40, .inl vf0)), (va1, .inl (K 1, 10, .inl vf1))] H := hP.sub [0, 1, 2, 3, 4] rfl
                replace hD : va_D A [(w, .inr (7, [.ref wa0, .ref wa1, .ref wa2])), (wa0, .inl (K 1, 10, .inl (u841.2.1 0))), (v, .inr (9, [.ref va0, .ref va1, .ref va2, .ref va3, .ref va4, .ref va5, .ref va6, .ref va7, .int vn8, .int vn9, .int vn10, .int vn11])), (va0, .inl (K 1, 40, .inl vf0)), (va1, .inl (K 1, 10, .inl vf1))] := hD.sub [0, 1, 2, 3, 4] (by decide) rfl
                refine W.widen (k := 0) (n := 0) (by decide) (by decide) ?_
                obtain ⟨v843, ev843⟩ : ∃ z : Int32, z = i835 + 1 := ⟨_, rfl⟩
                refine lv_iinc (v := v843) (lv' := [(6, .int v843), (5, .int i823), (0, .ref w), (1, .ref v), (2, .int p1), (3, .int p2), (4, .int p3)]) hx hb dX8_cheapest_72 hl (k := 0) rfl (by rw [ev843]; rfl) (by decide) rfl (fun ls hl => ?_)
                refine lv_goto (tgt := 47) hx hb dX8_cheapest_75 (by decide) ?_
                have tv843 : v843.toInt = (i835 : Int32).toInt + (1 : Int32).toInt := add_i ev843 (by omega) (by omega)
                exact ih_47 (i835 := v843) (g836 := (u841.2.1 0)) (hi_47 := by omega) (H := H) (locs := locs) (ls := ls) (hn_47 := by omega) (hP := hP) (hD := hD) (hS := hS) (hl := lv_sub hl [0, 1, 2, 3, 4, 5, 6] rfl)
set_option maxRecDepth 40000 in
set_option maxHeartbeats 4000000 in
theorem c_X8_drift (l : Launch) (D : va_G) (K : Nat → ClassId) (w : Nat) (wa0 : Nat) (wa1 : Nat) (wa2 : Nat) (v : Nat) (va0 : Nat) (va1 : Nat) (va2 : Nat) (va3 : Nat) (va4 : Nat) (va5 : Nat) (va6 : Nat) (va7 : Nat) (vn8 : Int32) (vn9 : Int32) (vn10 : Int32) (vn11 : Int32) (wf0 : Nat → Int32) (wf1 : Nat → Int32) (wf2 : Nat → Int32) (vf0 : Nat → Int32) (p1 : Int32) (p2 : Int32) : Cv (S := ((Nat → Int32) × (Nat → Nat → Int32) × (Nat → Nat → Int64))) l D K yX8_drift cX8_drift 8 2 43 0 0 [.ref w, .ref v, .int p1, .int p2] [(w, .inr (7, [.ref wa0, .ref wa1, .ref wa2])), (wa0, .inl (K 1, 10, .inl wf0)), (wa1, .inl (K 1, 10, .inl wf1)), (wa2, .inl (K 1, 10, .inl wf2)), (v, .inr (9, [.ref va0, .ref va1, .ref va2, .ref va3, .ref va4, .ref va5, .ref va6, .ref va7, .int vn8, .int vn9, .int vn10, .int vn11])), (va0, .inl (K 1, 40, .inl vf0))] (fun _ => True) (fun u => [(w, .inr (7, [.ref wa0, .ref wa1, .ref wa2])), (wa0, .inl (K 1, 10, .inl wf0)), (wa1, .inl (K 1, 10, .inl (u.2.1 0))), (wa2, .inl (K 1, 10, .inl (u.2.1 1))), (v, .inr (9, [.ref va0, .ref va1, .ref va2, .ref va3, .ref va4, .ref va5, .ref va6, .ref va7, .int vn8, .int vn9, .int vn10, .int vn11])), (va0, .inl (K 1, 40, .inl vf0))]) := by
  intro sz
  refine ch_of (y := yX8_drift) (cc := cX8_drift) (maxL := 8) (ret := none) (av := [.ref w, .ref v, .int p1, .int p2]) (ws := [(w, .inr (7, [.ref wa0, .ref wa1, .ref wa2])), (wa0, .inl (K 1, 10, .inl wf0)), (wa1, .inl (K 1, 10, .inl wf1)), (wa2, .inl (K 1, 10, .inl wf2)), (v, .inr (9, [.ref va0, .ref va1, .ref va2, .ref va3, .ref va4, .ref va5, .ref va6, .ref va7, .int vn8, .int vn9, .int vn10, .int vn11])), (va0, .inl (K 1, 40, .inl vf0))]) (D := D) (K := K) (Qc := fun A => va_Qv (S := ((Nat → Int32) × (Nat → Nat → Int32) × (Nat → Nat → Int64))) (fun _ => True) (chB D A (fun u => [(w, .inr (7, [.ref wa0, .ref wa1, .ref wa2])), (wa0, .inl (K 1, 10, .inl wf0)), (wa1, .inl (K 1, 10, .inl (u.2.1 0))), (wa2, .inl (K 1, 10, .inl (u.2.1 1))), (v, .inr (9, [.ref va0, .ref va1, .ref va2, .ref va3, .ref va4, .ref va5, .ref va6, .ref va7, .int vn8, .int vn9, .int vn10, .int vn11])), (va0, .inl (K 1, 40, .inl vf0))])) A) (by decide) (Nat.le_of_ble_eq_true rfl) ?_
  intro p e s m below meth c A hC hr hk hin hE hD hA H locs hP hS ls hl
  replace hC : CallFix p m c cX8_drift 8 s [.ref w, .ref v, .int p1, .int p2].toArray wl RX8 := hC
  have hx := hC.1
  have hb := hC.2.1
  have hml := hC.2.2.1
  have hown := hC.2.2.2.1
  have hts := hC.2.2.2.2
  replace hl : lv_has ls 8 [(0, .ref w), (1, .ref v), (2, .int p1), (3, .int p2)] := hl
  have kc_0 : (0 : Int32).toInt = 0 := by decide
  have kc_1 : (1 : Int32).toInt = 1 := by decide
  have kc_4 : (4 : Int32).toInt = 4 := by decide
  have kc_10 : (10 : Int32).toInt = 10 := by decide
  refine lv_aload_n hx hb dX8_drift_0 rfl (lv_at hl 0 rfl) ?_
  refine va_get (D := D) (ci := 7) (v := .ref wa1) (C := RX8) (T := TX8) (N := 3) hx hb hts in_X8 hown hE.1 hP 0 rfl rfl 1 (by decide) (hts _ w_139) (fun _ h9 => h9) rfl dX8_drift_1 ?_
  refine lv_iconst (v := 0) hx hb dX8_drift_4 (by decide) ?_
  refine cv_S (As := [.ref wa1, .int 0]) (rest := []) (wc := [(wa1, .inl (K 1, 10, .inl wf1))]) (wr := [(w, .inr (7, [.ref wa0, .ref wa1, .ref wa2])), (wa0, .inl (K 1, 10, .inl wf0)), (wa2, .inl (K 1, 10, .inl wf2)), (v, .inr (9, [.ref va0, .ref va1, .ref va2, .ref va3, .ref va4, .ref va5, .ref va6, .ref va7, .int vn8, .int vn9, .int vn10, .int vn11])), (va0, .inl (K 1, 40, .inl vf0))]) hC hE kS_X8_28 (c_J7_fill_10 l D K wa1 wf1 0) hP hD hS hA [2] [0, 1, 3, 4, 5] rfl rfl rfl (by decide) (by decide) (by decide) rfl hl.1 rfl (Nat.le_of_ble_eq_true rfl) (by decide) (by decide) dX8_drift_5 (fun u898 H locs hw hP hD hS => ?_)
  replace hP : va_P D vwCl [(w, .inr (7, [.ref wa0, .ref wa1, .ref wa2])), (wa0, .inl (K 1, 10, .inl wf0)), (wa2, .inl (K 1, 10, .inl wf2)), (v, .inr (9, [.ref va0, .ref va1, .ref va2, .ref va3, .ref va4, .ref va5, .ref va6, .ref va7, .int vn8, .int vn9, .int vn10, .int vn11])), (va0, .inl (K 1, 40, .inl vf0)), (wa1, .inl (K 1, 10, .inl (u898.2.1 0)))] H := hP
  replace hD : va_D A [(w, .inr (7, [.ref wa0, .ref wa1, .ref wa2])), (wa0, .inl (K 1, 10, .inl wf0)), (wa2, .inl (K 1, 10, .inl wf2)), (v, .inr (9, [.ref va0, .ref va1, .ref va2, .ref va3, .ref va4, .ref va5, .ref va6, .ref va7, .int vn8, .int vn9, .int vn10, .int vn11])), (va0, .inl (K 1, 40, .inl vf0)), (wa1, .inl (K 1, 10, .inl (u898.2.1 0)))] := hD
  replace hP : va_P D vwCl [(w, .inr (7, [.ref wa0, .ref wa1, .ref wa2])), (wa0, .inl (K 1, 10, .inl wf0)), (wa1, .inl (K 1, 10, .inl (u898.2.1 0))), (wa2, .inl (K 1, 10, .inl wf2)), (v, .inr (9, [.ref va0, .ref va1, .ref va2, .ref va3, .ref va4, .ref va5, .ref va6, .ref va7, .int vn8, .int vn9, .int vn10, .int vn11])), (va0, .inl (K 1, 40, .inl vf0))] H := hP.sub [0, 1, 5, 2, 3, 4] rfl
  replace hD : va_D A [(w, .inr (7, [.ref wa0, .ref wa1, .ref wa2])), (wa0, .inl (K 1, 10, .inl wf0)), (wa1, .inl (K 1, 10, .inl (u898.2.1 0))), (wa2, .inl (K 1, 10, .inl wf2)), (v, .inr (9, [.ref va0, .ref va1, .ref va2, .ref va3, .ref va4, .ref va5, .ref va6, .ref va7, .int vn8, .int vn9, .int vn10, .int vn11])), (va0, .inl (K 1, 40, .inl vf0))] := hD.sub [0, 1, 5, 2, 3, 4] (by decide) rfl
  refine W.widen (k := 0) (n := 0) (by decide) (by decide) ?_
  refine lv_aload_n hx hb dX8_drift_8 rfl (lv_at hl 1 rfl) ?_
  refine lv_iload_n hx hb dX8_drift_9 rfl (lv_at hl 2 rfl) ?_
  refine ro_V (As := [.int p1]) (rest := []) hC hE kV_X8_21 (c_X10_hasPlace l D K v va0 va1 va2 va3 va4 va5 va6 va7 vn8 vn9 vn10 vn11 p1) (hP.sub (ws' := [(v, .inr (9, [.ref va0, .ref va1, .ref va2, .ref va3, .ref va4, .ref va5, .ref va6, .ref va7, .int vn8, .int vn9, .int vn10, .int vn11]))]) [4] rfl) 0 9 rfl rfl rfl hl.1 rfl (Nat.le_of_ble_eq_true rfl) (by decide) (by decide) dX8_drift_10 (fun r902 hq => ?_)
  rcases hq with rfl | ⟨rfl, h900, h901⟩
  · refine lv_if_eq (tgt := 23) hx hb dX8_drift_13 (by decide) (fun _ => ?_) (fun h => absurd h (by decide))
    refine lv_iconst (v := 0) hx hb dX8_drift_23 (by decide) ?_
    refine lv_istore (lv' := [(4, .int 0), (0, .ref w), (1, .ref v), (2, .int p1), (3, .int p2)]) hx hb dX8_drift_24 hl (by decide) rfl (fun ls hl => ?_)
    have hl' := hl; have hP' := hP; have hD' := hD; clear hl hP hD
    obtain ⟨i927, g928, g929, hi_26, hl, hP, hD⟩ : ∃ (i927 : Int32) (g928 : Nat → Int32) (g929 : Nat → Int32), ((0 : Int) ≤ i927.toInt) ∧ lv_has ls 8 [(4, .int i927), (0, .ref w), (1, .ref v), (2, .int p1), (3, .int p2)] ∧ va_P D vwCl [(w, .inr (7, [.ref wa0, .ref wa1, .ref wa2])), (wa0, .inl (K 1, 10, .inl wf0)), (wa1, .inl (K 1, 10, .inl g928)), (wa2, .inl (K 1, 10, .inl g929)), (v, .inr (9, [.ref va0, .ref va1, .ref va2, .ref va3, .ref va4, .ref va5, .ref va6, .ref va7, .int vn8, .int vn9, .int vn10, .int vn11])), (va0, .inl (K 1, 40, .inl vf0))] H ∧ va_D A [(w, .inr (7, [.ref wa0, .ref wa1, .ref wa2])), (wa0, .inl (K 1, 10, .inl wf0)), (wa1, .inl (K 1, 10, .inl g928)), (wa2, .inl (K 1, 10, .inl g929)), (v, .inr (9, [.ref va0, .ref va1, .ref va2, .ref va3, .ref va4, .ref va5, .ref va6, .ref va7, .int vn8, .int vn9, .int vn10, .int vn11])), (va0, .inl (K 1, 40, .inl vf0))] := ⟨_, _, _, by omega, hl', hP', hD'⟩
    clear hl' hP' hD'
    have hb_26 := i32_hi p2
    obtain ⟨n_26, hn_26⟩ : ∃ n : Nat, (p2.toInt - i927.toInt).toNat < n := ⟨_, Nat.lt_succ_self _⟩
    induction n_26 generalizing i927 g928 g929 H locs ls with
    | zero => exact absurd hn_26 (Nat.not_lt_zero _)
    | succ n_26 ih_26 =>
      refine lv_iload hx hb dX8_drift_26 (lv_at hl 0 rfl) ?_
      refine lv_iload_n hx hb dX8_drift_28 rfl (lv_at hl 4 rfl) ?_
      refine lv_icmp_ge (tgt := 140) hx hb dX8_drift_29 (by decide) (fun c930 => ?_) (fun c930 => ?_)
      · replace c930 := le_i c930
        refine W.widen (k := 0) (n := 0) (by decide) (by decide) ?_
        exact ch_vret hC hr hk hS dX8_drift_140 ((fun k => [].getD k 0, fun k => [g928, g929].getD k (fun _ => 0), fun k => [].getD k (fun _ => 0)) : ((Nat → Int32) × (Nat → Nat → Int32) × (Nat → Nat → Int64))) trivial (hP.sub [0, 1, 2, 3, 4, 5] rfl) (hD.sub [0, 1, 2, 3, 4, 5] (by decide) rfl)
      · replace c930 := nle_i c930
        refine lv_aload_n hx hb dX8_drift_32 rfl (lv_at hl 1 rfl) ?_
        refine va_get (D := D) (ci := 7) (v := .ref wa2) (C := RX8) (T := TX8) (N := 3) hx hb hts in_X8 hown hE.1 hP 0 rfl rfl 2 (by decide) (hts _ w_156) (fun _ h9 => h9) rfl dX8_drift_33 ?_
        refine lv_iconst (v := 0) hx hb dX8_drift_36 (by decide) ?_
        refine cv_S (As := [.ref wa2, .int 0]) (rest := []) (wc := [(wa2, .inl (K 1, 10, .inl g929))]) (wr := [(w, .inr (7, [.ref wa0, .ref wa1, .ref wa2])), (wa0, .inl (K 1, 10, .inl wf0)), (wa1, .inl (K 1, 10, .inl g928)), (v, .inr (9, [.ref va0, .ref va1, .ref va2, .ref va3, .ref va4, .ref va5, .ref va6, .ref va7, .int vn8, .int vn9, .int vn10, .int vn11])), (va0, .inl (K 1, 40, .inl vf0))]) hC hE kS_X8_28 (c_J7_fill_10 l D K wa2 g929 0) hP hD hS hA [3] [0, 1, 2, 4, 5] rfl rfl rfl (by decide) (by decide) (by decide) rfl hl.1 rfl (Nat.le_of_ble_eq_true rfl) (by decide) (by decide) dX8_drift_37 (fun u931 H locs hw hP hD hS => ?_)
        replace hP : va_P D vwCl [(w, .inr (7, [.ref wa0, .ref wa1, .ref wa2])), (wa0, .inl (K 1, 10, .inl wf0)), (wa1, .inl (K 1, 10, .inl g928)), (v, .inr (9, [.ref va0, .ref va1, .ref va2, .ref va3, .ref va4, .ref va5, .ref va6, .ref va7, .int vn8, .int vn9, .int vn10, .int vn11])), (va0, .inl (K 1, 40, .inl vf0)), (wa2, .inl (K 1, 10, .inl (u931.2.1 0)))] H := hP
        replace hD : va_D A [(w, .inr (7, [.ref wa0, .ref wa1, .ref wa2])), (wa0, .inl (K 1, 10, .inl wf0)), (wa1, .inl (K 1, 10, .inl g928)), (v, .inr (9, [.ref va0, .ref va1, .ref va2, .ref va3, .ref va4, .ref va5, .ref va6, .ref va7, .int vn8, .int vn9, .int vn10, .int vn11])), (va0, .inl (K 1, 40, .inl vf0)), (wa2, .inl (K 1, 10, .inl (u931.2.1 0)))] := hD
        replace hP : va_P D vwCl [(w, .inr (7, [.ref wa0, .ref wa1, .ref wa2])), (wa0, .inl (K 1, 10, .inl wf0)), (wa1, .inl (K 1, 10, .inl g928)), (wa2, .inl (K 1, 10, .inl (u931.2.1 0))), (v, .inr (9, [.ref va0, .ref va1, .ref va2, .ref va3, .ref va4, .ref va5, .ref va6, .ref va7, .int vn8, .int vn9, .int vn10, .int vn11])), (va0, .inl (K 1, 40, .inl vf0))] H := hP.sub [0, 1, 2, 5, 3, 4] rfl
        replace hD : va_D A [(w, .inr (7, [.ref wa0, .ref wa1, .ref wa2])), (wa0, .inl (K 1, 10, .inl wf0)), (wa1, .inl (K 1, 10, .inl g928)), (wa2, .inl (K 1, 10, .inl (u931.2.1 0))), (v, .inr (9, [.ref va0, .ref va1, .ref va2, .ref va3, .ref va4, .ref va5, .ref va6, .ref va7, .int vn8, .int vn9, .int vn10, .int vn11])), (va0, .inl (K 1, 40, .inl vf0))] := hD.sub [0, 1, 2, 5, 3, 4] (by decide) rfl
        refine W.widen (k := 0) (n := 0) (by decide) (by decide) ?_
        refine lv_iconst (v := 0) hx hb dX8_drift_40 (by decide) ?_
        refine lv_istore (lv' := [(5, .int 0), (4, .int i927), (0, .ref w), (1, .ref v), (2, .int p1), (3, .int p2)]) hx hb dX8_drift_41 hl (by decide) rfl (fun ls hl => ?_)
        have hl' := hl; have hP' := hP; have hD' := hD; clear hl hP hD
        obtain ⟨i949, g950, hi_43, hl, hP, hD⟩ : ∃ (i949 : Int32) (g950 : Nat → Int32), ((0 : Int) ≤ i949.toInt) ∧ lv_has ls 8 [(5, .int i949), (4, .int i927), (0, .ref w), (1, .ref v), (2, .int p1), (3, .int p2)] ∧ va_P D vwCl [(w, .inr (7, [.ref wa0, .ref wa1, .ref wa2])), (wa0, .inl (K 1, 10, .inl wf0)), (wa1, .inl (K 1, 10, .inl g928)), (wa2, .inl (K 1, 10, .inl g950)), (v, .inr (9, [.ref va0, .ref va1, .ref va2, .ref va3, .ref va4, .ref va5, .ref va6, .ref va7, .int vn8, .int vn9, .int vn10, .int vn11])), (va0, .inl (K 1, 40, .inl vf0))] H ∧ va_D A [(w, .inr (7, [.ref wa0, .ref wa1, .ref wa2])), (wa0, .inl (K 1, 10, .inl wf0)), (wa1, .inl (K 1, 10, .inl g928)), (wa2, .inl (K 1, 10, .inl g950)), (v, .inr (9, [.ref va0, .ref va1, .ref va2, .ref va3, .ref va4, .ref va5, .ref va6, .ref va7, .int vn8, .int vn9, .int vn10, .int vn11])), (va0, .inl (K 1, 40, .inl vf0))] := ⟨_, _, by omega, hl', hP', hD'⟩
        clear hl' hP' hD'
        obtain ⟨n_43, hn_43⟩ : ∃ n : Nat, (10 - i949.toInt).toNat < n := ⟨_, Nat.lt_succ_self _⟩
        induction n_43 generalizing i949 g950 H locs ls with
        | zero => exact absurd hn_43 (Nat.not_lt_zero _)
        | succ n_43 ih_43 =>
          refine lv_iload hx hb dX8_drift_43 (lv_at hl 0 rfl) ?_
          refine lv_aload_n hx hb dX8_drift_45 rfl (lv_at hl 3 rfl) ?_
          refine va_get (D := D) (ci := 9) (v := .int vn8) (C := RX10) (T := TX10) (N := 12) hx hb hts in_X10 hown hE.1 hP 4 rfl rfl 8 (by decide) (hts _ w_149) (fun _ h9 => h9) rfl dX8_drift_46 ?_
          refine lv_icmp_ge (tgt := 116) hx hb dX8_drift_49 (by decide) (fun c951 => ?_) (fun c951 => ?_)
          · replace c951 := le_i c951
            refine lv_aload_n hx hb dX8_drift_116 rfl (lv_at hl 2 rfl) ?_
            refine va_get (D := D) (ci := 7) (v := .ref wa2) (C := RX8) (T := TX8) (N := 3) hx hb hts in_X8 hown hE.1 hP 0 rfl rfl 2 (by decide) (hts _ w_156) (fun _ h9 => h9) rfl dX8_drift_117 ?_
            refine lv_iconst (v := 0) hx hb dX8_drift_120 (by decide) ?_
            refine lv_aload_n hx hb dX8_drift_121 rfl (lv_at hl 2 rfl) ?_
            refine va_get (D := D) (ci := 7) (v := .ref wa1) (C := RX8) (T := TX8) (N := 3) hx hb hts in_X8 hown hE.1 hP 0 rfl rfl 1 (by decide) (hts _ w_139) (fun _ h9 => h9) rfl dX8_drift_122 ?_
            refine lv_iconst (v := 0) hx hb dX8_drift_125 (by decide) ?_
            refine lv_aload_n hx hb dX8_drift_126 rfl (lv_at hl 2 rfl) ?_
            refine va_get (D := D) (ci := 7) (v := .ref wa1) (C := RX8) (T := TX8) (N := 3) hx hb hts in_X8 hown hE.1 hP 0 rfl rfl 1 (by decide) (hts _ w_139) (fun _ h9 => h9) rfl dX8_drift_127 ?_
            refine va_alen (v := 10) hx hb hE.1 hP 2 1 rfl rfl (show Int32.ofNat 10 = 10 by decide) dX8_drift_130 ?_
            refine cpi hC hE hl.1 w_157 w_81 w_82 w_83 hP hD hS 3 2 rfl rfl (by decide) (by decide) (by decide) (by decide) (by decide) (by decide) (Nat.le_of_ble_eq_true rfl) dX8_drift_131 (fun g952 H locs hP hD hS => ?_)
            replace hP : va_P D vwCl [(w, .inr (7, [.ref wa0, .ref wa1, .ref wa2])), (wa0, .inl (K 1, 10, .inl wf0)), (wa1, .inl (K 1, 10, .inl g952)), (wa2, .inl (K 1, 10, .inl g950)), (v, .inr (9, [.ref va0, .ref va1, .ref va2, .ref va3, .ref va4, .ref va5, .ref va6, .ref va7, .int vn8, .int vn9, .int vn10, .int vn11])), (va0, .inl (K 1, 40, .inl vf0))] H := hP
            replace hD : va_D A [(w, .inr (7, [.ref wa0, .ref wa1, .ref wa2])), (wa0, .inl (K 1, 10, .inl wf0)), (wa1, .inl (K 1, 10, .inl g952)), (wa2, .inl (K 1, 10, .inl g950)), (v, .inr (9, [.ref va0, .ref va1, .ref va2, .ref va3, .ref va4, .ref va5, .ref va6, .ref va7, .int vn8, .int vn9, .int vn10, .int vn11])), (va0, .inl (K 1, 40, .inl vf0))] := hD
            obtain ⟨v953, ev953⟩ : ∃ z : Int32, z = i927 + 1 := ⟨_, rfl⟩
            refine lv_iinc (v := v953) (lv' := [(4, .int v953), (5, .int i949), (0, .ref w), (1, .ref v), (2, .int p1), (3, .int p2)]) hx hb dX8_drift_134 hl (k := 1) rfl (by rw [ev953]; rfl) (by decide) rfl (fun ls hl => ?_)
            refine lv_goto (tgt := 26) hx hb dX8_drift_137 (by decide) ?_
            have tv953 : v953.toInt = (i927 : Int32).toInt + (1 : Int32).toInt := add_i ev953 (by omega) (by omega)
            exact ih_26 (i927 := v953) (g928 := g952) (g929 := g950) (hi_26 := by omega) (H := H) (locs := locs) (ls := ls) (hn_26 := by omega) (hP := hP) (hD := hD) (hS := hS) (hl := lv_sub hl [0, 2, 3, 4, 5] rfl)
          · replace c951 := nle_i c951
            refine lv_iload hx hb dX8_drift_52 (lv_at hl 0 rfl) ?_
            refine lv_bipush (v := 10) hx hb dX8_drift_54 (by decide) ?_
            refine lv_icmp_ge (tgt := 116) hx hb dX8_drift_56 (by decide) (fun c954 => ?_) (fun c954 => ?_)
            · replace c954 := le_i c954
              refine lv_aload_n hx hb dX8_drift_116 rfl (lv_at hl 2 rfl) ?_
              refine va_get (D := D) (ci := 7) (v := .ref wa2) (C := RX8) (T := TX8) (N := 3) hx hb hts in_X8 hown hE.1 hP 0 rfl rfl 2 (by decide) (hts _ w_156) (fun _ h9 => h9) rfl dX8_drift_117 ?_
              refine lv_iconst (v := 0) hx hb dX8_drift_120 (by decide) ?_
              refine lv_aload_n hx hb dX8_drift_121 rfl (lv_at hl 2 rfl) ?_
              refine va_get (D := D) (ci := 7) (v := .ref wa1) (C := RX8) (T := TX8) (N := 3) hx hb hts in_X8 hown hE.1 hP 0 rfl rfl 1 (by decide) (hts _ w_139) (fun _ h9 => h9) rfl dX8_drift_122 ?_
              refine lv_iconst (v := 0) hx hb dX8_drift_125 (by decide) ?_
              refine lv_aload_n hx hb dX8_drift_126 rfl (lv_at hl 2 rfl) ?_
              refine va_get (D := D) (ci := 7) (v := .ref wa1) (C := RX8) (T := TX8) (N := 3) hx hb hts in_X8 hown hE.1 hP 0 rfl rfl 1 (by decide) (hts _ w_139) (fun _ h9 => h9) rfl dX8_drift_127 ?_
              refine va_alen (v := 10) hx hb hE.1 hP 2 1 rfl rfl (show Int32.ofNat 10 = 10 by decide) dX8_drift_130 ?_
              refine cpi hC hE hl.1 w_157 w_81 w_82 w_83 hP hD hS 3 2 rfl rfl (by decide) (by decide) (by decide) (by decide) (by decide) (by decide) (Nat.le_of_ble_eq_true rfl) dX8_drift_131 (fun g955 H locs hP hD hS => ?_)
              replace hP : va_P D vwCl [(w, .inr (7, [.ref wa0, .ref wa1, .ref wa2])), (wa0, .inl (K 1, 10, .inl wf0)), (wa1, .inl (K 1, 10, .inl g955)), (wa2, .inl (K 1, 10, .inl g950)), (v, .inr (9, [.ref va0, .ref va1, .ref va2, .ref va3, .ref va4, .ref va5, .ref va6, .ref va7, .int vn8, .int vn9, .int vn10, .int vn11])), (va0, .inl (K 1, 40, .inl vf0))] H := hP
              replace hD : va_D A [(w, .inr (7, [.ref wa0, .ref wa1, .ref wa2])), (wa0, .inl (K 1, 10, .inl wf0)), (wa1, .inl (K 1, 10, .inl g955)), (wa2, .inl (K 1, 10, .inl g950)), (v, .inr (9, [.ref va0, .ref va1, .ref va2, .ref va3, .ref va4, .ref va5, .ref va6, .ref va7, .int vn8, .int vn9, .int vn10, .int vn11])), (va0, .inl (K 1, 40, .inl vf0))] := hD
              obtain ⟨v956, ev956⟩ : ∃ z : Int32, z = i927 + 1 := ⟨_, rfl⟩
              refine lv_iinc (v := v956) (lv' := [(4, .int v956), (5, .int i949), (0, .ref w), (1, .ref v), (2, .int p1), (3, .int p2)]) hx hb dX8_drift_134 hl (k := 1) rfl (by rw [ev956]; rfl) (by decide) rfl (fun ls hl => ?_)
              refine lv_goto (tgt := 26) hx hb dX8_drift_137 (by decide) ?_
              have tv956 : v956.toInt = (i927 : Int32).toInt + (1 : Int32).toInt := add_i ev956 (by omega) (by omega)
              exact ih_26 (i927 := v956) (g928 := g955) (g929 := g950) (hi_26 := by omega) (H := H) (locs := locs) (ls := ls) (hn_26 := by omega) (hP := hP) (hD := hD) (hS := hS) (hl := lv_sub hl [0, 2, 3, 4, 5] rfl)
            · replace c954 := nle_i c954
              refine lv_iconst (v := 0) hx hb dX8_drift_59 (by decide) ?_
              refine lv_istore (lv' := [(6, .int 0), (5, .int i949), (4, .int i927), (0, .ref w), (1, .ref v), (2, .int p1), (3, .int p2)]) hx hb dX8_drift_60 hl (by decide) rfl (fun ls hl => ?_)
              have hl' := hl; have hP' := hP; have hD' := hD; clear hl hP hD
              obtain ⟨i969, g970, hi_62, hl, hP, hD⟩ : ∃ (i969 : Int32) (g970 : Nat → Int32), ((0 : Int) ≤ i969.toInt) ∧ lv_has ls 8 [(6, .int i969), (5, .int i949), (4, .int i927), (0, .ref w), (1, .ref v), (2, .int p1), (3, .int p2)] ∧ va_P D vwCl [(w, .inr (7, [.ref wa0, .ref wa1, .ref wa2])), (wa0, .inl (K 1, 10, .inl wf0)), (wa1, .inl (K 1, 10, .inl g928)), (wa2, .inl (K 1, 10, .inl g970)), (v, .inr (9, [.ref va0, .ref va1, .ref va2, .ref va3, .ref va4, .ref va5, .ref va6, .ref va7, .int vn8, .int vn9, .int vn10, .int vn11])), (va0, .inl (K 1, 40, .inl vf0))] H ∧ va_D A [(w, .inr (7, [.ref wa0, .ref wa1, .ref wa2])), (wa0, .inl (K 1, 10, .inl wf0)), (wa1, .inl (K 1, 10, .inl g928)), (wa2, .inl (K 1, 10, .inl g970)), (v, .inr (9, [.ref va0, .ref va1, .ref va2, .ref va3, .ref va4, .ref va5, .ref va6, .ref va7, .int vn8, .int vn9, .int vn10, .int vn11])), (va0, .inl (K 1, 40, .inl vf0))] := ⟨_, _, by omega, hl', hP', hD'⟩
              clear hl' hP' hD'
              obtain ⟨n_62, hn_62⟩ : ∃ n : Nat, (4 - i969.toInt).toNat < n := ⟨_, Nat.lt_succ_self _⟩
              induction n_62 generalizing i969 g970 H locs ls with
              | zero => exact absurd hn_62 (Nat.not_lt_zero _)
              | succ n_62 ih_62 =>
                refine lv_iload hx hb dX8_drift_62 (lv_at hl 0 rfl) ?_
                refine lv_iconst (v := 4) hx hb dX8_drift_64 (by decide) ?_
                refine lv_icmp_ge (tgt := 110) hx hb dX8_drift_65 (by decide) (fun c971 => ?_) (fun c971 => ?_)
                · replace c971 := le_i c971
                  obtain ⟨v972, ev972⟩ : ∃ z : Int32, z = i949 + 1 := ⟨_, rfl⟩
                  refine lv_iinc (v := v972) (lv' := [(5, .int v972), (6, .int i969), (4, .int i927), (0, .ref w), (1, .ref v), (2, .int p1), (3, .int p2)]) hx hb dX8_drift_110 hl (k := 1) rfl (by rw [ev972]; rfl) (by decide) rfl (fun ls hl => ?_)
                  refine lv_goto (tgt := 43) hx hb dX8_drift_113 (by decide) ?_
                  have tv972 : v972.toInt = (i949 : Int32).toInt + (1 : Int32).toInt := add_i ev972 (by omega) (by omega)
                  exact ih_43 (i949 := v972) (g950 := g970) (hi_43 := by omega) (H := H) (locs := locs) (ls := ls) (hn_43 := by omega) (hP := hP) (hD := hD) (hS := hS) (hl := lv_sub hl [0, 2, 3, 4, 5, 6] rfl)
                · replace c971 := nle_i c971
                  refine lv_aload_n hx hb dX8_drift_68 rfl (lv_at hl 4 rfl) ?_
                  refine lv_iload hx hb dX8_drift_69 (lv_at hl 1 rfl) ?_
                  refine lv_iload hx hb dX8_drift_71 (lv_at hl 0 rfl) ?_
                  refine ro_V (As := [.int i949, .int i969]) (rest := []) hC hE kV_X8_42 (c_X10_after l D K v va0 va1 va2 va3 va4 va5 va6 va7 vn8 vn9 vn10 vn11 vf0 i949 i969) (hP.sub (ws' := [(v, .inr (9, [.ref va0, .ref va1, .ref va2, .ref va3, .ref va4, .ref va5, .ref va6, .ref va7, .int vn8, .int vn9, .int vn10, .int vn11])), (va0, .inl (K 1, 40, .inl vf0))]) [4, 5] rfl) 0 9 rfl rfl rfl hl.1 rfl (Nat.le_of_ble_eq_true rfl) (by decide) (by decide) dX8_drift_73 (fun r973 _ => ?_)
                  refine lv_istore (lv' := [(7, .int r973), (6, .int i969), (5, .int i949), (4, .int i927), (0, .ref w), (1, .ref v), (2, .int p1), (3, .int p2)]) hx hb dX8_drift_76 hl (by decide) rfl (fun ls hl => ?_)
                  refine lv_aload_n hx hb dX8_drift_78 rfl (lv_at hl 5 rfl) ?_
                  refine lv_iload hx hb dX8_drift_79 (lv_at hl 0 rfl) ?_
                  refine ro_V (As := [.int r973]) (rest := []) hC hE kV_X8_21 (c_X10_hasPlace l D K v va0 va1 va2 va3 va4 va5 va6 va7 vn8 vn9 vn10 vn11 r973) (hP.sub (ws' := [(v, .inr (9, [.ref va0, .ref va1, .ref va2, .ref va3, .ref va4, .ref va5, .ref va6, .ref va7, .int vn8, .int vn9, .int vn10, .int vn11]))]) [4] rfl) 0 9 rfl rfl rfl hl.1 rfl (Nat.le_of_ble_eq_true rfl) (by decide) (by decide) dX8_drift_81 (fun r976 hq => ?_)
                  rcases hq with rfl | ⟨rfl, h974, h975⟩
                  · refine lv_if_eq (tgt := 104) hx hb dX8_drift_84 (by decide) (fun _ => ?_) (fun h => absurd h (by decide))
                    obtain ⟨v977, ev977⟩ : ∃ z : Int32, z = i969 + 1 := ⟨_, rfl⟩
                    refine lv_iinc (v := v977) (lv' := [(6, .int v977), (7, .int r973), (5, .int i949), (4, .int i927), (0, .ref w), (1, .ref v), (2, .int p1), (3, .int p2)]) hx hb dX8_drift_104 hl (k := 1) rfl (by rw [ev977]; rfl) (by decide) rfl (fun ls hl => ?_)
                    refine lv_goto (tgt := 62) hx hb dX8_drift_107 (by decide) ?_
                    have tv977 : v977.toInt = (i969 : Int32).toInt + (1 : Int32).toInt := add_i ev977 (by omega) (by omega)
                    exact ih_62 (i969 := v977) (g970 := g970) (hi_62 := by omega) (H := H) (locs := locs) (ls := ls) (hn_62 := by omega) (hP := hP) (hD := hD) (hS := hS) (hl := lv_sub hl [0, 2, 3, 4, 5, 6, 7] rfl)
                  · refine lv_if_eq (tgt := 104) hx hb dX8_drift_84 (by decide) (fun h => absurd h (by decide)) (fun _ => ?_)
                    refine lv_aload_n hx hb dX8_drift_87 rfl (lv_at hl 4 rfl) ?_
                    refine va_get (D := D) (ci := 7) (v := .ref wa2) (C := RX8) (T := TX8) (N := 3) hx hb hts in_X8 hown hE.1 hP 0 rfl rfl 2 (by decide) (hts _ w_156) (fun _ h9 => h9) rfl dX8_drift_88 ?_
                    refine lv_iload hx hb dX8_drift_91 (lv_at hl 0 rfl) ?_
                    refine lv_dup2_11 hx hb dX8_drift_93 rfl rfl ?_
                    refine va_iald hx hb hE.1 hP 3 1 rfl rfl (vp_in_iff.mpr (by omega)) dX8_drift_94 ?_
                    refine lv_topi (fun v978 ev978 => ?_)
                    refine lv_aload_n hx hb dX8_drift_95 rfl (lv_at hl 4 rfl) ?_
                    refine va_get (D := D) (ci := 7) (v := .ref wa1) (C := RX8) (T := TX8) (N := 3) hx hb hts in_X8 hown hE.1 hP 0 rfl rfl 1 (by decide) (hts _ w_139) (fun _ h9 => h9) rfl dX8_drift_96 ?_
                    refine lv_iload hx hb dX8_drift_99 (lv_at hl 2 rfl) ?_
                    refine va_iald hx hb hE.1 hP 2 1 rfl rfl (vp_in_iff.mpr (by omega)) dX8_drift_101 ?_
                    refine lv_topi (fun v979 ev979 => ?_)
                    refine lv_iadd hx hb dX8_drift_102 ?_
                    refine lv_topi (fun v980 ev980 => ?_)
                    refine sti hx hb hE.1 hP hD hS 3 1 rfl rfl (vp_in_iff.mpr (by omega)) dX8_drift_103 (fun g981 eg981 H locs hP hD hS => ?_)
                    replace hP : va_P D vwCl [(w, .inr (7, [.ref wa0, .ref wa1, .ref wa2])), (wa0, .inl (K 1, 10, .inl wf0)), (wa1, .inl (K 1, 10, .inl g928)), (wa2, .inl (K 1, 10, .inl g981)), (v, .inr (9, [.ref va0, .ref va1, .ref va2, .ref va3, .ref va4, .ref va5, .ref va6, .ref va7, .int vn8, .int vn9, .int vn10, .int vn11])), (va0, .inl (K 1, 40, .inl vf0))] H := hP
                    replace hD : va_D A [(w, .inr (7, [.ref wa0, .ref wa1, .ref wa2])), (wa0, .inl (K 1, 10, .inl wf0)), (wa1, .inl (K 1, 10, .inl g928)), (wa2, .inl (K 1, 10, .inl g981)), (v, .inr (9, [.ref va0, .ref va1, .ref va2, .ref va3, .ref va4, .ref va5, .ref va6, .ref va7, .int vn8, .int vn9, .int vn10, .int vn11])), (va0, .inl (K 1, 40, .inl vf0))] := hD
                    obtain ⟨v982, ev982⟩ : ∃ z : Int32, z = i969 + 1 := ⟨_, rfl⟩
                    refine lv_iinc (v := v982) (lv' := [(6, .int v982), (7, .int r973), (5, .int i949), (4, .int i927), (0, .ref w), (1, .ref v), (2, .int p1), (3, .int p2)]) hx hb dX8_drift_104 hl (k := 1) rfl (by rw [ev982]; rfl) (by decide) rfl (fun ls hl => ?_)
                    refine lv_goto (tgt := 62) hx hb dX8_drift_107 (by decide) ?_
                    have tv982 : v982.toInt = (i969 : Int32).toInt + (1 : Int32).toInt := add_i ev982 (by omega) (by omega)
                    exact ih_62 (i969 := v982) (g970 := g981) (hi_62 := by omega) (H := H) (locs := locs) (ls := ls) (hn_62 := by omega) (hP := hP) (hD := hD) (hS := hS) (hl := lv_sub hl [0, 2, 3, 4, 5, 6, 7] rfl)
  · refine lv_if_eq (tgt := 23) hx hb dX8_drift_13 (by decide) (fun h => absurd h (by decide)) (fun _ => ?_)
    refine lv_aload_n hx hb dX8_drift_16 rfl (lv_at hl 0 rfl) ?_
    refine va_get (D := D) (ci := 7) (v := .ref wa1) (C := RX8) (T := TX8) (N := 3) hx hb hts in_X8 hown hE.1 hP 0 rfl rfl 1 (by decide) (hts _ w_139) (fun _ h9 => h9) rfl dX8_drift_17 ?_
    refine lv_iload_n hx hb dX8_drift_20 rfl (lv_at hl 2 rfl) ?_
    refine lv_iconst (v := 1) hx hb dX8_drift_21 (by decide) ?_
    refine sti hx hb hE.1 hP hD hS 2 1 rfl rfl (vp_in_iff.mpr (by omega)) dX8_drift_22 (fun g983 eg983 H locs hP hD hS => ?_)
    replace hP : va_P D vwCl [(w, .inr (7, [.ref wa0, .ref wa1, .ref wa2])), (wa0, .inl (K 1, 10, .inl wf0)), (wa1, .inl (K 1, 10, .inl g983)), (wa2, .inl (K 1, 10, .inl wf2)), (v, .inr (9, [.ref va0, .ref va1, .ref va2, .ref va3, .ref va4, .ref va5, .ref va6, .ref va7, .int vn8, .int vn9, .int vn10, .int vn11])), (va0, .inl (K 1, 40, .inl vf0))] H := hP
    replace hD : va_D A [(w, .inr (7, [.ref wa0, .ref wa1, .ref wa2])), (wa0, .inl (K 1, 10, .inl wf0)), (wa1, .inl (K 1, 10, .inl g983)), (wa2, .inl (K 1, 10, .inl wf2)), (v, .inr (9, [.ref va0, .ref va1, .ref va2, .ref va3, .ref va4, .ref va5, .ref va6, .ref va7, .int vn8, .int vn9, .int vn10, .int vn11])), (va0, .inl (K 1, 40, .inl vf0))] := hD
    refine lv_iconst (v := 0) hx hb dX8_drift_23 (by decide) ?_
    refine lv_istore (lv' := [(4, .int 0), (0, .ref w), (1, .ref v), (2, .int p1), (3, .int p2)]) hx hb dX8_drift_24 hl (by decide) rfl (fun ls hl => ?_)
    have hl' := hl; have hP' := hP; have hD' := hD; clear hl hP hD
    obtain ⟨i1008, g1009, g1010, hi_26, hl, hP, hD⟩ : ∃ (i1008 : Int32) (g1009 : Nat → Int32) (g1010 : Nat → Int32), ((0 : Int) ≤ i1008.toInt) ∧ lv_has ls 8 [(4, .int i1008), (0, .ref w), (1, .ref v), (2, .int p1), (3, .int p2)] ∧ va_P D vwCl [(w, .inr (7, [.ref wa0, .ref wa1, .ref wa2])), (wa0, .inl (K 1, 10, .inl wf0)), (wa1, .inl (K 1, 10, .inl g1009)), (wa2, .inl (K 1, 10, .inl g1010)), (v, .inr (9, [.ref va0, .ref va1, .ref va2, .ref va3, .ref va4, .ref va5, .ref va6, .ref va7, .int vn8, .int vn9, .int vn10, .int vn11])), (va0, .inl (K 1, 40, .inl vf0))] H ∧ va_D A [(w, .inr (7, [.ref wa0, .ref wa1, .ref wa2])), (wa0, .inl (K 1, 10, .inl wf0)), (wa1, .inl (K 1, 10, .inl g1009)), (wa2, .inl (K 1, 10, .inl g1010)), (v, .inr (9, [.ref va0, .ref va1, .ref va2, .ref va3, .ref va4, .ref va5, .ref va6, .ref va7, .int vn8, .int vn9, .int vn10, .int vn11])), (va0, .inl (K 1, 40, .inl vf0))] := ⟨_, _, _, by omega, hl', hP', hD'⟩
    clear hl' hP' hD'
    have hb_26 := i32_hi p2
    obtain ⟨n_26, hn_26⟩ : ∃ n : Nat, (p2.toInt - i1008.toInt).toNat < n := ⟨_, Nat.lt_succ_self _⟩
    induction n_26 generalizing i1008 g1009 g1010 H locs ls with
    | zero => exact absurd hn_26 (Nat.not_lt_zero _)
    | succ n_26 ih_26 =>
      refine lv_iload hx hb dX8_drift_26 (lv_at hl 0 rfl) ?_
      refine lv_iload_n hx hb dX8_drift_28 rfl (lv_at hl 4 rfl) ?_
      refine lv_icmp_ge (tgt := 140) hx hb dX8_drift_29 (by decide) (fun c1011 => ?_) (fun c1011 => ?_)
      · replace c1011 := le_i c1011
        refine W.widen (k := 0) (n := 0) (by decide) (by decide) ?_
        exact ch_vret hC hr hk hS dX8_drift_140 ((fun k => [].getD k 0, fun k => [g1009, g1010].getD k (fun _ => 0), fun k => [].getD k (fun _ => 0)) : ((Nat → Int32) × (Nat → Nat → Int32) × (Nat → Nat → Int64))) trivial (hP.sub [0, 1, 2, 3, 4, 5] rfl) (hD.sub [0, 1, 2, 3, 4, 5] (by decide) rfl)
      · replace c1011 := nle_i c1011
        refine lv_aload_n hx hb dX8_drift_32 rfl (lv_at hl 1 rfl) ?_
        refine va_get (D := D) (ci := 7) (v := .ref wa2) (C := RX8) (T := TX8) (N := 3) hx hb hts in_X8 hown hE.1 hP 0 rfl rfl 2 (by decide) (hts _ w_156) (fun _ h9 => h9) rfl dX8_drift_33 ?_
        refine lv_iconst (v := 0) hx hb dX8_drift_36 (by decide) ?_
        refine cv_S (As := [.ref wa2, .int 0]) (rest := []) (wc := [(wa2, .inl (K 1, 10, .inl g1010))]) (wr := [(w, .inr (7, [.ref wa0, .ref wa1, .ref wa2])), (wa0, .inl (K 1, 10, .inl wf0)), (wa1, .inl (K 1, 10, .inl g1009)), (v, .inr (9, [.ref va0, .ref va1, .ref va2, .ref va3, .ref va4, .ref va5, .ref va6, .ref va7, .int vn8, .int vn9, .int vn10, .int vn11])), (va0, .inl (K 1, 40, .inl vf0))]) hC hE kS_X8_28 (c_J7_fill_10 l D K wa2 g1010 0) hP hD hS hA [3] [0, 1, 2, 4, 5] rfl rfl rfl (by decide) (by decide) (by decide) rfl hl.1 rfl (Nat.le_of_ble_eq_true rfl) (by decide) (by decide) dX8_drift_37 (fun u1012 H locs hw hP hD hS => ?_)
        replace hP : va_P D vwCl [(w, .inr (7, [.ref wa0, .ref wa1, .ref wa2])), (wa0, .inl (K 1, 10, .inl wf0)), (wa1, .inl (K 1, 10, .inl g1009)), (v, .inr (9, [.ref va0, .ref va1, .ref va2, .ref va3, .ref va4, .ref va5, .ref va6, .ref va7, .int vn8, .int vn9, .int vn10, .int vn11])), (va0, .inl (K 1, 40, .inl vf0)), (wa2, .inl (K 1, 10, .inl (u1012.2.1 0)))] H := hP
        replace hD : va_D A [(w, .inr (7, [.ref wa0, .ref wa1, .ref wa2])), (wa0, .inl (K 1, 10, .inl wf0)), (wa1, .inl (K 1, 10, .inl g1009)), (v, .inr (9, [.ref va0, .ref va1, .ref va2, .ref va3, .ref va4, .ref va5, .ref va6, .ref va7, .int vn8, .int vn9, .int vn10, .int vn11])), (va0, .inl (K 1, 40, .inl vf0)), (wa2, .inl (K 1, 10, .inl (u1012.2.1 0)))] := hD
        replace hP : va_P D vwCl [(w, .inr (7, [.ref wa0, .ref wa1, .ref wa2])), (wa0, .inl (K 1, 10, .inl wf0)), (wa1, .inl (K 1, 10, .inl g1009)), (wa2, .inl (K 1, 10, .inl (u1012.2.1 0))), (v, .inr (9, [.ref va0, .ref va1, .ref va2, .ref va3, .ref va4, .ref va5, .ref va6, .ref va7, .int vn8, .int vn9, .int vn10, .int vn11])), (va0, .inl (K 1, 40, .inl vf0))] H := hP.sub [0, 1, 2, 5, 3, 4] rfl
        replace hD : va_D A [(w, .inr (7, [.ref wa0, .ref wa1, .ref wa2])), (wa0, .inl (K 1, 10, .inl wf0)), (wa1, .inl (K 1, 10, .inl g1009)), (wa2, .inl (K 1, 10, .inl (u1012.2.1 0))), (v, .inr (9, [.ref va0, .ref va1, .ref va2, .ref va3, .ref va4, .ref va5, .ref va6, .ref va7, .int vn8, .int vn9, .int vn10, .int vn11])), (va0, .inl (K 1, 40, .inl vf0))] := hD.sub [0, 1, 2, 5, 3, 4] (by decide) rfl
        refine W.widen (k := 0) (n := 0) (by decide) (by decide) ?_
        refine lv_iconst (v := 0) hx hb dX8_drift_40 (by decide) ?_
        refine lv_istore (lv' := [(5, .int 0), (4, .int i1008), (0, .ref w), (1, .ref v), (2, .int p1), (3, .int p2)]) hx hb dX8_drift_41 hl (by decide) rfl (fun ls hl => ?_)
        have hl' := hl; have hP' := hP; have hD' := hD; clear hl hP hD
        obtain ⟨i1030, g1031, hi_43, hl, hP, hD⟩ : ∃ (i1030 : Int32) (g1031 : Nat → Int32), ((0 : Int) ≤ i1030.toInt) ∧ lv_has ls 8 [(5, .int i1030), (4, .int i1008), (0, .ref w), (1, .ref v), (2, .int p1), (3, .int p2)] ∧ va_P D vwCl [(w, .inr (7, [.ref wa0, .ref wa1, .ref wa2])), (wa0, .inl (K 1, 10, .inl wf0)), (wa1, .inl (K 1, 10, .inl g1009)), (wa2, .inl (K 1, 10, .inl g1031)), (v, .inr (9, [.ref va0, .ref va1, .ref va2, .ref va3, .ref va4, .ref va5, .ref va6, .ref va7, .int vn8, .int vn9, .int vn10, .int vn11])), (va0, .inl (K 1, 40, .inl vf0))] H ∧ va_D A [(w, .inr (7, [.ref wa0, .ref wa1, .ref wa2])), (wa0, .inl (K 1, 10, .inl wf0)), (wa1, .inl (K 1, 10, .inl g1009)), (wa2, .inl (K 1, 10, .inl g1031)), (v, .inr (9, [.ref va0, .ref va1, .ref va2, .ref va3, .ref va4, .ref va5, .ref va6, .ref va7, .int vn8, .int vn9, .int vn10, .int vn11])), (va0, .inl (K 1, 40, .inl vf0))] := ⟨_, _, by omega, hl', hP', hD'⟩
        clear hl' hP' hD'
        obtain ⟨n_43, hn_43⟩ : ∃ n : Nat, (10 - i1030.toInt).toNat < n := ⟨_, Nat.lt_succ_self _⟩
        induction n_43 generalizing i1030 g1031 H locs ls with
        | zero => exact absurd hn_43 (Nat.not_lt_zero _)
        | succ n_43 ih_43 =>
          refine lv_iload hx hb dX8_drift_43 (lv_at hl 0 rfl) ?_
          refine lv_aload_n hx hb dX8_drift_45 rfl (lv_at hl 3 rfl) ?_
          refine va_get (D := D) (ci := 9) (v := .int vn8) (C := RX10) (T := TX10) (N := 12) hx hb hts in_X10 hown hE.1 hP 4 rfl rfl 8 (by decide) (hts _ w_149) (fun _ h9 => h9) rfl dX8_drift_46 ?_
          refine lv_icmp_ge (tgt := 116) hx hb dX8_drift_49 (by decide) (fun c1032 => ?_) (fun c1032 => ?_)
          · replace c1032 := le_i c1032
            refine lv_aload_n hx hb dX8_drift_116 rfl (lv_at hl 2 rfl) ?_
            refine va_get (D := D) (ci := 7) (v := .ref wa2) (C := RX8) (T := TX8) (N := 3) hx hb hts in_X8 hown hE.1 hP 0 rfl rfl 2 (by decide) (hts _ w_156) (fun _ h9 => h9) rfl dX8_drift_117 ?_
            refine lv_iconst (v := 0) hx hb dX8_drift_120 (by decide) ?_
            refine lv_aload_n hx hb dX8_drift_121 rfl (lv_at hl 2 rfl) ?_
            refine va_get (D := D) (ci := 7) (v := .ref wa1) (C := RX8) (T := TX8) (N := 3) hx hb hts in_X8 hown hE.1 hP 0 rfl rfl 1 (by decide) (hts _ w_139) (fun _ h9 => h9) rfl dX8_drift_122 ?_
            refine lv_iconst (v := 0) hx hb dX8_drift_125 (by decide) ?_
            refine lv_aload_n hx hb dX8_drift_126 rfl (lv_at hl 2 rfl) ?_
            refine va_get (D := D) (ci := 7) (v := .ref wa1) (C := RX8) (T := TX8) (N := 3) hx hb hts in_X8 hown hE.1 hP 0 rfl rfl 1 (by decide) (hts _ w_139) (fun _ h9 => h9) rfl dX8_drift_127 ?_
            refine va_alen (v := 10) hx hb hE.1 hP 2 1 rfl rfl (show Int32.ofNat 10 = 10 by decide) dX8_drift_130 ?_
            refine cpi hC hE hl.1 w_157 w_81 w_82 w_83 hP hD hS 3 2 rfl rfl (by decide) (by decide) (by decide) (by decide) (by decide) (by decide) (Nat.le_of_ble_eq_true rfl) dX8_drift_131 (fun g1033 H locs hP hD hS => ?_)
            replace hP : va_P D vwCl [(w, .inr (7, [.ref wa0, .ref wa1, .ref wa2])), (wa0, .inl (K 1, 10, .inl wf0)), (wa1, .inl (K 1, 10, .inl g1033)), (wa2, .inl (K 1, 10, .inl g1031)), (v, .inr (9, [.ref va0, .ref va1, .ref va2, .ref va3, .ref va4, .ref va5, .ref va6, .ref va7, .int vn8, .int vn9, .int vn10, .int vn11])), (va0, .inl (K 1, 40, .inl vf0))] H := hP
            replace hD : va_D A [(w, .inr (7, [.ref wa0, .ref wa1, .ref wa2])), (wa0, .inl (K 1, 10, .inl wf0)), (wa1, .inl (K 1, 10, .inl g1033)), (wa2, .inl (K 1, 10, .inl g1031)), (v, .inr (9, [.ref va0, .ref va1, .ref va2, .ref va3, .ref va4, .ref va5, .ref va6, .ref va7, .int vn8, .int vn9, .int vn10, .int vn11])), (va0, .inl (K 1, 40, .inl vf0))] := hD
            obtain ⟨v1034, ev1034⟩ : ∃ z : Int32, z = i1008 + 1 := ⟨_, rfl⟩
            refine lv_iinc (v := v1034) (lv' := [(4, .int v1034), (5, .int i1030), (0, .ref w), (1, .ref v), (2, .int p1), (3, .int p2)]) hx hb dX8_drift_134 hl (k := 1) rfl (by rw [ev1034]; rfl) (by decide) rfl (fun ls hl => ?_)
            refine lv_goto (tgt := 26) hx hb dX8_drift_137 (by decide) ?_
            have tv1034 : v1034.toInt = (i1008 : Int32).toInt + (1 : Int32).toInt := add_i ev1034 (by omega) (by omega)
            exact ih_26 (i1008 := v1034) (g1009 := g1033) (g1010 := g1031) (hi_26 := by omega) (H := H) (locs := locs) (ls := ls) (hn_26 := by omega) (hP := hP) (hD := hD) (hS := hS) (hl := lv_sub hl [0, 2, 3, 4, 5] rfl)
          · replace c1032 := nle_i c1032
            refine lv_iload hx hb dX8_drift_52 (lv_at hl 0 rfl) ?_
            refine lv_bipush (v := 10) hx hb dX8_drift_54 (by decide) ?_
            refine lv_icmp_ge (tgt := 116) hx hb dX8_drift_56 (by decide) (fun c1035 => ?_) (fun c1035 => ?_)
            · replace c1035 := le_i c1035
              refine lv_aload_n hx hb dX8_drift_116 rfl (lv_at hl 2 rfl) ?_
              refine va_get (D := D) (ci := 7) (v := .ref wa2) (C := RX8) (T := TX8) (N := 3) hx hb hts in_X8 hown hE.1 hP 0 rfl rfl 2 (by decide) (hts _ w_156) (fun _ h9 => h9) rfl dX8_drift_117 ?_
              refine lv_iconst (v := 0) hx hb dX8_drift_120 (by decide) ?_
              refine lv_aload_n hx hb dX8_drift_121 rfl (lv_at hl 2 rfl) ?_
              refine va_get (D := D) (ci := 7) (v := .ref wa1) (C := RX8) (T := TX8) (N := 3) hx hb hts in_X8 hown hE.1 hP 0 rfl rfl 1 (by decide) (hts _ w_139) (fun _ h9 => h9) rfl dX8_drift_122 ?_
              refine lv_iconst (v := 0) hx hb dX8_drift_125 (by decide) ?_
              refine lv_aload_n hx hb dX8_drift_126 rfl (lv_at hl 2 rfl) ?_
              refine va_get (D := D) (ci := 7) (v := .ref wa1) (C := RX8) (T := TX8) (N := 3) hx hb hts in_X8 hown hE.1 hP 0 rfl rfl 1 (by decide) (hts _ w_139) (fun _ h9 => h9) rfl dX8_drift_127 ?_
              refine va_alen (v := 10) hx hb hE.1 hP 2 1 rfl rfl (show Int32.ofNat 10 = 10 by decide) dX8_drift_130 ?_
              refine cpi hC hE hl.1 w_157 w_81 w_82 w_83 hP hD hS 3 2 rfl rfl (by decide) (by decide) (by decide) (by decide) (by decide) (by decide) (Nat.le_of_ble_eq_true rfl) dX8_drift_131 (fun g1036 H locs hP hD hS => ?_)
              replace hP : va_P D vwCl [(w, .inr (7, [.ref wa0, .ref wa1, .ref wa2])), (wa0, .inl (K 1, 10, .inl wf0)), (wa1, .inl (K 1, 10, .inl g1036)), (wa2, .inl (K 1, 10, .inl g1031)), (v, .inr (9, [.ref va0, .ref va1, .ref va2, .ref va3, .ref va4, .ref va5, .ref va6, .ref va7, .int vn8, .int vn9, .int vn10, .int vn11])), (va0, .inl (K 1, 40, .inl vf0))] H := hP
              replace hD : va_D A [(w, .inr (7, [.ref wa0, .ref wa1, .ref wa2])), (wa0, .inl (K 1, 10, .inl wf0)), (wa1, .inl (K 1, 10, .inl g1036)), (wa2, .inl (K 1, 10, .inl g1031)), (v, .inr (9, [.ref va0, .ref va1, .ref va2, .ref va3, .ref va4, .ref va5, .ref va6, .ref va7, .int vn8, .int vn9, .int vn10, .int vn11])), (va0, .inl (K 1, 40, .inl vf0))] := hD
              obtain ⟨v1037, ev1037⟩ : ∃ z : Int32, z = i1008 + 1 := ⟨_, rfl⟩
              refine lv_iinc (v := v1037) (lv' := [(4, .int v1037), (5, .int i1030), (0, .ref w), (1, .ref v), (2, .int p1), (3, .int p2)]) hx hb dX8_drift_134 hl (k := 1) rfl (by rw [ev1037]; rfl) (by decide) rfl (fun ls hl => ?_)
              refine lv_goto (tgt := 26) hx hb dX8_drift_137 (by decide) ?_
              have tv1037 : v1037.toInt = (i1008 : Int32).toInt + (1 : Int32).toInt := add_i ev1037 (by omega) (by omega)
              exact ih_26 (i1008 := v1037) (g1009 := g1036) (g1010 := g1031) (hi_26 := by omega) (H := H) (locs := locs) (ls := ls) (hn_26 := by omega) (hP := hP) (hD := hD) (hS := hS) (hl := lv_sub hl [0, 2, 3, 4, 5] rfl)
            · replace c1035 := nle_i c1035
              refine lv_iconst (v := 0) hx hb dX8_drift_59 (by decide) ?_
              refine lv_istore (lv' := [(6, .int 0), (5, .int i1030), (4, .int i1008), (0, .ref w), (1, .ref v), (2, .int p1), (3, .int p2)]) hx hb dX8_drift_60 hl (by decide) rfl (fun ls hl => ?_)
              have hl' := hl; have hP' := hP; have hD' := hD; clear hl hP hD
              obtain ⟨i1050, g1051, hi_62, hl, hP, hD⟩ : ∃ (i1050 : Int32) (g1051 : Nat → Int32), ((0 : Int) ≤ i1050.toInt) ∧ lv_has ls 8 [(6, .int i1050), (5, .int i1030), (4, .int i1008), (0, .ref w), (1, .ref v), (2, .int p1), (3, .int p2)] ∧ va_P D vwCl [(w, .inr (7, [.ref wa0, .ref wa1, .ref wa2])), (wa0, .inl (K 1, 10, .inl wf0)), (wa1, .inl (K 1, 10, .inl g1009)), (wa2, .inl (K 1, 10, .inl g1051)), (v, .inr (9, [.ref va0, .ref va1, .ref va2, .ref va3, .ref va4, .ref va5, .ref va6, .ref va7, .int vn8, .int vn9, .int vn10, .int vn11])), (va0, .inl (K 1, 40, .inl vf0))] H ∧ va_D A [(w, .inr (7, [.ref wa0, .ref wa1, .ref wa2])), (wa0, .inl (K 1, 10, .inl wf0)), (wa1, .inl (K 1, 10, .inl g1009)), (wa2, .inl (K 1, 10, .inl g1051)), (v, .inr (9, [.ref va0, .ref va1, .ref va2, .ref va3, .ref va4, .ref va5, .ref va6, .ref va7, .int vn8, .int vn9, .int vn10, .int vn11])), (va0, .inl (K 1, 40, .inl vf0))] := ⟨_, _, by omega, hl', hP', hD'⟩
              clear hl' hP' hD'
              obtain ⟨n_62, hn_62⟩ : ∃ n : Nat, (4 - i1050.toInt).toNat < n := ⟨_, Nat.lt_succ_self _⟩
              induction n_62 generalizing i1050 g1051 H locs ls with
              | zero => exact absurd hn_62 (Nat.not_lt_zero _)
              | succ n_62 ih_62 =>
                refine lv_iload hx hb dX8_drift_62 (lv_at hl 0 rfl) ?_
                refine lv_iconst (v := 4) hx hb dX8_drift_64 (by decide) ?_
                refine lv_icmp_ge (tgt := 110) hx hb dX8_drift_65 (by decide) (fun c1052 => ?_) (fun c1052 => ?_)
                · replace c1052 := le_i c1052
                  obtain ⟨v1053, ev1053⟩ : ∃ z : Int32, z = i1030 + 1 := ⟨_, rfl⟩
                  refine lv_iinc (v := v1053) (lv' := [(5, .int v1053), (6, .int i1050), (4, .int i1008), (0, .ref w), (1, .ref v), (2, .int p1), (3, .int p2)]) hx hb dX8_drift_110 hl (k := 1) rfl (by rw [ev1053]; rfl) (by decide) rfl (fun ls hl => ?_)
                  refine lv_goto (tgt := 43) hx hb dX8_drift_113 (by decide) ?_
                  have tv1053 : v1053.toInt = (i1030 : Int32).toInt + (1 : Int32).toInt := add_i ev1053 (by omega) (by omega)
                  exact ih_43 (i1030 := v1053) (g1031 := g1051) (hi_43 := by omega) (H := H) (locs := locs) (ls := ls) (hn_43 := by omega) (hP := hP) (hD := hD) (hS := hS) (hl := lv_sub hl [0, 2, 3, 4, 5, 6] rfl)
                · replace c1052 := nle_i c1052
                  refine lv_aload_n hx hb dX8_drift_68 rfl (lv_at hl 4 rfl) ?_
                  refine lv_iload hx hb dX8_drift_69 (lv_at hl 1 rfl) ?_
                  refine lv_iload hx hb dX8_drift_71 (lv_at hl 0 rfl) ?_
                  refine ro_V (As := [.int i1030, .int i1050]) (rest := []) hC hE kV_X8_42 (c_X10_after l D K v va0 va1 va2 va3 va4 va5 va6 va7 vn8 vn9 vn10 vn11 vf0 i1030 i1050) (hP.sub (ws' := [(v, .inr (9, [.ref va0, .ref va1, .ref va2, .ref va3, .ref va4, .ref va5, .ref va6, .ref va7, .int vn8, .int vn9, .int vn10, .int vn11])), (va0, .inl (K 1, 40, .inl vf0))]) [4, 5] rfl) 0 9 rfl rfl rfl hl.1 rfl (Nat.le_of_ble_eq_true rfl) (by decide) (by decide) dX8_drift_73 (fun r1054 _ => ?_)
                  refine lv_istore (lv' := [(7, .int r1054), (6, .int i1050), (5, .int i1030), (4, .int i1008), (0, .ref w), (1, .ref v), (2, .int p1), (3, .int p2)]) hx hb dX8_drift_76 hl (by decide) rfl (fun ls hl => ?_)
                  refine lv_aload_n hx hb dX8_drift_78 rfl (lv_at hl 5 rfl) ?_
                  refine lv_iload hx hb dX8_drift_79 (lv_at hl 0 rfl) ?_
                  refine ro_V (As := [.int r1054]) (rest := []) hC hE kV_X8_21 (c_X10_hasPlace l D K v va0 va1 va2 va3 va4 va5 va6 va7 vn8 vn9 vn10 vn11 r1054) (hP.sub (ws' := [(v, .inr (9, [.ref va0, .ref va1, .ref va2, .ref va3, .ref va4, .ref va5, .ref va6, .ref va7, .int vn8, .int vn9, .int vn10, .int vn11]))]) [4] rfl) 0 9 rfl rfl rfl hl.1 rfl (Nat.le_of_ble_eq_true rfl) (by decide) (by decide) dX8_drift_81 (fun r1057 hq => ?_)
                  rcases hq with rfl | ⟨rfl, h1055, h1056⟩
                  · refine lv_if_eq (tgt := 104) hx hb dX8_drift_84 (by decide) (fun _ => ?_) (fun h => absurd h (by decide))
                    obtain ⟨v1058, ev1058⟩ : ∃ z : Int32, z = i1050 + 1 := ⟨_, rfl⟩
                    refine lv_iinc (v := v1058) (lv' := [(6, .int v1058), (7, .int r1054), (5, .int i1030), (4, .int i1008), (0, .ref w), (1, .ref v), (2, .int p1), (3, .int p2)]) hx hb dX8_drift_104 hl (k := 1) rfl (by rw [ev1058]; rfl) (by decide) rfl (fun ls hl => ?_)
                    refine lv_goto (tgt := 62) hx hb dX8_drift_107 (by decide) ?_
                    have tv1058 : v1058.toInt = (i1050 : Int32).toInt + (1 : Int32).toInt := add_i ev1058 (by omega) (by omega)
                    exact ih_62 (i1050 := v1058) (g1051 := g1051) (hi_62 := by omega) (H := H) (locs := locs) (ls := ls) (hn_62 := by omega) (hP := hP) (hD := hD) (hS := hS) (hl := lv_sub hl [0, 2, 3, 4, 5, 6, 7] rfl)
                  · refine lv_if_eq (tgt := 104) hx hb dX8_drift_84 (by decide) (fun h => absurd h (by decide)) (fun _ => ?_)
                    refine lv_aload_n hx hb dX8_drift_87 rfl (lv_at hl 4 rfl) ?_
                    refine va_get (D := D) (ci := 7) (v := .ref wa2) (C := RX8) (T := TX8) (N := 3) hx hb hts in_X8 hown hE.1 hP 0 rfl rfl 2 (by decide) (hts _ w_156) (fun _ h9 => h9) rfl dX8_drift_88 ?_
                    refine lv_iload hx hb dX8_drift_91 (lv_at hl 0 rfl) ?_
                    refine lv_dup2_11 hx hb dX8_drift_93 rfl rfl ?_
                    refine va_iald hx hb hE.1 hP 3 1 rfl rfl (vp_in_iff.mpr (by omega)) dX8_drift_94 ?_
                    refine lv_topi (fun v1059 ev1059 => ?_)
                    refine lv_aload_n hx hb dX8_drift_95 rfl (lv_at hl 4 rfl) ?_
                    refine va_get (D := D) (ci := 7) (v := .ref wa1) (C := RX8) (T := TX8) (N := 3) hx hb hts in_X8 hown hE.1 hP 0 rfl rfl 1 (by decide) (hts _ w_139) (fun _ h9 => h9) rfl dX8_drift_96 ?_
                    refine lv_iload hx hb dX8_drift_99 (lv_at hl 2 rfl) ?_
                    refine va_iald hx hb hE.1 hP 2 1 rfl rfl (vp_in_iff.mpr (by omega)) dX8_drift_101 ?_
                    refine lv_topi (fun v1060 ev1060 => ?_)
                    refine lv_iadd hx hb dX8_drift_102 ?_
                    refine lv_topi (fun v1061 ev1061 => ?_)
                    refine sti hx hb hE.1 hP hD hS 3 1 rfl rfl (vp_in_iff.mpr (by omega)) dX8_drift_103 (fun g1062 eg1062 H locs hP hD hS => ?_)
                    replace hP : va_P D vwCl [(w, .inr (7, [.ref wa0, .ref wa1, .ref wa2])), (wa0, .inl (K 1, 10, .inl wf0)), (wa1, .inl (K 1, 10, .inl g1009)), (wa2, .inl (K 1, 10, .inl g1062)), (v, .inr (9, [.ref va0, .ref va1, .ref va2, .ref va3, .ref va4, .ref va5, .ref va6, .ref va7, .int vn8, .int vn9, .int vn10, .int vn11])), (va0, .inl (K 1, 40, .inl vf0))] H := hP
                    replace hD : va_D A [(w, .inr (7, [.ref wa0, .ref wa1, .ref wa2])), (wa0, .inl (K 1, 10, .inl wf0)), (wa1, .inl (K 1, 10, .inl g1009)), (wa2, .inl (K 1, 10, .inl g1062)), (v, .inr (9, [.ref va0, .ref va1, .ref va2, .ref va3, .ref va4, .ref va5, .ref va6, .ref va7, .int vn8, .int vn9, .int vn10, .int vn11])), (va0, .inl (K 1, 40, .inl vf0))] := hD
                    obtain ⟨v1063, ev1063⟩ : ∃ z : Int32, z = i1050 + 1 := ⟨_, rfl⟩
                    refine lv_iinc (v := v1063) (lv' := [(6, .int v1063), (7, .int r1054), (5, .int i1030), (4, .int i1008), (0, .ref w), (1, .ref v), (2, .int p1), (3, .int p2)]) hx hb dX8_drift_104 hl (k := 1) rfl (by rw [ev1063]; rfl) (by decide) rfl (fun ls hl => ?_)
                    refine lv_goto (tgt := 62) hx hb dX8_drift_107 (by decide) ?_
                    have tv1063 : v1063.toInt = (i1050 : Int32).toInt + (1 : Int32).toInt := add_i ev1063 (by omega) (by omega)
                    exact ih_62 (i1050 := v1063) (g1051 := g1062) (hi_62 := by omega) (H := H) (locs := locs) (ls := ls) (hn_62 := by omega) (hP := hP) (hD := hD) (hS := hS) (hl := lv_sub hl [0, 2, 3, 4, 5, 6, 7] rfl)
set_option maxRecDepth 40000 in
set_option maxHeartbeats 4000000 in
theorem c_X3_isEven (l : Launch) (D : va_G) (K : Nat → ClassId) (w : Nat) (wa0 : Nat) (wa1 : Nat) (wa2 : Nat) (wn3 : Int32) (wn4 : Int32) (wf2 : Nat → Int32) (p0 : Int32) : Ro l D K yX3_isEven cX3_isEven 3 (some .boolean) 2 41 [.ref w, .int p0] [(w, .inr (3, [.ref wa0, .ref wa1, .ref wa2, .int wn3, .int wn4])), (wa2, .inl (K 1, 10, .inl wf2))] (fun r => (r = 0) ∨ (r = 1)) := by
  refine ro_of (by decide) (Nat.le_of_ble_eq_true rfl) ?_
  intro p e s m below meth c hC hr hk hE hP ls hl
  replace hC : CallFix p m c cX3_isEven 3 s [.ref w, .int p0].toArray wl RX3 := hC
  have hx := hC.1
  have hb := hC.2.1
  have hml := hC.2.2.1
  have hown := hC.2.2.2.1
  have hts := hC.2.2.2.2
  replace hl : lv_has ls 3 [(0, .ref w), (1, .int p0)] := hl
  have kc_0 : (0 : Int32).toInt = 0 := by decide
  have kc_10 : (10 : Int32).toInt = 10 := by decide
  refine lv_iload_n hx hb dX3_isEven_0 rfl (lv_at hl 1 rfl) ?_
  refine ro_SN (As := [.int p0]) (rest := []) hC hE kSN_X3_65 (c_X11_lowest l D K p0) (hP.sub (ws' := []) [] rfl) rfl hl.1 rfl (Nat.le_of_ble_eq_true rfl) (by decide) (by decide) dX3_isEven_1 (fun r1064 _ => ?_)
  refine lv_istore_n (lv' := [(2, .int r1064), (0, .ref w), (1, .int p0)]) hx hb dX3_isEven_4 rfl hl (by decide) rfl (fun ls hl => ?_)
  refine lv_iload_n hx hb dX3_isEven_5 rfl (lv_at hl 0 rfl) ?_
  refine lv_if_lt (tgt := 32) hx hb dX3_isEven_6 (by decide) (fun c1065 => ?_) (fun c1065 => ?_)
  · replace c1065 := lt_i c1065
    refine lv_iconst (v := 0) hx hb dX3_isEven_32 (by decide) ?_
    exact ro_zret hC hr hk dX3_isEven_33 rfl (Or.inl rfl)
  · replace c1065 := nlt_i c1065
    refine lv_iload_n hx hb dX3_isEven_9 rfl (lv_at hl 0 rfl) ?_
    refine lv_bipush (v := 10) hx hb dX3_isEven_10 (by decide) ?_
    refine lv_icmp_ge (tgt := 32) hx hb dX3_isEven_12 (by decide) (fun c1066 => ?_) (fun c1066 => ?_)
    · replace c1066 := le_i c1066
      refine lv_iconst (v := 0) hx hb dX3_isEven_32 (by decide) ?_
      exact ro_zret hC hr hk dX3_isEven_33 rfl (Or.inl rfl)
    · replace c1066 := nle_i c1066
      refine lv_iload_n hx hb dX3_isEven_15 rfl (lv_at hl 2 rfl) ?_
      refine lv_aload_n hx hb dX3_isEven_16 rfl (lv_at hl 1 rfl) ?_
      refine va_get (D := D) (ci := 3) (v := .ref wa2) (C := RX3) (T := TX3) (N := 5) hx hb hts in_X3 hown hE.1 hP 0 rfl rfl 2 (by decide) (hts _ w_165) (fun _ h9 => h9) rfl dX3_isEven_17 ?_
      refine lv_iload_n hx hb dX3_isEven_20 rfl (lv_at hl 0 rfl) ?_
      refine va_iald hx hb hE.1 hP 1 1 rfl rfl (vp_in_iff.mpr (by omega)) dX3_isEven_21 ?_
      refine lv_topi (fun v1067 ev1067 => ?_)
      refine lv_iconst (v := (-1)) hx hb dX3_isEven_22 (by decide) ?_
      refine lv_ixor hx hb dX3_isEven_23 ?_
      refine lv_topi (fun v1068 ev1068 => ?_)
      refine lv_iand hx hb dX3_isEven_24 ?_
      refine lv_topi (fun v1069 ev1069 => ?_)
      refine lv_if_ne (tgt := 32) hx hb dX3_isEven_25 (by decide) (fun c1070 => ?_) (fun c1070 => ?_)
      · replace c1070 := ne_i c1070
        refine lv_iconst (v := 0) hx hb dX3_isEven_32 (by decide) ?_
        exact ro_zret hC hr hk dX3_isEven_33 rfl (Or.inl rfl)
      · replace c1070 := eq_i c1070
        refine lv_iconst (v := 1) hx hb dX3_isEven_28 (by decide) ?_
        refine lv_goto (tgt := 33) hx hb dX3_isEven_29 (by decide) ?_
        exact ro_zret hC hr hk dX3_isEven_33 rfl (Or.inr rfl)
set_option maxRecDepth 40000 in
set_option maxHeartbeats 4000000 in
theorem c_X3_deepest (l : Launch) (D : va_G) (K : Nat → ClassId) (w : Nat) (wa0 : Nat) (wa1 : Nat) (wa2 : Nat) (wn3 : Int32) (wn4 : Int32) (wf0 : Nat → Int32) (wf2 : Nat → Int32) (p0 : Int32) : Ro l D K yX3_deepest cX3_deepest 6 (some .int) 1 13 [.ref w, .int p0] [(w, .inr (3, [.ref wa0, .ref wa1, .ref wa2, .int wn3, .int wn4])), (wa0, .inl (K 1, 1024, .inl wf0)), (wa2, .inl (K 1, 10, .inl wf2))] (fun _ => True) := by
  refine ro_of (by decide) (Nat.le_of_ble_eq_true rfl) ?_
  intro p e s m below meth c hC hr hk hE hP ls hl
  replace hC : CallFix p m c cX3_deepest 6 s [.ref w, .int p0].toArray wl RX3 := hC
  have hx := hC.1
  have hb := hC.2.1
  have hml := hC.2.2.1
  have hown := hC.2.2.2.1
  have hts := hC.2.2.2.2
  replace hl : lv_has ls 6 [(0, .ref w), (1, .int p0)] := hl
  have kc_m1 : (-1 : Int32).toInt = -1 := by decide
  have kc_0 : (0 : Int32).toInt = 0 := by decide
  have kc_1 : (1 : Int32).toInt = 1 := by decide
  have kc_10 : (10 : Int32).toInt = 10 := by decide
  have kc_1023 : (1023 : Int32).toInt = 1023 := by decide
  refine lv_iconst (v := 0) hx hb dX3_deepest_0 (by decide) ?_
  refine lv_istore_n (lv' := [(2, .int 0), (0, .ref w), (1, .int p0)]) hx hb dX3_deepest_1 rfl hl (by decide) rfl (fun ls hl => ?_)
  refine lv_iload_n hx hb dX3_deepest_2 rfl (lv_at hl 2 rfl) ?_
  refine lv_aload_n hx hb dX3_deepest_3 rfl (lv_at hl 1 rfl) ?_
  refine va_get (D := D) (ci := 3) (v := .int wn3) (C := RX3) (T := TX3) (N := 5) hx hb hts in_X3 hown hE.1 hP 0 rfl rfl 3 (by decide) (hts _ w_166) (fun _ h9 => h9) rfl dX3_deepest_4 ?_
  refine lv_iand hx hb dX3_deepest_7 ?_
  refine lv_topi (fun v1071 ev1071 => ?_)
  refine lv_istore_n (lv' := [(3, .int v1071), (2, .int 0), (0, .ref w), (1, .int p0)]) hx hb dX3_deepest_8 rfl hl (by decide) rfl (fun ls hl => ?_)
  refine lv_iconst (v := 0) hx hb dX3_deepest_9 (by decide) ?_
  refine lv_istore (lv' := [(4, .int 0), (3, .int v1071), (2, .int 0), (0, .ref w), (1, .int p0)]) hx hb dX3_deepest_10 hl (by decide) rfl (fun ls hl => ?_)
  have hl' := hl; clear hl
  obtain ⟨i1091, i1092, i1093, hi_12, hl⟩ : ∃ (i1091 : Int32) (i1092 : Int32) (i1093 : Int32), ((0 : Int) ≤ i1091.toInt) ∧ lv_has ls 6 [(4, .int i1091), (3, .int i1092), (2, .int i1093), (0, .ref w), (1, .int p0)] := ⟨_, _, _, by omega, hl'⟩
  clear hl'
  obtain ⟨n_12, hn_12⟩ : ∃ n : Nat, (10 - i1091.toInt).toNat < n := ⟨_, Nat.lt_succ_self _⟩
  induction n_12 generalizing i1091 i1092 i1093 ls with
  | zero => exact absurd hn_12 (Nat.not_lt_zero _)
  | succ n_12 ih_12 =>
    refine lv_iload hx hb dX3_deepest_12 (lv_at hl 0 rfl) ?_
    refine lv_bipush (v := 10) hx hb dX3_deepest_14 (by decide) ?_
    refine lv_icmp_ge (tgt := 88) hx hb dX3_deepest_16 (by decide) (fun c1094 => ?_) (fun c1094 => ?_)
    · replace c1094 := le_i c1094
      refine lv_iload_n hx hb dX3_deepest_88 rfl (lv_at hl 2 rfl) ?_
      exact ro_ret hC hr hk dX3_deepest_89 trivial
    · replace c1094 := nle_i c1094
      refine lv_iload_n hx hb dX3_deepest_19 rfl (lv_at hl 1 rfl) ?_
      refine lv_if_eq (tgt := 88) hx hb dX3_deepest_20 (by decide) (fun c1095 => ?_) (fun c1095 => ?_)
      · replace c1095 := eq_i c1095
        refine lv_iload_n hx hb dX3_deepest_88 rfl (lv_at hl 2 rfl) ?_
        exact ro_ret hC hr hk dX3_deepest_89 trivial
      · replace c1095 := ne_i c1095
        refine lv_iload_n hx hb dX3_deepest_23 rfl (lv_at hl 1 rfl) ?_
        refine lv_iload hx hb dX3_deepest_24 (lv_at hl 0 rfl) ?_
        refine lv_ishr hx hb dX3_deepest_26 ?_
        refine lv_topi (fun v1096 ev1096 => ?_)
        refine lv_iconst (v := 1) hx hb dX3_deepest_27 (by decide) ?_
        refine lv_iand hx hb dX3_deepest_28 ?_
        refine lv_topi (fun v1097 ev1097 => ?_)
        have tv1097 : 0 ≤ v1097.toInt ∧ v1097.toInt ≤ 1 := and_i2 ev1097 (by decide) (by decide)
        refine lv_if_ne (tgt := 35) hx hb dX3_deepest_29 (by decide) (fun c1098 => ?_) (fun c1098 => ?_)
        · replace c1098 := ne_i c1098
          refine lv_aload_n hx hb dX3_deepest_35 rfl (lv_at hl 3 rfl) ?_
          refine va_get (D := D) (ci := 3) (v := .ref wa0) (C := RX3) (T := TX3) (N := 5) hx hb hts in_X3 hown hE.1 hP 0 rfl rfl 0 (by decide) (hts _ w_167) (fun _ h9 => h9) rfl dX3_deepest_36 ?_
          refine lv_iload_n hx hb dX3_deepest_39 rfl (lv_at hl 1 rfl) ?_
          refine lv_aload_n hx hb dX3_deepest_40 rfl (lv_at hl 3 rfl) ?_
          refine va_get (D := D) (ci := 3) (v := .ref wa2) (C := RX3) (T := TX3) (N := 5) hx hb hts in_X3 hown hE.1 hP 0 rfl rfl 2 (by decide) (hts _ w_165) (fun _ h9 => h9) rfl dX3_deepest_41 ?_
          refine lv_iload hx hb dX3_deepest_44 (lv_at hl 0 rfl) ?_
          refine va_iald hx hb hE.1 hP 2 1 rfl rfl (vp_in_iff.mpr (by omega)) dX3_deepest_46 ?_
          refine lv_topi (fun v1099 ev1099 => ?_)
          refine lv_iand hx hb dX3_deepest_47 ?_
          refine lv_topi (fun v1100 ev1100 => ?_)
          refine lv_sipush (v := 1023) hx hb dX3_deepest_48 (by decide) ?_
          refine lv_iand hx hb dX3_deepest_51 ?_
          refine lv_topi (fun v1101 ev1101 => ?_)
          have tv1101 : 0 ≤ v1101.toInt ∧ v1101.toInt ≤ 1023 := and_i2 ev1101 (by decide) (by decide)
          refine va_iald hx hb hE.1 hP 1 1 rfl rfl (vp_in_iff.mpr (by omega)) dX3_deepest_52 ?_
          refine lv_topi (fun v1102 ev1102 => ?_)
          refine lv_istore (lv' := [(5, .int v1102), (4, .int i1091), (3, .int i1092), (2, .int i1093), (0, .ref w), (1, .int p0)]) hx hb dX3_deepest_53 hl (by decide) rfl (fun ls hl => ?_)
          refine lv_iload hx hb dX3_deepest_55 (lv_at hl 0 rfl) ?_
          refine lv_iconst (v := (-1)) hx hb dX3_deepest_57 (by decide) ?_
          refine lv_icmp_ne (tgt := 63) hx hb dX3_deepest_58 (by decide) (fun c1103 => ?_) (fun c1103 => ?_)
          · replace c1103 := ne_i c1103
            refine lv_iload_n hx hb dX3_deepest_63 rfl (lv_at hl 3 rfl) ?_
            refine lv_iload hx hb dX3_deepest_64 (lv_at hl 0 rfl) ?_
            refine va_mmax hx hb (hml.trans hl.1.symm) hown (hts _ w_168) (hts _ w_169) (hts _ w_143) (hts _ w_170) (by decide) (Nat.le_of_ble_eq_true rfl) (by decide) (by decide) dX3_deepest_66 ?_
            refine lv_topi (fun v1104 ev1104 => ?_)
            have tv1104 := max_i ev1104
            refine lv_istore_n (lv' := [(2, .int v1104), (5, .int v1102), (4, .int i1091), (3, .int i1092), (0, .ref w), (1, .int p0)]) hx hb dX3_deepest_69 rfl hl (by decide) rfl (fun ls hl => ?_)
            refine lv_iload_n hx hb dX3_deepest_70 rfl (lv_at hl 3 rfl) ?_
            refine lv_aload_n hx hb dX3_deepest_71 rfl (lv_at hl 4 rfl) ?_
            refine va_get (D := D) (ci := 3) (v := .ref wa2) (C := RX3) (T := TX3) (N := 5) hx hb hts in_X3 hown hE.1 hP 0 rfl rfl 2 (by decide) (hts _ w_165) (fun _ h9 => h9) rfl dX3_deepest_72 ?_
            refine lv_iload hx hb dX3_deepest_75 (lv_at hl 2 rfl) ?_
            refine va_iald hx hb hE.1 hP 2 1 rfl rfl (vp_in_iff.mpr (by omega)) dX3_deepest_77 ?_
            refine lv_topi (fun v1105 ev1105 => ?_)
            refine lv_iconst (v := (-1)) hx hb dX3_deepest_78 (by decide) ?_
            refine lv_ixor hx hb dX3_deepest_79 ?_
            refine lv_topi (fun v1106 ev1106 => ?_)
            refine lv_iand hx hb dX3_deepest_80 ?_
            refine lv_topi (fun v1107 ev1107 => ?_)
            refine lv_istore_n (lv' := [(3, .int v1107), (2, .int v1104), (5, .int v1102), (4, .int i1091), (0, .ref w), (1, .int p0)]) hx hb dX3_deepest_81 rfl hl (by decide) rfl (fun ls hl => ?_)
            obtain ⟨v1108, ev1108⟩ : ∃ z : Int32, z = i1091 + 1 := ⟨_, rfl⟩
            refine lv_iinc (v := v1108) (lv' := [(4, .int v1108), (3, .int v1107), (2, .int v1104), (5, .int v1102), (0, .ref w), (1, .int p0)]) hx hb dX3_deepest_82 hl (k := 3) rfl (by rw [ev1108]; rfl) (by decide) rfl (fun ls hl => ?_)
            refine lv_goto (tgt := 12) hx hb dX3_deepest_85 (by decide) ?_
            have tv1108 : v1108.toInt = (i1091 : Int32).toInt + (1 : Int32).toInt := add_i ev1108 (by omega) (by omega)
            exact ih_12 (i1091 := v1108) (i1092 := v1107) (i1093 := v1104) (hi_12 := by omega) (ls := ls) (hn_12 := by omega) (hl := lv_sub hl [0, 1, 2, 4, 5] rfl)
          · replace c1103 := eq_i c1103
            refine lv_iconst (v := (-1)) hx hb dX3_deepest_61 (by decide) ?_
            exact ro_ret hC hr hk dX3_deepest_62 trivial
        · replace c1098 := eq_i c1098
          refine lv_goto (tgt := 82) hx hb dX3_deepest_32 (by decide) ?_
          obtain ⟨v1109, ev1109⟩ : ∃ z : Int32, z = i1091 + 1 := ⟨_, rfl⟩
          refine lv_iinc (v := v1109) (lv' := [(4, .int v1109), (3, .int i1092), (2, .int i1093), (0, .ref w), (1, .int p0)]) hx hb dX3_deepest_82 hl (k := 0) rfl (by rw [ev1109]; rfl) (by decide) rfl (fun ls hl => ?_)
          refine lv_goto (tgt := 12) hx hb dX3_deepest_85 (by decide) ?_
          have tv1109 : v1109.toInt = (i1091 : Int32).toInt + (1 : Int32).toInt := add_i ev1109 (by omega) (by omega)
          exact ih_12 (i1091 := v1109) (i1092 := i1092) (i1093 := i1093) (hi_12 := by omega) (ls := ls) (hn_12 := by omega) (hl := lv_sub hl [0, 1, 2, 3, 4] rfl)
set_option maxRecDepth 40000 in
set_option maxHeartbeats 4000000 in
theorem c_X3_windTo (l : Launch) (D : va_G) (K : Nat → ClassId) (w : Nat) (wa0 : Nat) (wa1 : Nat) (wa2 : Nat) (wn3 : Int32) (wn4 : Int32) (wf0 : Nat → Int32) (wf1 : Nat → Int32) (wf2 : Nat → Int32) (p0 : Int32) (p1 : Int32) : Ro l D K yX3_windTo cX3_windTo 5 (some .int) 2 38 [.ref w, .int p0, .int p1] [(w, .inr (3, [.ref wa0, .ref wa1, .ref wa2, .int wn3, .int wn4])), (wa0, .inl (K 1, 1024, .inl wf0)), (wa1, .inl (K 1, 4096, .inl wf1)), (wa2, .inl (K 1, 10, .inl wf2))] (fun _ => True) := by
  refine ro_of (by decide) (Nat.le_of_ble_eq_true rfl) ?_
  intro p e s m below meth c hC hr hk hE hP ls hl
  replace hC : CallFix p m c cX3_windTo 5 s [.ref w, .int p0, .int p1].toArray wl RX3 := hC
  have hx := hC.1
  have hb := hC.2.1
  have hml := hC.2.2.1
  have hown := hC.2.2.2.1
  have hts := hC.2.2.2.2
  replace hl : lv_has ls 5 [(0, .ref w), (1, .int p0), (2, .int p1)] := hl
  have kc_m1 : (-1 : Int32).toInt = -1 := by decide
  have kc_0 : (0 : Int32).toInt = 0 := by decide
  have kc_1 : (1 : Int32).toInt = 1 := by decide
  have kc_4 : (4 : Int32).toInt = 4 := by decide
  have kc_1024 : (1024 : Int32).toInt = 1024 := by decide
  refine lv_iload_n hx hb dX3_windTo_0 rfl (lv_at hl 1 rfl) ?_
  refine lv_if_lt (tgt := 11) hx hb dX3_windTo_1 (by decide) (fun c1110 => ?_) (fun c1110 => ?_)
  · replace c1110 := lt_i c1110
    refine lv_iconst (v := (-1)) hx hb dX3_windTo_11 (by decide) ?_
    exact ro_ret hC hr hk dX3_windTo_12 trivial
  · replace c1110 := nlt_i c1110
    refine lv_iload_n hx hb dX3_windTo_4 rfl (lv_at hl 1 rfl) ?_
    refine lv_sipush (v := 1024) hx hb dX3_windTo_5 (by decide) ?_
    refine lv_icmp_lt (tgt := 13) hx hb dX3_windTo_8 (by decide) (fun c1111 => ?_) (fun c1111 => ?_)
    · replace c1111 := lt_i c1111
      refine lv_iconst (v := 0) hx hb dX3_windTo_13 (by decide) ?_
      refine lv_istore_n (lv' := [(3, .int 0), (0, .ref w), (1, .int p0), (2, .int p1)]) hx hb dX3_windTo_14 rfl hl (by decide) rfl (fun ls hl => ?_)
      have hl' := hl; clear hl
      obtain ⟨i1122, hi_15, hl⟩ : ∃ (i1122 : Int32), ((0 : Int) ≤ i1122.toInt) ∧ lv_has ls 5 [(3, .int i1122), (0, .ref w), (1, .int p0), (2, .int p1)] := ⟨_, by omega, hl'⟩
      clear hl'
      obtain ⟨n_15, hn_15⟩ : ∃ n : Nat, (4 - i1122.toInt).toNat < n := ⟨_, Nat.lt_succ_self _⟩
      induction n_15 generalizing i1122 ls with
      | zero => exact absurd hn_15 (Nat.not_lt_zero _)
      | succ n_15 ih_15 =>
        refine lv_iload_n hx hb dX3_windTo_15 rfl (lv_at hl 0 rfl) ?_
        refine lv_iconst (v := 4) hx hb dX3_windTo_16 (by decide) ?_
        refine lv_icmp_ge (tgt := 56) hx hb dX3_windTo_17 (by decide) (fun c1123 => ?_) (fun c1123 => ?_)
        · replace c1123 := le_i c1123
          refine lv_iconst (v := (-1)) hx hb dX3_windTo_56 (by decide) ?_
          exact ro_ret hC hr hk dX3_windTo_57 trivial
        · replace c1123 := nle_i c1123
          refine lv_aload_n hx hb dX3_windTo_20 rfl (lv_at hl 1 rfl) ?_
          refine lv_aload_n hx hb dX3_windTo_21 rfl (lv_at hl 1 rfl) ?_
          refine va_get (D := D) (ci := 3) (v := .ref wa1) (C := RX3) (T := TX3) (N := 5) hx hb hts in_X3 hown hE.1 hP 0 rfl rfl 1 (by decide) (hts _ w_171) (fun _ h9 => h9) rfl dX3_windTo_22 ?_
          refine lv_iload_n hx hb dX3_windTo_25 rfl (lv_at hl 2 rfl) ?_
          refine lv_iconst (v := 4) hx hb dX3_windTo_26 (by decide) ?_
          refine lv_imul hx hb dX3_windTo_27 ?_
          refine lv_topi (fun v1124 ev1124 => ?_)
          refine lv_iload_n hx hb dX3_windTo_28 rfl (lv_at hl 0 rfl) ?_
          refine lv_iadd hx hb dX3_windTo_29 ?_
          refine lv_topi (fun v1125 ev1125 => ?_)
          have tv1124 : v1124.toInt = p0.toInt * 4 := mul_i ev1124 rfl (by decide) (by omega) (by omega)
          have tv1125 : v1125.toInt = (v1124 : Int32).toInt + (i1122 : Int32).toInt := add_i ev1125 (by omega) (by omega)
          refine va_iald hx hb hE.1 hP 2 1 rfl rfl (vp_in_iff.mpr (by omega)) dX3_windTo_30 ?_
          refine lv_topi (fun v1126 ev1126 => ?_)
          refine ro_V (As := [.int v1126]) (rest := []) hC hE kV_X3_68 (c_X3_deepest l D K w wa0 wa1 wa2 wn3 wn4 wf0 wf2 v1126) (hP.sub (ws' := [(w, .inr (3, [.ref wa0, .ref wa1, .ref wa2, .int wn3, .int wn4])), (wa0, .inl (K 1, 1024, .inl wf0)), (wa2, .inl (K 1, 10, .inl wf2))]) [0, 1, 3] rfl) 0 3 rfl rfl rfl hl.1 rfl (Nat.le_of_ble_eq_true rfl) (by decide) (by decide) dX3_windTo_31 (fun r1127 _ => ?_)
          refine lv_istore (lv' := [(4, .int r1127), (3, .int i1122), (0, .ref w), (1, .int p0), (2, .int p1)]) hx hb dX3_windTo_34 hl (by decide) rfl (fun ls hl => ?_)
          refine lv_iload hx hb dX3_windTo_36 (lv_at hl 0 rfl) ?_
          refine lv_iconst (v := (-1)) hx hb dX3_windTo_38 (by decide) ?_
          refine lv_icmp_eq (tgt := 50) hx hb dX3_windTo_39 (by decide) (fun c1128 => ?_) (fun c1128 => ?_)
          · replace c1128 := eq_i c1128
            obtain ⟨v1129, ev1129⟩ : ∃ z : Int32, z = i1122 + 1 := ⟨_, rfl⟩
            refine lv_iinc (v := v1129) (lv' := [(3, .int v1129), (4, .int r1127), (0, .ref w), (1, .int p0), (2, .int p1)]) hx hb dX3_windTo_50 hl (k := 1) rfl (by rw [ev1129]; rfl) (by decide) rfl (fun ls hl => ?_)
            refine lv_goto (tgt := 15) hx hb dX3_windTo_53 (by decide) ?_
            have tv1129 : v1129.toInt = (i1122 : Int32).toInt + (1 : Int32).toInt := add_i ev1129 (by omega) (by omega)
            exact ih_15 (i1122 := v1129) (hi_15 := by omega) (ls := ls) (hn_15 := by omega) (hl := lv_sub hl [0, 2, 3, 4] rfl)
          · replace c1128 := ne_i c1128
            refine lv_iload hx hb dX3_windTo_42 (lv_at hl 0 rfl) ?_
            refine lv_iload_n hx hb dX3_windTo_44 rfl (lv_at hl 4 rfl) ?_
            refine lv_icmp_ge (tgt := 50) hx hb dX3_windTo_45 (by decide) (fun c1130 => ?_) (fun c1130 => ?_)
            · replace c1130 := le_i c1130
              obtain ⟨v1131, ev1131⟩ : ∃ z : Int32, z = i1122 + 1 := ⟨_, rfl⟩
              refine lv_iinc (v := v1131) (lv' := [(3, .int v1131), (4, .int r1127), (0, .ref w), (1, .int p0), (2, .int p1)]) hx hb dX3_windTo_50 hl (k := 1) rfl (by rw [ev1131]; rfl) (by decide) rfl (fun ls hl => ?_)
              refine lv_goto (tgt := 15) hx hb dX3_windTo_53 (by decide) ?_
              have tv1131 : v1131.toInt = (i1122 : Int32).toInt + (1 : Int32).toInt := add_i ev1131 (by omega) (by omega)
              exact ih_15 (i1122 := v1131) (hi_15 := by omega) (ls := ls) (hn_15 := by omega) (hl := lv_sub hl [0, 2, 3, 4] rfl)
            · replace c1130 := nle_i c1130
              refine lv_iload_n hx hb dX3_windTo_48 rfl (lv_at hl 1 rfl) ?_
              exact ro_ret hC hr hk dX3_windTo_49 trivial
    · replace c1111 := nlt_i c1111
      refine lv_iconst (v := (-1)) hx hb dX3_windTo_11 (by decide) ?_
      exact ro_ret hC hr hk dX3_windTo_12 trivial
set_option maxRecDepth 40000 in
set_option maxHeartbeats 4000000 in
theorem c_X3_settle (l : Launch) (D : va_G) (K : Nat → ClassId) (w : Nat) (wa0 : Nat) (wa1 : Nat) (wa2 : Nat) (wn3 : Int32) (wn4 : Int32) (wf0 : Nat → Int32) (wf1 : Nat → Int32) (wf2 : Nat → Int32) (p0 : Int32) : Ci (S := ((Nat → Int32) × (Nat → Nat → Int32) × (Nat → Nat → Int64))) l D K yX3_settle cX3_settle 4 (some .boolean) 3 63 0 0 [.ref w, .int p0] [(w, .inr (3, [.ref wa0, .ref wa1, .ref wa2, .int wn3, .int wn4])), (wa0, .inl (K 1, 1024, .inl wf0)), (wa1, .inl (K 1, 4096, .inl wf1)), (wa2, .inl (K 1, 10, .inl wf2))] (fun r u => ((r = 0) ∨ (r = 1))) (fun u => [(w, .inr (3, [.ref wa0, .ref wa1, .ref wa2, .int wn3, .int wn4])), (wa0, .inl (K 1, 1024, .inl (u.2.1 0))), (wa1, .inl (K 1, 4096, .inl wf1)), (wa2, .inl (K 1, 10, .inl wf2))]) := by
  intro sz
  refine ch_of (y := yX3_settle) (cc := cX3_settle) (maxL := 4) (ret := (some .boolean)) (av := [.ref w, .int p0]) (ws := [(w, .inr (3, [.ref wa0, .ref wa1, .ref wa2, .int wn3, .int wn4])), (wa0, .inl (K 1, 1024, .inl wf0)), (wa1, .inl (K 1, 4096, .inl wf1)), (wa2, .inl (K 1, 10, .inl wf2))]) (D := D) (K := K) (Qc := fun A => va_Qi (S := ((Nat → Int32) × (Nat → Nat → Int32) × (Nat → Nat → Int64))) (fun r u => ((r = 0) ∨ (r = 1))) (chB D A (fun u => [(w, .inr (3, [.ref wa0, .ref wa1, .ref wa2, .int wn3, .int wn4])), (wa0, .inl (K 1, 1024, .inl (u.2.1 0))), (wa1, .inl (K 1, 4096, .inl wf1)), (wa2, .inl (K 1, 10, .inl wf2))])) A) (by decide) (Nat.le_of_ble_eq_true rfl) ?_
  intro p e s m below meth c A hC hr hk hin hE hD hA H locs hP hS ls hl
  replace hC : CallFix p m c cX3_settle 4 s [.ref w, .int p0].toArray wl RX3 := hC
  have hx := hC.1
  have hb := hC.2.1
  have hml := hC.2.2.1
  have hown := hC.2.2.2.1
  have hts := hC.2.2.2.2
  replace hl : lv_has ls 4 [(0, .ref w), (1, .int p0)] := hl
  have kc_m1 : (-1 : Int32).toInt = -1 := by decide
  have kc_0 : (0 : Int32).toInt = 0 := by decide
  have kc_1 : (1 : Int32).toInt = 1 := by decide
  have kc_1024 : (1024 : Int32).toInt = 1024 := by decide
  refine lv_iconst (v := 0) hx hb dX3_settle_0 (by decide) ?_
  refine lv_istore_n (lv' := [(2, .int 0), (0, .ref w), (1, .int p0)]) hx hb dX3_settle_1 rfl hl (by decide) rfl (fun ls hl => ?_)
  refine lv_iconst (v := 1) hx hb dX3_settle_2 (by decide) ?_
  refine lv_istore_n (lv' := [(3, .int 1), (2, .int 0), (0, .ref w), (1, .int p0)]) hx hb dX3_settle_3 rfl hl (by decide) rfl (fun ls hl => ?_)
  have hl' := hl; have hP' := hP; have hD' := hD; clear hl hP hD
  obtain ⟨i1160, i1161, g1162, hi_4, hs_4, hl, hP, hD⟩ : ∃ (i1160 : Int32) (i1161 : Int32) (g1162 : Nat → Int32), ((1 : Int) ≤ i1160.toInt) ∧ (i1161.toInt = 0 ∨ i1161.toInt = 1) ∧ lv_has ls 4 [(3, .int i1160), (2, .int i1161), (0, .ref w), (1, .int p0)] ∧ va_P D vwCl [(w, .inr (3, [.ref wa0, .ref wa1, .ref wa2, .int wn3, .int wn4])), (wa0, .inl (K 1, 1024, .inl g1162)), (wa1, .inl (K 1, 4096, .inl wf1)), (wa2, .inl (K 1, 10, .inl wf2))] H ∧ va_D A [(w, .inr (3, [.ref wa0, .ref wa1, .ref wa2, .int wn3, .int wn4])), (wa0, .inl (K 1, 1024, .inl g1162)), (wa1, .inl (K 1, 4096, .inl wf1)), (wa2, .inl (K 1, 10, .inl wf2))] := ⟨_, _, _, by omega, by omega, hl', hP', hD'⟩
  clear hl' hP' hD'
  obtain ⟨n_4, hn_4⟩ : ∃ n : Nat, (1024 - i1160.toInt).toNat < n := ⟨_, Nat.lt_succ_self _⟩
  induction n_4 generalizing i1160 i1161 g1162 H locs ls with
  | zero => exact absurd hn_4 (Nat.not_lt_zero _)
  | succ n_4 ih_4 =>
    refine lv_iload_n hx hb dX3_settle_4 rfl (lv_at hl 0 rfl) ?_
    refine lv_aload_n hx hb dX3_settle_5 rfl (lv_at hl 2 rfl) ?_
    refine va_get (D := D) (ci := 3) (v := .int wn3) (C := RX3) (T := TX3) (N := 5) hx hb hts in_X3 hown hE.1 hP 0 rfl rfl 3 (by decide) (hts _ w_166) (fun _ h9 => h9) rfl dX3_settle_6 ?_
    refine lv_icmp_gt (tgt := 62) hx hb dX3_settle_9 (by decide) (fun c1163 => ?_) (fun c1163 => ?_)
    · replace c1163 := lt_i c1163
      refine lv_iload_n hx hb dX3_settle_62 rfl (lv_at hl 1 rfl) ?_
      rcases b01 (show (i1161 : Int32).toInt = 0 ∨ (i1161 : Int32).toInt = 1 by omega) with hb1164 | hb1164
      · refine tc (y := 0) hb1164 ?_
        refine W.widen (k := 0) (n := 0) (by decide) (by decide) ?_
        exact ch_zret hC hr hk hS dX3_settle_63 rfl ((fun k => [].getD k 0, fun k => [g1162].getD k (fun _ => 0), fun k => [].getD k (fun _ => 0)) : ((Nat → Int32) × (Nat → Nat → Int32) × (Nat → Nat → Int64))) (Or.inl rfl) (hP.sub [0, 1, 2, 3] rfl) (hD.sub [0, 1, 2, 3] (by decide) rfl)
      · refine tc (y := 1) hb1164 ?_
        refine W.widen (k := 0) (n := 0) (by decide) (by decide) ?_
        exact ch_zret hC hr hk hS dX3_settle_63 rfl ((fun k => [].getD k 0, fun k => [g1162].getD k (fun _ => 0), fun k => [].getD k (fun _ => 0)) : ((Nat → Int32) × (Nat → Nat → Int32) × (Nat → Nat → Int64))) (Or.inr rfl) (hP.sub [0, 1, 2, 3] rfl) (hD.sub [0, 1, 2, 3] (by decide) rfl)
    · replace c1163 := nlt_i c1163
      refine lv_iload_n hx hb dX3_settle_12 rfl (lv_at hl 0 rfl) ?_
      refine lv_sipush (v := 1024) hx hb dX3_settle_13 (by decide) ?_
      refine lv_icmp_ge (tgt := 62) hx hb dX3_settle_16 (by decide) (fun c1165 => ?_) (fun c1165 => ?_)
      · replace c1165 := le_i c1165
        refine lv_iload_n hx hb dX3_settle_62 rfl (lv_at hl 1 rfl) ?_
        rcases b01 (show (i1161 : Int32).toInt = 0 ∨ (i1161 : Int32).toInt = 1 by omega) with hb1166 | hb1166
        · refine tc (y := 0) hb1166 ?_
          refine W.widen (k := 0) (n := 0) (by decide) (by decide) ?_
          exact ch_zret hC hr hk hS dX3_settle_63 rfl ((fun k => [].getD k 0, fun k => [g1162].getD k (fun _ => 0), fun k => [].getD k (fun _ => 0)) : ((Nat → Int32) × (Nat → Nat → Int32) × (Nat → Nat → Int64))) (Or.inl rfl) (hP.sub [0, 1, 2, 3] rfl) (hD.sub [0, 1, 2, 3] (by decide) rfl)
        · refine tc (y := 1) hb1166 ?_
          refine W.widen (k := 0) (n := 0) (by decide) (by decide) ?_
          exact ch_zret hC hr hk hS dX3_settle_63 rfl ((fun k => [].getD k 0, fun k => [g1162].getD k (fun _ => 0), fun k => [].getD k (fun _ => 0)) : ((Nat → Int32) × (Nat → Nat → Int32) × (Nat → Nat → Int64))) (Or.inr rfl) (hP.sub [0, 1, 2, 3] rfl) (hD.sub [0, 1, 2, 3] (by decide) rfl)
      · replace c1165 := nle_i c1165
        refine lv_aload_n hx hb dX3_settle_19 rfl (lv_at hl 2 rfl) ?_
        refine va_get (D := D) (ci := 3) (v := .ref wa0) (C := RX3) (T := TX3) (N := 5) hx hb hts in_X3 hown hE.1 hP 0 rfl rfl 0 (by decide) (hts _ w_167) (fun _ h9 => h9) rfl dX3_settle_20 ?_
        refine lv_iload_n hx hb dX3_settle_23 rfl (lv_at hl 0 rfl) ?_
        refine va_iald hx hb hE.1 hP 1 1 rfl rfl (vp_in_iff.mpr (by omega)) dX3_settle_24 ?_
        refine lv_topi (fun v1167 ev1167 => ?_)
        refine lv_iconst (v := (-1)) hx hb dX3_settle_25 (by decide) ?_
        refine lv_icmp_ne (tgt := 56) hx hb dX3_settle_26 (by decide) (fun c1168 => ?_) (fun c1168 => ?_)
        · replace c1168 := ne_i c1168
          obtain ⟨v1169, ev1169⟩ : ∃ z : Int32, z = i1160 + 1 := ⟨_, rfl⟩
          refine lv_iinc (v := v1169) (lv' := [(3, .int v1169), (2, .int i1161), (0, .ref w), (1, .int p0)]) hx hb dX3_settle_56 hl (k := 0) rfl (by rw [ev1169]; rfl) (by decide) rfl (fun ls hl => ?_)
          refine lv_goto (tgt := 4) hx hb dX3_settle_59 (by decide) ?_
          have tv1169 : v1169.toInt = (i1160 : Int32).toInt + (1 : Int32).toInt := add_i ev1169 (by omega) (by omega)
          exact ih_4 (i1160 := v1169) (i1161 := i1161) (g1162 := g1162) (hi_4 := by omega) (hs_4 := by omega) (H := H) (locs := locs) (ls := ls) (hn_4 := by omega) (hP := hP) (hD := hD) (hS := hS) (hl := lv_sub hl [0, 1, 2, 3] rfl)
        · replace c1168 := eq_i c1168
          refine lv_aload_n hx hb dX3_settle_29 rfl (lv_at hl 2 rfl) ?_
          refine lv_iload_n hx hb dX3_settle_30 rfl (lv_at hl 0 rfl) ?_
          refine ro_V (As := [.int i1160]) (rest := []) hC hE kV_X3_59 (c_X3_isEven l D K w wa0 wa1 wa2 wn3 wn4 wf2 i1160) (hP.sub (ws' := [(w, .inr (3, [.ref wa0, .ref wa1, .ref wa2, .int wn3, .int wn4])), (wa2, .inl (K 1, 10, .inl wf2))]) [0, 3] rfl) 0 3 rfl rfl rfl hl.1 rfl (Nat.le_of_ble_eq_true rfl) (by decide) (by decide) dX3_settle_31 (fun r1170 hq => ?_)
          rcases hq with rfl | rfl
          · refine lv_if_eq (tgt := 56) hx hb dX3_settle_34 (by decide) (fun _ => ?_) (fun h => absurd h (by decide))
            obtain ⟨v1171, ev1171⟩ : ∃ z : Int32, z = i1160 + 1 := ⟨_, rfl⟩
            refine lv_iinc (v := v1171) (lv' := [(3, .int v1171), (2, .int i1161), (0, .ref w), (1, .int p0)]) hx hb dX3_settle_56 hl (k := 0) rfl (by rw [ev1171]; rfl) (by decide) rfl (fun ls hl => ?_)
            refine lv_goto (tgt := 4) hx hb dX3_settle_59 (by decide) ?_
            have tv1171 : v1171.toInt = (i1160 : Int32).toInt + (1 : Int32).toInt := add_i ev1171 (by omega) (by omega)
            exact ih_4 (i1160 := v1171) (i1161 := i1161) (g1162 := g1162) (hi_4 := by omega) (hs_4 := by omega) (H := H) (locs := locs) (ls := ls) (hn_4 := by omega) (hP := hP) (hD := hD) (hS := hS) (hl := lv_sub hl [0, 1, 2, 3] rfl)
          · refine lv_if_eq (tgt := 56) hx hb dX3_settle_34 (by decide) (fun h => absurd h (by decide)) (fun _ => ?_)
            refine lv_aload_n hx hb dX3_settle_37 rfl (lv_at hl 2 rfl) ?_
            refine lv_iload_n hx hb dX3_settle_38 rfl (lv_at hl 0 rfl) ?_
            refine lv_iload_n hx hb dX3_settle_39 rfl (lv_at hl 3 rfl) ?_
            refine ro_V (As := [.int i1160, .int p0]) (rest := []) hC hE kV_X3_62 (c_X3_windTo l D K w wa0 wa1 wa2 wn3 wn4 g1162 wf1 wf2 i1160 p0) (hP.sub (ws' := [(w, .inr (3, [.ref wa0, .ref wa1, .ref wa2, .int wn3, .int wn4])), (wa0, .inl (K 1, 1024, .inl g1162)), (wa1, .inl (K 1, 4096, .inl wf1)), (wa2, .inl (K 1, 10, .inl wf2))]) [0, 1, 2, 3] rfl) 0 3 rfl rfl rfl hl.1 rfl (Nat.le_of_ble_eq_true rfl) (by decide) (by decide) dX3_settle_40 (fun r1172 _ => ?_)
            refine lv_iconst (v := (-1)) hx hb dX3_settle_43 (by decide) ?_
            refine lv_icmp_eq (tgt := 56) hx hb dX3_settle_44 (by decide) (fun c1173 => ?_) (fun c1173 => ?_)
            · replace c1173 := eq_i c1173
              obtain ⟨v1174, ev1174⟩ : ∃ z : Int32, z = i1160 + 1 := ⟨_, rfl⟩
              refine lv_iinc (v := v1174) (lv' := [(3, .int v1174), (2, .int i1161), (0, .ref w), (1, .int p0)]) hx hb dX3_settle_56 hl (k := 0) rfl (by rw [ev1174]; rfl) (by decide) rfl (fun ls hl => ?_)
              refine lv_goto (tgt := 4) hx hb dX3_settle_59 (by decide) ?_
              have tv1174 : v1174.toInt = (i1160 : Int32).toInt + (1 : Int32).toInt := add_i ev1174 (by omega) (by omega)
              exact ih_4 (i1160 := v1174) (i1161 := i1161) (g1162 := g1162) (hi_4 := by omega) (hs_4 := by omega) (H := H) (locs := locs) (ls := ls) (hn_4 := by omega) (hP := hP) (hD := hD) (hS := hS) (hl := lv_sub hl [0, 1, 2, 3] rfl)
            · replace c1173 := ne_i c1173
              refine lv_aload_n hx hb dX3_settle_47 rfl (lv_at hl 2 rfl) ?_
              refine va_get (D := D) (ci := 3) (v := .ref wa0) (C := RX3) (T := TX3) (N := 5) hx hb hts in_X3 hown hE.1 hP 0 rfl rfl 0 (by decide) (hts _ w_167) (fun _ h9 => h9) rfl dX3_settle_48 ?_
              refine lv_iload_n hx hb dX3_settle_51 rfl (lv_at hl 0 rfl) ?_
              refine lv_iload_n hx hb dX3_settle_52 rfl (lv_at hl 3 rfl) ?_
              refine sti hx hb hE.1 hP hD hS 1 1 rfl rfl (vp_in_iff.mpr (by omega)) dX3_settle_53 (fun g1175 eg1175 H locs hP hD hS => ?_)
              replace hP : va_P D vwCl [(w, .inr (3, [.ref wa0, .ref wa1, .ref wa2, .int wn3, .int wn4])), (wa0, .inl (K 1, 1024, .inl g1175)), (wa1, .inl (K 1, 4096, .inl wf1)), (wa2, .inl (K 1, 10, .inl wf2))] H := hP
              replace hD : va_D A [(w, .inr (3, [.ref wa0, .ref wa1, .ref wa2, .int wn3, .int wn4])), (wa0, .inl (K 1, 1024, .inl g1175)), (wa1, .inl (K 1, 4096, .inl wf1)), (wa2, .inl (K 1, 10, .inl wf2))] := hD
              refine lv_iconst (v := 1) hx hb dX3_settle_54 (by decide) ?_
              refine lv_istore_n (lv' := [(2, .int 1), (3, .int i1160), (0, .ref w), (1, .int p0)]) hx hb dX3_settle_55 rfl hl (by decide) rfl (fun ls hl => ?_)
              obtain ⟨v1176, ev1176⟩ : ∃ z : Int32, z = i1160 + 1 := ⟨_, rfl⟩
              refine lv_iinc (v := v1176) (lv' := [(3, .int v1176), (2, .int 1), (0, .ref w), (1, .int p0)]) hx hb dX3_settle_56 hl (k := 1) rfl (by rw [ev1176]; rfl) (by decide) rfl (fun ls hl => ?_)
              refine lv_goto (tgt := 4) hx hb dX3_settle_59 (by decide) ?_
              have tv1176 : v1176.toInt = (i1160 : Int32).toInt + (1 : Int32).toInt := add_i ev1176 (by omega) (by omega)
              exact ih_4 (i1160 := v1176) (i1161 := 1) (g1162 := g1175) (hi_4 := by omega) (hs_4 := by omega) (H := H) (locs := locs) (ls := ls) (hn_4 := by omega) (hP := hP) (hD := hD) (hS := hS) (hl := lv_sub hl [0, 1, 2, 3] rfl)
set_option maxRecDepth 40000 in
set_option maxHeartbeats 4000000 in
theorem c_X3_leastWind (l : Launch) (D : va_G) (K : Nat → ClassId) (w : Nat) (wa0 : Nat) (wa1 : Nat) (wa2 : Nat) (wn3 : Int32) (wn4 : Int32) (wf0 : Nat → Int32) (wf1 : Nat → Int32) (wf2 : Nat → Int32) (p0 : Int32) : Ro l D K yX3_leastWind cX3_leastWind 2 (some .int) 3 63 [.ref w, .int p0] [(w, .inr (3, [.ref wa0, .ref wa1, .ref wa2, .int wn3, .int wn4])), (wa0, .inl (K 1, 1024, .inl wf0)), (wa1, .inl (K 1, 4096, .inl wf1)), (wa2, .inl (K 1, 10, .inl wf2))] (fun _ => True) := by
  refine ro_of (by decide) (Nat.le_of_ble_eq_true rfl) ?_
  intro p e s m below meth c hC hr hk hE hP ls hl
  replace hC : CallFix p m c cX3_leastWind 2 s [.ref w, .int p0].toArray wl RX3 := hC
  have hx := hC.1
  have hb := hC.2.1
  have hml := hC.2.2.1
  have hown := hC.2.2.2.1
  have hts := hC.2.2.2.2
  replace hl : lv_has ls 2 [(0, .ref w), (1, .int p0)] := hl
  have kc_1 : (1 : Int32).toInt = 1 := by decide
  have kc_1024 : (1024 : Int32).toInt = 1024 := by decide
  refine lv_iload_n hx hb dX3_leastWind_0 rfl (lv_at hl 1 rfl) ?_
  refine lv_iconst (v := 1) hx hb dX3_leastWind_1 (by decide) ?_
  refine lv_icmp_lt (tgt := 30) hx hb dX3_leastWind_2 (by decide) (fun c1177 => ?_) (fun c1177 => ?_)
  · replace c1177 := lt_i c1177
    refine lv_iconst (v := (-1)) hx hb dX3_leastWind_30 (by decide) ?_
    exact ro_ret hC hr hk dX3_leastWind_31 trivial
  · replace c1177 := nlt_i c1177
    refine lv_iload_n hx hb dX3_leastWind_5 rfl (lv_at hl 1 rfl) ?_
    refine lv_sipush (v := 1024) hx hb dX3_leastWind_6 (by decide) ?_
    refine lv_icmp_ge (tgt := 30) hx hb dX3_leastWind_9 (by decide) (fun c1178 => ?_) (fun c1178 => ?_)
    · replace c1178 := le_i c1178
      refine lv_iconst (v := (-1)) hx hb dX3_leastWind_30 (by decide) ?_
      exact ro_ret hC hr hk dX3_leastWind_31 trivial
    · replace c1178 := nle_i c1178
      refine lv_aload_n hx hb dX3_leastWind_12 rfl (lv_at hl 0 rfl) ?_
      refine lv_iload_n hx hb dX3_leastWind_13 rfl (lv_at hl 1 rfl) ?_
      refine ro_V (As := [.int p0]) (rest := []) hC hE kV_X3_59 (c_X3_isEven l D K w wa0 wa1 wa2 wn3 wn4 wf2 p0) (hP.sub (ws' := [(w, .inr (3, [.ref wa0, .ref wa1, .ref wa2, .int wn3, .int wn4])), (wa2, .inl (K 1, 10, .inl wf2))]) [0, 3] rfl) 0 3 rfl rfl rfl hl.1 rfl (Nat.le_of_ble_eq_true rfl) (by decide) (by decide) dX3_leastWind_14 (fun r1179 hq => ?_)
      rcases hq with rfl | rfl
      · refine lv_if_eq (tgt := 30) hx hb dX3_leastWind_17 (by decide) (fun _ => ?_) (fun h => absurd h (by decide))
        refine lv_iconst (v := (-1)) hx hb dX3_leastWind_30 (by decide) ?_
        exact ro_ret hC hr hk dX3_leastWind_31 trivial
      · refine lv_if_eq (tgt := 30) hx hb dX3_leastWind_17 (by decide) (fun h => absurd h (by decide)) (fun _ => ?_)
        refine lv_aload_n hx hb dX3_leastWind_20 rfl (lv_at hl 0 rfl) ?_
        refine va_get (D := D) (ci := 3) (v := .ref wa0) (C := RX3) (T := TX3) (N := 5) hx hb hts in_X3 hown hE.1 hP 0 rfl rfl 0 (by decide) (hts _ w_167) (fun _ h9 => h9) rfl dX3_leastWind_21 ?_
        refine lv_iload_n hx hb dX3_leastWind_24 rfl (lv_at hl 1 rfl) ?_
        refine va_iald hx hb hE.1 hP 1 1 rfl rfl (vp_in_iff.mpr (by omega)) dX3_leastWind_25 ?_
        refine lv_topi (fun v1180 ev1180 => ?_)
        refine lv_iconst (v := 1) hx hb dX3_leastWind_26 (by decide) ?_
        refine lv_icmp_ge (tgt := 32) hx hb dX3_leastWind_27 (by decide) (fun c1181 => ?_) (fun c1181 => ?_)
        · replace c1181 := le_i c1181
          refine lv_aload_n hx hb dX3_leastWind_32 rfl (lv_at hl 0 rfl) ?_
          refine lv_iload_n hx hb dX3_leastWind_33 rfl (lv_at hl 1 rfl) ?_
          refine lv_aload_n hx hb dX3_leastWind_34 rfl (lv_at hl 0 rfl) ?_
          refine va_get (D := D) (ci := 3) (v := .ref wa0) (C := RX3) (T := TX3) (N := 5) hx hb hts in_X3 hown hE.1 hP 0 rfl rfl 0 (by decide) (hts _ w_167) (fun _ h9 => h9) rfl dX3_leastWind_35 ?_
          refine lv_iload_n hx hb dX3_leastWind_38 rfl (lv_at hl 1 rfl) ?_
          refine va_iald hx hb hE.1 hP 1 1 rfl rfl (vp_in_iff.mpr (by omega)) dX3_leastWind_39 ?_
          refine lv_topi (fun v1182 ev1182 => ?_)
          refine ro_V (As := [.int p0, .int v1182]) (rest := []) hC hE kV_X3_62 (c_X3_windTo l D K w wa0 wa1 wa2 wn3 wn4 wf0 wf1 wf2 p0 v1182) (hP.sub (ws' := [(w, .inr (3, [.ref wa0, .ref wa1, .ref wa2, .int wn3, .int wn4])), (wa0, .inl (K 1, 1024, .inl wf0)), (wa1, .inl (K 1, 4096, .inl wf1)), (wa2, .inl (K 1, 10, .inl wf2))]) [0, 1, 2, 3] rfl) 0 3 rfl rfl rfl hl.1 rfl (Nat.le_of_ble_eq_true rfl) (by decide) (by decide) dX3_leastWind_40 (fun r1183 _ => ?_)
          exact ro_ret hC hr hk dX3_leastWind_43 trivial
        · replace c1181 := nle_i c1181
          refine lv_iconst (v := (-1)) hx hb dX3_leastWind_30 (by decide) ?_
          exact ro_ret hC hr hk dX3_leastWind_31 trivial
