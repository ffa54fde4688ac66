set_option maxRecDepth 40000 in
set_option maxHeartbeats 4000000 in
theorem c_X5_make_f (l : Launch) (D : va_G) (K : Nat → ClassId) (w : Nat) (wa0 : Nat) (wa1 : Nat) (wa2 : Nat) (wf0 : Nat → Int64) (wf1 : Nat → Int32) (wf2 : Nat → Int32) (p0 : Int32) (p1 : Int32) (p2 : Int32) (hsz : ∀ j, j < 4 → -1 ≤ (wf2 j).toInt ∧ (wf2 j).toInt ≤ 60) (hs0 : 0 ≤ p0.toInt ∧ p0.toInt ≤ 3) (hn0 : 0 ≤ p2.toInt ∧ p2.toInt ≤ 60) : Cv (S := ((Nat → Int32) × (Nat → Nat → Int32) × (Nat → Nat → Int64))) l D K yX5_make cX5_make 5 2 47 0 0 [.ref w, .int p0, .int p1, .int p2] [(w, .inr (5, [.ref wa0, .ref wa1, .ref wa2])), (wa0, .inl (K 2, 240, .inr (.inl wf0))), (wa1, .inl (K 1, 4, .inl wf1)), (wa2, .inl (K 1, 4, .inl wf2))] (fun u => (∀ j, j < 4 → -1 ≤ ((u.2.1 1) j).toInt ∧ ((u.2.1 1) j).toInt ≤ 60) ∧ ((u.2.1 1) = upd wf2 p0.toInt.toNat p2) ∧ ((u.2.1 0) = upd wf1 p0.toInt.toNat p1)) (fun u => [(w, .inr (5, [.ref wa0, .ref wa1, .ref wa2])), (wa0, .inl (K 2, 240, .inr (.inl (u.2.2 0)))), (wa1, .inl (K 1, 4, .inl (u.2.1 0))), (wa2, .inl (K 1, 4, .inl (u.2.1 1)))]) := by
  intro sz
  refine ch_of (y := yX5_make) (cc := cX5_make) (maxL := 5) (ret := none) (av := [.ref w, .int p0, .int p1, .int p2]) (ws := [(w, .inr (5, [.ref wa0, .ref wa1, .ref wa2])), (wa0, .inl (K 2, 240, .inr (.inl wf0))), (wa1, .inl (K 1, 4, .inl wf1)), (wa2, .inl (K 1, 4, .inl wf2))]) (D := D) (K := K) (Qc := fun A => va_Qv (S := ((Nat → Int32) × (Nat → Nat → Int32) × (Nat → Nat → Int64))) (fun u => (∀ j, j < 4 → -1 ≤ ((u.2.1 1) j).toInt ∧ ((u.2.1 1) j).toInt ≤ 60) ∧ ((u.2.1 1) = upd wf2 p0.toInt.toNat p2) ∧ ((u.2.1 0) = upd wf1 p0.toInt.toNat p1)) (chB D A (fun u => [(w, .inr (5, [.ref wa0, .ref wa1, .ref wa2])), (wa0, .inl (K 2, 240, .inr (.inl (u.2.2 0)))), (wa1, .inl (K 1, 4, .inl (u.2.1 0))), (wa2, .inl (K 1, 4, .inl (u.2.1 1)))])) A) (by decide) (Nat.le_of_ble_eq_true rfl) ?_
  intro p e s m below meth c A hC hr hk hin hE hD hA H locs hP hS ls hl
  replace hC : CallFix p m c cX5_make 5 s [.ref w, .int p0, .int p1, .int p2].toArray wl RX5 := hC
  have hx := hC.1
  have hb := hC.2.1
  have hml := hC.2.2.1
  have hown := hC.2.2.2.1
  have hts := hC.2.2.2.2
  replace hl : lv_has ls 5 [(0, .ref w), (1, .int p0), (2, .int p1), (3, .int p2)] := hl
  have kc_0 : (0 : Int32).toInt = 0 := by decide
  have kc_60 : (60 : Int32).toInt = 60 := by decide
  have kl_0 : (0 : Int64).toInt = 0 := by decide
  refine lv_iload_n hx hb dX5_make_0 rfl (lv_at hl 1 rfl) ?_
  refine ro_SN (As := [.int p0]) (rest := []) hC hE kSN_X5_28 (c_X11_isSlot l D K p0) (hP.sub (ws' := []) [] rfl) rfl hl.1 rfl (Nat.le_of_ble_eq_true rfl) (by decide) (by decide) dX5_make_1 (fun r16611 hq => ?_)
  rcases hq with ⟨rfl, h16608⟩ | ⟨rfl, h16609, h16610⟩
  · refine lv_if_eq (tgt := 17) hx hb dX5_make_4 (by decide) (fun _ => ?_) (fun h => absurd h (by decide))
    refine W.widen (k := 0) (n := 0) (by decide) (by decide) ?_
    exact ch_vret hC hr hk hS dX5_make_17 ((fun k => [].getD k 0, fun k => [wf1, wf2].getD k (fun _ => 0), fun k => [wf0].getD k (fun _ => 0)) : ((Nat → Int32) × (Nat → Nat → Int32) × (Nat → Nat → Int64))) ⟨(show ∀ j, j < 4 → -1 ≤ (wf2 j).toInt ∧ (wf2 j).toInt ≤ 60 from hsz), (show wf2 = upd wf2 p0.toInt.toNat p2 from (by exfalso; omega)), (show wf1 = upd wf1 p0.toInt.toNat p1 from (by exfalso; omega))⟩ (hP.sub [0, 1, 2, 3] rfl) (hD.sub [0, 1, 2, 3] (by decide) rfl)
  · refine lv_if_eq (tgt := 17) hx hb dX5_make_4 (by decide) (fun h => absurd h (by decide)) (fun _ => ?_)
    refine lv_iload_n hx hb dX5_make_7 rfl (lv_at hl 3 rfl) ?_
    refine lv_if_lt (tgt := 17) hx hb dX5_make_8 (by decide) (fun c16612 => ?_) (fun c16612 => ?_)
    · replace c16612 := lt_i c16612
      refine W.widen (k := 0) (n := 0) (by decide) (by decide) ?_
      exact ch_vret hC hr hk hS dX5_make_17 ((fun k => [].getD k 0, fun k => [wf1, wf2].getD k (fun _ => 0), fun k => [wf0].getD k (fun _ => 0)) : ((Nat → Int32) × (Nat → Nat → Int32) × (Nat → Nat → Int64))) ⟨(show ∀ j, j < 4 → -1 ≤ (wf2 j).toInt ∧ (wf2 j).toInt ≤ 60 from hsz), (show wf2 = upd wf2 p0.toInt.toNat p2 from (by exfalso; omega)), (show wf1 = upd wf1 p0.toInt.toNat p1 from (by exfalso; omega))⟩ (hP.sub [0, 1, 2, 3] rfl) (hD.sub [0, 1, 2, 3] (by decide) rfl)
    · replace c16612 := nlt_i c16612
      refine lv_iload_n hx hb dX5_make_11 rfl (lv_at hl 3 rfl) ?_
      refine lv_bipush (v := 60) hx hb dX5_make_12 (by decide) ?_
      refine lv_icmp_le (tgt := 18) hx hb dX5_make_14 (by decide) (fun c16613 => ?_) (fun c16613 => ?_)
      · replace c16613 := le_i c16613
        refine lv_iload_n hx hb dX5_make_18 rfl (lv_at hl 1 rfl) ?_
        refine lv_bipush (v := 60) hx hb dX5_make_19 (by decide) ?_
        refine lv_imul hx hb dX5_make_21 ?_
        refine lv_topi (fun v16614 ev16614 => ?_)
        refine lv_istore (lv' := [(4, .int v16614), (0, .ref w), (1, .int p0), (2, .int p1), (3, .int p2)]) hx hb dX5_make_22 hl (by decide) rfl (fun ls hl => ?_)
        refine lv_aload_n hx hb dX5_make_24 rfl (lv_at hl 1 rfl) ?_
        refine va_get (D := D) (ci := 5) (v := .ref wa0) (C := RX5) (T := TX5) (N := 3) hx hb hts in_X5 hown hE.1 hP 0 rfl rfl 0 (by decide) (hts _ w_113) (fun _ h9 => h9) rfl dX5_make_25 ?_
        refine lv_iload hx hb dX5_make_28 (lv_at hl 0 rfl) ?_
        refine lv_iload hx hb dX5_make_30 (lv_at hl 0 rfl) ?_
        refine lv_bipush (v := 60) hx hb dX5_make_32 (by decide) ?_
        refine lv_iadd hx hb dX5_make_34 ?_
        refine lv_topi (fun v16615 ev16615 => ?_)
        refine lv_lconst (v := 0) hx hb dX5_make_35 (by decide) ?_
        have tv16614 : v16614.toInt = p0.toInt * 60 := mul_i ev16614 rfl (by decide) (by omega) (by omega)
        have tv16615 : v16615.toInt = (v16614 : Int32).toInt + (60 : Int32).toInt := add_i ev16615 (by omega) (by omega)
        refine cv_S (As := [.ref wa0, .int v16614, .int v16615, .long 0]) (rest := []) (wc := [(wa0, .inl (K 2, 240, .inr (.inl wf0)))]) (wr := [(w, .inr (5, [.ref wa0, .ref wa1, .ref wa2])), (wa1, .inl (K 1, 4, .inl wf1)), (wa2, .inl (K 1, 4, .inl wf2))]) hC hE kS_X5_32 (c_J7_fill_bad5a l D K wa0 wf0 v16614 v16615 0 (by omega) (by omega) (by omega)) hP hD hS hA [1] [0, 2, 3] rfl rfl rfl (by decide) (by decide) (by decide) rfl hl.1 rfl (Nat.le_of_ble_eq_true rfl) (by decide) (by decide) dX5_make_36 (fun u16616 H locs hw hP hD hS => ?_)
        replace hP : va_P D vwCl [(w, .inr (5, [.ref wa0, .ref wa1, .ref wa2])), (wa1, .inl (K 1, 4, .inl wf1)), (wa2, .inl (K 1, 4, .inl wf2)), (wa0, .inl (K 2, 240, .inr (.inl (u16616.2.2 0))))] H := hP
        replace hD : va_D A [(w, .inr (5, [.ref wa0, .ref wa1, .ref wa2])), (wa1, .inl (K 1, 4, .inl wf1)), (wa2, .inl (K 1, 4, .inl wf2)), (wa0, .inl (K 2, 240, .inr (.inl (u16616.2.2 0))))] := hD
        replace hP : va_P D vwCl [(w, .inr (5, [.ref wa0, .ref wa1, .ref wa2])), (wa0, .inl (K 2, 240, .inr (.inl (u16616.2.2 0)))), (wa1, .inl (K 1, 4, .inl wf1)), (wa2, .inl (K 1, 4, .inl wf2))] H := hP.sub [0, 3, 1, 2] rfl
        replace hD : va_D A [(w, .inr (5, [.ref wa0, .ref wa1, .ref wa2])), (wa0, .inl (K 2, 240, .inr (.inl (u16616.2.2 0)))), (wa1, .inl (K 1, 4, .inl wf1)), (wa2, .inl (K 1, 4, .inl wf2))] := hD.sub [0, 3, 1, 2] (by decide) rfl
        refine W.widen (k := 0) (n := 0) (by decide) (by decide) ?_
        refine lv_aload_n hx hb dX5_make_39 rfl (lv_at hl 1 rfl) ?_
        refine va_get (D := D) (ci := 5) (v := .ref wa1) (C := RX5) (T := TX5) (N := 3) hx hb hts in_X5 hown hE.1 hP 0 rfl rfl 1 (by decide) (hts _ w_103) (fun _ h9 => h9) rfl dX5_make_40 ?_
        refine lv_iload_n hx hb dX5_make_43 rfl (lv_at hl 2 rfl) ?_
        refine lv_iload_n hx hb dX5_make_44 rfl (lv_at hl 3 rfl) ?_
        refine sti hx hb hE.1 hP hD hS 2 1 rfl rfl (vp_in_iff.mpr (by omega)) dX5_make_45 (fun g16618 eg16618 H locs hP hD hS => ?_)
        replace hP : va_P D vwCl [(w, .inr (5, [.ref wa0, .ref wa1, .ref wa2])), (wa0, .inl (K 2, 240, .inr (.inl (u16616.2.2 0)))), (wa1, .inl (K 1, 4, .inl g16618)), (wa2, .inl (K 1, 4, .inl wf2))] H := hP
        replace hD : va_D A [(w, .inr (5, [.ref wa0, .ref wa1, .ref wa2])), (wa0, .inl (K 2, 240, .inr (.inl (u16616.2.2 0)))), (wa1, .inl (K 1, 4, .inl g16618)), (wa2, .inl (K 1, 4, .inl wf2))] := hD
        refine lv_aload_n hx hb dX5_make_46 rfl (lv_at hl 1 rfl) ?_
        refine va_get (D := D) (ci := 5) (v := .ref wa2) (C := RX5) (T := TX5) (N := 3) hx hb hts in_X5 hown hE.1 hP 0 rfl rfl 2 (by decide) (hts _ w_102) (fun _ h9 => h9) rfl dX5_make_47 ?_
        refine lv_iload_n hx hb dX5_make_50 rfl (lv_at hl 2 rfl) ?_
        refine lv_iload_n hx hb dX5_make_51 rfl (lv_at hl 4 rfl) ?_
        refine sti hx hb hE.1 hP hD hS 3 1 rfl rfl (vp_in_iff.mpr (by omega)) dX5_make_52 (fun g16619 eg16619 H locs hP hD hS => ?_)
        replace hP : va_P D vwCl [(w, .inr (5, [.ref wa0, .ref wa1, .ref wa2])), (wa0, .inl (K 2, 240, .inr (.inl (u16616.2.2 0)))), (wa1, .inl (K 1, 4, .inl g16618)), (wa2, .inl (K 1, 4, .inl g16619))] H := hP
        replace hD : va_D A [(w, .inr (5, [.ref wa0, .ref wa1, .ref wa2])), (wa0, .inl (K 2, 240, .inr (.inl (u16616.2.2 0)))), (wa1, .inl (K 1, 4, .inl g16618)), (wa2, .inl (K 1, 4, .inl g16619))] := hD
        refine W.widen (k := 0) (n := 0) (by decide) (by decide) ?_
        exact ch_vret hC hr hk hS dX5_make_53 ((fun k => [].getD k 0, fun k => [g16618, g16619].getD k (fun _ => 0), fun k => [(u16616.2.2 0)].getD k (fun _ => 0)) : ((Nat → Int32) × (Nat → Nat → Int32) × (Nat → Nat → Int64))) ⟨(show ∀ j, j < 4 → -1 ≤ (g16619 j).toInt ∧ (g16619 j).toInt ≤ 60 from (sz_up eg16619 hsz (by omega) (by omega))), (show g16619 = upd wf2 p0.toInt.toNat p2 from eg16619), (show g16618 = upd wf1 p0.toInt.toNat p1 from eg16618)⟩ (hP.sub [0, 1, 2, 3] rfl) (hD.sub [0, 1, 2, 3] (by decide) rfl)
      · replace c16613 := nle_i c16613
        refine W.widen (k := 0) (n := 0) (by decide) (by decide) ?_
        exact ch_vret hC hr hk hS dX5_make_17 ((fun k => [].getD k 0, fun k => [wf1, wf2].getD k (fun _ => 0), fun k => [wf0].getD k (fun _ => 0)) : ((Nat → Int32) × (Nat → Nat → Int32) × (Nat → Nat → Int64))) ⟨(show ∀ j, j < 4 → -1 ≤ (wf2 j).toInt ∧ (wf2 j).toInt ≤ 60 from hsz), (show wf2 = upd wf2 p0.toInt.toNat p2 from (by exfalso; omega)), (show wf1 = upd wf1 p0.toInt.toNat p1 from (by exfalso; omega))⟩ (hP.sub [0, 1, 2, 3] rfl) (hD.sub [0, 1, 2, 3] (by decide) rfl)
set_option maxRecDepth 40000 in
set_option maxHeartbeats 4000000 in
theorem c_X11_row_f (l : Launch) (D : va_G) (K : Nat → ClassId) (x : Nat) (rd : Nat) (he : Nat) (pa : Nat) (wk : Nat) (ro : Nat) (mi : Nat) (se : Nat) (pl : Nat) (co : Nat) (tr : Nat) (iw : Nat) (ip : Nat) (roa0 : Nat) (roa1 : Nat) (roa2 : Nat) (rof0 : Nat → Int64) (rof1 : Nat → Int32) (rof2 : Nat → Int32) (p0 : Int32) (p1 : Int32) (p2 : Int32) (hsz : ∀ j, j < 4 → -1 ≤ (rof2 j).toInt ∧ (rof2 j).toInt ≤ 60) : Ci (S := ((Nat → Int32) × (Nat → Nat → Int32) × (Nat → Nat → Int64))) l D K yX11_row cX11_row 4 (some .int) 3 71 0 0 [.ref x, .int p0, .int p1, .int p2] [(x, .inr (10, [.ref rd, .ref he, .ref pa, .ref wk, .ref ro, .ref mi, .ref se, .ref pl, .ref co, .ref tr, .ref iw, .ref ip])), (ro, .inr (5, [.ref roa0, .ref roa1, .ref roa2])), (roa0, .inl (K 2, 240, .inr (.inl rof0))), (roa1, .inl (K 1, 4, .inl rof1)), (roa2, .inl (K 1, 4, .inl rof2))] (fun r u => ((r = (-2) ∧ (p0.toInt < 0 ∨ 3 < p0.toInt ∨ p1.toInt < 0 ∨ 3 < p1.toInt ∨ 60 < p2.toInt)) ∨ (r = (-3) ∧ (0 ≤ p0.toInt) ∧ (p0.toInt ≤ 3) ∧ (0 ≤ p1.toInt) ∧ (p1.toInt ≤ 3) ∧ (p2.toInt ≤ 60) ∧ (p2.toInt < 0)) ∨ (r = 0 ∧ (0 ≤ p0.toInt) ∧ (p0.toInt ≤ 3) ∧ (0 ≤ p1.toInt) ∧ (p1.toInt ≤ 3) ∧ (p2.toInt ≤ 60) ∧ (0 ≤ p2.toInt))) ∧ (∀ j, j < 4 → -1 ≤ ((u.2.1 1) j).toInt ∧ ((u.2.1 1) j).toInt ≤ 60) ∧ (r = 0 → (u.2.1 1) = upd rof2 p0.toInt.toNat p2 ∧ (u.2.1 0) = upd rof1 p0.toInt.toNat p1) ∧ (r ≠ 0 → (u.2.1 1) = rof2 ∧ (u.2.1 0) = rof1)) (fun u => [(x, .inr (10, [.ref rd, .ref he, .ref pa, .ref wk, .ref ro, .ref mi, .ref se, .ref pl, .ref co, .ref tr, .ref iw, .ref ip])), (ro, .inr (5, [.ref roa0, .ref roa1, .ref roa2])), (roa0, .inl (K 2, 240, .inr (.inl (u.2.2 0)))), (roa1, .inl (K 1, 4, .inl (u.2.1 0))), (roa2, .inl (K 1, 4, .inl (u.2.1 1)))]) := by
  intro sz
  refine ch_of (y := yX11_row) (cc := cX11_row) (maxL := 4) (ret := (some .int)) (av := [.ref x, .int p0, .int p1, .int p2]) (ws := [(x, .inr (10, [.ref rd, .ref he, .ref pa, .ref wk, .ref ro, .ref mi, .ref se, .ref pl, .ref co, .ref tr, .ref iw, .ref ip])), (ro, .inr (5, [.ref roa0, .ref roa1, .ref roa2])), (roa0, .inl (K 2, 240, .inr (.inl rof0))), (roa1, .inl (K 1, 4, .inl rof1)), (roa2, .inl (K 1, 4, .inl rof2))]) (D := D) (K := K) (Qc := fun A => va_Qi (S := ((Nat → Int32) × (Nat → Nat → Int32) × (Nat → Nat → Int64))) (fun r u => ((r = (-2) ∧ (p0.toInt < 0 ∨ 3 < p0.toInt ∨ p1.toInt < 0 ∨ 3 < p1.toInt ∨ 60 < p2.toInt)) ∨ (r = (-3) ∧ (0 ≤ p0.toInt) ∧ (p0.toInt ≤ 3) ∧ (0 ≤ p1.toInt) ∧ (p1.toInt ≤ 3) ∧ (p2.toInt ≤ 60) ∧ (p2.toInt < 0)) ∨ (r = 0 ∧ (0 ≤ p0.toInt) ∧ (p0.toInt ≤ 3) ∧ (0 ≤ p1.toInt) ∧ (p1.toInt ≤ 3) ∧ (p2.toInt ≤ 60) ∧ (0 ≤ p2.toInt))) ∧ (∀ j, j < 4 → -1 ≤ ((u.2.1 1) j).toInt ∧ ((u.2.1 1) j).toInt ≤ 60) ∧ (r = 0 → (u.2.1 1) = upd rof2 p0.toInt.toNat p2 ∧ (u.2.1 0) = upd rof1 p0.toInt.toNat p1) ∧ (r ≠ 0 → (u.2.1 1) = rof2 ∧ (u.2.1 0) = rof1)) (chB D A (fun u => [(x, .inr (10, [.ref rd, .ref he, .ref pa, .ref wk, .ref ro, .ref mi, .ref se, .ref pl, .ref co, .ref tr, .ref iw, .ref ip])), (ro, .inr (5, [.ref roa0, .ref roa1, .ref roa2])), (roa0, .inl (K 2, 240, .inr (.inl (u.2.2 0)))), (roa1, .inl (K 1, 4, .inl (u.2.1 0))), (roa2, .inl (K 1, 4, .inl (u.2.1 1)))])) A) (by decide) (Nat.le_of_ble_eq_true rfl) ?_
  intro p e s m below meth c A hC hr hk hin hE hD hA H locs hP hS ls hl
  replace hC : CallFix p m c cX11_row 4 s [.ref x, .int p0, .int p1, .int p2].toArray wl RX11 := hC
  have hx := hC.1
  have hb := hC.2.1
  have hml := hC.2.2.1
  have hown := hC.2.2.2.1
  have hts := hC.2.2.2.2
  replace hl : lv_has ls 4 [(0, .ref x), (1, .int p0), (2, .int p1), (3, .int p2)] := hl
  have kc_0 : (0 : Int32).toInt = 0 := by decide
  have kc_4 : (4 : Int32).toInt = 4 := by decide
  have kc_60 : (60 : Int32).toInt = 60 := by decide
  refine lv_iload_n hx hb dX11_row_0 rfl (lv_at hl 1 rfl) ?_
  refine ro_S (As := [.int p0]) (rest := []) hC hE kS_X11_352 (c_X11_isSlot l D K p0) (hP.sub (ws' := []) [] rfl) rfl hl.1 rfl (Nat.le_of_ble_eq_true rfl) (by decide) (by decide) dX11_row_1 (fun r16636 hq => ?_)
  rcases hq with ⟨rfl, h16633⟩ | ⟨rfl, h16634, h16635⟩
  · refine lv_if_eq (tgt := 22) hx hb dX11_row_4 (by decide) (fun _ => ?_) (fun h => absurd h (by decide))
    refine lv_bipush (v := (-2)) hx hb dX11_row_22 (by decide) ?_
    refine W.widen (k := 0) (n := 0) (by decide) (by decide) ?_
    exact ch_iret hC hr hk hS dX11_row_24 ((fun k => [].getD k 0, fun k => [rof1, rof2].getD k (fun _ => 0), fun k => [rof0].getD k (fun _ => 0)) : ((Nat → Int32) × (Nat → Nat → Int32) × (Nat → Nat → Int64))) ⟨(Or.inl ⟨rfl, (by omega)⟩), (show ∀ j, j < 4 → -1 ≤ (rof2 j).toInt ∧ (rof2 j).toInt ≤ 60 from hsz), (show ((-2) : Int32) = 0 → rof2 = upd rof2 p0.toInt.toNat p2 ∧ rof1 = upd rof1 p0.toInt.toNat p1 from (fun h9 => absurd h9 (by decide))), (show ((-2) : Int32) ≠ 0 → rof2 = rof2 ∧ rof1 = rof1 from (fun _ => ⟨rfl, rfl⟩))⟩ (hP.sub [0, 1, 2, 3, 4] rfl) (hD.sub [0, 1, 2, 3, 4] (by decide) rfl)
  · refine lv_if_eq (tgt := 22) hx hb dX11_row_4 (by decide) (fun h => absurd h (by decide)) (fun _ => ?_)
    refine lv_iload_n hx hb dX11_row_7 rfl (lv_at hl 2 rfl) ?_
    refine lv_if_lt (tgt := 22) hx hb dX11_row_8 (by decide) (fun c16637 => ?_) (fun c16637 => ?_)
    · replace c16637 := lt_i c16637
      refine lv_bipush (v := (-2)) hx hb dX11_row_22 (by decide) ?_
      refine W.widen (k := 0) (n := 0) (by decide) (by decide) ?_
      exact ch_iret hC hr hk hS dX11_row_24 ((fun k => [].getD k 0, fun k => [rof1, rof2].getD k (fun _ => 0), fun k => [rof0].getD k (fun _ => 0)) : ((Nat → Int32) × (Nat → Nat → Int32) × (Nat → Nat → Int64))) ⟨(Or.inl ⟨rfl, (by omega)⟩), (show ∀ j, j < 4 → -1 ≤ (rof2 j).toInt ∧ (rof2 j).toInt ≤ 60 from hsz), (show ((-2) : Int32) = 0 → rof2 = upd rof2 p0.toInt.toNat p2 ∧ rof1 = upd rof1 p0.toInt.toNat p1 from (fun h9 => absurd h9 (by decide))), (show ((-2) : Int32) ≠ 0 → rof2 = rof2 ∧ rof1 = rof1 from (fun _ => ⟨rfl, rfl⟩))⟩ (hP.sub [0, 1, 2, 3, 4] rfl) (hD.sub [0, 1, 2, 3, 4] (by decide) rfl)
    · replace c16637 := nlt_i c16637
      refine lv_iload_n hx hb dX11_row_11 rfl (lv_at hl 2 rfl) ?_
      refine lv_iconst (v := 4) hx hb dX11_row_12 (by decide) ?_
      refine lv_icmp_ge (tgt := 22) hx hb dX11_row_13 (by decide) (fun c16638 => ?_) (fun c16638 => ?_)
      · replace c16638 := le_i c16638
        refine lv_bipush (v := (-2)) hx hb dX11_row_22 (by decide) ?_
        refine W.widen (k := 0) (n := 0) (by decide) (by decide) ?_
        exact ch_iret hC hr hk hS dX11_row_24 ((fun k => [].getD k 0, fun k => [rof1, rof2].getD k (fun _ => 0), fun k => [rof0].getD k (fun _ => 0)) : ((Nat → Int32) × (Nat → Nat → Int32) × (Nat → Nat → Int64))) ⟨(Or.inl ⟨rfl, (by omega)⟩), (show ∀ j, j < 4 → -1 ≤ (rof2 j).toInt ∧ (rof2 j).toInt ≤ 60 from hsz), (show ((-2) : Int32) = 0 → rof2 = upd rof2 p0.toInt.toNat p2 ∧ rof1 = upd rof1 p0.toInt.toNat p1 from (fun h9 => absurd h9 (by decide))), (show ((-2) : Int32) ≠ 0 → rof2 = rof2 ∧ rof1 = rof1 from (fun _ => ⟨rfl, rfl⟩))⟩ (hP.sub [0, 1, 2, 3, 4] rfl) (hD.sub [0, 1, 2, 3, 4] (by decide) rfl)
      · replace c16638 := nle_i c16638
        refine lv_iload_n hx hb dX11_row_16 rfl (lv_at hl 3 rfl) ?_
        refine lv_bipush (v := 60) hx hb dX11_row_17 (by decide) ?_
        refine lv_icmp_le (tgt := 25) hx hb dX11_row_19 (by decide) (fun c16639 => ?_) (fun c16639 => ?_)
        · replace c16639 := le_i c16639
          refine lv_iload_n hx hb dX11_row_25 rfl (lv_at hl 3 rfl) ?_
          refine lv_if_ge (tgt := 32) hx hb dX11_row_26 (by decide) (fun c16640 => ?_) (fun c16640 => ?_)
          · replace c16640 := le_i c16640
            refine lv_aload_n hx hb dX11_row_32 rfl (lv_at hl 0 rfl) ?_
            refine va_get (D := D) (ci := 10) (v := .ref ro) (C := RX11) (T := TX11) (N := 12) hx hb hts in_X11 hown hE.1 hP 0 rfl rfl 4 (by decide) (hts _ w_523) (fun _ h9 => h9) rfl dX11_row_33 ?_
            refine lv_iload_n hx hb dX11_row_36 rfl (lv_at hl 1 rfl) ?_
            refine lv_iload_n hx hb dX11_row_37 rfl (lv_at hl 2 rfl) ?_
            refine lv_iload_n hx hb dX11_row_38 rfl (lv_at hl 3 rfl) ?_
            refine cv_V (As := [.int p0, .int p1, .int p2]) (rest := []) (wc := [(ro, .inr (5, [.ref roa0, .ref roa1, .ref roa2])), (roa0, .inl (K 2, 240, .inr (.inl rof0))), (roa1, .inl (K 1, 4, .inl rof1)), (roa2, .inl (K 1, 4, .inl rof2))]) (wr := [(x, .inr (10, [.ref rd, .ref he, .ref pa, .ref wk, .ref ro, .ref mi, .ref se, .ref pl, .ref co, .ref tr, .ref iw, .ref ip]))]) hC hE kV_X11_355 (c_X5_make_f l D K ro roa0 roa1 roa2 rof0 rof1 rof2 p0 p1 p2 hsz (by omega) (by omega)) hP hD hS hA [1, 2, 3, 4] [0] rfl rfl rfl (by decide) (by decide) (by decide) 0 5 rfl rfl rfl hl.1 rfl (Nat.le_of_ble_eq_true rfl) (by decide) (by decide) dX11_row_39 (fun u16641 H locs hw hP hD hS => ?_)
            replace hP : va_P D vwCl [(x, .inr (10, [.ref rd, .ref he, .ref pa, .ref wk, .ref ro, .ref mi, .ref se, .ref pl, .ref co, .ref tr, .ref iw, .ref ip])), (ro, .inr (5, [.ref roa0, .ref roa1, .ref roa2])), (roa0, .inl (K 2, 240, .inr (.inl (u16641.2.2 0)))), (roa1, .inl (K 1, 4, .inl (u16641.2.1 0))), (roa2, .inl (K 1, 4, .inl (u16641.2.1 1)))] H := hP
            replace hD : va_D A [(x, .inr (10, [.ref rd, .ref he, .ref pa, .ref wk, .ref ro, .ref mi, .ref se, .ref pl, .ref co, .ref tr, .ref iw, .ref ip])), (ro, .inr (5, [.ref roa0, .ref roa1, .ref roa2])), (roa0, .inl (K 2, 240, .inr (.inl (u16641.2.2 0)))), (roa1, .inl (K 1, 4, .inl (u16641.2.1 0))), (roa2, .inl (K 1, 4, .inl (u16641.2.1 1)))] := hD
            replace hP : va_P D vwCl [(x, .inr (10, [.ref rd, .ref he, .ref pa, .ref wk, .ref ro, .ref mi, .ref se, .ref pl, .ref co, .ref tr, .ref iw, .ref ip])), (ro, .inr (5, [.ref roa0, .ref roa1, .ref roa2])), (roa0, .inl (K 2, 240, .inr (.inl (u16641.2.2 0)))), (roa1, .inl (K 1, 4, .inl (u16641.2.1 0))), (roa2, .inl (K 1, 4, .inl (u16641.2.1 1)))] H := hP.sub [0, 1, 2, 3, 4] rfl
            replace hD : va_D A [(x, .inr (10, [.ref rd, .ref he, .ref pa, .ref wk, .ref ro, .ref mi, .ref se, .ref pl, .ref co, .ref tr, .ref iw, .ref ip])), (ro, .inr (5, [.ref roa0, .ref roa1, .ref roa2])), (roa0, .inl (K 2, 240, .inr (.inl (u16641.2.2 0)))), (roa1, .inl (K 1, 4, .inl (u16641.2.1 0))), (roa2, .inl (K 1, 4, .inl (u16641.2.1 1)))] := hD.sub [0, 1, 2, 3, 4] (by decide) rfl
            refine W.widen (k := 0) (n := 0) (by decide) (by decide) ?_
            have hf := hw
            have f16643 : ∀ j, j < 4 → -1 ≤ ((u16641.2.1 1) j).toInt ∧ ((u16641.2.1 1) j).toInt ≤ 60 := hf.1
            have f16644 : (u16641.2.1 1) = upd rof2 p0.toInt.toNat p2 := hf.2.1
            have f16645 : (u16641.2.1 0) = upd rof1 p0.toInt.toNat p1 := hf.2.2
            refine lv_iconst (v := 0) hx hb dX11_row_42 (by decide) ?_
            refine W.widen (k := 0) (n := 0) (by decide) (by decide) ?_
            exact ch_iret hC hr hk hS dX11_row_43 ((fun k => [].getD k 0, fun k => [(u16641.2.1 0), (u16641.2.1 1)].getD k (fun _ => 0), fun k => [(u16641.2.2 0)].getD k (fun _ => 0)) : ((Nat → Int32) × (Nat → Nat → Int32) × (Nat → Nat → Int64))) ⟨(Or.inr (Or.inr ⟨rfl, (by omega), (by omega), (by omega), (by omega), (by omega), (by omega)⟩)), (show ∀ j, j < 4 → -1 ≤ ((u16641.2.1 1) j).toInt ∧ ((u16641.2.1 1) j).toInt ≤ 60 from f16643), (show (0 : Int32) = 0 → (u16641.2.1 1) = upd rof2 p0.toInt.toNat p2 ∧ (u16641.2.1 0) = upd rof1 p0.toInt.toNat p1 from (fun _ => ⟨f16644, f16645⟩)), (show (0 : Int32) ≠ 0 → (u16641.2.1 1) = rof2 ∧ (u16641.2.1 0) = rof1 from (fun h9 => absurd rfl h9))⟩ (hP.sub [0, 1, 2, 3, 4] rfl) (hD.sub [0, 1, 2, 3, 4] (by decide) rfl)
          · replace c16640 := nle_i c16640
            refine lv_bipush (v := (-3)) hx hb dX11_row_29 (by decide) ?_
            refine W.widen (k := 0) (n := 0) (by decide) (by decide) ?_
            exact ch_iret hC hr hk hS dX11_row_31 ((fun k => [].getD k 0, fun k => [rof1, rof2].getD k (fun _ => 0), fun k => [rof0].getD k (fun _ => 0)) : ((Nat → Int32) × (Nat → Nat → Int32) × (Nat → Nat → Int64))) ⟨(Or.inr (Or.inl ⟨rfl, (by omega), (by omega), (by omega), (by omega), (by omega), (by omega)⟩)), (show ∀ j, j < 4 → -1 ≤ (rof2 j).toInt ∧ (rof2 j).toInt ≤ 60 from hsz), (show ((-3) : Int32) = 0 → rof2 = upd rof2 p0.toInt.toNat p2 ∧ rof1 = upd rof1 p0.toInt.toNat p1 from (fun h9 => absurd h9 (by decide))), (show ((-3) : Int32) ≠ 0 → rof2 = rof2 ∧ rof1 = rof1 from (fun _ => ⟨rfl, rfl⟩))⟩ (hP.sub [0, 1, 2, 3, 4] rfl) (hD.sub [0, 1, 2, 3, 4] (by decide) rfl)
        · replace c16639 := nle_i c16639
          refine lv_bipush (v := (-2)) hx hb dX11_row_22 (by decide) ?_
          refine W.widen (k := 0) (n := 0) (by decide) (by decide) ?_
          exact ch_iret hC hr hk hS dX11_row_24 ((fun k => [].getD k 0, fun k => [rof1, rof2].getD k (fun _ => 0), fun k => [rof0].getD k (fun _ => 0)) : ((Nat → Int32) × (Nat → Nat → Int32) × (Nat → Nat → Int64))) ⟨(Or.inl ⟨rfl, (by omega)⟩), (show ∀ j, j < 4 → -1 ≤ (rof2 j).toInt ∧ (rof2 j).toInt ≤ 60 from hsz), (show ((-2) : Int32) = 0 → rof2 = upd rof2 p0.toInt.toNat p2 ∧ rof1 = upd rof1 p0.toInt.toNat p1 from (fun h9 => absurd h9 (by decide))), (show ((-2) : Int32) ≠ 0 → rof2 = rof2 ∧ rof1 = rof1 from (fun _ => ⟨rfl, rfl⟩))⟩ (hP.sub [0, 1, 2, 3, 4] rfl) (hD.sub [0, 1, 2, 3, 4] (by decide) rfl)
set_option maxRecDepth 40000 in
set_option maxHeartbeats 4000000 in
theorem c_X12_row_f (l : Launch) (D : va_G) (K : Nat → ClassId) (md : Nat) (ma1 : Nat) (ma2 : Nat) (ma3 : Nat) (ma4 : Nat) (ma6 : Nat) (ma14 : Nat) (ma21 : Nat) (ma22 : Nat) (ma23 : Nat) (ma24 : Nat) (ma26 : Nat) (ma27 : Nat) (ma28 : Nat) (ma29 : Nat) (ma30 : Nat) (ma31 : Nat) (ma32 : Nat) (ma33 : Nat) (ma34 : Nat) (ma35 : Nat) (ma36 : Nat) (ma40 : Nat) (ma41 : Nat) (ma42 : Nat) (ma45 : Nat) (ma46 : Nat) (ma47 : Nat) (ma49 : Nat) (ma50 : Nat) (ma51 : Nat) (ma52 : Nat) (mn0 : Int32) (mn5 : Int32) (mn7 : Int32) (mn8 : Int32) (mn9 : Int32) (mn10 : Int32) (mn11 : Int32) (mn12 : Int32) (mn13 : Int32) (mn15 : Int32) (mn16 : Int32) (mn17 : Int32) (mn18 : Int32) (mn19 : Int32) (mn20 : Int32) (mn25 : Int32) (mn37 : Int32) (mn38 : Int32) (mn39 : Int32) (mn43 : Int32) (mn44 : Int32) (mn48 : Int32) (mf49 : Nat → Int32) (mf50 : Nat → Int32) (mf51 : Nat → Int64) (p0 : Int32) (p1 : Int32) (p2 : Int32) (hs49_0 : Rg (-1) 60 4 mf49) (hs50_0 : Rg 0 3 4 mf50) : Ci (S := ((Nat → Int32) × (Nat → Nat → Int32) × (Nat → Nat → Int64))) l D K yX12_row cX12_row 5 (some .int) 2 45 0 0 [.ref md, .int p0, .int p1, .int p2] [(md, .inr (11, [.int mn0, .ref ma1, .ref ma2, .ref ma3, .ref ma4, .int mn5, .ref ma6, .int mn7, .int mn8, .int mn9, .int mn10, .int mn11, .int mn12, .int mn13, .ref ma14, .int mn15, .int mn16, .int mn17, .int mn18, .int mn19, .int mn20, .ref ma21, .ref ma22, .ref ma23, .ref ma24, .int mn25, .ref ma26, .ref ma27, .ref ma28, .ref ma29, .ref ma30, .ref ma31, .ref ma32, .ref ma33, .ref ma34, .ref ma35, .ref ma36, .int mn37, .int mn38, .int mn39, .ref ma40, .ref ma41, .ref ma42, .int mn43, .int mn44, .ref ma45, .ref ma46, .ref ma47, .int mn48, .ref ma49, .ref ma50, .ref ma51, .ref ma52])), (ma49, .inl (K 1, 4, .inl mf49)), (ma50, .inl (K 1, 4, .inl mf50)), (ma51, .inl (K 2, 240, .inr (.inl mf51)))] (fun r u => ((r = (-2) ∧ (p0.toInt < 0 ∨ 3 < p0.toInt ∨ p1.toInt < 0 ∨ 3 < p1.toInt ∨ 60 < p2.toInt)) ∨ (r = (-3) ∧ (0 ≤ p0.toInt) ∧ (p0.toInt ≤ 3) ∧ (0 ≤ p1.toInt) ∧ (p1.toInt ≤ 3) ∧ (p2.toInt ≤ 60) ∧ (p2.toInt < 0)) ∨ (r = 0 ∧ (0 ≤ p0.toInt) ∧ (p0.toInt ≤ 3) ∧ (0 ≤ p1.toInt) ∧ (p1.toInt ≤ 3) ∧ (p2.toInt ≤ 60) ∧ (0 ≤ p2.toInt))) ∧ (r = 0 → (u.2.1 0) = upd mf49 p0.toInt.toNat p2 ∧ (u.2.1 1) = upd mf50 p0.toInt.toNat p1) ∧ (r ≠ 0 → (u.2.1 0) = mf49 ∧ (u.2.1 1) = mf50) ∧ (Rg (-1) 60 4 (u.2.1 0)) ∧ (Rg 0 3 4 (u.2.1 1))) (fun u => [(md, .inr (11, [.int mn0, .ref ma1, .ref ma2, .ref ma3, .ref ma4, .int mn5, .ref ma6, .int mn7, .int mn8, .int mn9, .int mn10, .int mn11, .int mn12, .int mn13, .ref ma14, .int mn15, .int mn16, .int mn17, .int mn18, .int mn19, .int mn20, .ref ma21, .ref ma22, .ref ma23, .ref ma24, .int mn25, .ref ma26, .ref ma27, .ref ma28, .ref ma29, .ref ma30, .ref ma31, .ref ma32, .ref ma33, .ref ma34, .ref ma35, .ref ma36, .int mn37, .int mn38, .int mn39, .ref ma40, .ref ma41, .ref ma42, .int mn43, .int mn44, .ref ma45, .ref ma46, .ref ma47, .int mn48, .ref ma49, .ref ma50, .ref ma51, .ref ma52])), (ma49, .inl (K 1, 4, .inl (u.2.1 0))), (ma50, .inl (K 1, 4, .inl (u.2.1 1))), (ma51, .inl (K 2, 240, .inr (.inl (u.2.2 0))))]) := by
  intro sz
  refine ch_of (y := yX12_row) (cc := cX12_row) (maxL := 5) (ret := (some .int)) (av := [.ref md, .int p0, .int p1, .int p2]) (ws := [(md, .inr (11, [.int mn0, .ref ma1, .ref ma2, .ref ma3, .ref ma4, .int mn5, .ref ma6, .int mn7, .int mn8, .int mn9, .int mn10, .int mn11, .int mn12, .int mn13, .ref ma14, .int mn15, .int mn16, .int mn17, .int mn18, .int mn19, .int mn20, .ref ma21, .ref ma22, .ref ma23, .ref ma24, .int mn25, .ref ma26, .ref ma27, .ref ma28, .ref ma29, .ref ma30, .ref ma31, .ref ma32, .ref ma33, .ref ma34, .ref ma35, .ref ma36, .int mn37, .int mn38, .int mn39, .ref ma40, .ref ma41, .ref ma42, .int mn43, .int mn44, .ref ma45, .ref ma46, .ref ma47, .int mn48, .ref ma49, .ref ma50, .ref ma51, .ref ma52])), (ma49, .inl (K 1, 4, .inl mf49)), (ma50, .inl (K 1, 4, .inl mf50)), (ma51, .inl (K 2, 240, .inr (.inl mf51)))]) (D := D) (K := K) (Qc := fun A => va_Qi (S := ((Nat → Int32) × (Nat → Nat → Int32) × (Nat → Nat → Int64))) (fun r u => ((r = (-2) ∧ (p0.toInt < 0 ∨ 3 < p0.toInt ∨ p1.toInt < 0 ∨ 3 < p1.toInt ∨ 60 < p2.toInt)) ∨ (r = (-3) ∧ (0 ≤ p0.toInt) ∧ (p0.toInt ≤ 3) ∧ (0 ≤ p1.toInt) ∧ (p1.toInt ≤ 3) ∧ (p2.toInt ≤ 60) ∧ (p2.toInt < 0)) ∨ (r = 0 ∧ (0 ≤ p0.toInt) ∧ (p0.toInt ≤ 3) ∧ (0 ≤ p1.toInt) ∧ (p1.toInt ≤ 3) ∧ (p2.toInt ≤ 60) ∧ (0 ≤ p2.toInt))) ∧ (r = 0 → (u.2.1 0) = upd mf49 p0.toInt.toNat p2 ∧ (u.2.1 1) = upd mf50 p0.toInt.toNat p1) ∧ (r ≠ 0 → (u.2.1 0) = mf49 ∧ (u.2.1 1) = mf50) ∧ (Rg (-1) 60 4 (u.2.1 0)) ∧ (Rg 0 3 4 (u.2.1 1))) (chB D A (fun u => [(md, .inr (11, [.int mn0, .ref ma1, .ref ma2, .ref ma3, .ref ma4, .int mn5, .ref ma6, .int mn7, .int mn8, .int mn9, .int mn10, .int mn11, .int mn12, .int mn13, .ref ma14, .int mn15, .int mn16, .int mn17, .int mn18, .int mn19, .int mn20, .ref ma21, .ref ma22, .ref ma23, .ref ma24, .int mn25, .ref ma26, .ref ma27, .ref ma28, .ref ma29, .ref ma30, .ref ma31, .ref ma32, .ref ma33, .ref ma34, .ref ma35, .ref ma36, .int mn37, .int mn38, .int mn39, .ref ma40, .ref ma41, .ref ma42, .int mn43, .int mn44, .ref ma45, .ref ma46, .ref ma47, .int mn48, .ref ma49, .ref ma50, .ref ma51, .ref ma52])), (ma49, .inl (K 1, 4, .inl (u.2.1 0))), (ma50, .inl (K 1, 4, .inl (u.2.1 1))), (ma51, .inl (K 2, 240, .inr (.inl (u.2.2 0))))])) A) (by decide) (Nat.le_of_ble_eq_true rfl) ?_
  intro p e s m below meth c A hC hr hk hin hE hD hA H locs hP hS ls hl
  replace hC : CallFix p m c cX12_row 5 s [.ref md, .int p0, .int p1, .int p2].toArray wl RX12 := hC
  have hx := hC.1
  have hb := hC.2.1
  have hml := hC.2.2.1
  have hown := hC.2.2.2.1
  have hts := hC.2.2.2.2
  replace hl : lv_has ls 5 [(0, .ref md), (1, .int p0), (2, .int p1), (3, .int p2)] := hl
  have kc_0 : (0 : Int32).toInt = 0 := by decide
  have kc_1 : (1 : Int32).toInt = 1 := by decide
  have kc_60 : (60 : Int32).toInt = 60 := by decide
  have kl_0 : (0 : Int64).toInt = 0 := by decide
  have kl_3 : (3 : Int64).toInt = 3 := by decide
  refine lv_iload_n hx hb dX12_row_0 rfl (lv_at hl 1 rfl) ?_
  refine ro_S (As := [.int p0]) (rest := []) hC hE kS_X12_334 (c_X12_isSlot l D K p0) (hP.sub (ws' := []) [] rfl) rfl hl.1 rfl (Nat.le_of_ble_eq_true rfl) (by decide) (by decide) dX12_row_1 (fun r16668 hq => ?_)
  rcases hq with ⟨rfl, h16665⟩ | ⟨rfl, h16666, h16667⟩
  · refine lv_if_eq (tgt := 25) hx hb dX12_row_4 (by decide) (fun _ => ?_) (fun h => absurd h (by decide))
    refine lv_bipush (v := (-2)) hx hb dX12_row_25 (by decide) ?_
    refine W.widen (k := 0) (n := 0) (by decide) (by decide) ?_
    exact ch_iret hC hr hk hS dX12_row_27 ((fun k => [].getD k 0, fun k => [mf49, mf50].getD k (fun _ => 0), fun k => [mf51].getD k (fun _ => 0)) : ((Nat → Int32) × (Nat → Nat → Int32) × (Nat → Nat → Int64))) ⟨(Or.inl ⟨rfl, (by omega)⟩), (show ((-2) : Int32) = 0 → mf49 = upd mf49 p0.toInt.toNat p2 ∧ mf50 = upd mf50 p0.toInt.toNat p1 from (fun h9 => absurd h9 (by decide))), (show ((-2) : Int32) ≠ 0 → mf49 = mf49 ∧ mf50 = mf50 from (fun _ => ⟨rfl, rfl⟩)), (show Rg (-1) 60 4 mf49 from hs49_0), (show Rg 0 3 4 mf50 from hs50_0)⟩ (hP.sub [0, 1, 2, 3] rfl) (hD.sub [0, 1, 2, 3] (by decide) rfl)
  · refine lv_if_eq (tgt := 25) hx hb dX12_row_4 (by decide) (fun h => absurd h (by decide)) (fun _ => ?_)
    refine lv_iload_n hx hb dX12_row_7 rfl (lv_at hl 2 rfl) ?_
    refine lv_i2l hx hb dX12_row_8 rfl ?_
    refine lv_topl (fun v16669 ev16669 => ?_)
    refine lv_lconst (v := 0) hx hb dX12_row_9 (by decide) ?_
    refine lv_ldc2 (v := 3) hx hb hown (hts _ w_763) dX12_row_10 ?_
    have tv16669 : v16669.toInt = (p1 : Int32).toInt := i2l_i ev16669
    refine ro_S (As := [.long v16669, .long 0, .long 3]) (rest := []) hC hE kS_X12_115 (c_X12_in l D K v16669 0 3) (hP.sub (ws' := []) [] rfl) rfl hl.1 rfl (Nat.le_of_ble_eq_true rfl) (by decide) (by decide) dX12_row_13 (fun r16673 hq => ?_)
    rcases hq with ⟨rfl, h16670⟩ | ⟨rfl, h16671, h16672⟩
    · refine lv_if_eq (tgt := 25) hx hb dX12_row_16 (by decide) (fun _ => ?_) (fun h => absurd h (by decide))
      refine lv_bipush (v := (-2)) hx hb dX12_row_25 (by decide) ?_
      refine W.widen (k := 0) (n := 0) (by decide) (by decide) ?_
      exact ch_iret hC hr hk hS dX12_row_27 ((fun k => [].getD k 0, fun k => [mf49, mf50].getD k (fun _ => 0), fun k => [mf51].getD k (fun _ => 0)) : ((Nat → Int32) × (Nat → Nat → Int32) × (Nat → Nat → Int64))) ⟨(Or.inl ⟨rfl, (by omega)⟩), (show ((-2) : Int32) = 0 → mf49 = upd mf49 p0.toInt.toNat p2 ∧ mf50 = upd mf50 p0.toInt.toNat p1 from (fun h9 => absurd h9 (by decide))), (show ((-2) : Int32) ≠ 0 → mf49 = mf49 ∧ mf50 = mf50 from (fun _ => ⟨rfl, rfl⟩)), (show Rg (-1) 60 4 mf49 from hs49_0), (show Rg 0 3 4 mf50 from hs50_0)⟩ (hP.sub [0, 1, 2, 3] rfl) (hD.sub [0, 1, 2, 3] (by decide) rfl)
    · refine lv_if_eq (tgt := 25) hx hb dX12_row_16 (by decide) (fun h => absurd h (by decide)) (fun _ => ?_)
      refine lv_iload_n hx hb dX12_row_19 rfl (lv_at hl 3 rfl) ?_
      refine lv_bipush (v := 60) hx hb dX12_row_20 (by decide) ?_
      refine lv_icmp_le (tgt := 28) hx hb dX12_row_22 (by decide) (fun c16674 => ?_) (fun c16674 => ?_)
      · replace c16674 := le_i c16674
        refine lv_iload_n hx hb dX12_row_28 rfl (lv_at hl 3 rfl) ?_
        refine lv_if_ge (tgt := 35) hx hb dX12_row_29 (by decide) (fun c16675 => ?_) (fun c16675 => ?_)
        · replace c16675 := le_i c16675
          refine lv_aload_n hx hb dX12_row_35 rfl (lv_at hl 0 rfl) ?_
          refine va_get (D := D) (ci := 11) (v := .ref ma49) (C := RX12) (T := TX12) (N := 53) hx hb hts in_X12 hown hE.1 hP 0 rfl rfl 49 (by decide) (hts _ w_999) (fun _ h9 => h9) rfl dX12_row_36 ?_
          refine lv_iload_n hx hb dX12_row_39 rfl (lv_at hl 1 rfl) ?_
          refine lv_iload_n hx hb dX12_row_40 rfl (lv_at hl 3 rfl) ?_
          refine sti hx hb hE.1 hP hD hS 1 1 rfl rfl (vp_in_iff.mpr (by omega)) dX12_row_41 (fun g16676 eg16676 H locs hP hD hS => ?_)
          replace hP : va_P D vwCl [(md, .inr (11, [.int mn0, .ref ma1, .ref ma2, .ref ma3, .ref ma4, .int mn5, .ref ma6, .int mn7, .int mn8, .int mn9, .int mn10, .int mn11, .int mn12, .int mn13, .ref ma14, .int mn15, .int mn16, .int mn17, .int mn18, .int mn19, .int mn20, .ref ma21, .ref ma22, .ref ma23, .ref ma24, .int mn25, .ref ma26, .ref ma27, .ref ma28, .ref ma29, .ref ma30, .ref ma31, .ref ma32, .ref ma33, .ref ma34, .ref ma35, .ref ma36, .int mn37, .int mn38, .int mn39, .ref ma40, .ref ma41, .ref ma42, .int mn43, .int mn44, .ref ma45, .ref ma46, .ref ma47, .int mn48, .ref ma49, .ref ma50, .ref ma51, .ref ma52])), (ma49, .inl (K 1, 4, .inl g16676)), (ma50, .inl (K 1, 4, .inl mf50)), (ma51, .inl (K 2, 240, .inr (.inl mf51)))] H := hP
          replace hD : va_D A [(md, .inr (11, [.int mn0, .ref ma1, .ref ma2, .ref ma3, .ref ma4, .int mn5, .ref ma6, .int mn7, .int mn8, .int mn9, .int mn10, .int mn11, .int mn12, .int mn13, .ref ma14, .int mn15, .int mn16, .int mn17, .int mn18, .int mn19, .int mn20, .ref ma21, .ref ma22, .ref ma23, .ref ma24, .int mn25, .ref ma26, .ref ma27, .ref ma28, .ref ma29, .ref ma30, .ref ma31, .ref ma32, .ref ma33, .ref ma34, .ref ma35, .ref ma36, .int mn37, .int mn38, .int mn39, .ref ma40, .ref ma41, .ref ma42, .int mn43, .int mn44, .ref ma45, .ref ma46, .ref ma47, .int mn48, .ref ma49, .ref ma50, .ref ma51, .ref ma52])), (ma49, .inl (K 1, 4, .inl g16676)), (ma50, .inl (K 1, 4, .inl mf50)), (ma51, .inl (K 2, 240, .inr (.inl mf51)))] := hD
          have q16677 : Rg (-1) 60 4 g16676 := rg_up hs49_0 eg16676 (by omega) (by omega)
          refine lv_aload_n hx hb dX12_row_42 rfl (lv_at hl 0 rfl) ?_
          refine va_get (D := D) (ci := 11) (v := .ref ma50) (C := RX12) (T := TX12) (N := 53) hx hb hts in_X12 hown hE.1 hP 0 rfl rfl 50 (by decide) (hts _ w_1150) (fun _ h9 => h9) rfl dX12_row_43 ?_
          refine lv_iload_n hx hb dX12_row_46 rfl (lv_at hl 1 rfl) ?_
          refine lv_iload_n hx hb dX12_row_47 rfl (lv_at hl 2 rfl) ?_
          refine sti hx hb hE.1 hP hD hS 2 1 rfl rfl (vp_in_iff.mpr (by omega)) dX12_row_48 (fun g16678 eg16678 H locs hP hD hS => ?_)
          replace hP : va_P D vwCl [(md, .inr (11, [.int mn0, .ref ma1, .ref ma2, .ref ma3, .ref ma4, .int mn5, .ref ma6, .int mn7, .int mn8, .int mn9, .int mn10, .int mn11, .int mn12, .int mn13, .ref ma14, .int mn15, .int mn16, .int mn17, .int mn18, .int mn19, .int mn20, .ref ma21, .ref ma22, .ref ma23, .ref ma24, .int mn25, .ref ma26, .ref ma27, .ref ma28, .ref ma29, .ref ma30, .ref ma31, .ref ma32, .ref ma33, .ref ma34, .ref ma35, .ref ma36, .int mn37, .int mn38, .int mn39, .ref ma40, .ref ma41, .ref ma42, .int mn43, .int mn44, .ref ma45, .ref ma46, .ref ma47, .int mn48, .ref ma49, .ref ma50, .ref ma51, .ref ma52])), (ma49, .inl (K 1, 4, .inl g16676)), (ma50, .inl (K 1, 4, .inl g16678)), (ma51, .inl (K 2, 240, .inr (.inl mf51)))] H := hP
          replace hD : va_D A [(md, .inr (11, [.int mn0, .ref ma1, .ref ma2, .ref ma3, .ref ma4, .int mn5, .ref ma6, .int mn7, .int mn8, .int mn9, .int mn10, .int mn11, .int mn12, .int mn13, .ref ma14, .int mn15, .int mn16, .int mn17, .int mn18, .int mn19, .int mn20, .ref ma21, .ref ma22, .ref ma23, .ref ma24, .int mn25, .ref ma26, .ref ma27, .ref ma28, .ref ma29, .ref ma30, .ref ma31, .ref ma32, .ref ma33, .ref ma34, .ref ma35, .ref ma36, .int mn37, .int mn38, .int mn39, .ref ma40, .ref ma41, .ref ma42, .int mn43, .int mn44, .ref ma45, .ref ma46, .ref ma47, .int mn48, .ref ma49, .ref ma50, .ref ma51, .ref ma52])), (ma49, .inl (K 1, 4, .inl g16676)), (ma50, .inl (K 1, 4, .inl g16678)), (ma51, .inl (K 2, 240, .inr (.inl mf51)))] := hD
          have q16679 : Rg 0 3 4 g16678 := rg_up hs50_0 eg16678 (by omega) (by omega)
          refine lv_iconst (v := 0) hx hb dX12_row_49 (by decide) ?_
          refine lv_istore (lv' := [(4, .int 0), (0, .ref md), (1, .int p0), (2, .int p1), (3, .int p2)]) hx hb dX12_row_50 hl (by decide) rfl (fun ls hl => ?_)
          have hl' := hl; have hP' := hP; have hD' := hD; clear hl hP hD
          obtain ⟨i16686, g16687, hi_52, hl, hP, hD⟩ : ∃ (i16686 : Int32) (g16687 : Nat → Int64), ((0 : Int) ≤ i16686.toInt) ∧ lv_has ls 5 [(4, .int i16686), (0, .ref md), (1, .int p0), (2, .int p1), (3, .int p2)] ∧ va_P D vwCl [(md, .inr (11, [.int mn0, .ref ma1, .ref ma2, .ref ma3, .ref ma4, .int mn5, .ref ma6, .int mn7, .int mn8, .int mn9, .int mn10, .int mn11, .int mn12, .int mn13, .ref ma14, .int mn15, .int mn16, .int mn17, .int mn18, .int mn19, .int mn20, .ref ma21, .ref ma22, .ref ma23, .ref ma24, .int mn25, .ref ma26, .ref ma27, .ref ma28, .ref ma29, .ref ma30, .ref ma31, .ref ma32, .ref ma33, .ref ma34, .ref ma35, .ref ma36, .int mn37, .int mn38, .int mn39, .ref ma40, .ref ma41, .ref ma42, .int mn43, .int mn44, .ref ma45, .ref ma46, .ref ma47, .int mn48, .ref ma49, .ref ma50, .ref ma51, .ref ma52])), (ma49, .inl (K 1, 4, .inl g16676)), (ma50, .inl (K 1, 4, .inl g16678)), (ma51, .inl (K 2, 240, .inr (.inl g16687)))] H ∧ va_D A [(md, .inr (11, [.int mn0, .ref ma1, .ref ma2, .ref ma3, .ref ma4, .int mn5, .ref ma6, .int mn7, .int mn8, .int mn9, .int mn10, .int mn11, .int mn12, .int mn13, .ref ma14, .int mn15, .int mn16, .int mn17, .int mn18, .int mn19, .int mn20, .ref ma21, .ref ma22, .ref ma23, .ref ma24, .int mn25, .ref ma26, .ref ma27, .ref ma28, .ref ma29, .ref ma30, .ref ma31, .ref ma32, .ref ma33, .ref ma34, .ref ma35, .ref ma36, .int mn37, .int mn38, .int mn39, .ref ma40, .ref ma41, .ref ma42, .int mn43, .int mn44, .ref ma45, .ref ma46, .ref ma47, .int mn48, .ref ma49, .ref ma50, .ref ma51, .ref ma52])), (ma49, .inl (K 1, 4, .inl g16676)), (ma50, .inl (K 1, 4, .inl g16678)), (ma51, .inl (K 2, 240, .inr (.inl g16687)))] := ⟨_, _, by omega, hl', hP', hD'⟩
          clear hl' hP' hD'
          obtain ⟨n_52, hn_52⟩ : ∃ n : Nat, (60 - i16686.toInt).toNat < n := ⟨_, Nat.lt_succ_self _⟩
          induction n_52 generalizing i16686 g16687 H locs ls with
          | zero => exact absurd hn_52 (Nat.not_lt_zero _)
          | succ n_52 ih_52 =>
            refine lv_iload hx hb dX12_row_52 (lv_at hl 0 rfl) ?_
            refine lv_bipush (v := 60) hx hb dX12_row_54 (by decide) ?_
            refine lv_icmp_ge (tgt := 78) hx hb dX12_row_56 (by decide) (fun c16688 => ?_) (fun c16688 => ?_)
            · replace c16688 := le_i c16688
              refine lv_iconst (v := 0) hx hb dX12_row_78 (by decide) ?_
              refine W.widen (k := 0) (n := 0) (by decide) (by decide) ?_
              exact ch_iret hC hr hk hS dX12_row_79 ((fun k => [].getD k 0, fun k => [g16676, g16678].getD k (fun _ => 0), fun k => [g16687].getD k (fun _ => 0)) : ((Nat → Int32) × (Nat → Nat → Int32) × (Nat → Nat → Int64))) ⟨(Or.inr (Or.inr ⟨rfl, (by omega), (by omega), (by omega), (by omega), (by omega), (by omega)⟩)), (show (0 : Int32) = 0 → g16676 = upd mf49 p0.toInt.toNat p2 ∧ g16678 = upd mf50 p0.toInt.toNat p1 from (fun _ => ⟨eg16676, eg16678⟩)), (show (0 : Int32) ≠ 0 → g16676 = mf49 ∧ g16678 = mf50 from (fun h9 => absurd rfl h9)), (show Rg (-1) 60 4 g16676 from q16677), (show Rg 0 3 4 g16678 from q16679)⟩ (hP.sub [0, 1, 2, 3] rfl) (hD.sub [0, 1, 2, 3] (by decide) rfl)
            · replace c16688 := nle_i c16688
              refine lv_aload_n hx hb dX12_row_59 rfl (lv_at hl 1 rfl) ?_
              refine va_get (D := D) (ci := 11) (v := .ref ma51) (C := RX12) (T := TX12) (N := 53) hx hb hts in_X12 hown hE.1 hP 0 rfl rfl 51 (by decide) (hts _ w_995) (fun _ h9 => h9) rfl dX12_row_60 ?_
              refine lv_bipush (v := 60) hx hb dX12_row_63 (by decide) ?_
              refine lv_iload_n hx hb dX12_row_65 rfl (lv_at hl 2 rfl) ?_
              refine lv_imul hx hb dX12_row_66 ?_
              refine lv_topi (fun v16689 ev16689 => ?_)
              refine lv_iload hx hb dX12_row_67 (lv_at hl 0 rfl) ?_
              refine lv_iadd hx hb dX12_row_69 ?_
              refine lv_topi (fun v16690 ev16690 => ?_)
              refine lv_lconst (v := 0) hx hb dX12_row_70 (by decide) ?_
              have tv16689 : v16689.toInt = 60 * p0.toInt := mul_i ev16689 (by decide) rfl (by omega) (by omega)
              have tv16690 : v16690.toInt = (v16689 : Int32).toInt + (i16686 : Int32).toInt := add_i ev16690 (by omega) (by omega)
              refine stl hx hb hE.1 hP hD hS 3 2 rfl rfl (vp_in_iff.mpr (by omega)) dX12_row_71 (fun g16691 eg16691 H locs hP hD hS => ?_)
              replace hP : va_P D vwCl [(md, .inr (11, [.int mn0, .ref ma1, .ref ma2, .ref ma3, .ref ma4, .int mn5, .ref ma6, .int mn7, .int mn8, .int mn9, .int mn10, .int mn11, .int mn12, .int mn13, .ref ma14, .int mn15, .int mn16, .int mn17, .int mn18, .int mn19, .int mn20, .ref ma21, .ref ma22, .ref ma23, .ref ma24, .int mn25, .ref ma26, .ref ma27, .ref ma28, .ref ma29, .ref ma30, .ref ma31, .ref ma32, .ref ma33, .ref ma34, .ref ma35, .ref ma36, .int mn37, .int mn38, .int mn39, .ref ma40, .ref ma41, .ref ma42, .int mn43, .int mn44, .ref ma45, .ref ma46, .ref ma47, .int mn48, .ref ma49, .ref ma50, .ref ma51, .ref ma52])), (ma49, .inl (K 1, 4, .inl g16676)), (ma50, .inl (K 1, 4, .inl g16678)), (ma51, .inl (K 2, 240, .inr (.inl g16691)))] H := hP
              replace hD : va_D A [(md, .inr (11, [.int mn0, .ref ma1, .ref ma2, .ref ma3, .ref ma4, .int mn5, .ref ma6, .int mn7, .int mn8, .int mn9, .int mn10, .int mn11, .int mn12, .int mn13, .ref ma14, .int mn15, .int mn16, .int mn17, .int mn18, .int mn19, .int mn20, .ref ma21, .ref ma22, .ref ma23, .ref ma24, .int mn25, .ref ma26, .ref ma27, .ref ma28, .ref ma29, .ref ma30, .ref ma31, .ref ma32, .ref ma33, .ref ma34, .ref ma35, .ref ma36, .int mn37, .int mn38, .int mn39, .ref ma40, .ref ma41, .ref ma42, .int mn43, .int mn44, .ref ma45, .ref ma46, .ref ma47, .int mn48, .ref ma49, .ref ma50, .ref ma51, .ref ma52])), (ma49, .inl (K 1, 4, .inl g16676)), (ma50, .inl (K 1, 4, .inl g16678)), (ma51, .inl (K 2, 240, .inr (.inl g16691)))] := hD
              obtain ⟨v16692, ev16692⟩ : ∃ z : Int32, z = i16686 + 1 := ⟨_, rfl⟩
              refine lv_iinc (v := v16692) (lv' := [(4, .int v16692), (0, .ref md), (1, .int p0), (2, .int p1), (3, .int p2)]) hx hb dX12_row_72 hl (k := 0) rfl (by rw [ev16692]; rfl) (by decide) rfl (fun ls hl => ?_)
              refine lv_goto (tgt := 52) hx hb dX12_row_75 (by decide) ?_
              have tv16692 : v16692.toInt = (i16686 : Int32).toInt + (1 : Int32).toInt := add_i ev16692 (by omega) (by omega)
              exact ih_52 (i16686 := v16692) (g16687 := g16691) (hi_52 := by omega) (H := H) (locs := locs) (ls := ls) (hn_52 := by omega) (hP := hP) (hD := hD) (hS := hS) (hl := lv_sub hl [0, 1, 2, 3, 4] rfl)
        · replace c16675 := nle_i c16675
          refine lv_bipush (v := (-3)) hx hb dX12_row_32 (by decide) ?_
          refine W.widen (k := 0) (n := 0) (by decide) (by decide) ?_
          exact ch_iret hC hr hk hS dX12_row_34 ((fun k => [].getD k 0, fun k => [mf49, mf50].getD k (fun _ => 0), fun k => [mf51].getD k (fun _ => 0)) : ((Nat → Int32) × (Nat → Nat → Int32) × (Nat → Nat → Int64))) ⟨(Or.inr (Or.inl ⟨rfl, (by omega), (by omega), (by omega), (by omega), (by omega), (by omega)⟩)), (show ((-3) : Int32) = 0 → mf49 = upd mf49 p0.toInt.toNat p2 ∧ mf50 = upd mf50 p0.toInt.toNat p1 from (fun h9 => absurd h9 (by decide))), (show ((-3) : Int32) ≠ 0 → mf49 = mf49 ∧ mf50 = mf50 from (fun _ => ⟨rfl, rfl⟩)), (show Rg (-1) 60 4 mf49 from hs49_0), (show Rg 0 3 4 mf50 from hs50_0)⟩ (hP.sub [0, 1, 2, 3] rfl) (hD.sub [0, 1, 2, 3] (by decide) rfl)
      · replace c16674 := nle_i c16674
        refine lv_bipush (v := (-2)) hx hb dX12_row_25 (by decide) ?_
        refine W.widen (k := 0) (n := 0) (by decide) (by decide) ?_
        exact ch_iret hC hr hk hS dX12_row_27 ((fun k => [].getD k 0, fun k => [mf49, mf50].getD k (fun _ => 0), fun k => [mf51].getD k (fun _ => 0)) : ((Nat → Int32) × (Nat → Nat → Int32) × (Nat → Nat → Int64))) ⟨(Or.inl ⟨rfl, (by omega)⟩), (show ((-2) : Int32) = 0 → mf49 = upd mf49 p0.toInt.toNat p2 ∧ mf50 = upd mf50 p0.toInt.toNat p1 from (fun h9 => absurd h9 (by decide))), (show ((-2) : Int32) ≠ 0 → mf49 = mf49 ∧ mf50 = mf50 from (fun _ => ⟨rfl, rfl⟩)), (show Rg (-1) 60 4 mf49 from hs49_0), (show Rg 0 3 4 mf50 from hs50_0)⟩ (hP.sub [0, 1, 2, 3] rfl) (hD.sub [0, 1, 2, 3] (by decide) rfl)
set_option maxRecDepth 40000 in
set_option maxHeartbeats 4000000 in
theorem c_X12_image_f (l : Launch) (D : va_G) (K : Nat → ClassId) (md : Nat) (ma1 : Nat) (ma2 : Nat) (ma3 : Nat) (ma4 : Nat) (ma6 : Nat) (ma14 : Nat) (ma21 : Nat) (ma22 : Nat) (ma23 : Nat) (ma24 : Nat) (ma26 : Nat) (ma27 : Nat) (ma28 : Nat) (ma29 : Nat) (ma30 : Nat) (ma31 : Nat) (ma32 : Nat) (ma33 : Nat) (ma34 : Nat) (ma35 : Nat) (ma36 : Nat) (ma40 : Nat) (ma41 : Nat) (ma42 : Nat) (ma45 : Nat) (ma46 : Nat) (ma47 : Nat) (ma49 : Nat) (ma50 : Nat) (ma51 : Nat) (ma52 : Nat) (mn0 : Int32) (mn5 : Int32) (mn7 : Int32) (mn8 : Int32) (mn9 : Int32) (mn10 : Int32) (mn11 : Int32) (mn12 : Int32) (mn13 : Int32) (mn15 : Int32) (mn16 : Int32) (mn17 : Int32) (mn18 : Int32) (mn19 : Int32) (mn20 : Int32) (mn25 : Int32) (mn37 : Int32) (mn38 : Int32) (mn39 : Int32) (mn43 : Int32) (mn44 : Int32) (mn48 : Int32) (mf1 : Nat → Int32) (mf2 : Nat → Int32) (mf3 : Nat → Int32) (p0 : Int32) (hs1_0 : GW mf1) (hs2_0 : GI mf2) : Ci (S := ((Nat → Int32) × (Nat → Nat → Int32) × (Nat → Nat → Int64))) l D K yX12_image cX12_image 3 (some .int) 1 25 0 0 [.ref md, .int p0] [(md, .inr (11, [.int mn0, .ref ma1, .ref ma2, .ref ma3, .ref ma4, .int mn5, .ref ma6, .int mn7, .int mn8, .int mn9, .int mn10, .int mn11, .int mn12, .int mn13, .ref ma14, .int mn15, .int mn16, .int mn17, .int mn18, .int mn19, .int mn20, .ref ma21, .ref ma22, .ref ma23, .ref ma24, .int mn25, .ref ma26, .ref ma27, .ref ma28, .ref ma29, .ref ma30, .ref ma31, .ref ma32, .ref ma33, .ref ma34, .ref ma35, .ref ma36, .int mn37, .int mn38, .int mn39, .ref ma40, .ref ma41, .ref ma42, .int mn43, .int mn44, .ref ma45, .ref ma46, .ref ma47, .int mn48, .ref ma49, .ref ma50, .ref ma51, .ref ma52])), (ma1, .inl (K 1, 262, .inl mf1)), (ma2, .inl (K 1, 786, .inl mf2)), (ma3, .inl (K 3, 3, .inl mf3))] (fun r u => ((r = (-2) ∧ (p0.toInt < 0 ∨ 2 < p0.toInt)) ∨ (r = 0 ∧ (0 ≤ p0.toInt) ∧ (p0.toInt ≤ 2))) ∧ (r = 0 → (u.2.1 1) = upd mf3 p0.toInt.toNat 1) ∧ (r ≠ 0 → (u.2.1 1) = mf3) ∧ (GI (u.2.1 0))) (fun u => [(md, .inr (11, [.int mn0, .ref ma1, .ref ma2, .ref ma3, .ref ma4, .int mn5, .ref ma6, .int mn7, .int mn8, .int mn9, .int mn10, .int mn11, .int mn12, .int mn13, .ref ma14, .int mn15, .int mn16, .int mn17, .int mn18, .int mn19, .int mn20, .ref ma21, .ref ma22, .ref ma23, .ref ma24, .int mn25, .ref ma26, .ref ma27, .ref ma28, .ref ma29, .ref ma30, .ref ma31, .ref ma32, .ref ma33, .ref ma34, .ref ma35, .ref ma36, .int mn37, .int mn38, .int mn39, .ref ma40, .ref ma41, .ref ma42, .int mn43, .int mn44, .ref ma45, .ref ma46, .ref ma47, .int mn48, .ref ma49, .ref ma50, .ref ma51, .ref ma52])), (ma1, .inl (K 1, 262, .inl mf1)), (ma2, .inl (K 1, 786, .inl (u.2.1 0))), (ma3, .inl (K 3, 3, .inl (u.2.1 1)))]) := by
  intro sz
  refine ch_of (y := yX12_image) (cc := cX12_image) (maxL := 3) (ret := (some .int)) (av := [.ref md, .int p0]) (ws := [(md, .inr (11, [.int mn0, .ref ma1, .ref ma2, .ref ma3, .ref ma4, .int mn5, .ref ma6, .int mn7, .int mn8, .int mn9, .int mn10, .int mn11, .int mn12, .int mn13, .ref ma14, .int mn15, .int mn16, .int mn17, .int mn18, .int mn19, .int mn20, .ref ma21, .ref ma22, .ref ma23, .ref ma24, .int mn25, .ref ma26, .ref ma27, .ref ma28, .ref ma29, .ref ma30, .ref ma31, .ref ma32, .ref ma33, .ref ma34, .ref ma35, .ref ma36, .int mn37, .int mn38, .int mn39, .ref ma40, .ref ma41, .ref ma42, .int mn43, .int mn44, .ref ma45, .ref ma46, .ref ma47, .int mn48, .ref ma49, .ref ma50, .ref ma51, .ref ma52])), (ma1, .inl (K 1, 262, .inl mf1)), (ma2, .inl (K 1, 786, .inl mf2)), (ma3, .inl (K 3, 3, .inl mf3))]) (D := D) (K := K) (Qc := fun A => va_Qi (S := ((Nat → Int32) × (Nat → Nat → Int32) × (Nat → Nat → Int64))) (fun r u => ((r = (-2) ∧ (p0.toInt < 0 ∨ 2 < p0.toInt)) ∨ (r = 0 ∧ (0 ≤ p0.toInt) ∧ (p0.toInt ≤ 2))) ∧ (r = 0 → (u.2.1 1) = upd mf3 p0.toInt.toNat 1) ∧ (r ≠ 0 → (u.2.1 1) = mf3) ∧ (GI (u.2.1 0))) (chB D A (fun u => [(md, .inr (11, [.int mn0, .ref ma1, .ref ma2, .ref ma3, .ref ma4, .int mn5, .ref ma6, .int mn7, .int mn8, .int mn9, .int mn10, .int mn11, .int mn12, .int mn13, .ref ma14, .int mn15, .int mn16, .int mn17, .int mn18, .int mn19, .int mn20, .ref ma21, .ref ma22, .ref ma23, .ref ma24, .int mn25, .ref ma26, .ref ma27, .ref ma28, .ref ma29, .ref ma30, .ref ma31, .ref ma32, .ref ma33, .ref ma34, .ref ma35, .ref ma36, .int mn37, .int mn38, .int mn39, .ref ma40, .ref ma41, .ref ma42, .int mn43, .int mn44, .ref ma45, .ref ma46, .ref ma47, .int mn48, .ref ma49, .ref ma50, .ref ma51, .ref ma52])), (ma1, .inl (K 1, 262, .inl mf1)), (ma2, .inl (K 1, 786, .inl (u.2.1 0))), (ma3, .inl (K 3, 3, .inl (u.2.1 1)))])) A) (by decide) (Nat.le_of_ble_eq_true rfl) ?_
  intro p e s m below meth c A hC hr hk hin hE hD hA H locs hP hS ls hl
  replace hC : CallFix p m c cX12_image 3 s [.ref md, .int p0].toArray wl RX12 := hC
  have hx := hC.1
  have hb := hC.2.1
  have hml := hC.2.2.1
  have hown := hC.2.2.2.1
  have hts := hC.2.2.2.2
  replace hl : lv_has ls 3 [(0, .ref md), (1, .int p0)] := hl
  have kc_0 : (0 : Int32).toInt = 0 := by decide
  have kc_1 : (1 : Int32).toInt = 1 := by decide
  have kc_262 : (262 : Int32).toInt = 262 := by decide
  have kl_0 : (0 : Int64).toInt = 0 := by decide
  have kl_2 : (2 : Int64).toInt = 2 := by decide
  have hW0 := gwn_0 hs1_0; have hW1 := gwn_1 hs1_0; have hW2 := gwn_2 hs1_0; have hW4 := gwn_4 hs1_0
  refine lv_iload_n hx hb dX12_image_0 rfl (lv_at hl 1 rfl) ?_
  refine lv_i2l hx hb dX12_image_1 rfl ?_
  refine lv_topl (fun v16706 ev16706 => ?_)
  refine lv_lconst (v := 0) hx hb dX12_image_2 (by decide) ?_
  refine lv_ldc2 (v := 2) hx hb hown (hts _ w_1140) dX12_image_3 ?_
  have tv16706 : v16706.toInt = (p0 : Int32).toInt := i2l_i ev16706
  refine ro_S (As := [.long v16706, .long 0, .long 2]) (rest := []) hC hE kS_X12_115 (c_X12_in l D K v16706 0 2) (hP.sub (ws' := []) [] rfl) rfl hl.1 rfl (Nat.le_of_ble_eq_true rfl) (by decide) (by decide) dX12_image_6 (fun r16710 hq => ?_)
  rcases hq with ⟨rfl, h16707⟩ | ⟨rfl, h16708, h16709⟩
  · refine lv_if_ne (tgt := 15) hx hb dX12_image_9 (by decide) (fun h => absurd h (by decide)) (fun _ => ?_)
    refine lv_bipush (v := (-2)) hx hb dX12_image_12 (by decide) ?_
    refine W.widen (k := 0) (n := 0) (by decide) (by decide) ?_
    exact ch_iret hC hr hk hS dX12_image_14 ((fun k => [].getD k 0, fun k => [mf2, mf3].getD k (fun _ => 0), fun k => [].getD k (fun _ => 0)) : ((Nat → Int32) × (Nat → Nat → Int32) × (Nat → Nat → Int64))) ⟨(Or.inl ⟨rfl, (by omega)⟩), (show ((-2) : Int32) = 0 → mf3 = upd mf3 p0.toInt.toNat 1 from (fun h9 => absurd h9 (by decide))), (show ((-2) : Int32) ≠ 0 → mf3 = mf3 from (fun _ => rfl)), (show GI mf2 from hs2_0)⟩ (hP.sub [0, 1, 2, 3] rfl) (hD.sub [0, 1, 2, 3] (by decide) rfl)
  · refine lv_if_ne (tgt := 15) hx hb dX12_image_9 (by decide) (fun _ => ?_) (fun h => absurd h (by decide))
    refine lv_iconst (v := 0) hx hb dX12_image_15 (by decide) ?_
    refine lv_istore_n (lv' := [(2, .int 0), (0, .ref md), (1, .int p0)]) hx hb dX12_image_16 rfl hl (by decide) rfl (fun ls hl => ?_)
    have hl' := hl; have hP' := hP; have hD' := hD; clear hl hP hD
    obtain ⟨i16718, g16719, hi_17, qGI_ma2_17, hl, hP, hD⟩ : ∃ (i16718 : Int32) (g16719 : Nat → Int32), ((0 : Int) ≤ i16718.toInt) ∧ (GI g16719) ∧ lv_has ls 3 [(2, .int i16718), (0, .ref md), (1, .int p0)] ∧ va_P D vwCl [(md, .inr (11, [.int mn0, .ref ma1, .ref ma2, .ref ma3, .ref ma4, .int mn5, .ref ma6, .int mn7, .int mn8, .int mn9, .int mn10, .int mn11, .int mn12, .int mn13, .ref ma14, .int mn15, .int mn16, .int mn17, .int mn18, .int mn19, .int mn20, .ref ma21, .ref ma22, .ref ma23, .ref ma24, .int mn25, .ref ma26, .ref ma27, .ref ma28, .ref ma29, .ref ma30, .ref ma31, .ref ma32, .ref ma33, .ref ma34, .ref ma35, .ref ma36, .int mn37, .int mn38, .int mn39, .ref ma40, .ref ma41, .ref ma42, .int mn43, .int mn44, .ref ma45, .ref ma46, .ref ma47, .int mn48, .ref ma49, .ref ma50, .ref ma51, .ref ma52])), (ma1, .inl (K 1, 262, .inl mf1)), (ma2, .inl (K 1, 786, .inl g16719)), (ma3, .inl (K 3, 3, .inl mf3))] H ∧ va_D A [(md, .inr (11, [.int mn0, .ref ma1, .ref ma2, .ref ma3, .ref ma4, .int mn5, .ref ma6, .int mn7, .int mn8, .int mn9, .int mn10, .int mn11, .int mn12, .int mn13, .ref ma14, .int mn15, .int mn16, .int mn17, .int mn18, .int mn19, .int mn20, .ref ma21, .ref ma22, .ref ma23, .ref ma24, .int mn25, .ref ma26, .ref ma27, .ref ma28, .ref ma29, .ref ma30, .ref ma31, .ref ma32, .ref ma33, .ref ma34, .ref ma35, .ref ma36, .int mn37, .int mn38, .int mn39, .ref ma40, .ref ma41, .ref ma42, .int mn43, .int mn44, .ref ma45, .ref ma46, .ref ma47, .int mn48, .ref ma49, .ref ma50, .ref ma51, .ref ma52])), (ma1, .inl (K 1, 262, .inl mf1)), (ma2, .inl (K 1, 786, .inl g16719)), (ma3, .inl (K 3, 3, .inl mf3))] := ⟨_, _, by omega, hs2_0, hl', hP', hD'⟩
    clear hl' hP' hD'
    obtain ⟨n_17, hn_17⟩ : ∃ n : Nat, (262 - i16718.toInt).toNat < n := ⟨_, Nat.lt_succ_self _⟩
    induction n_17 generalizing i16718 g16719 H locs ls with
    | zero => exact absurd hn_17 (Nat.not_lt_zero _)
    | succ n_17 ih_17 =>
      refine lv_iload_n hx hb dX12_image_17 rfl (lv_at hl 0 rfl) ?_
      refine lv_sipush (v := 262) hx hb dX12_image_18 (by decide) ?_
      refine lv_icmp_ge (tgt := 48) hx hb dX12_image_21 (by decide) (fun c16720 => ?_) (fun c16720 => ?_)
      · replace c16720 := le_i c16720
        refine lv_aload_n hx hb dX12_image_48 rfl (lv_at hl 1 rfl) ?_
        refine va_get (D := D) (ci := 11) (v := .ref ma3) (C := RX12) (T := TX12) (N := 53) hx hb hts in_X12 hown hE.1 hP 0 rfl rfl 3 (by decide) (hts _ w_1182) (fun _ h9 => h9) rfl dX12_image_49 ?_
        refine lv_iload_n hx hb dX12_image_52 rfl (lv_at hl 2 rfl) ?_
        refine lv_iconst (v := 1) hx hb dX12_image_53 (by decide) ?_
        refine stz hx hb hE.1 hP hD hS 3 3 rfl rfl (vp_in_iff.mpr (by omega)) dX12_image_54 (fun g16721 eg16721 H locs hP hD hS => ?_)
        replace hP : va_P D vwCl [(md, .inr (11, [.int mn0, .ref ma1, .ref ma2, .ref ma3, .ref ma4, .int mn5, .ref ma6, .int mn7, .int mn8, .int mn9, .int mn10, .int mn11, .int mn12, .int mn13, .ref ma14, .int mn15, .int mn16, .int mn17, .int mn18, .int mn19, .int mn20, .ref ma21, .ref ma22, .ref ma23, .ref ma24, .int mn25, .ref ma26, .ref ma27, .ref ma28, .ref ma29, .ref ma30, .ref ma31, .ref ma32, .ref ma33, .ref ma34, .ref ma35, .ref ma36, .int mn37, .int mn38, .int mn39, .ref ma40, .ref ma41, .ref ma42, .int mn43, .int mn44, .ref ma45, .ref ma46, .ref ma47, .int mn48, .ref ma49, .ref ma50, .ref ma51, .ref ma52])), (ma1, .inl (K 1, 262, .inl mf1)), (ma2, .inl (K 1, 786, .inl g16719)), (ma3, .inl (K 3, 3, .inl g16721))] H := hP
        replace hD : va_D A [(md, .inr (11, [.int mn0, .ref ma1, .ref ma2, .ref ma3, .ref ma4, .int mn5, .ref ma6, .int mn7, .int mn8, .int mn9, .int mn10, .int mn11, .int mn12, .int mn13, .ref ma14, .int mn15, .int mn16, .int mn17, .int mn18, .int mn19, .int mn20, .ref ma21, .ref ma22, .ref ma23, .ref ma24, .int mn25, .ref ma26, .ref ma27, .ref ma28, .ref ma29, .ref ma30, .ref ma31, .ref ma32, .ref ma33, .ref ma34, .ref ma35, .ref ma36, .int mn37, .int mn38, .int mn39, .ref ma40, .ref ma41, .ref ma42, .int mn43, .int mn44, .ref ma45, .ref ma46, .ref ma47, .int mn48, .ref ma49, .ref ma50, .ref ma51, .ref ma52])), (ma1, .inl (K 1, 262, .inl mf1)), (ma2, .inl (K 1, 786, .inl g16719)), (ma3, .inl (K 3, 3, .inl g16721))] := hD
        refine lv_iconst (v := 0) hx hb dX12_image_55 (by decide) ?_
        refine W.widen (k := 0) (n := 0) (by decide) (by decide) ?_
        exact ch_iret hC hr hk hS dX12_image_56 ((fun k => [].getD k 0, fun k => [g16719, g16721].getD k (fun _ => 0), fun k => [].getD k (fun _ => 0)) : ((Nat → Int32) × (Nat → Nat → Int32) × (Nat → Nat → Int64))) ⟨(Or.inr ⟨rfl, (by omega), (by omega)⟩), (show (0 : Int32) = 0 → g16721 = upd mf3 p0.toInt.toNat 1 from (fun _ => by rw [eg16721]; rfl)), (show (0 : Int32) ≠ 0 → g16721 = mf3 from (fun h9 => absurd rfl h9)), (show GI g16719 from qGI_ma2_17)⟩ (hP.sub [0, 1, 2, 3] rfl) (hD.sub [0, 1, 2, 3] (by decide) rfl)
      · replace c16720 := nle_i c16720
        refine lv_aload_n hx hb dX12_image_24 rfl (lv_at hl 1 rfl) ?_
        refine va_get (D := D) (ci := 11) (v := .ref ma2) (C := RX12) (T := TX12) (N := 53) hx hb hts in_X12 hown hE.1 hP 0 rfl rfl 2 (by decide) (hts _ w_1183) (fun _ h9 => h9) rfl dX12_image_25 ?_
        refine lv_sipush (v := 262) hx hb dX12_image_28 (by decide) ?_
        refine lv_iload_n hx hb dX12_image_31 rfl (lv_at hl 2 rfl) ?_
        refine lv_imul hx hb dX12_image_32 ?_
        refine lv_topi (fun v16722 ev16722 => ?_)
        refine lv_iload_n hx hb dX12_image_33 rfl (lv_at hl 0 rfl) ?_
        refine lv_iadd hx hb dX12_image_34 ?_
        refine lv_topi (fun v16723 ev16723 => ?_)
        refine lv_aload_n hx hb dX12_image_35 rfl (lv_at hl 1 rfl) ?_
        refine va_get (D := D) (ci := 11) (v := .ref ma1) (C := RX12) (T := TX12) (N := 53) hx hb hts in_X12 hown hE.1 hP 0 rfl rfl 1 (by decide) (hts _ w_821) (fun _ h9 => h9) rfl dX12_image_36 ?_
        refine lv_iload_n hx hb dX12_image_39 rfl (lv_at hl 0 rfl) ?_
        refine va_iald hx hb hE.1 hP 1 1 rfl rfl (vp_in_iff.mpr (by omega)) dX12_image_40 ?_
        refine lv_topi (fun v16724 ev16724 => ?_)
        have yv16724 : RW i16718.toNatClampNeg v16724.toInt := by rw [ev16724]; exact hs1_0 _ (in_lt (i := i16718) (vp_in_iff.mpr (by omega)))
        have tv16722 : v16722.toInt = 262 * p0.toInt := mul_i ev16722 (by decide) rfl (by omega) (by omega)
        have tv16723 : v16723.toInt = (v16722 : Int32).toInt + (i16718 : Int32).toInt := add_i ev16723 (by omega) (by omega)
        refine sti hx hb hE.1 hP hD hS 2 1 rfl rfl (vp_in_iff.mpr (by omega)) dX12_image_41 (fun g16725 eg16725 H locs hP hD hS => ?_)
        replace hP : va_P D vwCl [(md, .inr (11, [.int mn0, .ref ma1, .ref ma2, .ref ma3, .ref ma4, .int mn5, .ref ma6, .int mn7, .int mn8, .int mn9, .int mn10, .int mn11, .int mn12, .int mn13, .ref ma14, .int mn15, .int mn16, .int mn17, .int mn18, .int mn19, .int mn20, .ref ma21, .ref ma22, .ref ma23, .ref ma24, .int mn25, .ref ma26, .ref ma27, .ref ma28, .ref ma29, .ref ma30, .ref ma31, .ref ma32, .ref ma33, .ref ma34, .ref ma35, .ref ma36, .int mn37, .int mn38, .int mn39, .ref ma40, .ref ma41, .ref ma42, .int mn43, .int mn44, .ref ma45, .ref ma46, .ref ma47, .int mn48, .ref ma49, .ref ma50, .ref ma51, .ref ma52])), (ma1, .inl (K 1, 262, .inl mf1)), (ma2, .inl (K 1, 786, .inl g16725)), (ma3, .inl (K 3, 3, .inl mf3))] H := hP
        replace hD : va_D A [(md, .inr (11, [.int mn0, .ref ma1, .ref ma2, .ref ma3, .ref ma4, .int mn5, .ref ma6, .int mn7, .int mn8, .int mn9, .int mn10, .int mn11, .int mn12, .int mn13, .ref ma14, .int mn15, .int mn16, .int mn17, .int mn18, .int mn19, .int mn20, .ref ma21, .ref ma22, .ref ma23, .ref ma24, .int mn25, .ref ma26, .ref ma27, .ref ma28, .ref ma29, .ref ma30, .ref ma31, .ref ma32, .ref ma33, .ref ma34, .ref ma35, .ref ma36, .int mn37, .int mn38, .int mn39, .ref ma40, .ref ma41, .ref ma42, .int mn43, .int mn44, .ref ma45, .ref ma46, .ref ma47, .int mn48, .ref ma49, .ref ma50, .ref ma51, .ref ma52])), (ma1, .inl (K 1, 262, .inl mf1)), (ma2, .inl (K 1, 786, .inl g16725)), (ma3, .inl (K 3, 3, .inl mf3))] := hD
        have q16726 : GI g16725 := gi_up qGI_ma2_17 eg16725 (by rw [show v16723.toNatClampNeg % 262 = i16718.toNatClampNeg from by rw [cl_n, cl_n]; omega]; exact yv16724)
        obtain ⟨v16727, ev16727⟩ : ∃ z : Int32, z = i16718 + 1 := ⟨_, rfl⟩
        refine lv_iinc (v := v16727) (lv' := [(2, .int v16727), (0, .ref md), (1, .int p0)]) hx hb dX12_image_42 hl (k := 0) rfl (by rw [ev16727]; rfl) (by decide) rfl (fun ls hl => ?_)
        refine lv_goto (tgt := 17) hx hb dX12_image_45 (by decide) ?_
        have tv16727 : v16727.toInt = (i16718 : Int32).toInt + (1 : Int32).toInt := add_i ev16727 (by omega) (by omega)
        exact ih_17 (i16718 := v16727) (g16719 := g16725) (hi_17 := by omega) (qGI_ma2_17 := q16726) (H := H) (locs := locs) (ls := ls) (hn_17 := by omega) (hP := hP) (hD := hD) (hS := hS) (hl := lv_sub hl [0, 1, 2] rfl)
set_option maxRecDepth 40000 in
set_option maxHeartbeats 4000000 in
theorem c_X12_back_f (l : Launch) (D : va_G) (K : Nat → ClassId) (md : Nat) (ma1 : Nat) (ma2 : Nat) (ma3 : Nat) (ma4 : Nat) (ma6 : Nat) (ma14 : Nat) (ma21 : Nat) (ma22 : Nat) (ma23 : Nat) (ma24 : Nat) (ma26 : Nat) (ma27 : Nat) (ma28 : Nat) (ma29 : Nat) (ma30 : Nat) (ma31 : Nat) (ma32 : Nat) (ma33 : Nat) (ma34 : Nat) (ma35 : Nat) (ma36 : Nat) (ma40 : Nat) (ma41 : Nat) (ma42 : Nat) (ma45 : Nat) (ma46 : Nat) (ma47 : Nat) (ma49 : Nat) (ma50 : Nat) (ma51 : Nat) (ma52 : Nat) (mn0 : Int32) (mn5 : Int32) (mn7 : Int32) (mn8 : Int32) (mn9 : Int32) (mn10 : Int32) (mn11 : Int32) (mn12 : Int32) (mn13 : Int32) (mn15 : Int32) (mn16 : Int32) (mn17 : Int32) (mn18 : Int32) (mn19 : Int32) (mn20 : Int32) (mn25 : Int32) (mn37 : Int32) (mn38 : Int32) (mn39 : Int32) (mn43 : Int32) (mn44 : Int32) (mn48 : Int32) (mf1 : Nat → Int32) (mf2 : Nat → Int32) (mf3 : Nat → Int32) (p0 : Int32) (hs1_0 : GW mf1) (hs2_0 : GI mf2) : Ci (S := ((Nat → Int32) × (Nat → Nat → Int32) × (Nat → Nat → Int64))) l D K yX12_back cX12_back 3 (some .int) 1 25 0 0 [.ref md, .int p0] [(md, .inr (11, [.int mn0, .ref ma1, .ref ma2, .ref ma3, .ref ma4, .int mn5, .ref ma6, .int mn7, .int mn8, .int mn9, .int mn10, .int mn11, .int mn12, .int mn13, .ref ma14, .int mn15, .int mn16, .int mn17, .int mn18, .int mn19, .int mn20, .ref ma21, .ref ma22, .ref ma23, .ref ma24, .int mn25, .ref ma26, .ref ma27, .ref ma28, .ref ma29, .ref ma30, .ref ma31, .ref ma32, .ref ma33, .ref ma34, .ref ma35, .ref ma36, .int mn37, .int mn38, .int mn39, .ref ma40, .ref ma41, .ref ma42, .int mn43, .int mn44, .ref ma45, .ref ma46, .ref ma47, .int mn48, .ref ma49, .ref ma50, .ref ma51, .ref ma52])), (ma1, .inl (K 1, 262, .inl mf1)), (ma2, .inl (K 1, 786, .inl mf2)), (ma3, .inl (K 3, 3, .inl mf3))] (fun r u => ((r = (-2) ∧ (p0.toInt < 0 ∨ 2 < p0.toInt)) ∨ (r = (-6) ∧ (0 ≤ p0.toInt) ∧ (p0.toInt ≤ 2) ∧ ((mf3 p0.toInt.toNat).toInt = 0)) ∨ (r = 0 ∧ (0 ≤ p0.toInt) ∧ (p0.toInt ≤ 2) ∧ ((mf3 p0.toInt.toNat).toInt ≠ 0))) ∧ (GW (u.2.1 0))) (fun u => [(md, .inr (11, [.int mn0, .ref ma1, .ref ma2, .ref ma3, .ref ma4, .int mn5, .ref ma6, .int mn7, .int mn8, .int mn9, .int mn10, .int mn11, .int mn12, .int mn13, .ref ma14, .int mn15, .int mn16, .int mn17, .int mn18, .int mn19, .int mn20, .ref ma21, .ref ma22, .ref ma23, .ref ma24, .int mn25, .ref ma26, .ref ma27, .ref ma28, .ref ma29, .ref ma30, .ref ma31, .ref ma32, .ref ma33, .ref ma34, .ref ma35, .ref ma36, .int mn37, .int mn38, .int mn39, .ref ma40, .ref ma41, .ref ma42, .int mn43, .int mn44, .ref ma45, .ref ma46, .ref ma47, .int mn48, .ref ma49, .ref ma50, .ref ma51, .ref ma52])), (ma1, .inl (K 1, 262, .inl (u.2.1 0))), (ma2, .inl (K 1, 786, .inl mf2)), (ma3, .inl (K 3, 3, .inl mf3))]) := by
  intro sz
  refine ch_of (y := yX12_back) (cc := cX12_back) (maxL := 3) (ret := (some .int)) (av := [.ref md, .int p0]) (ws := [(md, .inr (11, [.int mn0, .ref ma1, .ref ma2, .ref ma3, .ref ma4, .int mn5, .ref ma6, .int mn7, .int mn8, .int mn9, .int mn10, .int mn11, .int mn12, .int mn13, .ref ma14, .int mn15, .int mn16, .int mn17, .int mn18, .int mn19, .int mn20, .ref ma21, .ref ma22, .ref ma23, .ref ma24, .int mn25, .ref ma26, .ref ma27, .ref ma28, .ref ma29, .ref ma30, .ref ma31, .ref ma32, .ref ma33, .ref ma34, .ref ma35, .ref ma36, .int mn37, .int mn38, .int mn39, .ref ma40, .ref ma41, .ref ma42, .int mn43, .int mn44, .ref ma45, .ref ma46, .ref ma47, .int mn48, .ref ma49, .ref ma50, .ref ma51, .ref ma52])), (ma1, .inl (K 1, 262, .inl mf1)), (ma2, .inl (K 1, 786, .inl mf2)), (ma3, .inl (K 3, 3, .inl mf3))]) (D := D) (K := K) (Qc := fun A => va_Qi (S := ((Nat → Int32) × (Nat → Nat → Int32) × (Nat → Nat → Int64))) (fun r u => ((r = (-2) ∧ (p0.toInt < 0 ∨ 2 < p0.toInt)) ∨ (r = (-6) ∧ (0 ≤ p0.toInt) ∧ (p0.toInt ≤ 2) ∧ ((mf3 p0.toInt.toNat).toInt = 0)) ∨ (r = 0 ∧ (0 ≤ p0.toInt) ∧ (p0.toInt ≤ 2) ∧ ((mf3 p0.toInt.toNat).toInt ≠ 0))) ∧ (GW (u.2.1 0))) (chB D A (fun u => [(md, .inr (11, [.int mn0, .ref ma1, .ref ma2, .ref ma3, .ref ma4, .int mn5, .ref ma6, .int mn7, .int mn8, .int mn9, .int mn10, .int mn11, .int mn12, .int mn13, .ref ma14, .int mn15, .int mn16, .int mn17, .int mn18, .int mn19, .int mn20, .ref ma21, .ref ma22, .ref ma23, .ref ma24, .int mn25, .ref ma26, .ref ma27, .ref ma28, .ref ma29, .ref ma30, .ref ma31, .ref ma32, .ref ma33, .ref ma34, .ref ma35, .ref ma36, .int mn37, .int mn38, .int mn39, .ref ma40, .ref ma41, .ref ma42, .int mn43, .int mn44, .ref ma45, .ref ma46, .ref ma47, .int mn48, .ref ma49, .ref ma50, .ref ma51, .ref ma52])), (ma1, .inl (K 1, 262, .inl (u.2.1 0))), (ma2, .inl (K 1, 786, .inl mf2)), (ma3, .inl (K 3, 3, .inl mf3))])) A) (by decide) (Nat.le_of_ble_eq_true rfl) ?_
  intro p e s m below meth c A hC hr hk hin hE hD hA H locs hP hS ls hl
  replace hC : CallFix p m c cX12_back 3 s [.ref md, .int p0].toArray wl RX12 := hC
  have hx := hC.1
  have hb := hC.2.1
  have hml := hC.2.2.1
  have hown := hC.2.2.2.1
  have hts := hC.2.2.2.2
  replace hl : lv_has ls 3 [(0, .ref md), (1, .int p0)] := hl
  have kc_0 : (0 : Int32).toInt = 0 := by decide
  have kc_1 : (1 : Int32).toInt = 1 := by decide
  have kc_262 : (262 : Int32).toInt = 262 := by decide
  have kl_0 : (0 : Int64).toInt = 0 := by decide
  have kl_2 : (2 : Int64).toInt = 2 := by decide
  have hW0 := gwn_0 hs1_0; have hW1 := gwn_1 hs1_0; have hW2 := gwn_2 hs1_0; have hW4 := gwn_4 hs1_0
  refine lv_iload_n hx hb dX12_back_0 rfl (lv_at hl 1 rfl) ?_
  refine lv_i2l hx hb dX12_back_1 rfl ?_
  refine lv_topl (fun v16742 ev16742 => ?_)
  refine lv_lconst (v := 0) hx hb dX12_back_2 (by decide) ?_
  refine lv_ldc2 (v := 2) hx hb hown (hts _ w_1140) dX12_back_3 ?_
  have tv16742 : v16742.toInt = (p0 : Int32).toInt := i2l_i ev16742
  refine ro_S (As := [.long v16742, .long 0, .long 2]) (rest := []) hC hE kS_X12_115 (c_X12_in l D K v16742 0 2) (hP.sub (ws' := []) [] rfl) rfl hl.1 rfl (Nat.le_of_ble_eq_true rfl) (by decide) (by decide) dX12_back_6 (fun r16746 hq => ?_)
  rcases hq with ⟨rfl, h16743⟩ | ⟨rfl, h16744, h16745⟩
  · refine lv_if_ne (tgt := 15) hx hb dX12_back_9 (by decide) (fun h => absurd h (by decide)) (fun _ => ?_)
    refine lv_bipush (v := (-2)) hx hb dX12_back_12 (by decide) ?_
    refine W.widen (k := 0) (n := 0) (by decide) (by decide) ?_
    exact ch_iret hC hr hk hS dX12_back_14 ((fun k => [].getD k 0, fun k => [mf1].getD k (fun _ => 0), fun k => [].getD k (fun _ => 0)) : ((Nat → Int32) × (Nat → Nat → Int32) × (Nat → Nat → Int64))) ⟨(Or.inl ⟨rfl, (by omega)⟩), (show GW mf1 from hs1_0)⟩ (hP.sub [0, 1, 2, 3] rfl) (hD.sub [0, 1, 2, 3] (by decide) rfl)
  · refine lv_if_ne (tgt := 15) hx hb dX12_back_9 (by decide) (fun _ => ?_) (fun h => absurd h (by decide))
    refine lv_aload_n hx hb dX12_back_15 rfl (lv_at hl 0 rfl) ?_
    refine va_get (D := D) (ci := 11) (v := .ref ma3) (C := RX12) (T := TX12) (N := 53) hx hb hts in_X12 hown hE.1 hP 0 rfl rfl 3 (by decide) (hts _ w_1182) (fun _ h9 => h9) rfl dX12_back_16 ?_
    refine lv_iload_n hx hb dX12_back_19 rfl (lv_at hl 1 rfl) ?_
    refine va_zald hx hb hE.1 hP 3 3 rfl rfl (vp_in_iff.mpr (by omega)) dX12_back_20 ?_
    refine lv_topi (fun v16747 ev16747 => ?_)
    have zv16747 : v16747.toInt = (mf3 p0.toInt.toNat).toInt := by rw [ev16747]; rfl
    refine lv_if_ne (tgt := 27) hx hb dX12_back_21 (by decide) (fun c16748 => ?_) (fun c16748 => ?_)
    · replace c16748 := ne_i c16748
      refine lv_iconst (v := 0) hx hb dX12_back_27 (by decide) ?_
      refine lv_istore_n (lv' := [(2, .int 0), (0, .ref md), (1, .int p0)]) hx hb dX12_back_28 rfl hl (by decide) rfl (fun ls hl => ?_)
      have hl' := hl; have hP' := hP; have hD' := hD; clear hl hP hD
      obtain ⟨i16756, g16757, hi_29, qGW_ma1_29, hl, hP, hD⟩ : ∃ (i16756 : Int32) (g16757 : Nat → Int32), ((0 : Int) ≤ i16756.toInt) ∧ (GW g16757) ∧ lv_has ls 3 [(2, .int i16756), (0, .ref md), (1, .int p0)] ∧ va_P D vwCl [(md, .inr (11, [.int mn0, .ref ma1, .ref ma2, .ref ma3, .ref ma4, .int mn5, .ref ma6, .int mn7, .int mn8, .int mn9, .int mn10, .int mn11, .int mn12, .int mn13, .ref ma14, .int mn15, .int mn16, .int mn17, .int mn18, .int mn19, .int mn20, .ref ma21, .ref ma22, .ref ma23, .ref ma24, .int mn25, .ref ma26, .ref ma27, .ref ma28, .ref ma29, .ref ma30, .ref ma31, .ref ma32, .ref ma33, .ref ma34, .ref ma35, .ref ma36, .int mn37, .int mn38, .int mn39, .ref ma40, .ref ma41, .ref ma42, .int mn43, .int mn44, .ref ma45, .ref ma46, .ref ma47, .int mn48, .ref ma49, .ref ma50, .ref ma51, .ref ma52])), (ma1, .inl (K 1, 262, .inl g16757)), (ma2, .inl (K 1, 786, .inl mf2)), (ma3, .inl (K 3, 3, .inl mf3))] H ∧ va_D A [(md, .inr (11, [.int mn0, .ref ma1, .ref ma2, .ref ma3, .ref ma4, .int mn5, .ref ma6, .int mn7, .int mn8, .int mn9, .int mn10, .int mn11, .int mn12, .int mn13, .ref ma14, .int mn15, .int mn16, .int mn17, .int mn18, .int mn19, .int mn20, .ref ma21, .ref ma22, .ref ma23, .ref ma24, .int mn25, .ref ma26, .ref ma27, .ref ma28, .ref ma29, .ref ma30, .ref ma31, .ref ma32, .ref ma33, .ref ma34, .ref ma35, .ref ma36, .int mn37, .int mn38, .int mn39, .ref ma40, .ref ma41, .ref ma42, .int mn43, .int mn44, .ref ma45, .ref ma46, .ref ma47, .int mn48, .ref ma49, .ref ma50, .ref ma51, .ref ma52])), (ma1, .inl (K 1, 262, .inl g16757)), (ma2, .inl (K 1, 786, .inl mf2)), (ma3, .inl (K 3, 3, .inl mf3))] := ⟨_, _, by omega, hs1_0, hl', hP', hD'⟩
      clear hl' hP' hD'
      obtain ⟨n_29, hn_29⟩ : ∃ n : Nat, (262 - i16756.toInt).toNat < n := ⟨_, Nat.lt_succ_self _⟩
      induction n_29 generalizing i16756 g16757 H locs ls with
      | zero => exact absurd hn_29 (Nat.not_lt_zero _)
      | succ n_29 ih_29 =>
        refine lv_iload_n hx hb dX12_back_29 rfl (lv_at hl 0 rfl) ?_
        refine lv_sipush (v := 262) hx hb dX12_back_30 (by decide) ?_
        refine lv_icmp_ge (tgt := 60) hx hb dX12_back_33 (by decide) (fun c16758 => ?_) (fun c16758 => ?_)
        · replace c16758 := le_i c16758
          refine lv_iconst (v := 0) hx hb dX12_back_60 (by decide) ?_
          refine W.widen (k := 0) (n := 0) (by decide) (by decide) ?_
          exact ch_iret hC hr hk hS dX12_back_61 ((fun k => [].getD k 0, fun k => [g16757].getD k (fun _ => 0), fun k => [].getD k (fun _ => 0)) : ((Nat → Int32) × (Nat → Nat → Int32) × (Nat → Nat → Int64))) ⟨(Or.inr (Or.inr ⟨rfl, (by omega), (by omega), (by omega)⟩)), (show GW g16757 from qGW_ma1_29)⟩ (hP.sub [0, 1, 2, 3] rfl) (hD.sub [0, 1, 2, 3] (by decide) rfl)
        · replace c16758 := nle_i c16758
          refine lv_aload_n hx hb dX12_back_36 rfl (lv_at hl 1 rfl) ?_
          refine va_get (D := D) (ci := 11) (v := .ref ma1) (C := RX12) (T := TX12) (N := 53) hx hb hts in_X12 hown hE.1 hP 0 rfl rfl 1 (by decide) (hts _ w_821) (fun _ h9 => h9) rfl dX12_back_37 ?_
          refine lv_iload_n hx hb dX12_back_40 rfl (lv_at hl 0 rfl) ?_
          refine lv_aload_n hx hb dX12_back_41 rfl (lv_at hl 1 rfl) ?_
          refine va_get (D := D) (ci := 11) (v := .ref ma2) (C := RX12) (T := TX12) (N := 53) hx hb hts in_X12 hown hE.1 hP 0 rfl rfl 2 (by decide) (hts _ w_1183) (fun _ h9 => h9) rfl dX12_back_42 ?_
          refine lv_sipush (v := 262) hx hb dX12_back_45 (by decide) ?_
          refine lv_iload_n hx hb dX12_back_48 rfl (lv_at hl 2 rfl) ?_
          refine lv_imul hx hb dX12_back_49 ?_
          refine lv_topi (fun v16759 ev16759 => ?_)
          refine lv_iload_n hx hb dX12_back_50 rfl (lv_at hl 0 rfl) ?_
          refine lv_iadd hx hb dX12_back_51 ?_
          refine lv_topi (fun v16760 ev16760 => ?_)
          have tv16759 : v16759.toInt = 262 * p0.toInt := mul_i ev16759 (by decide) rfl (by omega) (by omega)
          have tv16760 : v16760.toInt = (v16759 : Int32).toInt + (i16756 : Int32).toInt := add_i ev16760 (by omega) (by omega)
          refine va_iald hx hb hE.1 hP 2 1 rfl rfl (vp_in_iff.mpr (by omega)) dX12_back_52 ?_
          refine lv_topi (fun v16761 ev16761 => ?_)
          have yv16761 : RW (v16760.toNatClampNeg % 262) v16761.toInt := by rw [ev16761]; exact hs2_0 _ (in_lt (i := v16760) (vp_in_iff.mpr (by omega)))
          refine sti hx hb hE.1 hP hD hS 1 1 rfl rfl (vp_in_iff.mpr (by omega)) dX12_back_53 (fun g16762 eg16762 H locs hP hD hS => ?_)
          replace hP : va_P D vwCl [(md, .inr (11, [.int mn0, .ref ma1, .ref ma2, .ref ma3, .ref ma4, .int mn5, .ref ma6, .int mn7, .int mn8, .int mn9, .int mn10, .int mn11, .int mn12, .int mn13, .ref ma14, .int mn15, .int mn16, .int mn17, .int mn18, .int mn19, .int mn20, .ref ma21, .ref ma22, .ref ma23, .ref ma24, .int mn25, .ref ma26, .ref ma27, .ref ma28, .ref ma29, .ref ma30, .ref ma31, .ref ma32, .ref ma33, .ref ma34, .ref ma35, .ref ma36, .int mn37, .int mn38, .int mn39, .ref ma40, .ref ma41, .ref ma42, .int mn43, .int mn44, .ref ma45, .ref ma46, .ref ma47, .int mn48, .ref ma49, .ref ma50, .ref ma51, .ref ma52])), (ma1, .inl (K 1, 262, .inl g16762)), (ma2, .inl (K 1, 786, .inl mf2)), (ma3, .inl (K 3, 3, .inl mf3))] H := hP
          replace hD : va_D A [(md, .inr (11, [.int mn0, .ref ma1, .ref ma2, .ref ma3, .ref ma4, .int mn5, .ref ma6, .int mn7, .int mn8, .int mn9, .int mn10, .int mn11, .int mn12, .int mn13, .ref ma14, .int mn15, .int mn16, .int mn17, .int mn18, .int mn19, .int mn20, .ref ma21, .ref ma22, .ref ma23, .ref ma24, .int mn25, .ref ma26, .ref ma27, .ref ma28, .ref ma29, .ref ma30, .ref ma31, .ref ma32, .ref ma33, .ref ma34, .ref ma35, .ref ma36, .int mn37, .int mn38, .int mn39, .ref ma40, .ref ma41, .ref ma42, .int mn43, .int mn44, .ref ma45, .ref ma46, .ref ma47, .int mn48, .ref ma49, .ref ma50, .ref ma51, .ref ma52])), (ma1, .inl (K 1, 262, .inl g16762)), (ma2, .inl (K 1, 786, .inl mf2)), (ma3, .inl (K 3, 3, .inl mf3))] := hD
          have q16763 : GW g16762 := gw_up qGW_ma1_29 eg16762 (by have h9 := yv16761; rw [show v16760.toNatClampNeg % 262 = i16756.toNatClampNeg from by rw [cl_n, cl_n]; omega] at h9; exact h9)
          obtain ⟨v16764, ev16764⟩ : ∃ z : Int32, z = i16756 + 1 := ⟨_, rfl⟩
          refine lv_iinc (v := v16764) (lv' := [(2, .int v16764), (0, .ref md), (1, .int p0)]) hx hb dX12_back_54 hl (k := 0) rfl (by rw [ev16764]; rfl) (by decide) rfl (fun ls hl => ?_)
          refine lv_goto (tgt := 29) hx hb dX12_back_57 (by decide) ?_
          have tv16764 : v16764.toInt = (i16756 : Int32).toInt + (1 : Int32).toInt := add_i ev16764 (by omega) (by omega)
          exact ih_29 (i16756 := v16764) (g16757 := g16762) (hi_29 := by omega) (qGW_ma1_29 := q16763) (H := H) (locs := locs) (ls := ls) (hn_29 := by omega) (hP := hP) (hD := hD) (hS := hS) (hl := lv_sub hl [0, 1, 2] rfl)
    · replace c16748 := eq_i c16748
      refine lv_bipush (v := (-6)) hx hb dX12_back_24 (by decide) ?_
      refine W.widen (k := 0) (n := 0) (by decide) (by decide) ?_
      exact ch_iret hC hr hk hS dX12_back_26 ((fun k => [].getD k 0, fun k => [mf1].getD k (fun _ => 0), fun k => [].getD k (fun _ => 0)) : ((Nat → Int32) × (Nat → Nat → Int32) × (Nat → Nat → Int64))) ⟨(Or.inr (Or.inl ⟨rfl, (by omega), (by omega), (by omega)⟩)), (show GW mf1 from hs1_0)⟩ (hP.sub [0, 1, 2, 3] rfl) (hD.sub [0, 1, 2, 3] (by decide) rfl)
