set_option maxRecDepth 40000 in
set_option maxHeartbeats 4000000 in
theorem c_X11_row (l : Launch) (D : va_G) (K : Nat → ClassId) (x : Nat) (rd : Nat) (he : Nat) (pa : Nat) (wk : Nat) (ro : Nat) (mi : Nat) (se : Nat) (pl : Nat) (co : Nat) (tr : Nat) (iw : Nat) (ip : Nat) (roa0 : Nat) (roa1 : Nat) (roa2 : Nat) (rof0 : Nat → Int64) (rof1 : Nat → Int32) (rof2 : Nat → Int32) (p0 : Int32) (p1 : Int32) (p2 : Int32) (hsz : ∀ j, j < 4 → -1 ≤ (rof2 j).toInt ∧ (rof2 j).toInt ≤ 60) : Ci (S := ((Nat → Int32) × (Nat → Nat → Int32) × (Nat → Nat → Int64))) l D K yX11_row cX11_row 4 (some .int) 3 71 0 0 [.ref x, .int p0, .int p1, .int p2] [(x, .inr (10, [.ref rd, .ref he, .ref pa, .ref wk, .ref ro, .ref mi, .ref se, .ref pl, .ref co, .ref tr, .ref iw, .ref ip])), (ro, .inr (5, [.ref roa0, .ref roa1, .ref roa2])), (roa0, .inl (K 2, 240, .inr (.inl rof0))), (roa1, .inl (K 1, 4, .inl rof1)), (roa2, .inl (K 1, 4, .inl rof2))] (fun r u => ((r = (-2) ∧ (p0.toInt < 0 ∨ 3 < p0.toInt ∨ p1.toInt < 0 ∨ 3 < p1.toInt ∨ 60 < p2.toInt)) ∨ (r = (-3) ∧ (0 ≤ p0.toInt) ∧ (p0.toInt ≤ 3) ∧ (0 ≤ p1.toInt) ∧ (p1.toInt ≤ 3) ∧ (p2.toInt ≤ 60) ∧ (p2.toInt < 0)) ∨ (r = 0 ∧ (0 ≤ p0.toInt) ∧ (p0.toInt ≤ 3) ∧ (0 ≤ p1.toInt) ∧ (p1.toInt ≤ 3) ∧ (p2.toInt ≤ 60) ∧ (0 ≤ p2.toInt))) ∧ (∀ j, j < 4 → -1 ≤ ((u.2.1 1) j).toInt ∧ ((u.2.1 1) j).toInt ≤ 60)) (fun u => [(x, .inr (10, [.ref rd, .ref he, .ref pa, .ref wk, .ref ro, .ref mi, .ref se, .ref pl, .ref co, .ref tr, .ref iw, .ref ip])), (ro, .inr (5, [.ref roa0, .ref roa1, .ref roa2])), (roa0, .inl (K 2, 240, .inr (.inl (u.2.2 0)))), (roa1, .inl (K 1, 4, .inl (u.2.1 0))), (roa2, .inl (K 1, 4, .inl (u.2.1 1)))]) := by
  intro sz
  refine ch_of (y := yX11_row) (cc := cX11_row) (maxL := 4) (ret := (some .int)) (av := [.ref x, .int p0, .int p1, .int p2]) (ws := [(x, .inr (10, [.ref rd, .ref he, .ref pa, .ref wk, .ref ro, .ref mi, .ref se, .ref pl, .ref co, .ref tr, .ref iw, .ref ip])), (ro, .inr (5, [.ref roa0, .ref roa1, .ref roa2])), (roa0, .inl (K 2, 240, .inr (.inl rof0))), (roa1, .inl (K 1, 4, .inl rof1)), (roa2, .inl (K 1, 4, .inl rof2))]) (D := D) (K := K) (Qc := fun A => va_Qi (S := ((Nat → Int32) × (Nat → Nat → Int32) × (Nat → Nat → Int64))) (fun r u => ((r = (-2) ∧ (p0.toInt < 0 ∨ 3 < p0.toInt ∨ p1.toInt < 0 ∨ 3 < p1.toInt ∨ 60 < p2.toInt)) ∨ (r = (-3) ∧ (0 ≤ p0.toInt) ∧ (p0.toInt ≤ 3) ∧ (0 ≤ p1.toInt) ∧ (p1.toInt ≤ 3) ∧ (p2.toInt ≤ 60) ∧ (p2.toInt < 0)) ∨ (r = 0 ∧ (0 ≤ p0.toInt) ∧ (p0.toInt ≤ 3) ∧ (0 ≤ p1.toInt) ∧ (p1.toInt ≤ 3) ∧ (p2.toInt ≤ 60) ∧ (0 ≤ p2.toInt))) ∧ (∀ j, j < 4 → -1 ≤ ((u.2.1 1) j).toInt ∧ ((u.2.1 1) j).toInt ≤ 60)) (chB D A (fun u => [(x, .inr (10, [.ref rd, .ref he, .ref pa, .ref wk, .ref ro, .ref mi, .ref se, .ref pl, .ref co, .ref tr, .ref iw, .ref ip])), (ro, .inr (5, [.ref roa0, .ref roa1, .ref roa2])), (roa0, .inl (K 2, 240, .inr (.inl (u.2.2 0)))), (roa1, .inl (K 1, 4, .inl (u.2.1 0))), (roa2, .inl (K 1, 4, .inl (u.2.1 1)))])) A) (by decide) (Nat.le_of_ble_eq_true rfl) ?_
  intro p e s m below meth c A hC hr hk hin hE hD hA H locs hP hS ls hl
  replace hC : CallFix p m c cX11_row 4 s [.ref x, .int p0, .int p1, .int p2].toArray wl RX11 := hC
  have hx := hC.1
  have hb := hC.2.1
  have hml := hC.2.2.1
  have hown := hC.2.2.2.1
  have hts := hC.2.2.2.2
  replace hl : lv_has ls 4 [(0, .ref x), (1, .int p0), (2, .int p1), (3, .int p2)] := hl
  have kc_0 : (0 : Int32).toInt = 0 := by decide
  have kc_4 : (4 : Int32).toInt = 4 := by decide
  have kc_60 : (60 : Int32).toInt = 60 := by decide
  refine lv_iload_n hx hb dX11_row_0 rfl (lv_at hl 1 rfl) ?_
  refine ro_S (As := [.int p0]) (rest := []) hC hE kS_X11_352 (c_X11_isSlot l D K p0) (hP.sub (ws' := []) [] rfl) rfl hl.1 rfl (Nat.le_of_ble_eq_true rfl) (by decide) (by decide) dX11_row_1 (fun r4726 hq => ?_)
  rcases hq with ⟨rfl, h4723⟩ | ⟨rfl, h4724, h4725⟩
  · refine lv_if_eq (tgt := 22) hx hb dX11_row_4 (by decide) (fun _ => ?_) (fun h => absurd h (by decide))
    refine lv_bipush (v := (-2)) hx hb dX11_row_22 (by decide) ?_
    refine W.widen (k := 0) (n := 0) (by decide) (by decide) ?_
    exact ch_iret hC hr hk hS dX11_row_24 ((fun k => [].getD k 0, fun k => [rof1, rof2].getD k (fun _ => 0), fun k => [rof0].getD k (fun _ => 0)) : ((Nat → Int32) × (Nat → Nat → Int32) × (Nat → Nat → Int64))) ⟨(Or.inl ⟨rfl, (by omega)⟩), (show ∀ j, j < 4 → -1 ≤ (rof2 j).toInt ∧ (rof2 j).toInt ≤ 60 from hsz)⟩ (hP.sub [0, 1, 2, 3, 4] rfl) (hD.sub [0, 1, 2, 3, 4] (by decide) rfl)
  · refine lv_if_eq (tgt := 22) hx hb dX11_row_4 (by decide) (fun h => absurd h (by decide)) (fun _ => ?_)
    refine lv_iload_n hx hb dX11_row_7 rfl (lv_at hl 2 rfl) ?_
    refine lv_if_lt (tgt := 22) hx hb dX11_row_8 (by decide) (fun c4727 => ?_) (fun c4727 => ?_)
    · replace c4727 := lt_i c4727
      refine lv_bipush (v := (-2)) hx hb dX11_row_22 (by decide) ?_
      refine W.widen (k := 0) (n := 0) (by decide) (by decide) ?_
      exact ch_iret hC hr hk hS dX11_row_24 ((fun k => [].getD k 0, fun k => [rof1, rof2].getD k (fun _ => 0), fun k => [rof0].getD k (fun _ => 0)) : ((Nat → Int32) × (Nat → Nat → Int32) × (Nat → Nat → Int64))) ⟨(Or.inl ⟨rfl, (by omega)⟩), (show ∀ j, j < 4 → -1 ≤ (rof2 j).toInt ∧ (rof2 j).toInt ≤ 60 from hsz)⟩ (hP.sub [0, 1, 2, 3, 4] rfl) (hD.sub [0, 1, 2, 3, 4] (by decide) rfl)
    · replace c4727 := nlt_i c4727
      refine lv_iload_n hx hb dX11_row_11 rfl (lv_at hl 2 rfl) ?_
      refine lv_iconst (v := 4) hx hb dX11_row_12 (by decide) ?_
      refine lv_icmp_ge (tgt := 22) hx hb dX11_row_13 (by decide) (fun c4728 => ?_) (fun c4728 => ?_)
      · replace c4728 := le_i c4728
        refine lv_bipush (v := (-2)) hx hb dX11_row_22 (by decide) ?_
        refine W.widen (k := 0) (n := 0) (by decide) (by decide) ?_
        exact ch_iret hC hr hk hS dX11_row_24 ((fun k => [].getD k 0, fun k => [rof1, rof2].getD k (fun _ => 0), fun k => [rof0].getD k (fun _ => 0)) : ((Nat → Int32) × (Nat → Nat → Int32) × (Nat → Nat → Int64))) ⟨(Or.inl ⟨rfl, (by omega)⟩), (show ∀ j, j < 4 → -1 ≤ (rof2 j).toInt ∧ (rof2 j).toInt ≤ 60 from hsz)⟩ (hP.sub [0, 1, 2, 3, 4] rfl) (hD.sub [0, 1, 2, 3, 4] (by decide) rfl)
      · replace c4728 := nle_i c4728
        refine lv_iload_n hx hb dX11_row_16 rfl (lv_at hl 3 rfl) ?_
        refine lv_bipush (v := 60) hx hb dX11_row_17 (by decide) ?_
        refine lv_icmp_le (tgt := 25) hx hb dX11_row_19 (by decide) (fun c4729 => ?_) (fun c4729 => ?_)
        · replace c4729 := le_i c4729
          refine lv_iload_n hx hb dX11_row_25 rfl (lv_at hl 3 rfl) ?_
          refine lv_if_ge (tgt := 32) hx hb dX11_row_26 (by decide) (fun c4730 => ?_) (fun c4730 => ?_)
          · replace c4730 := le_i c4730
            refine lv_aload_n hx hb dX11_row_32 rfl (lv_at hl 0 rfl) ?_
            refine va_get (D := D) (ci := 10) (v := .ref ro) (C := RX11) (T := TX11) (N := 12) hx hb hts in_X11 hown hE.1 hP 0 rfl rfl 4 (by decide) (hts _ w_523) (fun _ h9 => h9) rfl dX11_row_33 ?_
            refine lv_iload_n hx hb dX11_row_36 rfl (lv_at hl 1 rfl) ?_
            refine lv_iload_n hx hb dX11_row_37 rfl (lv_at hl 2 rfl) ?_
            refine lv_iload_n hx hb dX11_row_38 rfl (lv_at hl 3 rfl) ?_
            refine cv_V (As := [.int p0, .int p1, .int p2]) (rest := []) (wc := [(ro, .inr (5, [.ref roa0, .ref roa1, .ref roa2])), (roa0, .inl (K 2, 240, .inr (.inl rof0))), (roa1, .inl (K 1, 4, .inl rof1)), (roa2, .inl (K 1, 4, .inl rof2))]) (wr := [(x, .inr (10, [.ref rd, .ref he, .ref pa, .ref wk, .ref ro, .ref mi, .ref se, .ref pl, .ref co, .ref tr, .ref iw, .ref ip]))]) hC hE kV_X11_355 (c_X5_make l D K ro roa0 roa1 roa2 rof0 rof1 rof2 p0 p1 p2 hsz) hP hD hS hA [1, 2, 3, 4] [0] rfl rfl rfl (by decide) (by decide) (by decide) 0 5 rfl rfl rfl hl.1 rfl (Nat.le_of_ble_eq_true rfl) (by decide) (by decide) dX11_row_39 (fun u4731 H locs hw hP hD hS => ?_)
            replace hP : va_P D vwCl [(x, .inr (10, [.ref rd, .ref he, .ref pa, .ref wk, .ref ro, .ref mi, .ref se, .ref pl, .ref co, .ref tr, .ref iw, .ref ip])), (ro, .inr (5, [.ref roa0, .ref roa1, .ref roa2])), (roa0, .inl (K 2, 240, .inr (.inl (u4731.2.2 0)))), (roa1, .inl (K 1, 4, .inl (u4731.2.1 0))), (roa2, .inl (K 1, 4, .inl (u4731.2.1 1)))] H := hP
            replace hD : va_D A [(x, .inr (10, [.ref rd, .ref he, .ref pa, .ref wk, .ref ro, .ref mi, .ref se, .ref pl, .ref co, .ref tr, .ref iw, .ref ip])), (ro, .inr (5, [.ref roa0, .ref roa1, .ref roa2])), (roa0, .inl (K 2, 240, .inr (.inl (u4731.2.2 0)))), (roa1, .inl (K 1, 4, .inl (u4731.2.1 0))), (roa2, .inl (K 1, 4, .inl (u4731.2.1 1)))] := hD
            replace hP : va_P D vwCl [(x, .inr (10, [.ref rd, .ref he, .ref pa, .ref wk, .ref ro, .ref mi, .ref se, .ref pl, .ref co, .ref tr, .ref iw, .ref ip])), (ro, .inr (5, [.ref roa0, .ref roa1, .ref roa2])), (roa0, .inl (K 2, 240, .inr (.inl (u4731.2.2 0)))), (roa1, .inl (K 1, 4, .inl (u4731.2.1 0))), (roa2, .inl (K 1, 4, .inl (u4731.2.1 1)))] H := hP.sub [0, 1, 2, 3, 4] rfl
            replace hD : va_D A [(x, .inr (10, [.ref rd, .ref he, .ref pa, .ref wk, .ref ro, .ref mi, .ref se, .ref pl, .ref co, .ref tr, .ref iw, .ref ip])), (ro, .inr (5, [.ref roa0, .ref roa1, .ref roa2])), (roa0, .inl (K 2, 240, .inr (.inl (u4731.2.2 0)))), (roa1, .inl (K 1, 4, .inl (u4731.2.1 0))), (roa2, .inl (K 1, 4, .inl (u4731.2.1 1)))] := hD.sub [0, 1, 2, 3, 4] (by decide) rfl
            refine W.widen (k := 0) (n := 0) (by decide) (by decide) ?_
            have hf := hw
            have f4733 : ∀ j, j < 4 → -1 ≤ ((u4731.2.1 1) j).toInt ∧ ((u4731.2.1 1) j).toInt ≤ 60 := hf
            refine lv_iconst (v := 0) hx hb dX11_row_42 (by decide) ?_
            refine W.widen (k := 0) (n := 0) (by decide) (by decide) ?_
            exact ch_iret hC hr hk hS dX11_row_43 ((fun k => [].getD k 0, fun k => [(u4731.2.1 0), (u4731.2.1 1)].getD k (fun _ => 0), fun k => [(u4731.2.2 0)].getD k (fun _ => 0)) : ((Nat → Int32) × (Nat → Nat → Int32) × (Nat → Nat → Int64))) ⟨(Or.inr (Or.inr ⟨rfl, (by omega), (by omega), (by omega), (by omega), (by omega), (by omega)⟩)), (show ∀ j, j < 4 → -1 ≤ ((u4731.2.1 1) j).toInt ∧ ((u4731.2.1 1) j).toInt ≤ 60 from f4733)⟩ (hP.sub [0, 1, 2, 3, 4] rfl) (hD.sub [0, 1, 2, 3, 4] (by decide) rfl)
          · replace c4730 := nle_i c4730
            refine lv_bipush (v := (-3)) hx hb dX11_row_29 (by decide) ?_
            refine W.widen (k := 0) (n := 0) (by decide) (by decide) ?_
            exact ch_iret hC hr hk hS dX11_row_31 ((fun k => [].getD k 0, fun k => [rof1, rof2].getD k (fun _ => 0), fun k => [rof0].getD k (fun _ => 0)) : ((Nat → Int32) × (Nat → Nat → Int32) × (Nat → Nat → Int64))) ⟨(Or.inr (Or.inl ⟨rfl, (by omega), (by omega), (by omega), (by omega), (by omega), (by omega)⟩)), (show ∀ j, j < 4 → -1 ≤ (rof2 j).toInt ∧ (rof2 j).toInt ≤ 60 from hsz)⟩ (hP.sub [0, 1, 2, 3, 4] rfl) (hD.sub [0, 1, 2, 3, 4] (by decide) rfl)
        · replace c4729 := nle_i c4729
          refine lv_bipush (v := (-2)) hx hb dX11_row_22 (by decide) ?_
          refine W.widen (k := 0) (n := 0) (by decide) (by decide) ?_
          exact ch_iret hC hr hk hS dX11_row_24 ((fun k => [].getD k 0, fun k => [rof1, rof2].getD k (fun _ => 0), fun k => [rof0].getD k (fun _ => 0)) : ((Nat → Int32) × (Nat → Nat → Int32) × (Nat → Nat → Int64))) ⟨(Or.inl ⟨rfl, (by omega)⟩), (show ∀ j, j < 4 → -1 ≤ (rof2 j).toInt ∧ (rof2 j).toInt ≤ 60 from hsz)⟩ (hP.sub [0, 1, 2, 3, 4] rfl) (hD.sub [0, 1, 2, 3, 4] (by decide) rfl)
set_option maxRecDepth 40000 in
set_option maxHeartbeats 4000000 in
theorem c_X11_write (l : Launch) (D : va_G) (K : Nat → ClassId) (x : Nat) (rd : Nat) (he : Nat) (pa : Nat) (wk : Nat) (ro : Nat) (mi : Nat) (se : Nat) (pl : Nat) (co : Nat) (tr : Nat) (iw : Nat) (ip : Nat) (roa0 : Nat) (roa1 : Nat) (roa2 : Nat) (rof0 : Nat → Int64) (rof1 : Nat → Int32) (rof2 : Nat → Int32) (p0 : Int32) (p1 : Int32) (p2 : Int64) (hsz : ∀ j, j < 4 → -1 ≤ (rof2 j).toInt ∧ (rof2 j).toInt ≤ 60) : Ci (S := ((Nat → Int32) × (Nat → Nat → Int32) × (Nat → Nat → Int64))) l D K yX11_write cX11_write 5 (some .int) 4 86 0 0 [.ref x, .int p0, .int p1, .long p2] [(x, .inr (10, [.ref rd, .ref he, .ref pa, .ref wk, .ref ro, .ref mi, .ref se, .ref pl, .ref co, .ref tr, .ref iw, .ref ip])), (ro, .inr (5, [.ref roa0, .ref roa1, .ref roa2])), (roa0, .inl (K 2, 240, .inr (.inl rof0))), (roa1, .inl (K 1, 4, .inl rof1)), (roa2, .inl (K 1, 4, .inl rof2))] (fun r u => ((r = (-2) ∧ (p0.toInt < 0 ∨ 3 < p0.toInt)) ∨ (r = (-6) ∧ (0 ≤ p0.toInt) ∧ (p0.toInt ≤ 3) ∧ ((rof2 p0.toNatClampNeg).toInt = -1)) ∨ (r = (-7) ∧ (0 ≤ p0.toInt) ∧ (p0.toInt ≤ 3) ∧ ((rof2 p0.toNatClampNeg).toInt ≠ -1) ∧ (p1.toInt < 0 ∨ (rof2 p0.toNatClampNeg).toInt ≤ p1.toInt)) ∨ (r = 0 ∧ (0 ≤ p0.toInt) ∧ (p0.toInt ≤ 3) ∧ ((rof2 p0.toNatClampNeg).toInt ≠ -1) ∧ (0 ≤ p1.toInt) ∧ (p1.toInt < (rof2 p0.toNatClampNeg).toInt)))) (fun u => [(x, .inr (10, [.ref rd, .ref he, .ref pa, .ref wk, .ref ro, .ref mi, .ref se, .ref pl, .ref co, .ref tr, .ref iw, .ref ip])), (ro, .inr (5, [.ref roa0, .ref roa1, .ref roa2])), (roa0, .inl (K 2, 240, .inr (.inl (u.2.2 0)))), (roa1, .inl (K 1, 4, .inl rof1)), (roa2, .inl (K 1, 4, .inl rof2))]) := by
  intro sz
  refine ch_of (y := yX11_write) (cc := cX11_write) (maxL := 5) (ret := (some .int)) (av := [.ref x, .int p0, .int p1, .long p2]) (ws := [(x, .inr (10, [.ref rd, .ref he, .ref pa, .ref wk, .ref ro, .ref mi, .ref se, .ref pl, .ref co, .ref tr, .ref iw, .ref ip])), (ro, .inr (5, [.ref roa0, .ref roa1, .ref roa2])), (roa0, .inl (K 2, 240, .inr (.inl rof0))), (roa1, .inl (K 1, 4, .inl rof1)), (roa2, .inl (K 1, 4, .inl rof2))]) (D := D) (K := K) (Qc := fun A => va_Qi (S := ((Nat → Int32) × (Nat → Nat → Int32) × (Nat → Nat → Int64))) (fun r u => ((r = (-2) ∧ (p0.toInt < 0 ∨ 3 < p0.toInt)) ∨ (r = (-6) ∧ (0 ≤ p0.toInt) ∧ (p0.toInt ≤ 3) ∧ ((rof2 p0.toNatClampNeg).toInt = -1)) ∨ (r = (-7) ∧ (0 ≤ p0.toInt) ∧ (p0.toInt ≤ 3) ∧ ((rof2 p0.toNatClampNeg).toInt ≠ -1) ∧ (p1.toInt < 0 ∨ (rof2 p0.toNatClampNeg).toInt ≤ p1.toInt)) ∨ (r = 0 ∧ (0 ≤ p0.toInt) ∧ (p0.toInt ≤ 3) ∧ ((rof2 p0.toNatClampNeg).toInt ≠ -1) ∧ (0 ≤ p1.toInt) ∧ (p1.toInt < (rof2 p0.toNatClampNeg).toInt)))) (chB D A (fun u => [(x, .inr (10, [.ref rd, .ref he, .ref pa, .ref wk, .ref ro, .ref mi, .ref se, .ref pl, .ref co, .ref tr, .ref iw, .ref ip])), (ro, .inr (5, [.ref roa0, .ref roa1, .ref roa2])), (roa0, .inl (K 2, 240, .inr (.inl (u.2.2 0)))), (roa1, .inl (K 1, 4, .inl rof1)), (roa2, .inl (K 1, 4, .inl rof2))])) A) (by decide) (Nat.le_of_ble_eq_true rfl) ?_
  intro p e s m below meth c A hC hr hk hin hE hD hA H locs hP hS ls hl
  replace hC : CallFix p m c cX11_write 5 s [.ref x, .int p0, .int p1, .long p2].toArray wl RX11 := hC
  have hx := hC.1
  have hb := hC.2.1
  have hml := hC.2.2.1
  have hown := hC.2.2.2.1
  have hts := hC.2.2.2.2
  replace hl : lv_has ls 5 [(0, .ref x), (1, .int p0), (2, .int p1), (3, .long p2)] := hl
  have kc_0 : (0 : Int32).toInt = 0 := by decide
  refine lv_iload_n hx hb dX11_write_0 rfl (lv_at hl 1 rfl) ?_
  refine ro_S (As := [.int p0]) (rest := []) hC hE kS_X11_352 (c_X11_isSlot l D K p0) (hP.sub (ws' := []) [] rfl) rfl hl.1 rfl (Nat.le_of_ble_eq_true rfl) (by decide) (by decide) dX11_write_1 (fun r4760 hq => ?_)
  rcases hq with ⟨rfl, h4757⟩ | ⟨rfl, h4758, h4759⟩
  · refine lv_if_ne (tgt := 10) hx hb dX11_write_4 (by decide) (fun h => absurd h (by decide)) (fun _ => ?_)
    refine lv_bipush (v := (-2)) hx hb dX11_write_7 (by decide) ?_
    refine W.widen (k := 0) (n := 0) (by decide) (by decide) ?_
    exact ch_iret hC hr hk hS dX11_write_9 ((fun k => [].getD k 0, fun k => [].getD k (fun _ => 0), fun k => [rof0].getD k (fun _ => 0)) : ((Nat → Int32) × (Nat → Nat → Int32) × (Nat → Nat → Int64))) (Or.inl ⟨rfl, (by omega)⟩) (hP.sub [0, 1, 2, 3, 4] rfl) (hD.sub [0, 1, 2, 3, 4] (by decide) rfl)
  · refine lv_if_ne (tgt := 10) hx hb dX11_write_4 (by decide) (fun _ => ?_) (fun h => absurd h (by decide))
    refine lv_aload_n hx hb dX11_write_10 rfl (lv_at hl 0 rfl) ?_
    refine va_get (D := D) (ci := 10) (v := .ref ro) (C := RX11) (T := TX11) (N := 12) hx hb hts in_X11 hown hE.1 hP 0 rfl rfl 4 (by decide) (hts _ w_523) (fun _ h9 => h9) rfl dX11_write_11 ?_
    refine lv_iload_n hx hb dX11_write_14 rfl (lv_at hl 1 rfl) ?_
    refine ro_V (As := [.int p0]) (rest := []) hC hE kV_X11_358 (c_X5_has l D K ro roa0 roa1 roa2 rof2 p0 hsz) (hP.sub (ws' := [(ro, .inr (5, [.ref roa0, .ref roa1, .ref roa2])), (roa2, .inl (K 1, 4, .inl rof2))]) [1, 4] rfl) 0 5 rfl rfl rfl hl.1 rfl (Nat.le_of_ble_eq_true rfl) (by decide) (by decide) dX11_write_15 (fun r4765 hq => ?_)
    rcases hq with ⟨rfl, h4761⟩ | ⟨rfl, h4762, h4763, h4764⟩
    · refine lv_if_ne (tgt := 24) hx hb dX11_write_18 (by decide) (fun h => absurd h (by decide)) (fun _ => ?_)
      refine lv_bipush (v := (-6)) hx hb dX11_write_21 (by decide) ?_
      refine W.widen (k := 0) (n := 0) (by decide) (by decide) ?_
      exact ch_iret hC hr hk hS dX11_write_23 ((fun k => [].getD k 0, fun k => [].getD k (fun _ => 0), fun k => [rof0].getD k (fun _ => 0)) : ((Nat → Int32) × (Nat → Nat → Int32) × (Nat → Nat → Int64))) (Or.inr (Or.inl ⟨rfl, (by omega), (by omega), (by omega)⟩)) (hP.sub [0, 1, 2, 3, 4] rfl) (hD.sub [0, 1, 2, 3, 4] (by decide) rfl)
    · refine lv_if_ne (tgt := 24) hx hb dX11_write_18 (by decide) (fun _ => ?_) (fun h => absurd h (by decide))
      refine lv_iload_n hx hb dX11_write_24 rfl (lv_at hl 2 rfl) ?_
      refine lv_if_lt (tgt := 40) hx hb dX11_write_25 (by decide) (fun c4766 => ?_) (fun c4766 => ?_)
      · replace c4766 := lt_i c4766
        refine lv_bipush (v := (-7)) hx hb dX11_write_40 (by decide) ?_
        refine W.widen (k := 0) (n := 0) (by decide) (by decide) ?_
        exact ch_iret hC hr hk hS dX11_write_42 ((fun k => [].getD k 0, fun k => [].getD k (fun _ => 0), fun k => [rof0].getD k (fun _ => 0)) : ((Nat → Int32) × (Nat → Nat → Int32) × (Nat → Nat → Int64))) (Or.inr (Or.inr (Or.inl ⟨rfl, (by omega), (by omega), (by omega), (by omega)⟩))) (hP.sub [0, 1, 2, 3, 4] rfl) (hD.sub [0, 1, 2, 3, 4] (by decide) rfl)
      · replace c4766 := nlt_i c4766
        refine lv_iload_n hx hb dX11_write_28 rfl (lv_at hl 2 rfl) ?_
        refine lv_aload_n hx hb dX11_write_29 rfl (lv_at hl 0 rfl) ?_
        refine va_get (D := D) (ci := 10) (v := .ref ro) (C := RX11) (T := TX11) (N := 12) hx hb hts in_X11 hown hE.1 hP 0 rfl rfl 4 (by decide) (hts _ w_523) (fun _ h9 => h9) rfl dX11_write_30 ?_
        refine lv_iload_n hx hb dX11_write_33 rfl (lv_at hl 1 rfl) ?_
        refine ro_V (As := [.int p0]) (rest := [.int p1]) hC hE kV_X11_201 (c_X5_size l D K ro roa0 roa1 roa2 rof2 p0 hsz) (hP.sub (ws' := [(ro, .inr (5, [.ref roa0, .ref roa1, .ref roa2])), (roa2, .inl (K 1, 4, .inl rof2))]) [1, 4] rfl) 0 5 rfl rfl rfl hl.1 rfl (Nat.le_of_ble_eq_true rfl) (by decide) (by decide) dX11_write_34 (fun r4773 hq => ?_)
        rcases hq with ⟨rfl, h4767⟩ | ⟨h4768, h4769, h4770, h4771, h4772⟩
        · refine lv_icmp_lt (tgt := 43) hx hb dX11_write_37 (by decide) (fun c4774 => ?_) (fun c4774 => ?_)
          · replace c4774 := lt_i c4774
            refine lv_aload_n hx hb dX11_write_43 rfl (lv_at hl 0 rfl) ?_
            refine va_get (D := D) (ci := 10) (v := .ref ro) (C := RX11) (T := TX11) (N := 12) hx hb hts in_X11 hown hE.1 hP 0 rfl rfl 4 (by decide) (hts _ w_523) (fun _ h9 => h9) rfl dX11_write_44 ?_
            refine lv_iload_n hx hb dX11_write_47 rfl (lv_at hl 1 rfl) ?_
            refine lv_iload_n hx hb dX11_write_48 rfl (lv_at hl 2 rfl) ?_
            refine lv_lload_n hx hb dX11_write_49 rfl (lv_at hl 3 rfl) ?_
            refine cv_V (As := [.int p0, .int p1, .long p2]) (rest := []) (wc := [(ro, .inr (5, [.ref roa0, .ref roa1, .ref roa2])), (roa0, .inl (K 2, 240, .inr (.inl rof0))), (roa1, .inl (K 1, 4, .inl rof1)), (roa2, .inl (K 1, 4, .inl rof2))]) (wr := [(x, .inr (10, [.ref rd, .ref he, .ref pa, .ref wk, .ref ro, .ref mi, .ref se, .ref pl, .ref co, .ref tr, .ref iw, .ref ip]))]) hC hE kV_X11_361 (c_X5_put l D K ro roa0 roa1 roa2 rof0 rof1 rof2 p0 p1 p2 hsz) hP hD hS hA [1, 2, 3, 4] [0] rfl rfl rfl (by decide) (by decide) (by decide) 0 5 rfl rfl rfl hl.1 rfl (Nat.le_of_ble_eq_true rfl) (by decide) (by decide) dX11_write_50 (fun u4775 H locs hw hP hD hS => ?_)
            replace hP : va_P D vwCl [(x, .inr (10, [.ref rd, .ref he, .ref pa, .ref wk, .ref ro, .ref mi, .ref se, .ref pl, .ref co, .ref tr, .ref iw, .ref ip])), (ro, .inr (5, [.ref roa0, .ref roa1, .ref roa2])), (roa0, .inl (K 2, 240, .inr (.inl (u4775.2.2 0)))), (roa1, .inl (K 1, 4, .inl rof1)), (roa2, .inl (K 1, 4, .inl rof2))] H := hP
            replace hD : va_D A [(x, .inr (10, [.ref rd, .ref he, .ref pa, .ref wk, .ref ro, .ref mi, .ref se, .ref pl, .ref co, .ref tr, .ref iw, .ref ip])), (ro, .inr (5, [.ref roa0, .ref roa1, .ref roa2])), (roa0, .inl (K 2, 240, .inr (.inl (u4775.2.2 0)))), (roa1, .inl (K 1, 4, .inl rof1)), (roa2, .inl (K 1, 4, .inl rof2))] := hD
            replace hP : va_P D vwCl [(x, .inr (10, [.ref rd, .ref he, .ref pa, .ref wk, .ref ro, .ref mi, .ref se, .ref pl, .ref co, .ref tr, .ref iw, .ref ip])), (ro, .inr (5, [.ref roa0, .ref roa1, .ref roa2])), (roa0, .inl (K 2, 240, .inr (.inl (u4775.2.2 0)))), (roa1, .inl (K 1, 4, .inl rof1)), (roa2, .inl (K 1, 4, .inl rof2))] H := hP.sub [0, 1, 2, 3, 4] rfl
            replace hD : va_D A [(x, .inr (10, [.ref rd, .ref he, .ref pa, .ref wk, .ref ro, .ref mi, .ref se, .ref pl, .ref co, .ref tr, .ref iw, .ref ip])), (ro, .inr (5, [.ref roa0, .ref roa1, .ref roa2])), (roa0, .inl (K 2, 240, .inr (.inl (u4775.2.2 0)))), (roa1, .inl (K 1, 4, .inl rof1)), (roa2, .inl (K 1, 4, .inl rof2))] := hD.sub [0, 1, 2, 3, 4] (by decide) rfl
            refine W.widen (k := 0) (n := 0) (by decide) (by decide) ?_
            refine lv_iconst (v := 0) hx hb dX11_write_53 (by decide) ?_
            refine W.widen (k := 0) (n := 0) (by decide) (by decide) ?_
            exact ch_iret hC hr hk hS dX11_write_54 ((fun k => [].getD k 0, fun k => [].getD k (fun _ => 0), fun k => [(u4775.2.2 0)].getD k (fun _ => 0)) : ((Nat → Int32) × (Nat → Nat → Int32) × (Nat → Nat → Int64))) (Or.inr (Or.inr (Or.inr ⟨rfl, (by omega), (by omega), (by omega), (by omega), (by omega)⟩))) (hP.sub [0, 1, 2, 3, 4] rfl) (hD.sub [0, 1, 2, 3, 4] (by decide) rfl)
          · replace c4774 := nlt_i c4774
            refine lv_bipush (v := (-7)) hx hb dX11_write_40 (by decide) ?_
            refine W.widen (k := 0) (n := 0) (by decide) (by decide) ?_
            exact ch_iret hC hr hk hS dX11_write_42 ((fun k => [].getD k 0, fun k => [].getD k (fun _ => 0), fun k => [rof0].getD k (fun _ => 0)) : ((Nat → Int32) × (Nat → Nat → Int32) × (Nat → Nat → Int64))) (Or.inr (Or.inr (Or.inl ⟨rfl, (by omega), (by omega), (by omega), (by omega)⟩))) (hP.sub [0, 1, 2, 3, 4] rfl) (hD.sub [0, 1, 2, 3, 4] (by decide) rfl)
        · refine lv_icmp_lt (tgt := 43) hx hb dX11_write_37 (by decide) (fun c4777 => ?_) (fun c4777 => ?_)
          · replace c4777 := lt_i c4777
            refine lv_aload_n hx hb dX11_write_43 rfl (lv_at hl 0 rfl) ?_
            refine va_get (D := D) (ci := 10) (v := .ref ro) (C := RX11) (T := TX11) (N := 12) hx hb hts in_X11 hown hE.1 hP 0 rfl rfl 4 (by decide) (hts _ w_523) (fun _ h9 => h9) rfl dX11_write_44 ?_
            refine lv_iload_n hx hb dX11_write_47 rfl (lv_at hl 1 rfl) ?_
            refine lv_iload_n hx hb dX11_write_48 rfl (lv_at hl 2 rfl) ?_
            refine lv_lload_n hx hb dX11_write_49 rfl (lv_at hl 3 rfl) ?_
            refine cv_V (As := [.int p0, .int p1, .long p2]) (rest := []) (wc := [(ro, .inr (5, [.ref roa0, .ref roa1, .ref roa2])), (roa0, .inl (K 2, 240, .inr (.inl rof0))), (roa1, .inl (K 1, 4, .inl rof1)), (roa2, .inl (K 1, 4, .inl rof2))]) (wr := [(x, .inr (10, [.ref rd, .ref he, .ref pa, .ref wk, .ref ro, .ref mi, .ref se, .ref pl, .ref co, .ref tr, .ref iw, .ref ip]))]) hC hE kV_X11_361 (c_X5_put l D K ro roa0 roa1 roa2 rof0 rof1 rof2 p0 p1 p2 hsz) hP hD hS hA [1, 2, 3, 4] [0] rfl rfl rfl (by decide) (by decide) (by decide) 0 5 rfl rfl rfl hl.1 rfl (Nat.le_of_ble_eq_true rfl) (by decide) (by decide) dX11_write_50 (fun u4778 H locs hw hP hD hS => ?_)
            replace hP : va_P D vwCl [(x, .inr (10, [.ref rd, .ref he, .ref pa, .ref wk, .ref ro, .ref mi, .ref se, .ref pl, .ref co, .ref tr, .ref iw, .ref ip])), (ro, .inr (5, [.ref roa0, .ref roa1, .ref roa2])), (roa0, .inl (K 2, 240, .inr (.inl (u4778.2.2 0)))), (roa1, .inl (K 1, 4, .inl rof1)), (roa2, .inl (K 1, 4, .inl rof2))] H := hP
            replace hD : va_D A [(x, .inr (10, [.ref rd, .ref he, .ref pa, .ref wk, .ref ro, .ref mi, .ref se, .ref pl, .ref co, .ref tr, .ref iw, .ref ip])), (ro, .inr (5, [.ref roa0, .ref roa1, .ref roa2])), (roa0, .inl (K 2, 240, .inr (.inl (u4778.2.2 0)))), (roa1, .inl (K 1, 4, .inl rof1)), (roa2, .inl (K 1, 4, .inl rof2))] := hD
            replace hP : va_P D vwCl [(x, .inr (10, [.ref rd, .ref he, .ref pa, .ref wk, .ref ro, .ref mi, .ref se, .ref pl, .ref co, .ref tr, .ref iw, .ref ip])), (ro, .inr (5, [.ref roa0, .ref roa1, .ref roa2])), (roa0, .inl (K 2, 240, .inr (.inl (u4778.2.2 0)))), (roa1, .inl (K 1, 4, .inl rof1)), (roa2, .inl (K 1, 4, .inl rof2))] H := hP.sub [0, 1, 2, 3, 4] rfl
            replace hD : va_D A [(x, .inr (10, [.ref rd, .ref he, .ref pa, .ref wk, .ref ro, .ref mi, .ref se, .ref pl, .ref co, .ref tr, .ref iw, .ref ip])), (ro, .inr (5, [.ref roa0, .ref roa1, .ref roa2])), (roa0, .inl (K 2, 240, .inr (.inl (u4778.2.2 0)))), (roa1, .inl (K 1, 4, .inl rof1)), (roa2, .inl (K 1, 4, .inl rof2))] := hD.sub [0, 1, 2, 3, 4] (by decide) rfl
            refine W.widen (k := 0) (n := 0) (by decide) (by decide) ?_
            refine lv_iconst (v := 0) hx hb dX11_write_53 (by decide) ?_
            refine W.widen (k := 0) (n := 0) (by decide) (by decide) ?_
            exact ch_iret hC hr hk hS dX11_write_54 ((fun k => [].getD k 0, fun k => [].getD k (fun _ => 0), fun k => [(u4778.2.2 0)].getD k (fun _ => 0)) : ((Nat → Int32) × (Nat → Nat → Int32) × (Nat → Nat → Int64))) (Or.inr (Or.inr (Or.inr ⟨rfl, (by omega), (by omega), (by omega), (by omega), (by omega)⟩))) (hP.sub [0, 1, 2, 3, 4] rfl) (hD.sub [0, 1, 2, 3, 4] (by decide) rfl)
          · replace c4777 := nlt_i c4777
            refine lv_bipush (v := (-7)) hx hb dX11_write_40 (by decide) ?_
            refine W.widen (k := 0) (n := 0) (by decide) (by decide) ?_
            exact ch_iret hC hr hk hS dX11_write_42 ((fun k => [].getD k 0, fun k => [].getD k (fun _ => 0), fun k => [rof0].getD k (fun _ => 0)) : ((Nat → Int32) × (Nat → Nat → Int32) × (Nat → Nat → Int64))) (Or.inr (Or.inr (Or.inl ⟨rfl, (by omega), (by omega), (by omega), (by omega)⟩))) (hP.sub [0, 1, 2, 3, 4] rfl) (hD.sub [0, 1, 2, 3, 4] (by decide) rfl)
set_option maxRecDepth 40000 in
set_option maxHeartbeats 4000000 in
theorem c_X11_paste (l : Launch) (D : va_G) (K : Nat → ClassId) (x : Nat) (rd : Nat) (he : Nat) (pa : Nat) (wk : Nat) (ro : Nat) (mi : Nat) (se : Nat) (pl : Nat) (co : Nat) (tr : Nat) (iw : Nat) (ip : Nat) (roa0 : Nat) (roa1 : Nat) (roa2 : Nat) (rof0 : Nat → Int64) (rof1 : Nat → Int32) (rof2 : Nat → Int32) (p0 : Int32) (p1 : Int32) (p2 : Int32) (p3 : Int32) (p4 : Int32) (hsz : ∀ j, j < 4 → -1 ≤ (rof2 j).toInt ∧ (rof2 j).toInt ≤ 60) : Ci (S := ((Nat → Int32) × (Nat → Nat → Int32) × (Nat → Nat → Int64))) l D K yX11_paste cX11_paste 6 (some .int) 5 110 0 0 [.ref x, .int p0, .int p1, .int p2, .int p3, .int p4] [(x, .inr (10, [.ref rd, .ref he, .ref pa, .ref wk, .ref ro, .ref mi, .ref se, .ref pl, .ref co, .ref tr, .ref iw, .ref ip])), (ro, .inr (5, [.ref roa0, .ref roa1, .ref roa2])), (roa0, .inl (K 2, 240, .inr (.inl rof0))), (roa1, .inl (K 1, 4, .inl rof1)), (roa2, .inl (K 1, 4, .inl rof2))] (fun r u => ((r = (-2) ∧ (p0.toInt < 0 ∨ 3 < p0.toInt ∨ p2.toInt < 0 ∨ 3 < p2.toInt)) ∨ (r = (-6) ∧ (0 ≤ p0.toInt) ∧ (p0.toInt ≤ 3) ∧ (0 ≤ p2.toInt) ∧ (p2.toInt ≤ 3) ∧ ((rof2 p0.toNatClampNeg).toInt = -1 ∨ (rof2 p2.toNatClampNeg).toInt = -1)) ∨ (r = (-8) ∧ (0 ≤ p0.toInt) ∧ (p0.toInt ≤ 3) ∧ (0 ≤ p2.toInt) ∧ (p2.toInt ≤ 3) ∧ ((rof2 p0.toNatClampNeg).toInt ≠ -1) ∧ ((rof2 p2.toNatClampNeg).toInt ≠ -1) ∧ ((rof1 p0.toNatClampNeg).toInt ≠ (rof1 p2.toNatClampNeg).toInt)) ∨ (r = (-7) ∧ (0 ≤ p0.toInt) ∧ (p0.toInt ≤ 3) ∧ (0 ≤ p2.toInt) ∧ (p2.toInt ≤ 3) ∧ ((rof2 p0.toNatClampNeg).toInt ≠ -1) ∧ ((rof2 p2.toNatClampNeg).toInt ≠ -1) ∧ ((rof1 p0.toNatClampNeg).toInt = (rof1 p2.toNatClampNeg).toInt) ∧ (p1.toInt < 0 ∨ p4.toInt < 0 ∨ p3.toInt < 0 ∨ (rof2 p0.toNatClampNeg).toInt < p1.toInt + p4.toInt ∨ (rof2 p2.toNatClampNeg).toInt < p3.toInt + p4.toInt)) ∨ (r = 0 ∧ (0 ≤ p0.toInt) ∧ (p0.toInt ≤ 3) ∧ (0 ≤ p2.toInt) ∧ (p2.toInt ≤ 3) ∧ ((rof2 p0.toNatClampNeg).toInt ≠ -1) ∧ ((rof2 p2.toNatClampNeg).toInt ≠ -1) ∧ ((rof1 p0.toNatClampNeg).toInt = (rof1 p2.toNatClampNeg).toInt) ∧ (0 ≤ p1.toInt) ∧ (0 ≤ p3.toInt) ∧ (0 ≤ p4.toInt) ∧ (p1.toInt + p4.toInt ≤ (rof2 p0.toNatClampNeg).toInt) ∧ (p3.toInt + p4.toInt ≤ (rof2 p2.toNatClampNeg).toInt)))) (fun u => [(x, .inr (10, [.ref rd, .ref he, .ref pa, .ref wk, .ref ro, .ref mi, .ref se, .ref pl, .ref co, .ref tr, .ref iw, .ref ip])), (ro, .inr (5, [.ref roa0, .ref roa1, .ref roa2])), (roa0, .inl (K 2, 240, .inr (.inl (u.2.2 0)))), (roa1, .inl (K 1, 4, .inl rof1)), (roa2, .inl (K 1, 4, .inl rof2))]) := by
  intro sz
  refine ch_of (y := yX11_paste) (cc := cX11_paste) (maxL := 6) (ret := (some .int)) (av := [.ref x, .int p0, .int p1, .int p2, .int p3, .int p4]) (ws := [(x, .inr (10, [.ref rd, .ref he, .ref pa, .ref wk, .ref ro, .ref mi, .ref se, .ref pl, .ref co, .ref tr, .ref iw, .ref ip])), (ro, .inr (5, [.ref roa0, .ref roa1, .ref roa2])), (roa0, .inl (K 2, 240, .inr (.inl rof0))), (roa1, .inl (K 1, 4, .inl rof1)), (roa2, .inl (K 1, 4, .inl rof2))]) (D := D) (K := K) (Qc := fun A => va_Qi (S := ((Nat → Int32) × (Nat → Nat → Int32) × (Nat → Nat → Int64))) (fun r u => ((r = (-2) ∧ (p0.toInt < 0 ∨ 3 < p0.toInt ∨ p2.toInt < 0 ∨ 3 < p2.toInt)) ∨ (r = (-6) ∧ (0 ≤ p0.toInt) ∧ (p0.toInt ≤ 3) ∧ (0 ≤ p2.toInt) ∧ (p2.toInt ≤ 3) ∧ ((rof2 p0.toNatClampNeg).toInt = -1 ∨ (rof2 p2.toNatClampNeg).toInt = -1)) ∨ (r = (-8) ∧ (0 ≤ p0.toInt) ∧ (p0.toInt ≤ 3) ∧ (0 ≤ p2.toInt) ∧ (p2.toInt ≤ 3) ∧ ((rof2 p0.toNatClampNeg).toInt ≠ -1) ∧ ((rof2 p2.toNatClampNeg).toInt ≠ -1) ∧ ((rof1 p0.toNatClampNeg).toInt ≠ (rof1 p2.toNatClampNeg).toInt)) ∨ (r = (-7) ∧ (0 ≤ p0.toInt) ∧ (p0.toInt ≤ 3) ∧ (0 ≤ p2.toInt) ∧ (p2.toInt ≤ 3) ∧ ((rof2 p0.toNatClampNeg).toInt ≠ -1) ∧ ((rof2 p2.toNatClampNeg).toInt ≠ -1) ∧ ((rof1 p0.toNatClampNeg).toInt = (rof1 p2.toNatClampNeg).toInt) ∧ (p1.toInt < 0 ∨ p4.toInt < 0 ∨ p3.toInt < 0 ∨ (rof2 p0.toNatClampNeg).toInt < p1.toInt + p4.toInt ∨ (rof2 p2.toNatClampNeg).toInt < p3.toInt + p4.toInt)) ∨ (r = 0 ∧ (0 ≤ p0.toInt) ∧ (p0.toInt ≤ 3) ∧ (0 ≤ p2.toInt) ∧ (p2.toInt ≤ 3) ∧ ((rof2 p0.toNatClampNeg).toInt ≠ -1) ∧ ((rof2 p2.toNatClampNeg).toInt ≠ -1) ∧ ((rof1 p0.toNatClampNeg).toInt = (rof1 p2.toNatClampNeg).toInt) ∧ (0 ≤ p1.toInt) ∧ (0 ≤ p3.toInt) ∧ (0 ≤ p4.toInt) ∧ (p1.toInt + p4.toInt ≤ (rof2 p0.toNatClampNeg).toInt) ∧ (p3.toInt + p4.toInt ≤ (rof2 p2.toNatClampNeg).toInt)))) (chB D A (fun u => [(x, .inr (10, [.ref rd, .ref he, .ref pa, .ref wk, .ref ro, .ref mi, .ref se, .ref pl, .ref co, .ref tr, .ref iw, .ref ip])), (ro, .inr (5, [.ref roa0, .ref roa1, .ref roa2])), (roa0, .inl (K 2, 240, .inr (.inl (u.2.2 0)))), (roa1, .inl (K 1, 4, .inl rof1)), (roa2, .inl (K 1, 4, .inl rof2))])) A) (by decide) (Nat.le_of_ble_eq_true rfl) ?_
  intro p e s m below meth c A hC hr hk hin hE hD hA H locs hP hS ls hl
  replace hC : CallFix p m c cX11_paste 6 s [.ref x, .int p0, .int p1, .int p2, .int p3, .int p4].toArray wl RX11 := hC
  have hx := hC.1
  have hb := hC.2.1
  have hml := hC.2.2.1
  have hown := hC.2.2.2.1
  have hts := hC.2.2.2.2
  replace hl : lv_has ls 6 [(0, .ref x), (1, .int p0), (2, .int p1), (3, .int p2), (4, .int p3), (5, .int p4)] := hl
  have kc_m1 : (-1 : Int32).toInt = -1 := by decide
  refine lv_iload_n hx hb dX11_paste_0 rfl (lv_at hl 1 rfl) ?_
  refine ro_S (As := [.int p0]) (rest := []) hC hE kS_X11_352 (c_X11_isSlot l D K p0) (hP.sub (ws' := []) [] rfl) rfl hl.1 rfl (Nat.le_of_ble_eq_true rfl) (by decide) (by decide) dX11_paste_1 (fun r4875 hq => ?_)
  rcases hq with ⟨rfl, h4872⟩ | ⟨rfl, h4873, h4874⟩
  · refine lv_if_eq (tgt := 14) hx hb dX11_paste_4 (by decide) (fun _ => ?_) (fun h => absurd h (by decide))
    refine lv_bipush (v := (-2)) hx hb dX11_paste_14 (by decide) ?_
    refine W.widen (k := 0) (n := 0) (by decide) (by decide) ?_
    exact ch_iret hC hr hk hS dX11_paste_16 ((fun k => [].getD k 0, fun k => [].getD k (fun _ => 0), fun k => [rof0].getD k (fun _ => 0)) : ((Nat → Int32) × (Nat → Nat → Int32) × (Nat → Nat → Int64))) (Or.inl ⟨rfl, (by omega)⟩) (hP.sub [0, 1, 2, 3, 4] rfl) (hD.sub [0, 1, 2, 3, 4] (by decide) rfl)
  · refine lv_if_eq (tgt := 14) hx hb dX11_paste_4 (by decide) (fun h => absurd h (by decide)) (fun _ => ?_)
    refine lv_iload_n hx hb dX11_paste_7 rfl (lv_at hl 3 rfl) ?_
    refine ro_S (As := [.int p2]) (rest := []) hC hE kS_X11_352 (c_X11_isSlot l D K p2) (hP.sub (ws' := []) [] rfl) rfl hl.1 rfl (Nat.le_of_ble_eq_true rfl) (by decide) (by decide) dX11_paste_8 (fun r4879 hq => ?_)
    rcases hq with ⟨rfl, h4876⟩ | ⟨rfl, h4877, h4878⟩
    · refine lv_if_ne (tgt := 17) hx hb dX11_paste_11 (by decide) (fun h => absurd h (by decide)) (fun _ => ?_)
      refine lv_bipush (v := (-2)) hx hb dX11_paste_14 (by decide) ?_
      refine W.widen (k := 0) (n := 0) (by decide) (by decide) ?_
      exact ch_iret hC hr hk hS dX11_paste_16 ((fun k => [].getD k 0, fun k => [].getD k (fun _ => 0), fun k => [rof0].getD k (fun _ => 0)) : ((Nat → Int32) × (Nat → Nat → Int32) × (Nat → Nat → Int64))) (Or.inl ⟨rfl, (by omega)⟩) (hP.sub [0, 1, 2, 3, 4] rfl) (hD.sub [0, 1, 2, 3, 4] (by decide) rfl)
    · refine lv_if_ne (tgt := 17) hx hb dX11_paste_11 (by decide) (fun _ => ?_) (fun h => absurd h (by decide))
      refine lv_aload_n hx hb dX11_paste_17 rfl (lv_at hl 0 rfl) ?_
      refine va_get (D := D) (ci := 10) (v := .ref ro) (C := RX11) (T := TX11) (N := 12) hx hb hts in_X11 hown hE.1 hP 0 rfl rfl 4 (by decide) (hts _ w_523) (fun _ h9 => h9) rfl dX11_paste_18 ?_
      refine lv_iload_n hx hb dX11_paste_21 rfl (lv_at hl 1 rfl) ?_
      refine ro_V (As := [.int p0]) (rest := []) hC hE kV_X11_358 (c_X5_has l D K ro roa0 roa1 roa2 rof2 p0 hsz) (hP.sub (ws' := [(ro, .inr (5, [.ref roa0, .ref roa1, .ref roa2])), (roa2, .inl (K 1, 4, .inl rof2))]) [1, 4] rfl) 0 5 rfl rfl rfl hl.1 rfl (Nat.le_of_ble_eq_true rfl) (by decide) (by decide) dX11_paste_22 (fun r4884 hq => ?_)
      rcases hq with ⟨rfl, h4880⟩ | ⟨rfl, h4881, h4882, h4883⟩
      · refine lv_if_eq (tgt := 39) hx hb dX11_paste_25 (by decide) (fun _ => ?_) (fun h => absurd h (by decide))
        refine lv_bipush (v := (-6)) hx hb dX11_paste_39 (by decide) ?_
        refine W.widen (k := 0) (n := 0) (by decide) (by decide) ?_
        exact ch_iret hC hr hk hS dX11_paste_41 ((fun k => [].getD k 0, fun k => [].getD k (fun _ => 0), fun k => [rof0].getD k (fun _ => 0)) : ((Nat → Int32) × (Nat → Nat → Int32) × (Nat → Nat → Int64))) (Or.inr (Or.inl ⟨rfl, (by omega), (by omega), (by omega), (by omega), (by omega)⟩)) (hP.sub [0, 1, 2, 3, 4] rfl) (hD.sub [0, 1, 2, 3, 4] (by decide) rfl)
      · refine lv_if_eq (tgt := 39) hx hb dX11_paste_25 (by decide) (fun h => absurd h (by decide)) (fun _ => ?_)
        refine lv_aload_n hx hb dX11_paste_28 rfl (lv_at hl 0 rfl) ?_
        refine va_get (D := D) (ci := 10) (v := .ref ro) (C := RX11) (T := TX11) (N := 12) hx hb hts in_X11 hown hE.1 hP 0 rfl rfl 4 (by decide) (hts _ w_523) (fun _ h9 => h9) rfl dX11_paste_29 ?_
        refine lv_iload_n hx hb dX11_paste_32 rfl (lv_at hl 3 rfl) ?_
        refine ro_V (As := [.int p2]) (rest := []) hC hE kV_X11_358 (c_X5_has l D K ro roa0 roa1 roa2 rof2 p2 hsz) (hP.sub (ws' := [(ro, .inr (5, [.ref roa0, .ref roa1, .ref roa2])), (roa2, .inl (K 1, 4, .inl rof2))]) [1, 4] rfl) 0 5 rfl rfl rfl hl.1 rfl (Nat.le_of_ble_eq_true rfl) (by decide) (by decide) dX11_paste_33 (fun r4889 hq => ?_)
        rcases hq with ⟨rfl, h4885⟩ | ⟨rfl, h4886, h4887, h4888⟩
        · refine lv_if_ne (tgt := 42) hx hb dX11_paste_36 (by decide) (fun h => absurd h (by decide)) (fun _ => ?_)
          refine lv_bipush (v := (-6)) hx hb dX11_paste_39 (by decide) ?_
          refine W.widen (k := 0) (n := 0) (by decide) (by decide) ?_
          exact ch_iret hC hr hk hS dX11_paste_41 ((fun k => [].getD k 0, fun k => [].getD k (fun _ => 0), fun k => [rof0].getD k (fun _ => 0)) : ((Nat → Int32) × (Nat → Nat → Int32) × (Nat → Nat → Int64))) (Or.inr (Or.inl ⟨rfl, (by omega), (by omega), (by omega), (by omega), (by omega)⟩)) (hP.sub [0, 1, 2, 3, 4] rfl) (hD.sub [0, 1, 2, 3, 4] (by decide) rfl)
        · refine lv_if_ne (tgt := 42) hx hb dX11_paste_36 (by decide) (fun _ => ?_) (fun h => absurd h (by decide))
          refine lv_aload_n hx hb dX11_paste_42 rfl (lv_at hl 0 rfl) ?_
          refine va_get (D := D) (ci := 10) (v := .ref ro) (C := RX11) (T := TX11) (N := 12) hx hb hts in_X11 hown hE.1 hP 0 rfl rfl 4 (by decide) (hts _ w_523) (fun _ h9 => h9) rfl dX11_paste_43 ?_
          refine lv_iload_n hx hb dX11_paste_46 rfl (lv_at hl 1 rfl) ?_
          refine ro_V (As := [.int p0]) (rest := []) hC hE kV_X11_365 (c_X5_width l D K ro roa0 roa1 roa2 rof1 p0) (hP.sub (ws' := [(ro, .inr (5, [.ref roa0, .ref roa1, .ref roa2])), (roa1, .inl (K 1, 4, .inl rof1))]) [1, 3] rfl) 0 5 rfl rfl rfl hl.1 rfl (Nat.le_of_ble_eq_true rfl) (by decide) (by decide) dX11_paste_47 (fun r4894 hq => ?_)
          rcases hq with ⟨rfl, h4890⟩ | ⟨h4891, h4892, h4893⟩
          · refine lv_aload_n hx hb dX11_paste_50 rfl (lv_at hl 0 rfl) ?_
            refine va_get (D := D) (ci := 10) (v := .ref ro) (C := RX11) (T := TX11) (N := 12) hx hb hts in_X11 hown hE.1 hP 0 rfl rfl 4 (by decide) (hts _ w_523) (fun _ h9 => h9) rfl dX11_paste_51 ?_
            refine lv_iload_n hx hb dX11_paste_54 rfl (lv_at hl 3 rfl) ?_
            refine ro_V (As := [.int p2]) (rest := [.int (-1)]) hC hE kV_X11_365 (c_X5_width l D K ro roa0 roa1 roa2 rof1 p2) (hP.sub (ws' := [(ro, .inr (5, [.ref roa0, .ref roa1, .ref roa2])), (roa1, .inl (K 1, 4, .inl rof1))]) [1, 3] rfl) 0 5 rfl rfl rfl hl.1 rfl (Nat.le_of_ble_eq_true rfl) (by decide) (by decide) dX11_paste_55 (fun r4899 hq => ?_)
            rcases hq with ⟨rfl, h4895⟩ | ⟨h4896, h4897, h4898⟩
            · refine lv_icmp_eq (tgt := 64) hx hb dX11_paste_58 (by decide) (fun _ => ?_) (fun h => absurd h (by decide))
              refine lv_aload_n hx hb dX11_paste_64 rfl (lv_at hl 0 rfl) ?_
              refine va_get (D := D) (ci := 10) (v := .ref ro) (C := RX11) (T := TX11) (N := 12) hx hb hts in_X11 hown hE.1 hP 0 rfl rfl 4 (by decide) (hts _ w_523) (fun _ h9 => h9) rfl dX11_paste_65 ?_
              refine lv_iload_n hx hb dX11_paste_68 rfl (lv_at hl 1 rfl) ?_
              refine lv_iload_n hx hb dX11_paste_69 rfl (lv_at hl 2 rfl) ?_
              refine lv_iload hx hb dX11_paste_70 (lv_at hl 5 rfl) ?_
              refine ro_V (As := [.int p0, .int p1, .int p4]) (rest := []) hC hE kV_X11_368 (c_X5_covers l D K ro roa0 roa1 roa2 rof2 p0 p1 p4 hsz) (hP.sub (ws' := [(ro, .inr (5, [.ref roa0, .ref roa1, .ref roa2])), (roa2, .inl (K 1, 4, .inl rof2))]) [1, 4] rfl) 0 5 rfl rfl rfl hl.1 rfl (Nat.le_of_ble_eq_true rfl) (by decide) (by decide) dX11_paste_72 (fun r4905 hq => ?_)
              rcases hq with ⟨rfl, h4900⟩ | ⟨rfl, h4901, h4902, h4903, h4904⟩
              · refine lv_if_eq (tgt := 93) hx hb dX11_paste_75 (by decide) (fun _ => ?_) (fun h => absurd h (by decide))
                refine lv_bipush (v := (-7)) hx hb dX11_paste_93 (by decide) ?_
                refine W.widen (k := 0) (n := 0) (by decide) (by decide) ?_
                exact ch_iret hC hr hk hS dX11_paste_95 ((fun k => [].getD k 0, fun k => [].getD k (fun _ => 0), fun k => [rof0].getD k (fun _ => 0)) : ((Nat → Int32) × (Nat → Nat → Int32) × (Nat → Nat → Int64))) (Or.inr (Or.inr (Or.inr (Or.inl ⟨rfl, (by omega), (by omega), (by omega), (by omega), (by omega), (by omega), (by omega), (by omega)⟩)))) (hP.sub [0, 1, 2, 3, 4] rfl) (hD.sub [0, 1, 2, 3, 4] (by decide) rfl)
              · refine lv_if_eq (tgt := 93) hx hb dX11_paste_75 (by decide) (fun h => absurd h (by decide)) (fun _ => ?_)
                refine lv_aload_n hx hb dX11_paste_78 rfl (lv_at hl 0 rfl) ?_
                refine va_get (D := D) (ci := 10) (v := .ref ro) (C := RX11) (T := TX11) (N := 12) hx hb hts in_X11 hown hE.1 hP 0 rfl rfl 4 (by decide) (hts _ w_523) (fun _ h9 => h9) rfl dX11_paste_79 ?_
                refine lv_iload_n hx hb dX11_paste_82 rfl (lv_at hl 3 rfl) ?_
                refine lv_iload hx hb dX11_paste_83 (lv_at hl 4 rfl) ?_
                refine lv_iload hx hb dX11_paste_85 (lv_at hl 5 rfl) ?_
                refine ro_V (As := [.int p2, .int p3, .int p4]) (rest := []) hC hE kV_X11_368 (c_X5_covers l D K ro roa0 roa1 roa2 rof2 p2 p3 p4 hsz) (hP.sub (ws' := [(ro, .inr (5, [.ref roa0, .ref roa1, .ref roa2])), (roa2, .inl (K 1, 4, .inl rof2))]) [1, 4] rfl) 0 5 rfl rfl rfl hl.1 rfl (Nat.le_of_ble_eq_true rfl) (by decide) (by decide) dX11_paste_87 (fun r4911 hq => ?_)
                rcases hq with ⟨rfl, h4906⟩ | ⟨rfl, h4907, h4908, h4909, h4910⟩
                · refine lv_if_ne (tgt := 96) hx hb dX11_paste_90 (by decide) (fun h => absurd h (by decide)) (fun _ => ?_)
                  refine lv_bipush (v := (-7)) hx hb dX11_paste_93 (by decide) ?_
                  refine W.widen (k := 0) (n := 0) (by decide) (by decide) ?_
                  exact ch_iret hC hr hk hS dX11_paste_95 ((fun k => [].getD k 0, fun k => [].getD k (fun _ => 0), fun k => [rof0].getD k (fun _ => 0)) : ((Nat → Int32) × (Nat → Nat → Int32) × (Nat → Nat → Int64))) (Or.inr (Or.inr (Or.inr (Or.inl ⟨rfl, (by omega), (by omega), (by omega), (by omega), (by omega), (by omega), (by omega), (by omega)⟩)))) (hP.sub [0, 1, 2, 3, 4] rfl) (hD.sub [0, 1, 2, 3, 4] (by decide) rfl)
                · refine lv_if_ne (tgt := 96) hx hb dX11_paste_90 (by decide) (fun _ => ?_) (fun h => absurd h (by decide))
                  refine lv_aload_n hx hb dX11_paste_96 rfl (lv_at hl 0 rfl) ?_
                  refine va_get (D := D) (ci := 10) (v := .ref ro) (C := RX11) (T := TX11) (N := 12) hx hb hts in_X11 hown hE.1 hP 0 rfl rfl 4 (by decide) (hts _ w_523) (fun _ h9 => h9) rfl dX11_paste_97 ?_
                  refine lv_iload_n hx hb dX11_paste_100 rfl (lv_at hl 1 rfl) ?_
                  refine lv_iload_n hx hb dX11_paste_101 rfl (lv_at hl 2 rfl) ?_
                  refine lv_iload_n hx hb dX11_paste_102 rfl (lv_at hl 3 rfl) ?_
                  refine lv_iload hx hb dX11_paste_103 (lv_at hl 4 rfl) ?_
                  refine lv_iload hx hb dX11_paste_105 (lv_at hl 5 rfl) ?_
                  refine cv_V (As := [.int p0, .int p1, .int p2, .int p3, .int p4]) (rest := []) (wc := [(ro, .inr (5, [.ref roa0, .ref roa1, .ref roa2])), (roa0, .inl (K 2, 240, .inr (.inl rof0))), (roa2, .inl (K 1, 4, .inl rof2))]) (wr := [(x, .inr (10, [.ref rd, .ref he, .ref pa, .ref wk, .ref ro, .ref mi, .ref se, .ref pl, .ref co, .ref tr, .ref iw, .ref ip])), (roa1, .inl (K 1, 4, .inl rof1))]) hC hE kV_X11_371 (c_X5_move l D K ro roa0 roa1 roa2 rof0 rof2 p0 p1 p2 p3 p4 hsz) hP hD hS hA [1, 2, 4] [0, 3] rfl rfl rfl (by decide) (by decide) (by decide) 0 5 rfl rfl rfl hl.1 rfl (Nat.le_of_ble_eq_true rfl) (by decide) (by decide) dX11_paste_107 (fun u4912 H locs hw hP hD hS => ?_)
                  replace hP : va_P D vwCl [(x, .inr (10, [.ref rd, .ref he, .ref pa, .ref wk, .ref ro, .ref mi, .ref se, .ref pl, .ref co, .ref tr, .ref iw, .ref ip])), (roa1, .inl (K 1, 4, .inl rof1)), (ro, .inr (5, [.ref roa0, .ref roa1, .ref roa2])), (roa0, .inl (K 2, 240, .inr (.inl (u4912.2.2 0)))), (roa2, .inl (K 1, 4, .inl rof2))] H := hP
                  replace hD : va_D A [(x, .inr (10, [.ref rd, .ref he, .ref pa, .ref wk, .ref ro, .ref mi, .ref se, .ref pl, .ref co, .ref tr, .ref iw, .ref ip])), (roa1, .inl (K 1, 4, .inl rof1)), (ro, .inr (5, [.ref roa0, .ref roa1, .ref roa2])), (roa0, .inl (K 2, 240, .inr (.inl (u4912.2.2 0)))), (roa2, .inl (K 1, 4, .inl rof2))] := hD
                  replace hP : va_P D vwCl [(x, .inr (10, [.ref rd, .ref he, .ref pa, .ref wk, .ref ro, .ref mi, .ref se, .ref pl, .ref co, .ref tr, .ref iw, .ref ip])), (ro, .inr (5, [.ref roa0, .ref roa1, .ref roa2])), (roa0, .inl (K 2, 240, .inr (.inl (u4912.2.2 0)))), (roa1, .inl (K 1, 4, .inl rof1)), (roa2, .inl (K 1, 4, .inl rof2))] H := hP.sub [0, 2, 3, 1, 4] rfl
                  replace hD : va_D A [(x, .inr (10, [.ref rd, .ref he, .ref pa, .ref wk, .ref ro, .ref mi, .ref se, .ref pl, .ref co, .ref tr, .ref iw, .ref ip])), (ro, .inr (5, [.ref roa0, .ref roa1, .ref roa2])), (roa0, .inl (K 2, 240, .inr (.inl (u4912.2.2 0)))), (roa1, .inl (K 1, 4, .inl rof1)), (roa2, .inl (K 1, 4, .inl rof2))] := hD.sub [0, 2, 3, 1, 4] (by decide) rfl
                  refine W.widen (k := 0) (n := 0) (by decide) (by decide) ?_
                  refine lv_iconst (v := 0) hx hb dX11_paste_110 (by decide) ?_
                  refine W.widen (k := 0) (n := 0) (by decide) (by decide) ?_
                  exact ch_iret hC hr hk hS dX11_paste_111 ((fun k => [].getD k 0, fun k => [].getD k (fun _ => 0), fun k => [(u4912.2.2 0)].getD k (fun _ => 0)) : ((Nat → Int32) × (Nat → Nat → Int32) × (Nat → Nat → Int64))) (Or.inr (Or.inr (Or.inr (Or.inr ⟨rfl, (by omega), (by omega), (by omega), (by omega), (by omega), (by omega), (by omega), (by omega), (by omega), (by omega), (by omega), (by omega)⟩)))) (hP.sub [0, 1, 2, 3, 4] rfl) (hD.sub [0, 1, 2, 3, 4] (by decide) rfl)
            · refine lv_icmp_eq (tgt := 64) hx hb dX11_paste_58 (by decide) (fun c4914 => ?_) (fun c4914 => ?_)
              · replace c4914 := eq_i c4914
                refine lv_aload_n hx hb dX11_paste_64 rfl (lv_at hl 0 rfl) ?_
                refine va_get (D := D) (ci := 10) (v := .ref ro) (C := RX11) (T := TX11) (N := 12) hx hb hts in_X11 hown hE.1 hP 0 rfl rfl 4 (by decide) (hts _ w_523) (fun _ h9 => h9) rfl dX11_paste_65 ?_
                refine lv_iload_n hx hb dX11_paste_68 rfl (lv_at hl 1 rfl) ?_
                refine lv_iload_n hx hb dX11_paste_69 rfl (lv_at hl 2 rfl) ?_
                refine lv_iload hx hb dX11_paste_70 (lv_at hl 5 rfl) ?_
                refine ro_V (As := [.int p0, .int p1, .int p4]) (rest := []) hC hE kV_X11_368 (c_X5_covers l D K ro roa0 roa1 roa2 rof2 p0 p1 p4 hsz) (hP.sub (ws' := [(ro, .inr (5, [.ref roa0, .ref roa1, .ref roa2])), (roa2, .inl (K 1, 4, .inl rof2))]) [1, 4] rfl) 0 5 rfl rfl rfl hl.1 rfl (Nat.le_of_ble_eq_true rfl) (by decide) (by decide) dX11_paste_72 (fun r4920 hq => ?_)
                rcases hq with ⟨rfl, h4915⟩ | ⟨rfl, h4916, h4917, h4918, h4919⟩
                · refine lv_if_eq (tgt := 93) hx hb dX11_paste_75 (by decide) (fun _ => ?_) (fun h => absurd h (by decide))
                  refine lv_bipush (v := (-7)) hx hb dX11_paste_93 (by decide) ?_
                  refine W.widen (k := 0) (n := 0) (by decide) (by decide) ?_
                  exact ch_iret hC hr hk hS dX11_paste_95 ((fun k => [].getD k 0, fun k => [].getD k (fun _ => 0), fun k => [rof0].getD k (fun _ => 0)) : ((Nat → Int32) × (Nat → Nat → Int32) × (Nat → Nat → Int64))) (Or.inr (Or.inr (Or.inr (Or.inl ⟨rfl, (by omega), (by omega), (by omega), (by omega), (by omega), (by omega), (by omega), (by omega)⟩)))) (hP.sub [0, 1, 2, 3, 4] rfl) (hD.sub [0, 1, 2, 3, 4] (by decide) rfl)
                · refine lv_if_eq (tgt := 93) hx hb dX11_paste_75 (by decide) (fun h => absurd h (by decide)) (fun _ => ?_)
                  refine lv_aload_n hx hb dX11_paste_78 rfl (lv_at hl 0 rfl) ?_
                  refine va_get (D := D) (ci := 10) (v := .ref ro) (C := RX11) (T := TX11) (N := 12) hx hb hts in_X11 hown hE.1 hP 0 rfl rfl 4 (by decide) (hts _ w_523) (fun _ h9 => h9) rfl dX11_paste_79 ?_
                  refine lv_iload_n hx hb dX11_paste_82 rfl (lv_at hl 3 rfl) ?_
                  refine lv_iload hx hb dX11_paste_83 (lv_at hl 4 rfl) ?_
                  refine lv_iload hx hb dX11_paste_85 (lv_at hl 5 rfl) ?_
                  refine ro_V (As := [.int p2, .int p3, .int p4]) (rest := []) hC hE kV_X11_368 (c_X5_covers l D K ro roa0 roa1 roa2 rof2 p2 p3 p4 hsz) (hP.sub (ws' := [(ro, .inr (5, [.ref roa0, .ref roa1, .ref roa2])), (roa2, .inl (K 1, 4, .inl rof2))]) [1, 4] rfl) 0 5 rfl rfl rfl hl.1 rfl (Nat.le_of_ble_eq_true rfl) (by decide) (by decide) dX11_paste_87 (fun r4926 hq => ?_)
                  rcases hq with ⟨rfl, h4921⟩ | ⟨rfl, h4922, h4923, h4924, h4925⟩
                  · refine lv_if_ne (tgt := 96) hx hb dX11_paste_90 (by decide) (fun h => absurd h (by decide)) (fun _ => ?_)
                    refine lv_bipush (v := (-7)) hx hb dX11_paste_93 (by decide) ?_
                    refine W.widen (k := 0) (n := 0) (by decide) (by decide) ?_
                    exact ch_iret hC hr hk hS dX11_paste_95 ((fun k => [].getD k 0, fun k => [].getD k (fun _ => 0), fun k => [rof0].getD k (fun _ => 0)) : ((Nat → Int32) × (Nat → Nat → Int32) × (Nat → Nat → Int64))) (Or.inr (Or.inr (Or.inr (Or.inl ⟨rfl, (by omega), (by omega), (by omega), (by omega), (by omega), (by omega), (by omega), (by omega)⟩)))) (hP.sub [0, 1, 2, 3, 4] rfl) (hD.sub [0, 1, 2, 3, 4] (by decide) rfl)
                  · refine lv_if_ne (tgt := 96) hx hb dX11_paste_90 (by decide) (fun _ => ?_) (fun h => absurd h (by decide))
                    refine lv_aload_n hx hb dX11_paste_96 rfl (lv_at hl 0 rfl) ?_
                    refine va_get (D := D) (ci := 10) (v := .ref ro) (C := RX11) (T := TX11) (N := 12) hx hb hts in_X11 hown hE.1 hP 0 rfl rfl 4 (by decide) (hts _ w_523) (fun _ h9 => h9) rfl dX11_paste_97 ?_
                    refine lv_iload_n hx hb dX11_paste_100 rfl (lv_at hl 1 rfl) ?_
                    refine lv_iload_n hx hb dX11_paste_101 rfl (lv_at hl 2 rfl) ?_
                    refine lv_iload_n hx hb dX11_paste_102 rfl (lv_at hl 3 rfl) ?_
                    refine lv_iload hx hb dX11_paste_103 (lv_at hl 4 rfl) ?_
                    refine lv_iload hx hb dX11_paste_105 (lv_at hl 5 rfl) ?_
                    refine cv_V (As := [.int p0, .int p1, .int p2, .int p3, .int p4]) (rest := []) (wc := [(ro, .inr (5, [.ref roa0, .ref roa1, .ref roa2])), (roa0, .inl (K 2, 240, .inr (.inl rof0))), (roa2, .inl (K 1, 4, .inl rof2))]) (wr := [(x, .inr (10, [.ref rd, .ref he, .ref pa, .ref wk, .ref ro, .ref mi, .ref se, .ref pl, .ref co, .ref tr, .ref iw, .ref ip])), (roa1, .inl (K 1, 4, .inl rof1))]) hC hE kV_X11_371 (c_X5_move l D K ro roa0 roa1 roa2 rof0 rof2 p0 p1 p2 p3 p4 hsz) hP hD hS hA [1, 2, 4] [0, 3] rfl rfl rfl (by decide) (by decide) (by decide) 0 5 rfl rfl rfl hl.1 rfl (Nat.le_of_ble_eq_true rfl) (by decide) (by decide) dX11_paste_107 (fun u4927 H locs hw hP hD hS => ?_)
                    replace hP : va_P D vwCl [(x, .inr (10, [.ref rd, .ref he, .ref pa, .ref wk, .ref ro, .ref mi, .ref se, .ref pl, .ref co, .ref tr, .ref iw, .ref ip])), (roa1, .inl (K 1, 4, .inl rof1)), (ro, .inr (5, [.ref roa0, .ref roa1, .ref roa2])), (roa0, .inl (K 2, 240, .inr (.inl (u4927.2.2 0)))), (roa2, .inl (K 1, 4, .inl rof2))] H := hP
                    replace hD : va_D A [(x, .inr (10, [.ref rd, .ref he, .ref pa, .ref wk, .ref ro, .ref mi, .ref se, .ref pl, .ref co, .ref tr, .ref iw, .ref ip])), (roa1, .inl (K 1, 4, .inl rof1)), (ro, .inr (5, [.ref roa0, .ref roa1, .ref roa2])), (roa0, .inl (K 2, 240, .inr (.inl (u4927.2.2 0)))), (roa2, .inl (K 1, 4, .inl rof2))] := hD
                    replace hP : va_P D vwCl [(x, .inr (10, [.ref rd, .ref he, .ref pa, .ref wk, .ref ro, .ref mi, .ref se, .ref pl, .ref co, .ref tr, .ref iw, .ref ip])), (ro, .inr (5, [.ref roa0, .ref roa1, .ref roa2])), (roa0, .inl (K 2, 240, .inr (.inl (u4927.2.2 0)))), (roa1, .inl (K 1, 4, .inl rof1)), (roa2, .inl (K 1, 4, .inl rof2))] H := hP.sub [0, 2, 3, 1, 4] rfl
                    replace hD : va_D A [(x, .inr (10, [.ref rd, .ref he, .ref pa, .ref wk, .ref ro, .ref mi, .ref se, .ref pl, .ref co, .ref tr, .ref iw, .ref ip])), (ro, .inr (5, [.ref roa0, .ref roa1, .ref roa2])), (roa0, .inl (K 2, 240, .inr (.inl (u4927.2.2 0)))), (roa1, .inl (K 1, 4, .inl rof1)), (roa2, .inl (K 1, 4, .inl rof2))] := hD.sub [0, 2, 3, 1, 4] (by decide) rfl
                    refine W.widen (k := 0) (n := 0) (by decide) (by decide) ?_
                    refine lv_iconst (v := 0) hx hb dX11_paste_110 (by decide) ?_
                    refine W.widen (k := 0) (n := 0) (by decide) (by decide) ?_
                    exact ch_iret hC hr hk hS dX11_paste_111 ((fun k => [].getD k 0, fun k => [].getD k (fun _ => 0), fun k => [(u4927.2.2 0)].getD k (fun _ => 0)) : ((Nat → Int32) × (Nat → Nat → Int32) × (Nat → Nat → Int64))) (Or.inr (Or.inr (Or.inr (Or.inr ⟨rfl, (by omega), (by omega), (by omega), (by omega), (by omega), (by omega), (by omega), (by omega), (by omega), (by omega), (by omega), (by omega)⟩)))) (hP.sub [0, 1, 2, 3, 4] rfl) (hD.sub [0, 1, 2, 3, 4] (by decide) rfl)
              · replace c4914 := ne_i c4914
                refine lv_bipush (v := (-8)) hx hb dX11_paste_61 (by decide) ?_
                refine W.widen (k := 0) (n := 0) (by decide) (by decide) ?_
                exact ch_iret hC hr hk hS dX11_paste_63 ((fun k => [].getD k 0, fun k => [].getD k (fun _ => 0), fun k => [rof0].getD k (fun _ => 0)) : ((Nat → Int32) × (Nat → Nat → Int32) × (Nat → Nat → Int64))) (Or.inr (Or.inr (Or.inl ⟨rfl, (by omega), (by omega), (by omega), (by omega), (by omega), (by omega), (by omega)⟩))) (hP.sub [0, 1, 2, 3, 4] rfl) (hD.sub [0, 1, 2, 3, 4] (by decide) rfl)
          · refine lv_aload_n hx hb dX11_paste_50 rfl (lv_at hl 0 rfl) ?_
            refine va_get (D := D) (ci := 10) (v := .ref ro) (C := RX11) (T := TX11) (N := 12) hx hb hts in_X11 hown hE.1 hP 0 rfl rfl 4 (by decide) (hts _ w_523) (fun _ h9 => h9) rfl dX11_paste_51 ?_
            refine lv_iload_n hx hb dX11_paste_54 rfl (lv_at hl 3 rfl) ?_
            refine ro_V (As := [.int p2]) (rest := [.int r4894]) hC hE kV_X11_365 (c_X5_width l D K ro roa0 roa1 roa2 rof1 p2) (hP.sub (ws' := [(ro, .inr (5, [.ref roa0, .ref roa1, .ref roa2])), (roa1, .inl (K 1, 4, .inl rof1))]) [1, 3] rfl) 0 5 rfl rfl rfl hl.1 rfl (Nat.le_of_ble_eq_true rfl) (by decide) (by decide) dX11_paste_55 (fun r4933 hq => ?_)
            rcases hq with ⟨rfl, h4929⟩ | ⟨h4930, h4931, h4932⟩
            · refine lv_icmp_eq (tgt := 64) hx hb dX11_paste_58 (by decide) (fun c4934 => ?_) (fun c4934 => ?_)
              · replace c4934 := eq_i c4934
                refine lv_aload_n hx hb dX11_paste_64 rfl (lv_at hl 0 rfl) ?_
                refine va_get (D := D) (ci := 10) (v := .ref ro) (C := RX11) (T := TX11) (N := 12) hx hb hts in_X11 hown hE.1 hP 0 rfl rfl 4 (by decide) (hts _ w_523) (fun _ h9 => h9) rfl dX11_paste_65 ?_
                refine lv_iload_n hx hb dX11_paste_68 rfl (lv_at hl 1 rfl) ?_
                refine lv_iload_n hx hb dX11_paste_69 rfl (lv_at hl 2 rfl) ?_
                refine lv_iload hx hb dX11_paste_70 (lv_at hl 5 rfl) ?_
                refine ro_V (As := [.int p0, .int p1, .int p4]) (rest := []) hC hE kV_X11_368 (c_X5_covers l D K ro roa0 roa1 roa2 rof2 p0 p1 p4 hsz) (hP.sub (ws' := [(ro, .inr (5, [.ref roa0, .ref roa1, .ref roa2])), (roa2, .inl (K 1, 4, .inl rof2))]) [1, 4] rfl) 0 5 rfl rfl rfl hl.1 rfl (Nat.le_of_ble_eq_true rfl) (by decide) (by decide) dX11_paste_72 (fun r4940 hq => ?_)
                rcases hq with ⟨rfl, h4935⟩ | ⟨rfl, h4936, h4937, h4938, h4939⟩
                · refine lv_if_eq (tgt := 93) hx hb dX11_paste_75 (by decide) (fun _ => ?_) (fun h => absurd h (by decide))
                  refine lv_bipush (v := (-7)) hx hb dX11_paste_93 (by decide) ?_
                  refine W.widen (k := 0) (n := 0) (by decide) (by decide) ?_
                  exact ch_iret hC hr hk hS dX11_paste_95 ((fun k => [].getD k 0, fun k => [].getD k (fun _ => 0), fun k => [rof0].getD k (fun _ => 0)) : ((Nat → Int32) × (Nat → Nat → Int32) × (Nat → Nat → Int64))) (Or.inr (Or.inr (Or.inr (Or.inl ⟨rfl, (by omega), (by omega), (by omega), (by omega), (by omega), (by omega), (by omega), (by omega)⟩)))) (hP.sub [0, 1, 2, 3, 4] rfl) (hD.sub [0, 1, 2, 3, 4] (by decide) rfl)
                · refine lv_if_eq (tgt := 93) hx hb dX11_paste_75 (by decide) (fun h => absurd h (by decide)) (fun _ => ?_)
                  refine lv_aload_n hx hb dX11_paste_78 rfl (lv_at hl 0 rfl) ?_
                  refine va_get (D := D) (ci := 10) (v := .ref ro) (C := RX11) (T := TX11) (N := 12) hx hb hts in_X11 hown hE.1 hP 0 rfl rfl 4 (by decide) (hts _ w_523) (fun _ h9 => h9) rfl dX11_paste_79 ?_
                  refine lv_iload_n hx hb dX11_paste_82 rfl (lv_at hl 3 rfl) ?_
                  refine lv_iload hx hb dX11_paste_83 (lv_at hl 4 rfl) ?_
                  refine lv_iload hx hb dX11_paste_85 (lv_at hl 5 rfl) ?_
                  refine ro_V (As := [.int p2, .int p3, .int p4]) (rest := []) hC hE kV_X11_368 (c_X5_covers l D K ro roa0 roa1 roa2 rof2 p2 p3 p4 hsz) (hP.sub (ws' := [(ro, .inr (5, [.ref roa0, .ref roa1, .ref roa2])), (roa2, .inl (K 1, 4, .inl rof2))]) [1, 4] rfl) 0 5 rfl rfl rfl hl.1 rfl (Nat.le_of_ble_eq_true rfl) (by decide) (by decide) dX11_paste_87 (fun r4946 hq => ?_)
                  rcases hq with ⟨rfl, h4941⟩ | ⟨rfl, h4942, h4943, h4944, h4945⟩
                  · refine lv_if_ne (tgt := 96) hx hb dX11_paste_90 (by decide) (fun h => absurd h (by decide)) (fun _ => ?_)
                    refine lv_bipush (v := (-7)) hx hb dX11_paste_93 (by decide) ?_
                    refine W.widen (k := 0) (n := 0) (by decide) (by decide) ?_
                    exact ch_iret hC hr hk hS dX11_paste_95 ((fun k => [].getD k 0, fun k => [].getD k (fun _ => 0), fun k => [rof0].getD k (fun _ => 0)) : ((Nat → Int32) × (Nat → Nat → Int32) × (Nat → Nat → Int64))) (Or.inr (Or.inr (Or.inr (Or.inl ⟨rfl, (by omega), (by omega), (by omega), (by omega), (by omega), (by omega), (by omega), (by omega)⟩)))) (hP.sub [0, 1, 2, 3, 4] rfl) (hD.sub [0, 1, 2, 3, 4] (by decide) rfl)
                  · refine lv_if_ne (tgt := 96) hx hb dX11_paste_90 (by decide) (fun _ => ?_) (fun h => absurd h (by decide))
                    refine lv_aload_n hx hb dX11_paste_96 rfl (lv_at hl 0 rfl) ?_
                    refine va_get (D := D) (ci := 10) (v := .ref ro) (C := RX11) (T := TX11) (N := 12) hx hb hts in_X11 hown hE.1 hP 0 rfl rfl 4 (by decide) (hts _ w_523) (fun _ h9 => h9) rfl dX11_paste_97 ?_
                    refine lv_iload_n hx hb dX11_paste_100 rfl (lv_at hl 1 rfl) ?_
                    refine lv_iload_n hx hb dX11_paste_101 rfl (lv_at hl 2 rfl) ?_
                    refine lv_iload_n hx hb dX11_paste_102 rfl (lv_at hl 3 rfl) ?_
                    refine lv_iload hx hb dX11_paste_103 (lv_at hl 4 rfl) ?_
                    refine lv_iload hx hb dX11_paste_105 (lv_at hl 5 rfl) ?_
                    refine cv_V (As := [.int p0, .int p1, .int p2, .int p3, .int p4]) (rest := []) (wc := [(ro, .inr (5, [.ref roa0, .ref roa1, .ref roa2])), (roa0, .inl (K 2, 240, .inr (.inl rof0))), (roa2, .inl (K 1, 4, .inl rof2))]) (wr := [(x, .inr (10, [.ref rd, .ref he, .ref pa, .ref wk, .ref ro, .ref mi, .ref se, .ref pl, .ref co, .ref tr, .ref iw, .ref ip])), (roa1, .inl (K 1, 4, .inl rof1))]) hC hE kV_X11_371 (c_X5_move l D K ro roa0 roa1 roa2 rof0 rof2 p0 p1 p2 p3 p4 hsz) hP hD hS hA [1, 2, 4] [0, 3] rfl rfl rfl (by decide) (by decide) (by decide) 0 5 rfl rfl rfl hl.1 rfl (Nat.le_of_ble_eq_true rfl) (by decide) (by decide) dX11_paste_107 (fun u4947 H locs hw hP hD hS => ?_)
                    replace hP : va_P D vwCl [(x, .inr (10, [.ref rd, .ref he, .ref pa, .ref wk, .ref ro, .ref mi, .ref se, .ref pl, .ref co, .ref tr, .ref iw, .ref ip])), (roa1, .inl (K 1, 4, .inl rof1)), (ro, .inr (5, [.ref roa0, .ref roa1, .ref roa2])), (roa0, .inl (K 2, 240, .inr (.inl (u4947.2.2 0)))), (roa2, .inl (K 1, 4, .inl rof2))] H := hP
                    replace hD : va_D A [(x, .inr (10, [.ref rd, .ref he, .ref pa, .ref wk, .ref ro, .ref mi, .ref se, .ref pl, .ref co, .ref tr, .ref iw, .ref ip])), (roa1, .inl (K 1, 4, .inl rof1)), (ro, .inr (5, [.ref roa0, .ref roa1, .ref roa2])), (roa0, .inl (K 2, 240, .inr (.inl (u4947.2.2 0)))), (roa2, .inl (K 1, 4, .inl rof2))] := hD
                    replace hP : va_P D vwCl [(x, .inr (10, [.ref rd, .ref he, .ref pa, .ref wk, .ref ro, .ref mi, .ref se, .ref pl, .ref co, .ref tr, .ref iw, .ref ip])), (ro, .inr (5, [.ref roa0, .ref roa1, .ref roa2])), (roa0, .inl (K 2, 240, .inr (.inl (u4947.2.2 0)))), (roa1, .inl (K 1, 4, .inl rof1)), (roa2, .inl (K 1, 4, .inl rof2))] H := hP.sub [0, 2, 3, 1, 4] rfl
                    replace hD : va_D A [(x, .inr (10, [.ref rd, .ref he, .ref pa, .ref wk, .ref ro, .ref mi, .ref se, .ref pl, .ref co, .ref tr, .ref iw, .ref ip])), (ro, .inr (5, [.ref roa0, .ref roa1, .ref roa2])), (roa0, .inl (K 2, 240, .inr (.inl (u4947.2.2 0)))), (roa1, .inl (K 1, 4, .inl rof1)), (roa2, .inl (K 1, 4, .inl rof2))] := hD.sub [0, 2, 3, 1, 4] (by decide) rfl
                    refine W.widen (k := 0) (n := 0) (by decide) (by decide) ?_
                    refine lv_iconst (v := 0) hx hb dX11_paste_110 (by decide) ?_
                    refine W.widen (k := 0) (n := 0) (by decide) (by decide) ?_
                    exact ch_iret hC hr hk hS dX11_paste_111 ((fun k => [].getD k 0, fun k => [].getD k (fun _ => 0), fun k => [(u4947.2.2 0)].getD k (fun _ => 0)) : ((Nat → Int32) × (Nat → Nat → Int32) × (Nat → Nat → Int64))) (Or.inr (Or.inr (Or.inr (Or.inr ⟨rfl, (by omega), (by omega), (by omega), (by omega), (by omega), (by omega), (by omega), (by omega), (by omega), (by omega), (by omega), (by omega)⟩)))) (hP.sub [0, 1, 2, 3, 4] rfl) (hD.sub [0, 1, 2, 3, 4] (by decide) rfl)
              · replace c4934 := ne_i c4934
                refine lv_bipush (v := (-8)) hx hb dX11_paste_61 (by decide) ?_
                refine W.widen (k := 0) (n := 0) (by decide) (by decide) ?_
                exact ch_iret hC hr hk hS dX11_paste_63 ((fun k => [].getD k 0, fun k => [].getD k (fun _ => 0), fun k => [rof0].getD k (fun _ => 0)) : ((Nat → Int32) × (Nat → Nat → Int32) × (Nat → Nat → Int64))) (Or.inr (Or.inr (Or.inl ⟨rfl, (by omega), (by omega), (by omega), (by omega), (by omega), (by omega), (by omega)⟩))) (hP.sub [0, 1, 2, 3, 4] rfl) (hD.sub [0, 1, 2, 3, 4] (by decide) rfl)
            · refine lv_icmp_eq (tgt := 64) hx hb dX11_paste_58 (by decide) (fun c4949 => ?_) (fun c4949 => ?_)
              · replace c4949 := eq_i c4949
                refine lv_aload_n hx hb dX11_paste_64 rfl (lv_at hl 0 rfl) ?_
                refine va_get (D := D) (ci := 10) (v := .ref ro) (C := RX11) (T := TX11) (N := 12) hx hb hts in_X11 hown hE.1 hP 0 rfl rfl 4 (by decide) (hts _ w_523) (fun _ h9 => h9) rfl dX11_paste_65 ?_
                refine lv_iload_n hx hb dX11_paste_68 rfl (lv_at hl 1 rfl) ?_
                refine lv_iload_n hx hb dX11_paste_69 rfl (lv_at hl 2 rfl) ?_
                refine lv_iload hx hb dX11_paste_70 (lv_at hl 5 rfl) ?_
                refine ro_V (As := [.int p0, .int p1, .int p4]) (rest := []) hC hE kV_X11_368 (c_X5_covers l D K ro roa0 roa1 roa2 rof2 p0 p1 p4 hsz) (hP.sub (ws' := [(ro, .inr (5, [.ref roa0, .ref roa1, .ref roa2])), (roa2, .inl (K 1, 4, .inl rof2))]) [1, 4] rfl) 0 5 rfl rfl rfl hl.1 rfl (Nat.le_of_ble_eq_true rfl) (by decide) (by decide) dX11_paste_72 (fun r4955 hq => ?_)
                rcases hq with ⟨rfl, h4950⟩ | ⟨rfl, h4951, h4952, h4953, h4954⟩
                · refine lv_if_eq (tgt := 93) hx hb dX11_paste_75 (by decide) (fun _ => ?_) (fun h => absurd h (by decide))
                  refine lv_bipush (v := (-7)) hx hb dX11_paste_93 (by decide) ?_
                  refine W.widen (k := 0) (n := 0) (by decide) (by decide) ?_
                  exact ch_iret hC hr hk hS dX11_paste_95 ((fun k => [].getD k 0, fun k => [].getD k (fun _ => 0), fun k => [rof0].getD k (fun _ => 0)) : ((Nat → Int32) × (Nat → Nat → Int32) × (Nat → Nat → Int64))) (Or.inr (Or.inr (Or.inr (Or.inl ⟨rfl, (by omega), (by omega), (by omega), (by omega), (by omega), (by omega), (by omega), (by omega)⟩)))) (hP.sub [0, 1, 2, 3, 4] rfl) (hD.sub [0, 1, 2, 3, 4] (by decide) rfl)
                · refine lv_if_eq (tgt := 93) hx hb dX11_paste_75 (by decide) (fun h => absurd h (by decide)) (fun _ => ?_)
                  refine lv_aload_n hx hb dX11_paste_78 rfl (lv_at hl 0 rfl) ?_
                  refine va_get (D := D) (ci := 10) (v := .ref ro) (C := RX11) (T := TX11) (N := 12) hx hb hts in_X11 hown hE.1 hP 0 rfl rfl 4 (by decide) (hts _ w_523) (fun _ h9 => h9) rfl dX11_paste_79 ?_
                  refine lv_iload_n hx hb dX11_paste_82 rfl (lv_at hl 3 rfl) ?_
                  refine lv_iload hx hb dX11_paste_83 (lv_at hl 4 rfl) ?_
                  refine lv_iload hx hb dX11_paste_85 (lv_at hl 5 rfl) ?_
                  refine ro_V (As := [.int p2, .int p3, .int p4]) (rest := []) hC hE kV_X11_368 (c_X5_covers l D K ro roa0 roa1 roa2 rof2 p2 p3 p4 hsz) (hP.sub (ws' := [(ro, .inr (5, [.ref roa0, .ref roa1, .ref roa2])), (roa2, .inl (K 1, 4, .inl rof2))]) [1, 4] rfl) 0 5 rfl rfl rfl hl.1 rfl (Nat.le_of_ble_eq_true rfl) (by decide) (by decide) dX11_paste_87 (fun r4961 hq => ?_)
                  rcases hq with ⟨rfl, h4956⟩ | ⟨rfl, h4957, h4958, h4959, h4960⟩
                  · refine lv_if_ne (tgt := 96) hx hb dX11_paste_90 (by decide) (fun h => absurd h (by decide)) (fun _ => ?_)
                    refine lv_bipush (v := (-7)) hx hb dX11_paste_93 (by decide) ?_
                    refine W.widen (k := 0) (n := 0) (by decide) (by decide) ?_
                    exact ch_iret hC hr hk hS dX11_paste_95 ((fun k => [].getD k 0, fun k => [].getD k (fun _ => 0), fun k => [rof0].getD k (fun _ => 0)) : ((Nat → Int32) × (Nat → Nat → Int32) × (Nat → Nat → Int64))) (Or.inr (Or.inr (Or.inr (Or.inl ⟨rfl, (by omega), (by omega), (by omega), (by omega), (by omega), (by omega), (by omega), (by omega)⟩)))) (hP.sub [0, 1, 2, 3, 4] rfl) (hD.sub [0, 1, 2, 3, 4] (by decide) rfl)
                  · refine lv_if_ne (tgt := 96) hx hb dX11_paste_90 (by decide) (fun _ => ?_) (fun h => absurd h (by decide))
                    refine lv_aload_n hx hb dX11_paste_96 rfl (lv_at hl 0 rfl) ?_
                    refine va_get (D := D) (ci := 10) (v := .ref ro) (C := RX11) (T := TX11) (N := 12) hx hb hts in_X11 hown hE.1 hP 0 rfl rfl 4 (by decide) (hts _ w_523) (fun _ h9 => h9) rfl dX11_paste_97 ?_
                    refine lv_iload_n hx hb dX11_paste_100 rfl (lv_at hl 1 rfl) ?_
                    refine lv_iload_n hx hb dX11_paste_101 rfl (lv_at hl 2 rfl) ?_
                    refine lv_iload_n hx hb dX11_paste_102 rfl (lv_at hl 3 rfl) ?_
                    refine lv_iload hx hb dX11_paste_103 (lv_at hl 4 rfl) ?_
                    refine lv_iload hx hb dX11_paste_105 (lv_at hl 5 rfl) ?_
                    refine cv_V (As := [.int p0, .int p1, .int p2, .int p3, .int p4]) (rest := []) (wc := [(ro, .inr (5, [.ref roa0, .ref roa1, .ref roa2])), (roa0, .inl (K 2, 240, .inr (.inl rof0))), (roa2, .inl (K 1, 4, .inl rof2))]) (wr := [(x, .inr (10, [.ref rd, .ref he, .ref pa, .ref wk, .ref ro, .ref mi, .ref se, .ref pl, .ref co, .ref tr, .ref iw, .ref ip])), (roa1, .inl (K 1, 4, .inl rof1))]) hC hE kV_X11_371 (c_X5_move l D K ro roa0 roa1 roa2 rof0 rof2 p0 p1 p2 p3 p4 hsz) hP hD hS hA [1, 2, 4] [0, 3] rfl rfl rfl (by decide) (by decide) (by decide) 0 5 rfl rfl rfl hl.1 rfl (Nat.le_of_ble_eq_true rfl) (by decide) (by decide) dX11_paste_107 (fun u4962 H locs hw hP hD hS => ?_)
                    replace hP : va_P D vwCl [(x, .inr (10, [.ref rd, .ref he, .ref pa, .ref wk, .ref ro, .ref mi, .ref se, .ref pl, .ref co, .ref tr, .ref iw, .ref ip])), (roa1, .inl (K 1, 4, .inl rof1)), (ro, .inr (5, [.ref roa0, .ref roa1, .ref roa2])), (roa0, .inl (K 2, 240, .inr (.inl (u4962.2.2 0)))), (roa2, .inl (K 1, 4, .inl rof2))] H := hP
                    replace hD : va_D A [(x, .inr (10, [.ref rd, .ref he, .ref pa, .ref wk, .ref ro, .ref mi, .ref se, .ref pl, .ref co, .ref tr, .ref iw, .ref ip])), (roa1, .inl (K 1, 4, .inl rof1)), (ro, .inr (5, [.ref roa0, .ref roa1, .ref roa2])), (roa0, .inl (K 2, 240, .inr (.inl (u4962.2.2 0)))), (roa2, .inl (K 1, 4, .inl rof2))] := hD
                    replace hP : va_P D vwCl [(x, .inr (10, [.ref rd, .ref he, .ref pa, .ref wk, .ref ro, .ref mi, .ref se, .ref pl, .ref co, .ref tr, .ref iw, .ref ip])), (ro, .inr (5, [.ref roa0, .ref roa1, .ref roa2])), (roa0, .inl (K 2, 240, .inr (.inl (u4962.2.2 0)))), (roa1, .inl (K 1, 4, .inl rof1)), (roa2, .inl (K 1, 4, .inl rof2))] H := hP.sub [0, 2, 3, 1, 4] rfl
                    replace hD : va_D A [(x, .inr (10, [.ref rd, .ref he, .ref pa, .ref wk, .ref ro, .ref mi, .ref se, .ref pl, .ref co, .ref tr, .ref iw, .ref ip])), (ro, .inr (5, [.ref roa0, .ref roa1, .ref roa2])), (roa0, .inl (K 2, 240, .inr (.inl (u4962.2.2 0)))), (roa1, .inl (K 1, 4, .inl rof1)), (roa2, .inl (K 1, 4, .inl rof2))] := hD.sub [0, 2, 3, 1, 4] (by decide) rfl
                    refine W.widen (k := 0) (n := 0) (by decide) (by decide) ?_
                    refine lv_iconst (v := 0) hx hb dX11_paste_110 (by decide) ?_
                    refine W.widen (k := 0) (n := 0) (by decide) (by decide) ?_
                    exact ch_iret hC hr hk hS dX11_paste_111 ((fun k => [].getD k 0, fun k => [].getD k (fun _ => 0), fun k => [(u4962.2.2 0)].getD k (fun _ => 0)) : ((Nat → Int32) × (Nat → Nat → Int32) × (Nat → Nat → Int64))) (Or.inr (Or.inr (Or.inr (Or.inr ⟨rfl, (by omega), (by omega), (by omega), (by omega), (by omega), (by omega), (by omega), (by omega), (by omega), (by omega), (by omega), (by omega)⟩)))) (hP.sub [0, 1, 2, 3, 4] rfl) (hD.sub [0, 1, 2, 3, 4] (by decide) rfl)
              · replace c4949 := ne_i c4949
                refine lv_bipush (v := (-8)) hx hb dX11_paste_61 (by decide) ?_
                refine W.widen (k := 0) (n := 0) (by decide) (by decide) ?_
                exact ch_iret hC hr hk hS dX11_paste_63 ((fun k => [].getD k 0, fun k => [].getD k (fun _ => 0), fun k => [rof0].getD k (fun _ => 0)) : ((Nat → Int32) × (Nat → Nat → Int32) × (Nat → Nat → Int64))) (Or.inr (Or.inr (Or.inl ⟨rfl, (by omega), (by omega), (by omega), (by omega), (by omega), (by omega), (by omega)⟩))) (hP.sub [0, 1, 2, 3, 4] rfl) (hD.sub [0, 1, 2, 3, 4] (by decide) rfl)
