theorem up_s {f : Nat → Option Nat} {i : Nat} {x : Option Nat} : va_up f i x i = x := by unfold va_up; rw [if_pos rfl]
theorem ff_more {f g : Nat → Int32} {i v : Int32} {n : Int} (h : ∀ j : Nat, (j : Int) < i.toInt → f j = v) (h0 : 0 ≤ i.toInt) (e : g = upd f i.toNatClampNeg v) (hn : n = i.toInt + 1) : ∀ j : Nat, (j : Int) < n → g j = v := by
  intro j hj
  rw [e]
  by_cases c : j = i.toNatClampNeg
  · rw [c, upd_at]
  · have := cl_n i
    rw [upd_ne c]; exact h j (by omega)
set_option maxRecDepth 40000 in
set_option maxHeartbeats 4000000 in
theorem c_J7_fill_f (l : Launch) (D : va_G) (K : Nat → ClassId) (a : Nat) (f : Nat → Int32) (p1 : Int32) : Cv (S := ((Nat → Int32) × (Nat → Nat → Int32) × (Nat → Nat → Int64))) l D K yJ7_fill_53178 cJ7_fill_53178 4 0 0 0 0 [.ref a, .int p1] [(a, .inl (K 1, 4, .inl f))] (fun u => (∀ j : Nat, j < 4 → (u.2.1 0) j = p1)) (fun u => [(a, .inl (K 1, 4, .inl (u.2.1 0)))]) := by
  intro sz
  refine ch_of (y := yJ7_fill_53178) (cc := cJ7_fill_53178) (maxL := 4) (ret := none) (av := [.ref a, .int p1]) (ws := [(a, .inl (K 1, 4, .inl f))]) (D := D) (K := K) (Qc := fun A => va_Qv (S := ((Nat → Int32) × (Nat → Nat → Int32) × (Nat → Nat → Int64))) (fun u => (∀ j : Nat, j < 4 → (u.2.1 0) j = p1)) (chB D A (fun u => [(a, .inl (K 1, 4, .inl (u.2.1 0)))])) A) (by decide) (Nat.le_of_ble_eq_true rfl) ?_
  intro p e s m below meth c A hC hr hk hin hE hD hA H locs hP hS ls hl
  replace hC : CallFix p m c cJ7_fill_53178 4 s [.ref a, .int p1].toArray wl RJ7 := hC
  have hx := hC.1
  have hb := hC.2.1
  have hml := hC.2.2.1
  have hown := hC.2.2.2.1
  have hts := hC.2.2.2.2
  replace hl : lv_has ls 4 [(0, .ref a), (1, .int p1)] := hl
  have kc_0 : (0 : Int32).toInt = 0 := by decide
  have kc_1 : (1 : Int32).toInt = 1 := by decide
  have kc_4 : (4 : Int32).toInt = 4 := by decide
  refine lv_iconst (v := 0) hx hb dJ7_fill_53178_0 (by decide) ?_
  refine lv_istore_n (lv' := [(2, .int 0), (0, .ref a), (1, .int p1)]) hx hb dJ7_fill_53178_1 rfl hl (by decide) rfl (fun ls hl => ?_)
  refine lv_aload_n hx hb dJ7_fill_53178_2 rfl (lv_at hl 1 rfl) ?_
  refine va_alen (v := 4) hx hb hE.1 hP 0 1 rfl rfl (show Int32.ofNat 4 = 4 by decide) dJ7_fill_53178_3 ?_
  refine lv_istore_n (lv' := [(3, .int 4), (2, .int 0), (0, .ref a), (1, .int p1)]) hx hb dJ7_fill_53178_4 rfl hl (by decide) rfl (fun ls hl => ?_)
  have hl' := hl; have hP' := hP; have hD' := hD; clear hl hP hD
  obtain ⟨i16368, g16369, hi_5, hf_5, hl, hP, hD⟩ : ∃ (i16368 : Int32) (g16369 : Nat → Int32), ((0 : Int) ≤ i16368.toInt) ∧ (∀ j : Nat, (j : Int) < i16368.toInt → g16369 j = p1) ∧ lv_has ls 4 [(3, .int 4), (2, .int i16368), (0, .ref a), (1, .int p1)] ∧ va_P D vwCl [(a, .inl (K 1, 4, .inl g16369))] H ∧ va_D A [(a, .inl (K 1, 4, .inl g16369))] := ⟨_, _, by omega, fun j hj => absurd hj (by omega), hl', hP', hD'⟩
  clear hl' hP' hD'
  obtain ⟨n_5, hn_5⟩ : ∃ n : Nat, (4 - i16368.toInt).toNat < n := ⟨_, Nat.lt_succ_self _⟩
  induction n_5 generalizing i16368 g16369 H locs ls with
  | zero => exact absurd hn_5 (Nat.not_lt_zero _)
  | succ n_5 ih_5 =>
    refine lv_iload_n hx hb dJ7_fill_53178_5 rfl (lv_at hl 1 rfl) ?_
    refine lv_iload_n hx hb dJ7_fill_53178_6 rfl (lv_at hl 0 rfl) ?_
    refine lv_icmp_ge (tgt := 20) hx hb dJ7_fill_53178_7 (by decide) (fun c16370 => ?_) (fun c16370 => ?_)
    · replace c16370 := le_i c16370
      refine W.widen (k := 0) (n := 0) (by decide) (by decide) ?_
      exact ch_vret hC hr hk hS dJ7_fill_53178_20 ((fun k => [].getD k 0, fun k => [g16369].getD k (fun _ => 0), fun k => [].getD k (fun _ => 0)) : ((Nat → Int32) × (Nat → Nat → Int32) × (Nat → Nat → Int64))) (show ∀ j : Nat, j < 4 → g16369 j = p1 from (fun j hj => hf_5 j (by omega))) (hP.sub [0] rfl) (hD.sub [0] (by decide) rfl)
    · replace c16370 := nle_i c16370
      refine lv_aload_n hx hb dJ7_fill_53178_10 rfl (lv_at hl 2 rfl) ?_
      refine lv_iload_n hx hb dJ7_fill_53178_11 rfl (lv_at hl 1 rfl) ?_
      refine lv_iload_n hx hb dJ7_fill_53178_12 rfl (lv_at hl 3 rfl) ?_
      refine sti hx hb hE.1 hP hD hS 0 1 rfl rfl (vp_in_iff.mpr (by omega)) dJ7_fill_53178_13 (fun g16371 eg16371 H locs hP hD hS => ?_)
      replace hP : va_P D vwCl [(a, .inl (K 1, 4, .inl g16371))] H := hP
      replace hD : va_D A [(a, .inl (K 1, 4, .inl g16371))] := hD
      obtain ⟨v16372, ev16372⟩ : ∃ z : Int32, z = i16368 + 1 := ⟨_, rfl⟩
      refine lv_iinc (v := v16372) (lv' := [(2, .int v16372), (3, .int 4), (0, .ref a), (1, .int p1)]) hx hb dJ7_fill_53178_14 hl (k := 1) rfl (by rw [ev16372]; rfl) (by decide) rfl (fun ls hl => ?_)
      refine lv_goto (tgt := 5) hx hb dJ7_fill_53178_17 (by decide) ?_
      have tv16372 : v16372.toInt = (i16368 : Int32).toInt + (1 : Int32).toInt := add_i ev16372 (by omega) (by omega)
      exact ih_5 (i16368 := v16372) (g16369 := g16371) (hi_5 := by omega) (hf_5 := ff_more hf_5 (by omega) eg16371 (by omega)) (H := H) (locs := locs) (ls := ls) (hn_5 := by omega) (hP := hP) (hD := hD) (hS := hS) (hl := lv_sub hl [1, 0, 2, 3] rfl)
set_option maxRecDepth 100000 in
set_option maxHeartbeats 8000000 in
theorem c_X10_init (l : Launch) (D : va_G) (K : Nat → ClassId) (h0 : Nat) : Cv (S := ((Nat → Nat) × (Nat → Nat → Int32))) l D K yX10_init cX10_init 1 1 12 8 77 [.ref h0] [(h0, .inr (9, [.null, .null, .null, .null, .null, .null, .null, .null, .int 0, .int 0, .int 0, .int 0]))] (fun _ => True) (fun u => [(h0, .inr (9, [.ref (u.1 0), .ref (u.1 1), .ref (u.1 2), .ref (u.1 3), .ref (u.1 4), .ref (u.1 5), .ref (u.1 6), .ref (u.1 7), .int 0, .int 0, .int 0, .int 0])), (u.1 0, .inl (K 1, 40, .inl (fun _ => 0))), (u.1 1, .inl (K 1, 10, .inl (fun _ => 0))), (u.1 2, .inl (K 1, 4, .inl (fun _ => 0))), (u.1 3, .inl (K 1, 4, .inl (fun _ => 0))), (u.1 4, .inl (K 1, 4, .inl (fun _ => 0))), (u.1 5, .inl (K 1, 5, .inl (fun _ => 0))), (u.1 6, .inl (K 1, 5, .inl (fun _ => 0))), (u.1 7, .inl (K 1, 5, .inl (fun _ => 0)))]) := by
  intro sz
  refine ch_of (y := yX10_init) (cc := cX10_init) (maxL := 1) (ret := none) (av := [.ref h0]) (ws := [(h0, .inr (9, [.null, .null, .null, .null, .null, .null, .null, .null, .int 0, .int 0, .int 0, .int 0]))]) (D := D) (K := K) (Qc := fun A => va_Qv (S := ((Nat → Nat) × (Nat → Nat → Int32))) (fun _ => True) (chB D A (fun u => [(h0, .inr (9, [.ref (u.1 0), .ref (u.1 1), .ref (u.1 2), .ref (u.1 3), .ref (u.1 4), .ref (u.1 5), .ref (u.1 6), .ref (u.1 7), .int 0, .int 0, .int 0, .int 0])), (u.1 0, .inl (K 1, 40, .inl (fun _ => 0))), (u.1 1, .inl (K 1, 10, .inl (fun _ => 0))), (u.1 2, .inl (K 1, 4, .inl (fun _ => 0))), (u.1 3, .inl (K 1, 4, .inl (fun _ => 0))), (u.1 4, .inl (K 1, 4, .inl (fun _ => 0))), (u.1 5, .inl (K 1, 5, .inl (fun _ => 0))), (u.1 6, .inl (K 1, 5, .inl (fun _ => 0))), (u.1 7, .inl (K 1, 5, .inl (fun _ => 0)))])) A) (by decide) (Nat.le_of_ble_eq_true rfl) ?_
  intro p e s m below meth c A hC hr hk hin hE hD hA H locs hP hS ls hl
  replace hC : CallFix p m c cX10_init 1 s [.ref h0].toArray wl RX10 := hC
  have hx := hC.1
  have hb := hC.2.1
  have hml := hC.2.2.1
  have hown := hC.2.2.2.1
  have hts := hC.2.2.2.2
  replace hl : lv_has ls 1 [(0, .ref h0)] := hl
  refine lv_aload_n hx hb dX10_init_0 rfl (lv_at hl 0 rfl) ?_
  refine W.objInit hx hb hown (hts _ w_1184) (hts _ w_1185) (hts _ w_1186) rfl (by rw [hml]; exact hl.1) rfl dX10_init_1 (by decide) (Nat.le_of_ble_eq_true rfl) ?_
  refine W.eq (g2 := F0 m 4 ls []) rfl ?_
  refine lv_aload_n hx hb dX10_init_4 rfl (lv_at hl 0 rfl) ?_
  refine lv_bipush (v := 40) hx hb dX10_init_5 (by decide) ?_
  refine na (a0 := (40, .inl (fun _ => 0))) (ty := .int) hC hE rfl w_1187 1 rfl (fun _ _ h => h) hP hD hS hA (fun _ => rfl) (by decide) (by decide) (by decide) (by decide) (by decide) dX10_init_7 (fun q16373 H hP hD hS => ?_)
  replace hP : va_P D vwCl [(h0, .inr (9, [.null, .null, .null, .null, .null, .null, .null, .null, .int 0, .int 0, .int 0, .int 0])), (q16373, .inl (K 1, 40, .inl (fun _ => 0)))] H := hP
  replace hD : va_D A [(h0, .inr (9, [.null, .null, .null, .null, .null, .null, .null, .null, .int 0, .int 0, .int 0, .int 0])), (q16373, .inl (K 1, 40, .inl (fun _ => 0)))] := hD
  refine W.widen (k := 1) (n := 40) (by decide) (by decide) ?_
  refine va_putF (D := D) (ci := 9) (v := .ref q16373) (ty := .array .int) (C := RX10) (T := TX10) (N := 12) hx hb hts in_X10 tyX10 tyX10_ok nmX10 hown hE.1 hP hD hS 0 rfl rfl 0 (by decide) (hts _ w_36) (fun _ h9 => h9) rfl hin rfl (by decide +kernel) rfl rfl (Nat.le_of_ble_eq_true rfl) dX10_init_9 (fun H locs hP hD hS => ?_)
  replace hP : va_P D vwCl [(h0, .inr (9, [.ref q16373, .null, .null, .null, .null, .null, .null, .null, .int 0, .int 0, .int 0, .int 0])), (q16373, .inl (K 1, 40, .inl (fun _ => 0)))] H := hP
  replace hD : va_D A [(h0, .inr (9, [.ref q16373, .null, .null, .null, .null, .null, .null, .null, .int 0, .int 0, .int 0, .int 0])), (q16373, .inl (K 1, 40, .inl (fun _ => 0)))] := hD
  refine lv_aload_n hx hb dX10_init_12 rfl (lv_at hl 0 rfl) ?_
  refine lv_bipush (v := 10) hx hb dX10_init_13 (by decide) ?_
  refine na (a0 := (10, .inl (fun _ => 0))) (ty := .int) hC hE rfl w_1187 1 rfl (fun _ _ h => h) hP hD hS hA (fun _ => rfl) (by decide) (by decide) (by decide) (by decide) (by decide) dX10_init_15 (fun q16374 H hP hD hS => ?_)
  replace hP : va_P D vwCl [(h0, .inr (9, [.ref q16373, .null, .null, .null, .null, .null, .null, .null, .int 0, .int 0, .int 0, .int 0])), (q16373, .inl (K 1, 40, .inl (fun _ => 0))), (q16374, .inl (K 1, 10, .inl (fun _ => 0)))] H := hP
  replace hD : va_D A [(h0, .inr (9, [.ref q16373, .null, .null, .null, .null, .null, .null, .null, .int 0, .int 0, .int 0, .int 0])), (q16373, .inl (K 1, 40, .inl (fun _ => 0))), (q16374, .inl (K 1, 10, .inl (fun _ => 0)))] := hD
  refine W.widen (k := 2) (n := 50) (by decide) (by decide) ?_
  refine va_putF (D := D) (ci := 9) (v := .ref q16374) (ty := .array .int) (C := RX10) (T := TX10) (N := 12) hx hb hts in_X10 tyX10 tyX10_ok nmX10 hown hE.1 hP hD hS 0 rfl rfl 1 (by decide) (hts _ w_37) (fun _ h9 => h9) rfl hin rfl (by decide +kernel) rfl rfl (Nat.le_of_ble_eq_true rfl) dX10_init_17 (fun H locs hP hD hS => ?_)
  replace hP : va_P D vwCl [(h0, .inr (9, [.ref q16373, .ref q16374, .null, .null, .null, .null, .null, .null, .int 0, .int 0, .int 0, .int 0])), (q16373, .inl (K 1, 40, .inl (fun _ => 0))), (q16374, .inl (K 1, 10, .inl (fun _ => 0)))] H := hP
  replace hD : va_D A [(h0, .inr (9, [.ref q16373, .ref q16374, .null, .null, .null, .null, .null, .null, .int 0, .int 0, .int 0, .int 0])), (q16373, .inl (K 1, 40, .inl (fun _ => 0))), (q16374, .inl (K 1, 10, .inl (fun _ => 0)))] := hD
  refine lv_aload_n hx hb dX10_init_20 rfl (lv_at hl 0 rfl) ?_
  refine lv_iconst (v := 4) hx hb dX10_init_21 (by decide) ?_
  refine na (a0 := (4, .inl (fun _ => 0))) (ty := .int) hC hE rfl w_1187 1 rfl (fun _ _ h => h) hP hD hS hA (fun _ => rfl) (by decide) (by decide) (by decide) (by decide) (by decide) dX10_init_22 (fun q16375 H hP hD hS => ?_)
  replace hP : va_P D vwCl [(h0, .inr (9, [.ref q16373, .ref q16374, .null, .null, .null, .null, .null, .null, .int 0, .int 0, .int 0, .int 0])), (q16373, .inl (K 1, 40, .inl (fun _ => 0))), (q16374, .inl (K 1, 10, .inl (fun _ => 0))), (q16375, .inl (K 1, 4, .inl (fun _ => 0)))] H := hP
  replace hD : va_D A [(h0, .inr (9, [.ref q16373, .ref q16374, .null, .null, .null, .null, .null, .null, .int 0, .int 0, .int 0, .int 0])), (q16373, .inl (K 1, 40, .inl (fun _ => 0))), (q16374, .inl (K 1, 10, .inl (fun _ => 0))), (q16375, .inl (K 1, 4, .inl (fun _ => 0)))] := hD
  refine W.widen (k := 3) (n := 54) (by decide) (by decide) ?_
  refine va_putF (D := D) (ci := 9) (v := .ref q16375) (ty := .array .int) (C := RX10) (T := TX10) (N := 12) hx hb hts in_X10 tyX10 tyX10_ok nmX10 hown hE.1 hP hD hS 0 rfl rfl 2 (by decide) (hts _ w_90) (fun _ h9 => h9) rfl hin rfl (by decide +kernel) rfl rfl (Nat.le_of_ble_eq_true rfl) dX10_init_24 (fun H locs hP hD hS => ?_)
  replace hP : va_P D vwCl [(h0, .inr (9, [.ref q16373, .ref q16374, .ref q16375, .null, .null, .null, .null, .null, .int 0, .int 0, .int 0, .int 0])), (q16373, .inl (K 1, 40, .inl (fun _ => 0))), (q16374, .inl (K 1, 10, .inl (fun _ => 0))), (q16375, .inl (K 1, 4, .inl (fun _ => 0)))] H := hP
  replace hD : va_D A [(h0, .inr (9, [.ref q16373, .ref q16374, .ref q16375, .null, .null, .null, .null, .null, .int 0, .int 0, .int 0, .int 0])), (q16373, .inl (K 1, 40, .inl (fun _ => 0))), (q16374, .inl (K 1, 10, .inl (fun _ => 0))), (q16375, .inl (K 1, 4, .inl (fun _ => 0)))] := hD
  refine lv_aload_n hx hb dX10_init_27 rfl (lv_at hl 0 rfl) ?_
  refine lv_iconst (v := 4) hx hb dX10_init_28 (by decide) ?_
  refine na (a0 := (4, .inl (fun _ => 0))) (ty := .int) hC hE rfl w_1187 1 rfl (fun _ _ h => h) hP hD hS hA (fun _ => rfl) (by decide) (by decide) (by decide) (by decide) (by decide) dX10_init_29 (fun q16376 H hP hD hS => ?_)
  replace hP : va_P D vwCl [(h0, .inr (9, [.ref q16373, .ref q16374, .ref q16375, .null, .null, .null, .null, .null, .int 0, .int 0, .int 0, .int 0])), (q16373, .inl (K 1, 40, .inl (fun _ => 0))), (q16374, .inl (K 1, 10, .inl (fun _ => 0))), (q16375, .inl (K 1, 4, .inl (fun _ => 0))), (q16376, .inl (K 1, 4, .inl (fun _ => 0)))] H := hP
  replace hD : va_D A [(h0, .inr (9, [.ref q16373, .ref q16374, .ref q16375, .null, .null, .null, .null, .null, .int 0, .int 0, .int 0, .int 0])), (q16373, .inl (K 1, 40, .inl (fun _ => 0))), (q16374, .inl (K 1, 10, .inl (fun _ => 0))), (q16375, .inl (K 1, 4, .inl (fun _ => 0))), (q16376, .inl (K 1, 4, .inl (fun _ => 0)))] := hD
  refine W.widen (k := 4) (n := 58) (by decide) (by decide) ?_
  refine va_putF (D := D) (ci := 9) (v := .ref q16376) (ty := .array .int) (C := RX10) (T := TX10) (N := 12) hx hb hts in_X10 tyX10 tyX10_ok nmX10 hown hE.1 hP hD hS 0 rfl rfl 3 (by decide) (hts _ w_91) (fun _ h9 => h9) rfl hin rfl (by decide +kernel) rfl rfl (Nat.le_of_ble_eq_true rfl) dX10_init_31 (fun H locs hP hD hS => ?_)
  replace hP : va_P D vwCl [(h0, .inr (9, [.ref q16373, .ref q16374, .ref q16375, .ref q16376, .null, .null, .null, .null, .int 0, .int 0, .int 0, .int 0])), (q16373, .inl (K 1, 40, .inl (fun _ => 0))), (q16374, .inl (K 1, 10, .inl (fun _ => 0))), (q16375, .inl (K 1, 4, .inl (fun _ => 0))), (q16376, .inl (K 1, 4, .inl (fun _ => 0)))] H := hP
  replace hD : va_D A [(h0, .inr (9, [.ref q16373, .ref q16374, .ref q16375, .ref q16376, .null, .null, .null, .null, .int 0, .int 0, .int 0, .int 0])), (q16373, .inl (K 1, 40, .inl (fun _ => 0))), (q16374, .inl (K 1, 10, .inl (fun _ => 0))), (q16375, .inl (K 1, 4, .inl (fun _ => 0))), (q16376, .inl (K 1, 4, .inl (fun _ => 0)))] := hD
  refine lv_aload_n hx hb dX10_init_34 rfl (lv_at hl 0 rfl) ?_
  refine lv_iconst (v := 4) hx hb dX10_init_35 (by decide) ?_
  refine na (a0 := (4, .inl (fun _ => 0))) (ty := .int) hC hE rfl w_1187 1 rfl (fun _ _ h => h) hP hD hS hA (fun _ => rfl) (by decide) (by decide) (by decide) (by decide) (by decide) dX10_init_36 (fun q16377 H hP hD hS => ?_)
  replace hP : va_P D vwCl [(h0, .inr (9, [.ref q16373, .ref q16374, .ref q16375, .ref q16376, .null, .null, .null, .null, .int 0, .int 0, .int 0, .int 0])), (q16373, .inl (K 1, 40, .inl (fun _ => 0))), (q16374, .inl (K 1, 10, .inl (fun _ => 0))), (q16375, .inl (K 1, 4, .inl (fun _ => 0))), (q16376, .inl (K 1, 4, .inl (fun _ => 0))), (q16377, .inl (K 1, 4, .inl (fun _ => 0)))] H := hP
  replace hD : va_D A [(h0, .inr (9, [.ref q16373, .ref q16374, .ref q16375, .ref q16376, .null, .null, .null, .null, .int 0, .int 0, .int 0, .int 0])), (q16373, .inl (K 1, 40, .inl (fun _ => 0))), (q16374, .inl (K 1, 10, .inl (fun _ => 0))), (q16375, .inl (K 1, 4, .inl (fun _ => 0))), (q16376, .inl (K 1, 4, .inl (fun _ => 0))), (q16377, .inl (K 1, 4, .inl (fun _ => 0)))] := hD
  refine W.widen (k := 5) (n := 62) (by decide) (by decide) ?_
  refine va_putF (D := D) (ci := 9) (v := .ref q16377) (ty := .array .int) (C := RX10) (T := TX10) (N := 12) hx hb hts in_X10 tyX10 tyX10_ok nmX10 hown hE.1 hP hD hS 0 rfl rfl 4 (by decide) (hts _ w_92) (fun _ h9 => h9) rfl hin rfl (by decide +kernel) rfl rfl (Nat.le_of_ble_eq_true rfl) dX10_init_38 (fun H locs hP hD hS => ?_)
  replace hP : va_P D vwCl [(h0, .inr (9, [.ref q16373, .ref q16374, .ref q16375, .ref q16376, .ref q16377, .null, .null, .null, .int 0, .int 0, .int 0, .int 0])), (q16373, .inl (K 1, 40, .inl (fun _ => 0))), (q16374, .inl (K 1, 10, .inl (fun _ => 0))), (q16375, .inl (K 1, 4, .inl (fun _ => 0))), (q16376, .inl (K 1, 4, .inl (fun _ => 0))), (q16377, .inl (K 1, 4, .inl (fun _ => 0)))] H := hP
  replace hD : va_D A [(h0, .inr (9, [.ref q16373, .ref q16374, .ref q16375, .ref q16376, .ref q16377, .null, .null, .null, .int 0, .int 0, .int 0, .int 0])), (q16373, .inl (K 1, 40, .inl (fun _ => 0))), (q16374, .inl (K 1, 10, .inl (fun _ => 0))), (q16375, .inl (K 1, 4, .inl (fun _ => 0))), (q16376, .inl (K 1, 4, .inl (fun _ => 0))), (q16377, .inl (K 1, 4, .inl (fun _ => 0)))] := hD
  refine lv_aload_n hx hb dX10_init_41 rfl (lv_at hl 0 rfl) ?_
  refine lv_iconst (v := 5) hx hb dX10_init_42 (by decide) ?_
  refine na (a0 := (5, .inl (fun _ => 0))) (ty := .int) hC hE rfl w_1187 1 rfl (fun _ _ h => h) hP hD hS hA (fun _ => rfl) (by decide) (by decide) (by decide) (by decide) (by decide) dX10_init_43 (fun q16378 H hP hD hS => ?_)
  replace hP : va_P D vwCl [(h0, .inr (9, [.ref q16373, .ref q16374, .ref q16375, .ref q16376, .ref q16377, .null, .null, .null, .int 0, .int 0, .int 0, .int 0])), (q16373, .inl (K 1, 40, .inl (fun _ => 0))), (q16374, .inl (K 1, 10, .inl (fun _ => 0))), (q16375, .inl (K 1, 4, .inl (fun _ => 0))), (q16376, .inl (K 1, 4, .inl (fun _ => 0))), (q16377, .inl (K 1, 4, .inl (fun _ => 0))), (q16378, .inl (K 1, 5, .inl (fun _ => 0)))] H := hP
  replace hD : va_D A [(h0, .inr (9, [.ref q16373, .ref q16374, .ref q16375, .ref q16376, .ref q16377, .null, .null, .null, .int 0, .int 0, .int 0, .int 0])), (q16373, .inl (K 1, 40, .inl (fun _ => 0))), (q16374, .inl (K 1, 10, .inl (fun _ => 0))), (q16375, .inl (K 1, 4, .inl (fun _ => 0))), (q16376, .inl (K 1, 4, .inl (fun _ => 0))), (q16377, .inl (K 1, 4, .inl (fun _ => 0))), (q16378, .inl (K 1, 5, .inl (fun _ => 0)))] := hD
  refine W.widen (k := 6) (n := 67) (by decide) (by decide) ?_
  refine va_putF (D := D) (ci := 9) (v := .ref q16378) (ty := .array .int) (C := RX10) (T := TX10) (N := 12) hx hb hts in_X10 tyX10 tyX10_ok nmX10 hown hE.1 hP hD hS 0 rfl rfl 5 (by decide) (hts _ w_93) (fun _ h9 => h9) rfl hin rfl (by decide +kernel) rfl rfl (Nat.le_of_ble_eq_true rfl) dX10_init_45 (fun H locs hP hD hS => ?_)
  replace hP : va_P D vwCl [(h0, .inr (9, [.ref q16373, .ref q16374, .ref q16375, .ref q16376, .ref q16377, .ref q16378, .null, .null, .int 0, .int 0, .int 0, .int 0])), (q16373, .inl (K 1, 40, .inl (fun _ => 0))), (q16374, .inl (K 1, 10, .inl (fun _ => 0))), (q16375, .inl (K 1, 4, .inl (fun _ => 0))), (q16376, .inl (K 1, 4, .inl (fun _ => 0))), (q16377, .inl (K 1, 4, .inl (fun _ => 0))), (q16378, .inl (K 1, 5, .inl (fun _ => 0)))] H := hP
  replace hD : va_D A [(h0, .inr (9, [.ref q16373, .ref q16374, .ref q16375, .ref q16376, .ref q16377, .ref q16378, .null, .null, .int 0, .int 0, .int 0, .int 0])), (q16373, .inl (K 1, 40, .inl (fun _ => 0))), (q16374, .inl (K 1, 10, .inl (fun _ => 0))), (q16375, .inl (K 1, 4, .inl (fun _ => 0))), (q16376, .inl (K 1, 4, .inl (fun _ => 0))), (q16377, .inl (K 1, 4, .inl (fun _ => 0))), (q16378, .inl (K 1, 5, .inl (fun _ => 0)))] := hD
  refine lv_aload_n hx hb dX10_init_48 rfl (lv_at hl 0 rfl) ?_
  refine lv_iconst (v := 5) hx hb dX10_init_49 (by decide) ?_
  refine na (a0 := (5, .inl (fun _ => 0))) (ty := .int) hC hE rfl w_1187 1 rfl (fun _ _ h => h) hP hD hS hA (fun _ => rfl) (by decide) (by decide) (by decide) (by decide) (by decide) dX10_init_50 (fun q16379 H hP hD hS => ?_)
  replace hP : va_P D vwCl [(h0, .inr (9, [.ref q16373, .ref q16374, .ref q16375, .ref q16376, .ref q16377, .ref q16378, .null, .null, .int 0, .int 0, .int 0, .int 0])), (q16373, .inl (K 1, 40, .inl (fun _ => 0))), (q16374, .inl (K 1, 10, .inl (fun _ => 0))), (q16375, .inl (K 1, 4, .inl (fun _ => 0))), (q16376, .inl (K 1, 4, .inl (fun _ => 0))), (q16377, .inl (K 1, 4, .inl (fun _ => 0))), (q16378, .inl (K 1, 5, .inl (fun _ => 0))), (q16379, .inl (K 1, 5, .inl (fun _ => 0)))] H := hP
  replace hD : va_D A [(h0, .inr (9, [.ref q16373, .ref q16374, .ref q16375, .ref q16376, .ref q16377, .ref q16378, .null, .null, .int 0, .int 0, .int 0, .int 0])), (q16373, .inl (K 1, 40, .inl (fun _ => 0))), (q16374, .inl (K 1, 10, .inl (fun _ => 0))), (q16375, .inl (K 1, 4, .inl (fun _ => 0))), (q16376, .inl (K 1, 4, .inl (fun _ => 0))), (q16377, .inl (K 1, 4, .inl (fun _ => 0))), (q16378, .inl (K 1, 5, .inl (fun _ => 0))), (q16379, .inl (K 1, 5, .inl (fun _ => 0)))] := hD
  refine W.widen (k := 7) (n := 72) (by decide) (by decide) ?_
  refine va_putF (D := D) (ci := 9) (v := .ref q16379) (ty := .array .int) (C := RX10) (T := TX10) (N := 12) hx hb hts in_X10 tyX10 tyX10_ok nmX10 hown hE.1 hP hD hS 0 rfl rfl 6 (by decide) (hts _ w_94) (fun _ h9 => h9) rfl hin rfl (by decide +kernel) rfl rfl (Nat.le_of_ble_eq_true rfl) dX10_init_52 (fun H locs hP hD hS => ?_)
  replace hP : va_P D vwCl [(h0, .inr (9, [.ref q16373, .ref q16374, .ref q16375, .ref q16376, .ref q16377, .ref q16378, .ref q16379, .null, .int 0, .int 0, .int 0, .int 0])), (q16373, .inl (K 1, 40, .inl (fun _ => 0))), (q16374, .inl (K 1, 10, .inl (fun _ => 0))), (q16375, .inl (K 1, 4, .inl (fun _ => 0))), (q16376, .inl (K 1, 4, .inl (fun _ => 0))), (q16377, .inl (K 1, 4, .inl (fun _ => 0))), (q16378, .inl (K 1, 5, .inl (fun _ => 0))), (q16379, .inl (K 1, 5, .inl (fun _ => 0)))] H := hP
  replace hD : va_D A [(h0, .inr (9, [.ref q16373, .ref q16374, .ref q16375, .ref q16376, .ref q16377, .ref q16378, .ref q16379, .null, .int 0, .int 0, .int 0, .int 0])), (q16373, .inl (K 1, 40, .inl (fun _ => 0))), (q16374, .inl (K 1, 10, .inl (fun _ => 0))), (q16375, .inl (K 1, 4, .inl (fun _ => 0))), (q16376, .inl (K 1, 4, .inl (fun _ => 0))), (q16377, .inl (K 1, 4, .inl (fun _ => 0))), (q16378, .inl (K 1, 5, .inl (fun _ => 0))), (q16379, .inl (K 1, 5, .inl (fun _ => 0)))] := hD
  refine lv_aload_n hx hb dX10_init_55 rfl (lv_at hl 0 rfl) ?_
  refine lv_iconst (v := 5) hx hb dX10_init_56 (by decide) ?_
  refine na (a0 := (5, .inl (fun _ => 0))) (ty := .int) hC hE rfl w_1187 1 rfl (fun _ _ h => h) hP hD hS hA (fun _ => rfl) (by decide) (by decide) (by decide) (by decide) (by decide) dX10_init_57 (fun q16380 H hP hD hS => ?_)
  replace hP : va_P D vwCl [(h0, .inr (9, [.ref q16373, .ref q16374, .ref q16375, .ref q16376, .ref q16377, .ref q16378, .ref q16379, .null, .int 0, .int 0, .int 0, .int 0])), (q16373, .inl (K 1, 40, .inl (fun _ => 0))), (q16374, .inl (K 1, 10, .inl (fun _ => 0))), (q16375, .inl (K 1, 4, .inl (fun _ => 0))), (q16376, .inl (K 1, 4, .inl (fun _ => 0))), (q16377, .inl (K 1, 4, .inl (fun _ => 0))), (q16378, .inl (K 1, 5, .inl (fun _ => 0))), (q16379, .inl (K 1, 5, .inl (fun _ => 0))), (q16380, .inl (K 1, 5, .inl (fun _ => 0)))] H := hP
  replace hD : va_D A [(h0, .inr (9, [.ref q16373, .ref q16374, .ref q16375, .ref q16376, .ref q16377, .ref q16378, .ref q16379, .null, .int 0, .int 0, .int 0, .int 0])), (q16373, .inl (K 1, 40, .inl (fun _ => 0))), (q16374, .inl (K 1, 10, .inl (fun _ => 0))), (q16375, .inl (K 1, 4, .inl (fun _ => 0))), (q16376, .inl (K 1, 4, .inl (fun _ => 0))), (q16377, .inl (K 1, 4, .inl (fun _ => 0))), (q16378, .inl (K 1, 5, .inl (fun _ => 0))), (q16379, .inl (K 1, 5, .inl (fun _ => 0))), (q16380, .inl (K 1, 5, .inl (fun _ => 0)))] := hD
  refine W.widen (k := 8) (n := 77) (by decide) (by decide) ?_
  refine va_putF (D := D) (ci := 9) (v := .ref q16380) (ty := .array .int) (C := RX10) (T := TX10) (N := 12) hx hb hts in_X10 tyX10 tyX10_ok nmX10 hown hE.1 hP hD hS 0 rfl rfl 7 (by decide) (hts _ w_95) (fun _ h9 => h9) rfl hin rfl (by decide +kernel) rfl rfl (Nat.le_of_ble_eq_true rfl) dX10_init_59 (fun H locs hP hD hS => ?_)
  replace hP : va_P D vwCl [(h0, .inr (9, [.ref q16373, .ref q16374, .ref q16375, .ref q16376, .ref q16377, .ref q16378, .ref q16379, .ref q16380, .int 0, .int 0, .int 0, .int 0])), (q16373, .inl (K 1, 40, .inl (fun _ => 0))), (q16374, .inl (K 1, 10, .inl (fun _ => 0))), (q16375, .inl (K 1, 4, .inl (fun _ => 0))), (q16376, .inl (K 1, 4, .inl (fun _ => 0))), (q16377, .inl (K 1, 4, .inl (fun _ => 0))), (q16378, .inl (K 1, 5, .inl (fun _ => 0))), (q16379, .inl (K 1, 5, .inl (fun _ => 0))), (q16380, .inl (K 1, 5, .inl (fun _ => 0)))] H := hP
  replace hD : va_D A [(h0, .inr (9, [.ref q16373, .ref q16374, .ref q16375, .ref q16376, .ref q16377, .ref q16378, .ref q16379, .ref q16380, .int 0, .int 0, .int 0, .int 0])), (q16373, .inl (K 1, 40, .inl (fun _ => 0))), (q16374, .inl (K 1, 10, .inl (fun _ => 0))), (q16375, .inl (K 1, 4, .inl (fun _ => 0))), (q16376, .inl (K 1, 4, .inl (fun _ => 0))), (q16377, .inl (K 1, 4, .inl (fun _ => 0))), (q16378, .inl (K 1, 5, .inl (fun _ => 0))), (q16379, .inl (K 1, 5, .inl (fun _ => 0))), (q16380, .inl (K 1, 5, .inl (fun _ => 0)))] := hD
  refine W.widen (k := 8) (n := 77) (by decide) (by decide) ?_
  exact ch_vret hC hr hk hS dX10_init_62 ((fun k => [q16373, q16374, q16375, q16376, q16377, q16378, q16379, q16380].getD k 0, fun k => [].getD k (fun _ => 0)) : ((Nat → Nat) × (Nat → Nat → Int32))) trivial (hP.sub [0, 1, 2, 3, 4, 5, 6, 7, 8] rfl) (hD.sub [0, 1, 2, 3, 4, 5, 6, 7, 8] (by decide) rfl)
set_option maxRecDepth 100000 in
set_option maxHeartbeats 8000000 in
theorem c_X4_init (l : Launch) (D : va_G) (K : Nat → ClassId) (h0 : Nat) : Cv (S := ((Nat → Nat) × (Nat → Nat → Int32))) l D K yX4_init cX4_init 1 2 32 10 1089 [.ref h0] [(h0, .inr (4, [.null, .int 0, .int 0, .int 0, .null, .int 0, .int 0, .int 0, .int 0, .int 0]))] (fun _ => True) (fun u => [(h0, .inr (4, [.ref (u.1 0), .int 0, .int 0, .int (-1), .ref (u.1 1), .int 0, .int 0, .int 0, .int 0, .int 0])), (u.1 0, .inl (K 0, 1000, .inl (fun _ => 0))), (u.1 1, .inr (9, [.ref (u.1 2), .ref (u.1 3), .ref (u.1 4), .ref (u.1 5), .ref (u.1 6), .ref (u.1 7), .ref (u.1 8), .ref (u.1 9), .int 0, .int 0, .int 0, .int 0])), (u.1 2, .inl (K 1, 40, .inl (fun _ => 0))), (u.1 3, .inl (K 1, 10, .inl (fun _ => 0))), (u.1 4, .inl (K 1, 4, .inl (fun _ => 0))), (u.1 5, .inl (K 1, 4, .inl (fun _ => 0))), (u.1 6, .inl (K 1, 4, .inl (fun _ => 0))), (u.1 7, .inl (K 1, 5, .inl (fun _ => 0))), (u.1 8, .inl (K 1, 5, .inl (fun _ => 0))), (u.1 9, .inl (K 1, 5, .inl (fun _ => 0)))]) := by
  intro sz
  refine ch_of (y := yX4_init) (cc := cX4_init) (maxL := 1) (ret := none) (av := [.ref h0]) (ws := [(h0, .inr (4, [.null, .int 0, .int 0, .int 0, .null, .int 0, .int 0, .int 0, .int 0, .int 0]))]) (D := D) (K := K) (Qc := fun A => va_Qv (S := ((Nat → Nat) × (Nat → Nat → Int32))) (fun _ => True) (chB D A (fun u => [(h0, .inr (4, [.ref (u.1 0), .int 0, .int 0, .int (-1), .ref (u.1 1), .int 0, .int 0, .int 0, .int 0, .int 0])), (u.1 0, .inl (K 0, 1000, .inl (fun _ => 0))), (u.1 1, .inr (9, [.ref (u.1 2), .ref (u.1 3), .ref (u.1 4), .ref (u.1 5), .ref (u.1 6), .ref (u.1 7), .ref (u.1 8), .ref (u.1 9), .int 0, .int 0, .int 0, .int 0])), (u.1 2, .inl (K 1, 40, .inl (fun _ => 0))), (u.1 3, .inl (K 1, 10, .inl (fun _ => 0))), (u.1 4, .inl (K 1, 4, .inl (fun _ => 0))), (u.1 5, .inl (K 1, 4, .inl (fun _ => 0))), (u.1 6, .inl (K 1, 4, .inl (fun _ => 0))), (u.1 7, .inl (K 1, 5, .inl (fun _ => 0))), (u.1 8, .inl (K 1, 5, .inl (fun _ => 0))), (u.1 9, .inl (K 1, 5, .inl (fun _ => 0)))])) A) (by decide) (Nat.le_of_ble_eq_true rfl) ?_
  intro p e s m below meth c A hC hr hk hin hE hD hA H locs hP hS ls hl
  replace hC : CallFix p m c cX4_init 1 s [.ref h0].toArray wl RX4 := hC
  have hx := hC.1
  have hb := hC.2.1
  have hml := hC.2.2.1
  have hown := hC.2.2.2.1
  have hts := hC.2.2.2.2
  replace hl : lv_has ls 1 [(0, .ref h0)] := hl
  refine lv_aload_n hx hb dX4_init_0 rfl (lv_at hl 0 rfl) ?_
  refine W.objInit hx hb hown (hts _ w_1188) (hts _ w_1185) (hts _ w_1186) rfl (by rw [hml]; exact hl.1) rfl dX4_init_1 (by decide) (Nat.le_of_ble_eq_true rfl) ?_
  refine W.eq (g2 := F0 m 4 ls []) rfl ?_
  refine lv_aload_n hx hb dX4_init_4 rfl (lv_at hl 0 rfl) ?_
  refine lv_sipush (v := 1000) hx hb dX4_init_5 (by decide) ?_
  refine na (a0 := (1000, .inl (fun _ => 0))) (ty := .byte) hC hE rfl w_1189 0 rfl (fun _ _ h => h) hP hD hS hA (fun _ => rfl) (by decide) (by decide) (by decide) (by decide) (by decide) dX4_init_8 (fun q16381 H hP hD hS => ?_)
  replace hP : va_P D vwCl [(h0, .inr (4, [.null, .int 0, .int 0, .int 0, .null, .int 0, .int 0, .int 0, .int 0, .int 0])), (q16381, .inl (K 0, 1000, .inl (fun _ => 0)))] H := hP
  replace hD : va_D A [(h0, .inr (4, [.null, .int 0, .int 0, .int 0, .null, .int 0, .int 0, .int 0, .int 0, .int 0])), (q16381, .inl (K 0, 1000, .inl (fun _ => 0)))] := hD
  refine W.widen (k := 1) (n := 1000) (by decide) (by decide) ?_
  refine va_putF (D := D) (ci := 4) (v := .ref q16381) (ty := .array .byte) (C := RX4) (T := TX4) (N := 10) hx hb hts in_X4 tyX4 tyX4_ok nmX4 hown hE.1 hP hD hS 0 rfl rfl 0 (by decide) (hts _ w_401) (fun _ h9 => h9) rfl hin rfl (by decide +kernel) rfl rfl (Nat.le_of_ble_eq_true rfl) dX4_init_10 (fun H locs hP hD hS => ?_)
  replace hP : va_P D vwCl [(h0, .inr (4, [.ref q16381, .int 0, .int 0, .int 0, .null, .int 0, .int 0, .int 0, .int 0, .int 0])), (q16381, .inl (K 0, 1000, .inl (fun _ => 0)))] H := hP
  replace hD : va_D A [(h0, .inr (4, [.ref q16381, .int 0, .int 0, .int 0, .null, .int 0, .int 0, .int 0, .int 0, .int 0])), (q16381, .inl (K 0, 1000, .inl (fun _ => 0)))] := hD
  refine lv_aload_n hx hb dX4_init_13 rfl (lv_at hl 0 rfl) ?_
  refine lv_iconst (v := (-1)) hx hb dX4_init_14 (by decide) ?_
  refine va_put (D := D) (ci := 4) (v := .int (-1)) (ty := .int) (C := RX4) (T := TX4) (N := 10) hx hb hts in_X4 tyX4 tyX4_ok nmX4 hown hE.1 hP hD hS 0 rfl rfl 3 (by decide) (hts _ w_418) (fun _ h9 => h9) rfl (by decide +kernel) rfl rfl (Nat.le_of_ble_eq_true rfl) dX4_init_15 (fun H locs hP hD hS => ?_)
  replace hP : va_P D vwCl [(h0, .inr (4, [.ref q16381, .int 0, .int 0, .int (-1), .null, .int 0, .int 0, .int 0, .int 0, .int 0])), (q16381, .inl (K 0, 1000, .inl (fun _ => 0)))] H := hP
  replace hD : va_D A [(h0, .inr (4, [.ref q16381, .int 0, .int 0, .int (-1), .null, .int 0, .int 0, .int 0, .int 0, .int 0])), (q16381, .inl (K 0, 1000, .inl (fun _ => 0)))] := hD
  refine lv_aload_n hx hb dX4_init_18 rfl (lv_at hl 0 rfl) ?_
  refine va_new (ci := 9) (fs := [.null, .null, .null, .null, .null, .null, .null, .null, .int 0, .int 0, .int 0, .int 0]) (C := RX10) (T := TX10) (N := 12) hx hb hts in_X10 tyX10 tyX10_ok hown (hts _ w_1190) (hts _ w_1191) (hts _ w_25) hE.1 hP hD hS hA rfl (bd_X10) (by decide) (by decide) dX4_init_19 (fun q16382 H hP hD hS => ?_)
  replace hP : va_P D vwCl [(h0, .inr (4, [.ref q16381, .int 0, .int 0, .int (-1), .null, .int 0, .int 0, .int 0, .int 0, .int 0])), (q16381, .inl (K 0, 1000, .inl (fun _ => 0))), (q16382, .inr (9, [.null, .null, .null, .null, .null, .null, .null, .null, .int 0, .int 0, .int 0, .int 0]))] H := hP
  replace hD : va_D A [(h0, .inr (4, [.ref q16381, .int 0, .int 0, .int (-1), .null, .int 0, .int 0, .int 0, .int 0, .int 0])), (q16381, .inl (K 0, 1000, .inl (fun _ => 0))), (q16382, .inr (9, [.null, .null, .null, .null, .null, .null, .null, .null, .int 0, .int 0, .int 0, .int 0]))] := hD
  refine W.widen (k := 2) (n := 1012) (by decide) (by decide) ?_
  refine lv_dup hx hb dX4_init_22 rfl ?_
  refine cv_IN (As := []) (rest := [.ref q16382, .ref h0]) (wc := [(q16382, .inr (9, [.null, .null, .null, .null, .null, .null, .null, .null, .int 0, .int 0, .int 0, .int 0]))]) (wr := [(h0, .inr (4, [.ref q16381, .int 0, .int 0, .int (-1), .null, .int 0, .int 0, .int 0, .int 0, .int 0])), (q16381, .inl (K 0, 1000, .inl (fun _ => 0)))]) hC hE kIN_X4_21 (c_X10_init l D K q16382) hP hD hS hA [2] [0, 1] rfl rfl rfl (by decide) (by decide) (by decide) rfl hl.1 rfl (Nat.le_of_ble_eq_true rfl) (by decide) (by decide) dX4_init_23 (fun u16383 H locs hw hP hD hS => ?_)
  replace hP : va_P D vwCl [(h0, .inr (4, [.ref q16381, .int 0, .int 0, .int (-1), .null, .int 0, .int 0, .int 0, .int 0, .int 0])), (q16381, .inl (K 0, 1000, .inl (fun _ => 0))), (q16382, .inr (9, [.ref (u16383.1 0), .ref (u16383.1 1), .ref (u16383.1 2), .ref (u16383.1 3), .ref (u16383.1 4), .ref (u16383.1 5), .ref (u16383.1 6), .ref (u16383.1 7), .int 0, .int 0, .int 0, .int 0])), (u16383.1 0, .inl (K 1, 40, .inl (fun _ => 0))), (u16383.1 1, .inl (K 1, 10, .inl (fun _ => 0))), (u16383.1 2, .inl (K 1, 4, .inl (fun _ => 0))), (u16383.1 3, .inl (K 1, 4, .inl (fun _ => 0))), (u16383.1 4, .inl (K 1, 4, .inl (fun _ => 0))), (u16383.1 5, .inl (K 1, 5, .inl (fun _ => 0))), (u16383.1 6, .inl (K 1, 5, .inl (fun _ => 0))), (u16383.1 7, .inl (K 1, 5, .inl (fun _ => 0)))] H := hP
  replace hD : va_D A [(h0, .inr (4, [.ref q16381, .int 0, .int 0, .int (-1), .null, .int 0, .int 0, .int 0, .int 0, .int 0])), (q16381, .inl (K 0, 1000, .inl (fun _ => 0))), (q16382, .inr (9, [.ref (u16383.1 0), .ref (u16383.1 1), .ref (u16383.1 2), .ref (u16383.1 3), .ref (u16383.1 4), .ref (u16383.1 5), .ref (u16383.1 6), .ref (u16383.1 7), .int 0, .int 0, .int 0, .int 0])), (u16383.1 0, .inl (K 1, 40, .inl (fun _ => 0))), (u16383.1 1, .inl (K 1, 10, .inl (fun _ => 0))), (u16383.1 2, .inl (K 1, 4, .inl (fun _ => 0))), (u16383.1 3, .inl (K 1, 4, .inl (fun _ => 0))), (u16383.1 4, .inl (K 1, 4, .inl (fun _ => 0))), (u16383.1 5, .inl (K 1, 5, .inl (fun _ => 0))), (u16383.1 6, .inl (K 1, 5, .inl (fun _ => 0))), (u16383.1 7, .inl (K 1, 5, .inl (fun _ => 0)))] := hD
  refine W.widen (k := 10) (n := 1089) (by decide) (by decide) ?_
  refine va_putF (D := D) (ci := 4) (v := .ref q16382) (ty := .object "LostWood$Wood") (C := RX4) (T := TX4) (N := 10) hx hb hts in_X4 tyX4 tyX4_ok nmX4 hown hE.1 hP hD hS 0 rfl rfl 4 (by decide) (hts _ w_440) (fun _ h9 => h9) rfl hin rfl (by decide +kernel) rfl rfl (Nat.le_of_ble_eq_true rfl) dX4_init_26 (fun H locs hP hD hS => ?_)
  replace hP : va_P D vwCl [(h0, .inr (4, [.ref q16381, .int 0, .int 0, .int (-1), .ref q16382, .int 0, .int 0, .int 0, .int 0, .int 0])), (q16381, .inl (K 0, 1000, .inl (fun _ => 0))), (q16382, .inr (9, [.ref (u16383.1 0), .ref (u16383.1 1), .ref (u16383.1 2), .ref (u16383.1 3), .ref (u16383.1 4), .ref (u16383.1 5), .ref (u16383.1 6), .ref (u16383.1 7), .int 0, .int 0, .int 0, .int 0])), (u16383.1 0, .inl (K 1, 40, .inl (fun _ => 0))), (u16383.1 1, .inl (K 1, 10, .inl (fun _ => 0))), (u16383.1 2, .inl (K 1, 4, .inl (fun _ => 0))), (u16383.1 3, .inl (K 1, 4, .inl (fun _ => 0))), (u16383.1 4, .inl (K 1, 4, .inl (fun _ => 0))), (u16383.1 5, .inl (K 1, 5, .inl (fun _ => 0))), (u16383.1 6, .inl (K 1, 5, .inl (fun _ => 0))), (u16383.1 7, .inl (K 1, 5, .inl (fun _ => 0)))] H := hP
  replace hD : va_D A [(h0, .inr (4, [.ref q16381, .int 0, .int 0, .int (-1), .ref q16382, .int 0, .int 0, .int 0, .int 0, .int 0])), (q16381, .inl (K 0, 1000, .inl (fun _ => 0))), (q16382, .inr (9, [.ref (u16383.1 0), .ref (u16383.1 1), .ref (u16383.1 2), .ref (u16383.1 3), .ref (u16383.1 4), .ref (u16383.1 5), .ref (u16383.1 6), .ref (u16383.1 7), .int 0, .int 0, .int 0, .int 0])), (u16383.1 0, .inl (K 1, 40, .inl (fun _ => 0))), (u16383.1 1, .inl (K 1, 10, .inl (fun _ => 0))), (u16383.1 2, .inl (K 1, 4, .inl (fun _ => 0))), (u16383.1 3, .inl (K 1, 4, .inl (fun _ => 0))), (u16383.1 4, .inl (K 1, 4, .inl (fun _ => 0))), (u16383.1 5, .inl (K 1, 5, .inl (fun _ => 0))), (u16383.1 6, .inl (K 1, 5, .inl (fun _ => 0))), (u16383.1 7, .inl (K 1, 5, .inl (fun _ => 0)))] := hD
  refine W.widen (k := 10) (n := 1089) (by decide) (by decide) ?_
  exact ch_vret hC hr hk hS dX4_init_29 ((fun k => [q16381, q16382, (u16383.1 0), (u16383.1 1), (u16383.1 2), (u16383.1 3), (u16383.1 4), (u16383.1 5), (u16383.1 6), (u16383.1 7)].getD k 0, fun k => [].getD k (fun _ => 0)) : ((Nat → Nat) × (Nat → Nat → Int32))) trivial (hP.sub [0, 1, 2, 3, 4, 5, 6, 7, 8, 9, 10] rfl) (hD.sub [0, 1, 2, 3, 4, 5, 6, 7, 8, 9, 10] (by decide) rfl)
set_option maxRecDepth 100000 in
set_option maxHeartbeats 8000000 in
theorem c_X2_init (l : Launch) (D : va_G) (K : Nat → ClassId) (h0 : Nat) : Cv (S := ((Nat → Nat) × (Nat → Nat → Int32))) l D K yX2_init cX2_init 1 1 12 5 188 [.ref h0] [(h0, .inr (2, [.null, .null, .null, .null, .null, .int 0]))] (fun _ => True) (fun u => [(h0, .inr (2, [.ref (u.1 0), .ref (u.1 1), .ref (u.1 2), .ref (u.1 3), .ref (u.1 4), .int 0])), (u.1 0, .inl (K 1, 4, .inl (fun _ => 0))), (u.1 1, .inl (K 1, 4, .inl (fun _ => 0))), (u.1 2, .inl (K 1, 60, .inl (fun _ => 0))), (u.1 3, .inl (K 1, 60, .inl (fun _ => 0))), (u.1 4, .inl (K 1, 60, .inl (fun _ => 0)))]) := by
  intro sz
  refine ch_of (y := yX2_init) (cc := cX2_init) (maxL := 1) (ret := none) (av := [.ref h0]) (ws := [(h0, .inr (2, [.null, .null, .null, .null, .null, .int 0]))]) (D := D) (K := K) (Qc := fun A => va_Qv (S := ((Nat → Nat) × (Nat → Nat → Int32))) (fun _ => True) (chB D A (fun u => [(h0, .inr (2, [.ref (u.1 0), .ref (u.1 1), .ref (u.1 2), .ref (u.1 3), .ref (u.1 4), .int 0])), (u.1 0, .inl (K 1, 4, .inl (fun _ => 0))), (u.1 1, .inl (K 1, 4, .inl (fun _ => 0))), (u.1 2, .inl (K 1, 60, .inl (fun _ => 0))), (u.1 3, .inl (K 1, 60, .inl (fun _ => 0))), (u.1 4, .inl (K 1, 60, .inl (fun _ => 0)))])) A) (by decide) (Nat.le_of_ble_eq_true rfl) ?_
  intro p e s m below meth c A hC hr hk hin hE hD hA H locs hP hS ls hl
  replace hC : CallFix p m c cX2_init 1 s [.ref h0].toArray wl RX2 := hC
  have hx := hC.1
  have hb := hC.2.1
  have hml := hC.2.2.1
  have hown := hC.2.2.2.1
  have hts := hC.2.2.2.2
  replace hl : lv_has ls 1 [(0, .ref h0)] := hl
  refine lv_aload_n hx hb dX2_init_0 rfl (lv_at hl 0 rfl) ?_
  refine W.objInit hx hb hown (hts _ w_1194) (hts _ w_1185) (hts _ w_1186) rfl (by rw [hml]; exact hl.1) rfl dX2_init_1 (by decide) (Nat.le_of_ble_eq_true rfl) ?_
  refine W.eq (g2 := F0 m 4 ls []) rfl ?_
  refine lv_aload_n hx hb dX2_init_4 rfl (lv_at hl 0 rfl) ?_
  refine lv_iconst (v := 4) hx hb dX2_init_5 (by decide) ?_
  refine na (a0 := (4, .inl (fun _ => 0))) (ty := .int) hC hE rfl w_1187 1 rfl (fun _ _ h => h) hP hD hS hA (fun _ => rfl) (by decide) (by decide) (by decide) (by decide) (by decide) dX2_init_6 (fun q16384 H hP hD hS => ?_)
  replace hP : va_P D vwCl [(h0, .inr (2, [.null, .null, .null, .null, .null, .int 0])), (q16384, .inl (K 1, 4, .inl (fun _ => 0)))] H := hP
  replace hD : va_D A [(h0, .inr (2, [.null, .null, .null, .null, .null, .int 0])), (q16384, .inl (K 1, 4, .inl (fun _ => 0)))] := hD
  refine W.widen (k := 1) (n := 4) (by decide) (by decide) ?_
  refine va_putF (D := D) (ci := 2) (v := .ref q16384) (ty := .array .int) (C := RX2) (T := TX2) (N := 6) hx hb hts in_X2 tyX2 tyX2_ok nmX2 hown hE.1 hP hD hS 0 rfl rfl 0 (by decide) (hts _ w_76) (fun _ h9 => h9) rfl hin rfl (by decide +kernel) rfl rfl (Nat.le_of_ble_eq_true rfl) dX2_init_8 (fun H locs hP hD hS => ?_)
  replace hP : va_P D vwCl [(h0, .inr (2, [.ref q16384, .null, .null, .null, .null, .int 0])), (q16384, .inl (K 1, 4, .inl (fun _ => 0)))] H := hP
  replace hD : va_D A [(h0, .inr (2, [.ref q16384, .null, .null, .null, .null, .int 0])), (q16384, .inl (K 1, 4, .inl (fun _ => 0)))] := hD
  refine lv_aload_n hx hb dX2_init_11 rfl (lv_at hl 0 rfl) ?_
  refine lv_iconst (v := 4) hx hb dX2_init_12 (by decide) ?_
  refine na (a0 := (4, .inl (fun _ => 0))) (ty := .int) hC hE rfl w_1187 1 rfl (fun _ _ h => h) hP hD hS hA (fun _ => rfl) (by decide) (by decide) (by decide) (by decide) (by decide) dX2_init_13 (fun q16385 H hP hD hS => ?_)
  replace hP : va_P D vwCl [(h0, .inr (2, [.ref q16384, .null, .null, .null, .null, .int 0])), (q16384, .inl (K 1, 4, .inl (fun _ => 0))), (q16385, .inl (K 1, 4, .inl (fun _ => 0)))] H := hP
  replace hD : va_D A [(h0, .inr (2, [.ref q16384, .null, .null, .null, .null, .int 0])), (q16384, .inl (K 1, 4, .inl (fun _ => 0))), (q16385, .inl (K 1, 4, .inl (fun _ => 0)))] := hD
  refine W.widen (k := 2) (n := 8) (by decide) (by decide) ?_
  refine va_putF (D := D) (ci := 2) (v := .ref q16385) (ty := .array .int) (C := RX2) (T := TX2) (N := 6) hx hb hts in_X2 tyX2 tyX2_ok nmX2 hown hE.1 hP hD hS 0 rfl rfl 1 (by decide) (hts _ w_78) (fun _ h9 => h9) rfl hin rfl (by decide +kernel) rfl rfl (Nat.le_of_ble_eq_true rfl) dX2_init_15 (fun H locs hP hD hS => ?_)
  replace hP : va_P D vwCl [(h0, .inr (2, [.ref q16384, .ref q16385, .null, .null, .null, .int 0])), (q16384, .inl (K 1, 4, .inl (fun _ => 0))), (q16385, .inl (K 1, 4, .inl (fun _ => 0)))] H := hP
  replace hD : va_D A [(h0, .inr (2, [.ref q16384, .ref q16385, .null, .null, .null, .int 0])), (q16384, .inl (K 1, 4, .inl (fun _ => 0))), (q16385, .inl (K 1, 4, .inl (fun _ => 0)))] := hD
  refine lv_aload_n hx hb dX2_init_18 rfl (lv_at hl 0 rfl) ?_
  refine lv_bipush (v := 60) hx hb dX2_init_19 (by decide) ?_
  refine na (a0 := (60, .inl (fun _ => 0))) (ty := .int) hC hE rfl w_1187 1 rfl (fun _ _ h => h) hP hD hS hA (fun _ => rfl) (by decide) (by decide) (by decide) (by decide) (by decide) dX2_init_21 (fun q16386 H hP hD hS => ?_)
  replace hP : va_P D vwCl [(h0, .inr (2, [.ref q16384, .ref q16385, .null, .null, .null, .int 0])), (q16384, .inl (K 1, 4, .inl (fun _ => 0))), (q16385, .inl (K 1, 4, .inl (fun _ => 0))), (q16386, .inl (K 1, 60, .inl (fun _ => 0)))] H := hP
  replace hD : va_D A [(h0, .inr (2, [.ref q16384, .ref q16385, .null, .null, .null, .int 0])), (q16384, .inl (K 1, 4, .inl (fun _ => 0))), (q16385, .inl (K 1, 4, .inl (fun _ => 0))), (q16386, .inl (K 1, 60, .inl (fun _ => 0)))] := hD
  refine W.widen (k := 3) (n := 68) (by decide) (by decide) ?_
  refine va_putF (D := D) (ci := 2) (v := .ref q16386) (ty := .array .int) (C := RX2) (T := TX2) (N := 6) hx hb hts in_X2 tyX2 tyX2_ok nmX2 hown hE.1 hP hD hS 0 rfl rfl 2 (by decide) (hts _ w_84) (fun _ h9 => h9) rfl hin rfl (by decide +kernel) rfl rfl (Nat.le_of_ble_eq_true rfl) dX2_init_23 (fun H locs hP hD hS => ?_)
  replace hP : va_P D vwCl [(h0, .inr (2, [.ref q16384, .ref q16385, .ref q16386, .null, .null, .int 0])), (q16384, .inl (K 1, 4, .inl (fun _ => 0))), (q16385, .inl (K 1, 4, .inl (fun _ => 0))), (q16386, .inl (K 1, 60, .inl (fun _ => 0)))] H := hP
  replace hD : va_D A [(h0, .inr (2, [.ref q16384, .ref q16385, .ref q16386, .null, .null, .int 0])), (q16384, .inl (K 1, 4, .inl (fun _ => 0))), (q16385, .inl (K 1, 4, .inl (fun _ => 0))), (q16386, .inl (K 1, 60, .inl (fun _ => 0)))] := hD
  refine lv_aload_n hx hb dX2_init_26 rfl (lv_at hl 0 rfl) ?_
  refine lv_bipush (v := 60) hx hb dX2_init_27 (by decide) ?_
  refine na (a0 := (60, .inl (fun _ => 0))) (ty := .int) hC hE rfl w_1187 1 rfl (fun _ _ h => h) hP hD hS hA (fun _ => rfl) (by decide) (by decide) (by decide) (by decide) (by decide) dX2_init_29 (fun q16387 H hP hD hS => ?_)
  replace hP : va_P D vwCl [(h0, .inr (2, [.ref q16384, .ref q16385, .ref q16386, .null, .null, .int 0])), (q16384, .inl (K 1, 4, .inl (fun _ => 0))), (q16385, .inl (K 1, 4, .inl (fun _ => 0))), (q16386, .inl (K 1, 60, .inl (fun _ => 0))), (q16387, .inl (K 1, 60, .inl (fun _ => 0)))] H := hP
  replace hD : va_D A [(h0, .inr (2, [.ref q16384, .ref q16385, .ref q16386, .null, .null, .int 0])), (q16384, .inl (K 1, 4, .inl (fun _ => 0))), (q16385, .inl (K 1, 4, .inl (fun _ => 0))), (q16386, .inl (K 1, 60, .inl (fun _ => 0))), (q16387, .inl (K 1, 60, .inl (fun _ => 0)))] := hD
  refine W.widen (k := 4) (n := 128) (by decide) (by decide) ?_
  refine va_putF (D := D) (ci := 2) (v := .ref q16387) (ty := .array .int) (C := RX2) (T := TX2) (N := 6) hx hb hts in_X2 tyX2 tyX2_ok nmX2 hown hE.1 hP hD hS 0 rfl rfl 3 (by decide) (hts _ w_85) (fun _ h9 => h9) rfl hin rfl (by decide +kernel) rfl rfl (Nat.le_of_ble_eq_true rfl) dX2_init_31 (fun H locs hP hD hS => ?_)
  replace hP : va_P D vwCl [(h0, .inr (2, [.ref q16384, .ref q16385, .ref q16386, .ref q16387, .null, .int 0])), (q16384, .inl (K 1, 4, .inl (fun _ => 0))), (q16385, .inl (K 1, 4, .inl (fun _ => 0))), (q16386, .inl (K 1, 60, .inl (fun _ => 0))), (q16387, .inl (K 1, 60, .inl (fun _ => 0)))] H := hP
  replace hD : va_D A [(h0, .inr (2, [.ref q16384, .ref q16385, .ref q16386, .ref q16387, .null, .int 0])), (q16384, .inl (K 1, 4, .inl (fun _ => 0))), (q16385, .inl (K 1, 4, .inl (fun _ => 0))), (q16386, .inl (K 1, 60, .inl (fun _ => 0))), (q16387, .inl (K 1, 60, .inl (fun _ => 0)))] := hD
  refine lv_aload_n hx hb dX2_init_34 rfl (lv_at hl 0 rfl) ?_
  refine lv_bipush (v := 60) hx hb dX2_init_35 (by decide) ?_
  refine na (a0 := (60, .inl (fun _ => 0))) (ty := .int) hC hE rfl w_1187 1 rfl (fun _ _ h => h) hP hD hS hA (fun _ => rfl) (by decide) (by decide) (by decide) (by decide) (by decide) dX2_init_37 (fun q16388 H hP hD hS => ?_)
  replace hP : va_P D vwCl [(h0, .inr (2, [.ref q16384, .ref q16385, .ref q16386, .ref q16387, .null, .int 0])), (q16384, .inl (K 1, 4, .inl (fun _ => 0))), (q16385, .inl (K 1, 4, .inl (fun _ => 0))), (q16386, .inl (K 1, 60, .inl (fun _ => 0))), (q16387, .inl (K 1, 60, .inl (fun _ => 0))), (q16388, .inl (K 1, 60, .inl (fun _ => 0)))] H := hP
  replace hD : va_D A [(h0, .inr (2, [.ref q16384, .ref q16385, .ref q16386, .ref q16387, .null, .int 0])), (q16384, .inl (K 1, 4, .inl (fun _ => 0))), (q16385, .inl (K 1, 4, .inl (fun _ => 0))), (q16386, .inl (K 1, 60, .inl (fun _ => 0))), (q16387, .inl (K 1, 60, .inl (fun _ => 0))), (q16388, .inl (K 1, 60, .inl (fun _ => 0)))] := hD
  refine W.widen (k := 5) (n := 188) (by decide) (by decide) ?_
  refine va_putF (D := D) (ci := 2) (v := .ref q16388) (ty := .array .int) (C := RX2) (T := TX2) (N := 6) hx hb hts in_X2 tyX2 tyX2_ok nmX2 hown hE.1 hP hD hS 0 rfl rfl 4 (by decide) (hts _ w_86) (fun _ h9 => h9) rfl hin rfl (by decide +kernel) rfl rfl (Nat.le_of_ble_eq_true rfl) dX2_init_39 (fun H locs hP hD hS => ?_)
  replace hP : va_P D vwCl [(h0, .inr (2, [.ref q16384, .ref q16385, .ref q16386, .ref q16387, .ref q16388, .int 0])), (q16384, .inl (K 1, 4, .inl (fun _ => 0))), (q16385, .inl (K 1, 4, .inl (fun _ => 0))), (q16386, .inl (K 1, 60, .inl (fun _ => 0))), (q16387, .inl (K 1, 60, .inl (fun _ => 0))), (q16388, .inl (K 1, 60, .inl (fun _ => 0)))] H := hP
  replace hD : va_D A [(h0, .inr (2, [.ref q16384, .ref q16385, .ref q16386, .ref q16387, .ref q16388, .int 0])), (q16384, .inl (K 1, 4, .inl (fun _ => 0))), (q16385, .inl (K 1, 4, .inl (fun _ => 0))), (q16386, .inl (K 1, 60, .inl (fun _ => 0))), (q16387, .inl (K 1, 60, .inl (fun _ => 0))), (q16388, .inl (K 1, 60, .inl (fun _ => 0)))] := hD
  refine W.widen (k := 5) (n := 188) (by decide) (by decide) ?_
  exact ch_vret hC hr hk hS dX2_init_42 ((fun k => [q16384, q16385, q16386, q16387, q16388].getD k 0, fun k => [].getD k (fun _ => 0)) : ((Nat → Nat) × (Nat → Nat → Int32))) trivial (hP.sub [0, 1, 2, 3, 4, 5] rfl) (hD.sub [0, 1, 2, 3, 4, 5] (by decide) rfl)
set_option maxRecDepth 100000 in
set_option maxHeartbeats 8000000 in
theorem c_X9_init (l : Launch) (D : va_G) (K : Nat → ClassId) (h0 : Nat) : Cv (S := ((Nat → Nat) × (Nat → Nat → Int32))) l D K yX9_init cX9_init 1 1 12 0 0 [.ref h0] [(h0, .inr (8, [.int 0, .int 0, .int 0]))] (fun _ => True) (fun u => [(h0, .inr (8, [.int 0, .int 0, .int 0]))]) := by
  intro sz
  refine ch_of (y := yX9_init) (cc := cX9_init) (maxL := 1) (ret := none) (av := [.ref h0]) (ws := [(h0, .inr (8, [.int 0, .int 0, .int 0]))]) (D := D) (K := K) (Qc := fun A => va_Qv (S := ((Nat → Nat) × (Nat → Nat → Int32))) (fun _ => True) (chB D A (fun u => [(h0, .inr (8, [.int 0, .int 0, .int 0]))])) A) (by decide) (Nat.le_of_ble_eq_true rfl) ?_
  intro p e s m below meth c A hC hr hk hin hE hD hA H locs hP hS ls hl
  replace hC : CallFix p m c cX9_init 1 s [.ref h0].toArray wl RX9 := hC
  have hx := hC.1
  have hb := hC.2.1
  have hml := hC.2.2.1
  have hown := hC.2.2.2.1
  have hts := hC.2.2.2.2
  replace hl : lv_has ls 1 [(0, .ref h0)] := hl
  refine lv_aload_n hx hb dX9_init_0 rfl (lv_at hl 0 rfl) ?_
  refine W.objInit hx hb hown (hts _ w_1195) (hts _ w_1185) (hts _ w_1186) rfl (by rw [hml]; exact hl.1) rfl dX9_init_1 (by decide) (Nat.le_of_ble_eq_true rfl) ?_
  refine W.eq (g2 := F0 m 4 ls []) rfl ?_
  refine W.widen (k := 0) (n := 0) (by decide) (by decide) ?_
  exact ch_vret hC hr hk hS dX9_init_4 ((fun k => [].getD k 0, fun k => [].getD k (fun _ => 0)) : ((Nat → Nat) × (Nat → Nat → Int32))) trivial (hP.sub [0] rfl) (hD.sub [0] (by decide) rfl)
set_option maxRecDepth 100000 in
set_option maxHeartbeats 8000000 in
theorem c_X5_init (l : Launch) (D : va_G) (K : Nat → ClassId) (h0 : Nat) : Cv (S := ((Nat → Nat) × (Nat → Nat → Int32))) l D K yX5_init cX5_init 1 1 23 3 248 [.ref h0] [(h0, .inr (5, [.null, .null, .null]))] (fun u => ∀ j : Nat, j < 4 → u.2 0 j = -1) (fun u => [(h0, .inr (5, [.ref (u.1 0), .ref (u.1 1), .ref (u.1 2)])), (u.1 0, .inl (K 2, 240, .inr (.inl (fun _ => 0)))), (u.1 1, .inl (K 1, 4, .inl (fun _ => 0))), (u.1 2, .inl (K 1, 4, .inl (u.2 0)))]) := by
  intro sz
  refine ch_of (y := yX5_init) (cc := cX5_init) (maxL := 1) (ret := none) (av := [.ref h0]) (ws := [(h0, .inr (5, [.null, .null, .null]))]) (D := D) (K := K) (Qc := fun A => va_Qv (S := ((Nat → Nat) × (Nat → Nat → Int32))) (fun u => ∀ j : Nat, j < 4 → u.2 0 j = -1) (chB D A (fun u => [(h0, .inr (5, [.ref (u.1 0), .ref (u.1 1), .ref (u.1 2)])), (u.1 0, .inl (K 2, 240, .inr (.inl (fun _ => 0)))), (u.1 1, .inl (K 1, 4, .inl (fun _ => 0))), (u.1 2, .inl (K 1, 4, .inl (u.2 0)))])) A) (by decide) (Nat.le_of_ble_eq_true rfl) ?_
  intro p e s m below meth c A hC hr hk hin hE hD hA H locs hP hS ls hl
  replace hC : CallFix p m c cX5_init 1 s [.ref h0].toArray wl RX5 := hC
  have hx := hC.1
  have hb := hC.2.1
  have hml := hC.2.2.1
  have hown := hC.2.2.2.1
  have hts := hC.2.2.2.2
  replace hl : lv_has ls 1 [(0, .ref h0)] := hl
  refine lv_aload_n hx hb dX5_init_0 rfl (lv_at hl 0 rfl) ?_
  refine W.objInit hx hb hown (hts _ w_1196) (hts _ w_1185) (hts _ w_1186) rfl (by rw [hml]; exact hl.1) rfl dX5_init_1 (by decide) (Nat.le_of_ble_eq_true rfl) ?_
  refine W.eq (g2 := F0 m 4 ls []) rfl ?_
  refine lv_aload_n hx hb dX5_init_4 rfl (lv_at hl 0 rfl) ?_
  refine lv_sipush (v := 240) hx hb dX5_init_5 (by decide) ?_
  refine na (a0 := (240, .inr (.inl (fun _ => 0)))) (ty := .long) hC hE rfl w_1197 2 rfl (fun _ _ h => h) hP hD hS hA (fun _ => rfl) (by decide) (by decide) (by decide) (by decide) (by decide) dX5_init_8 (fun q16389 H hP hD hS => ?_)
  replace hP : va_P D vwCl [(h0, .inr (5, [.null, .null, .null])), (q16389, .inl (K 2, 240, .inr (.inl (fun _ => 0))))] H := hP
  replace hD : va_D A [(h0, .inr (5, [.null, .null, .null])), (q16389, .inl (K 2, 240, .inr (.inl (fun _ => 0))))] := hD
  refine W.widen (k := 1) (n := 240) (by decide) (by decide) ?_
  refine va_putF (D := D) (ci := 5) (v := .ref q16389) (ty := .array .long) (C := RX5) (T := TX5) (N := 3) hx hb hts in_X5 tyX5 tyX5_ok nmX5 hown hE.1 hP hD hS 0 rfl rfl 0 (by decide) (hts _ w_113) (fun _ h9 => h9) rfl hin rfl (by decide +kernel) rfl rfl (Nat.le_of_ble_eq_true rfl) dX5_init_10 (fun H locs hP hD hS => ?_)
  replace hP : va_P D vwCl [(h0, .inr (5, [.ref q16389, .null, .null])), (q16389, .inl (K 2, 240, .inr (.inl (fun _ => 0))))] H := hP
  replace hD : va_D A [(h0, .inr (5, [.ref q16389, .null, .null])), (q16389, .inl (K 2, 240, .inr (.inl (fun _ => 0))))] := hD
  refine lv_aload_n hx hb dX5_init_13 rfl (lv_at hl 0 rfl) ?_
  refine lv_iconst (v := 4) hx hb dX5_init_14 (by decide) ?_
  refine na (a0 := (4, .inl (fun _ => 0))) (ty := .int) hC hE rfl w_1187 1 rfl (fun _ _ h => h) hP hD hS hA (fun _ => rfl) (by decide) (by decide) (by decide) (by decide) (by decide) dX5_init_15 (fun q16390 H hP hD hS => ?_)
  replace hP : va_P D vwCl [(h0, .inr (5, [.ref q16389, .null, .null])), (q16389, .inl (K 2, 240, .inr (.inl (fun _ => 0)))), (q16390, .inl (K 1, 4, .inl (fun _ => 0)))] H := hP
  replace hD : va_D A [(h0, .inr (5, [.ref q16389, .null, .null])), (q16389, .inl (K 2, 240, .inr (.inl (fun _ => 0)))), (q16390, .inl (K 1, 4, .inl (fun _ => 0)))] := hD
  refine W.widen (k := 2) (n := 244) (by decide) (by decide) ?_
  refine va_putF (D := D) (ci := 5) (v := .ref q16390) (ty := .array .int) (C := RX5) (T := TX5) (N := 3) hx hb hts in_X5 tyX5 tyX5_ok nmX5 hown hE.1 hP hD hS 0 rfl rfl 1 (by decide) (hts _ w_103) (fun _ h9 => h9) rfl hin rfl (by decide +kernel) rfl rfl (Nat.le_of_ble_eq_true rfl) dX5_init_17 (fun H locs hP hD hS => ?_)
  replace hP : va_P D vwCl [(h0, .inr (5, [.ref q16389, .ref q16390, .null])), (q16389, .inl (K 2, 240, .inr (.inl (fun _ => 0)))), (q16390, .inl (K 1, 4, .inl (fun _ => 0)))] H := hP
  replace hD : va_D A [(h0, .inr (5, [.ref q16389, .ref q16390, .null])), (q16389, .inl (K 2, 240, .inr (.inl (fun _ => 0)))), (q16390, .inl (K 1, 4, .inl (fun _ => 0)))] := hD
  refine lv_aload_n hx hb dX5_init_20 rfl (lv_at hl 0 rfl) ?_
  refine lv_iconst (v := 4) hx hb dX5_init_21 (by decide) ?_
  refine na (a0 := (4, .inl (fun _ => 0))) (ty := .int) hC hE rfl w_1187 1 rfl (fun _ _ h => h) hP hD hS hA (fun _ => rfl) (by decide) (by decide) (by decide) (by decide) (by decide) dX5_init_22 (fun q16391 H hP hD hS => ?_)
  replace hP : va_P D vwCl [(h0, .inr (5, [.ref q16389, .ref q16390, .null])), (q16389, .inl (K 2, 240, .inr (.inl (fun _ => 0)))), (q16390, .inl (K 1, 4, .inl (fun _ => 0))), (q16391, .inl (K 1, 4, .inl (fun _ => 0)))] H := hP
  replace hD : va_D A [(h0, .inr (5, [.ref q16389, .ref q16390, .null])), (q16389, .inl (K 2, 240, .inr (.inl (fun _ => 0)))), (q16390, .inl (K 1, 4, .inl (fun _ => 0))), (q16391, .inl (K 1, 4, .inl (fun _ => 0)))] := hD
  refine W.widen (k := 3) (n := 248) (by decide) (by decide) ?_
  refine va_putF (D := D) (ci := 5) (v := .ref q16391) (ty := .array .int) (C := RX5) (T := TX5) (N := 3) hx hb hts in_X5 tyX5 tyX5_ok nmX5 hown hE.1 hP hD hS 0 rfl rfl 2 (by decide) (hts _ w_102) (fun _ h9 => h9) rfl hin rfl (by decide +kernel) rfl rfl (Nat.le_of_ble_eq_true rfl) dX5_init_24 (fun H locs hP hD hS => ?_)
  replace hP : va_P D vwCl [(h0, .inr (5, [.ref q16389, .ref q16390, .ref q16391])), (q16389, .inl (K 2, 240, .inr (.inl (fun _ => 0)))), (q16390, .inl (K 1, 4, .inl (fun _ => 0))), (q16391, .inl (K 1, 4, .inl (fun _ => 0)))] H := hP
  replace hD : va_D A [(h0, .inr (5, [.ref q16389, .ref q16390, .ref q16391])), (q16389, .inl (K 2, 240, .inr (.inl (fun _ => 0)))), (q16390, .inl (K 1, 4, .inl (fun _ => 0))), (q16391, .inl (K 1, 4, .inl (fun _ => 0)))] := hD
  refine lv_aload_n hx hb dX5_init_27 rfl (lv_at hl 0 rfl) ?_
  refine va_get (D := D) (ci := 5) (v := .ref q16391) (C := RX5) (T := TX5) (N := 3) hx hb hts in_X5 hown hE.1 hP 0 rfl rfl 2 (by decide) (hts _ w_102) (fun _ h9 => h9) rfl dX5_init_28 ?_
  refine lv_iconst (v := (-1)) hx hb dX5_init_31 (by decide) ?_
  refine cv_S (As := [.ref q16391, .int (-1)]) (rest := []) (wc := [(q16391, .inl (K 1, 4, .inl (fun _ => 0)))]) (wr := [(h0, .inr (5, [.ref q16389, .ref q16390, .ref q16391])), (q16389, .inl (K 2, 240, .inr (.inl (fun _ => 0)))), (q16390, .inl (K 1, 4, .inl (fun _ => 0)))]) hC hE kS_X5_22 (c_J7_fill_f l D K q16391 (fun _ => 0) (-1)) hP hD hS hA [3] [0, 1, 2] rfl rfl rfl (by decide) (by decide) (by decide) rfl hl.1 rfl (Nat.le_of_ble_eq_true rfl) (by decide) (by decide) dX5_init_32 (fun u16392 H locs hw hP hD hS => ?_)
  replace hP : va_P D vwCl [(h0, .inr (5, [.ref q16389, .ref q16390, .ref q16391])), (q16389, .inl (K 2, 240, .inr (.inl (fun _ => 0)))), (q16390, .inl (K 1, 4, .inl (fun _ => 0))), (q16391, .inl (K 1, 4, .inl (u16392.2.1 0)))] H := hP
  replace hD : va_D A [(h0, .inr (5, [.ref q16389, .ref q16390, .ref q16391])), (q16389, .inl (K 2, 240, .inr (.inl (fun _ => 0)))), (q16390, .inl (K 1, 4, .inl (fun _ => 0))), (q16391, .inl (K 1, 4, .inl (u16392.2.1 0)))] := hD
  replace hP : va_P D vwCl [(h0, .inr (5, [.ref q16389, .ref q16390, .ref q16391])), (q16389, .inl (K 2, 240, .inr (.inl (fun _ => 0)))), (q16390, .inl (K 1, 4, .inl (fun _ => 0))), (q16391, .inl (K 1, 4, .inl (u16392.2.1 0)))] H := hP.sub [0, 1, 2, 3] rfl
  replace hD : va_D A [(h0, .inr (5, [.ref q16389, .ref q16390, .ref q16391])), (q16389, .inl (K 2, 240, .inr (.inl (fun _ => 0)))), (q16390, .inl (K 1, 4, .inl (fun _ => 0))), (q16391, .inl (K 1, 4, .inl (u16392.2.1 0)))] := hD.sub [0, 1, 2, 3] (by decide) rfl
  refine W.widen (k := 3) (n := 248) (by decide) (by decide) ?_
  have hf := hw
  have f16394 : ∀ j : Nat, j < 4 → (u16392.2.1 0) j = ((-1) : Int32) := hf
  refine W.widen (k := 3) (n := 248) (by decide) (by decide) ?_
  exact ch_vret hC hr hk hS dX5_init_35 ((fun k => [q16389, q16390, q16391].getD k 0, fun k => [(u16392.2.1 0)].getD k (fun _ => 0)) : ((Nat → Nat) × (Nat → Nat → Int32))) f16394 (hP.sub [0, 1, 2, 3] rfl) (hD.sub [0, 1, 2, 3] (by decide) rfl)
