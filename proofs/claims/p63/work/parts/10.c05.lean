set_option maxRecDepth 40000 in
set_option maxHeartbeats 4000000 in
theorem c_X3_prepare (l : Launch) (D : va_G) (K : Nat → ClassId) (w : Nat) (wa0 : Nat) (wa1 : Nat) (wa2 : Nat) (v : Nat) (va0 : Nat) (va1 : Nat) (va2 : Nat) (va3 : Nat) (va4 : Nat) (va5 : Nat) (va6 : Nat) (va7 : Nat) (wn3 : Int32) (wn4 : Int32) (vn8 : Int32) (vn9 : Int32) (vn10 : Int32) (vn11 : Int32) (wf0 : Nat → Int32) (wf1 : Nat → Int32) (wf2 : Nat → Int32) (vf0 : Nat → Int32) (vf1 : Nat → Int32) : Cv (S := ((Nat → Int32) × (Nat → Nat → Int32) × (Nat → Nat → Int64))) l D K yX3_prepare cX3_prepare 4 4 86 0 0 [.ref w, .ref v] [(w, .inr (3, [.ref wa0, .ref wa1, .ref wa2, .int wn3, .int wn4])), (wa0, .inl (K 1, 1024, .inl wf0)), (wa1, .inl (K 1, 4096, .inl wf1)), (wa2, .inl (K 1, 10, .inl wf2)), (v, .inr (9, [.ref va0, .ref va1, .ref va2, .ref va3, .ref va4, .ref va5, .ref va6, .ref va7, .int vn8, .int vn9, .int vn10, .int vn11])), (va0, .inl (K 1, 40, .inl vf0)), (va1, .inl (K 1, 10, .inl vf1))] (fun _ => True) (fun u => [(w, .inr (3, [.ref wa0, .ref wa1, .ref wa2, .int (u.1 0), .int (u.1 1)])), (wa0, .inl (K 1, 1024, .inl (u.2.1 0))), (wa1, .inl (K 1, 4096, .inl (u.2.1 1))), (wa2, .inl (K 1, 10, .inl (u.2.1 2))), (v, .inr (9, [.ref va0, .ref va1, .ref va2, .ref va3, .ref va4, .ref va5, .ref va6, .ref va7, .int vn8, .int vn9, .int vn10, .int vn11])), (va0, .inl (K 1, 40, .inl vf0)), (va1, .inl (K 1, 10, .inl vf1))]) := by
  intro sz
  refine ch_of (y := yX3_prepare) (cc := cX3_prepare) (maxL := 4) (ret := none) (av := [.ref w, .ref v]) (ws := [(w, .inr (3, [.ref wa0, .ref wa1, .ref wa2, .int wn3, .int wn4])), (wa0, .inl (K 1, 1024, .inl wf0)), (wa1, .inl (K 1, 4096, .inl wf1)), (wa2, .inl (K 1, 10, .inl wf2)), (v, .inr (9, [.ref va0, .ref va1, .ref va2, .ref va3, .ref va4, .ref va5, .ref va6, .ref va7, .int vn8, .int vn9, .int vn10, .int vn11])), (va0, .inl (K 1, 40, .inl vf0)), (va1, .inl (K 1, 10, .inl vf1))]) (D := D) (K := K) (Qc := fun A => va_Qv (S := ((Nat → Int32) × (Nat → Nat → Int32) × (Nat → Nat → Int64))) (fun _ => True) (chB D A (fun u => [(w, .inr (3, [.ref wa0, .ref wa1, .ref wa2, .int (u.1 0), .int (u.1 1)])), (wa0, .inl (K 1, 1024, .inl (u.2.1 0))), (wa1, .inl (K 1, 4096, .inl (u.2.1 1))), (wa2, .inl (K 1, 10, .inl (u.2.1 2))), (v, .inr (9, [.ref va0, .ref va1, .ref va2, .ref va3, .ref va4, .ref va5, .ref va6, .ref va7, .int vn8, .int vn9, .int vn10, .int vn11])), (va0, .inl (K 1, 40, .inl vf0)), (va1, .inl (K 1, 10, .inl vf1))])) A) (by decide) (Nat.le_of_ble_eq_true rfl) ?_
  intro p e s m below meth c A hC hr hk hin hE hD hA H locs hP hS ls hl
  replace hC : CallFix p m c cX3_prepare 4 s [.ref w, .ref v].toArray wl RX3 := hC
  have hx := hC.1
  have hb := hC.2.1
  have hml := hC.2.2.1
  have hown := hC.2.2.2.1
  have hts := hC.2.2.2.2
  replace hl : lv_has ls 4 [(0, .ref w), (1, .ref v)] := hl
  have kc_0 : (0 : Int32).toInt = 0 := by decide
  have kc_1 : (1 : Int32).toInt = 1 := by decide
  have kc_4 : (4 : Int32).toInt = 4 := by decide
  have kc_10 : (10 : Int32).toInt = 10 := by decide
  have kc_1023 : (1023 : Int32).toInt = 1023 := by decide
  have kc_1024 : (1024 : Int32).toInt = 1024 := by decide
  refine lv_aload_n hx hb dX3_prepare_0 rfl (lv_at hl 0 rfl) ?_
  refine va_get (D := D) (ci := 3) (v := .int wn4) (C := RX3) (T := TX3) (N := 5) hx hb hts in_X3 hown hE.1 hP 0 rfl rfl 4 (by decide) (hts _ w_185) (fun _ h9 => h9) rfl dX3_prepare_1 ?_
  refine lv_if_eq (tgt := 8) hx hb dX3_prepare_4 (by decide) (fun c1283 => ?_) (fun c1283 => ?_)
  · replace c1283 := eq_i c1283
    refine lv_aload_n hx hb dX3_prepare_8 rfl (lv_at hl 0 rfl) ?_
    refine lv_iconst (v := 1) hx hb dX3_prepare_9 (by decide) ?_
    refine va_put (D := D) (ci := 3) (v := .int 1) (ty := .boolean) (C := RX3) (T := TX3) (N := 5) hx hb hts in_X3 tyX3 tyX3_ok nmX3 hown hE.1 hP hD hS 0 rfl rfl 4 (by decide) (hts _ w_185) (fun _ h9 => h9) rfl (by decide +kernel) rfl rfl (Nat.le_of_ble_eq_true rfl) dX3_prepare_10 (fun H locs hP hD hS => ?_)
    replace hP : va_P D vwCl [(w, .inr (3, [.ref wa0, .ref wa1, .ref wa2, .int wn3, .int 1])), (wa0, .inl (K 1, 1024, .inl wf0)), (wa1, .inl (K 1, 4096, .inl wf1)), (wa2, .inl (K 1, 10, .inl wf2)), (v, .inr (9, [.ref va0, .ref va1, .ref va2, .ref va3, .ref va4, .ref va5, .ref va6, .ref va7, .int vn8, .int vn9, .int vn10, .int vn11])), (va0, .inl (K 1, 40, .inl vf0)), (va1, .inl (K 1, 10, .inl vf1))] H := hP
    replace hD : va_D A [(w, .inr (3, [.ref wa0, .ref wa1, .ref wa2, .int wn3, .int 1])), (wa0, .inl (K 1, 1024, .inl wf0)), (wa1, .inl (K 1, 4096, .inl wf1)), (wa2, .inl (K 1, 10, .inl wf2)), (v, .inr (9, [.ref va0, .ref va1, .ref va2, .ref va3, .ref va4, .ref va5, .ref va6, .ref va7, .int vn8, .int vn9, .int vn10, .int vn11])), (va0, .inl (K 1, 40, .inl vf0)), (va1, .inl (K 1, 10, .inl vf1))] := hD
    refine lv_aload_n hx hb dX3_prepare_13 rfl (lv_at hl 0 rfl) ?_
    refine lv_aload_n hx hb dX3_prepare_14 rfl (lv_at hl 1 rfl) ?_
    refine ro_V (As := []) (rest := [.ref w]) hC hE kV_X3_25 (c_X10_all l D K v va0 va1 va2 va3 va4 va5 va6 va7 vn8 vn9 vn10 vn11) (hP.sub (ws' := [(v, .inr (9, [.ref va0, .ref va1, .ref va2, .ref va3, .ref va4, .ref va5, .ref va6, .ref va7, .int vn8, .int vn9, .int vn10, .int vn11]))]) [4] rfl) 0 9 rfl rfl rfl hl.1 rfl (Nat.le_of_ble_eq_true rfl) (by decide) (by decide) dX3_prepare_15 (fun r1284 _ => ?_)
    refine lv_sipush (v := 1023) hx hb dX3_prepare_18 (by decide) ?_
    refine va_mmin hx hb (hml.trans hl.1.symm) hown (hts _ w_186) (hts _ w_142) (hts _ w_143) (hts _ w_144) (by decide) (Nat.le_of_ble_eq_true rfl) (by decide) (by decide) dX3_prepare_21 ?_
    refine lv_topi (fun v1285 ev1285 => ?_)
    have tv1285 := min_i ev1285
    refine va_put (D := D) (ci := 3) (v := .int v1285) (ty := .int) (C := RX3) (T := TX3) (N := 5) hx hb hts in_X3 tyX3 tyX3_ok nmX3 hown hE.1 hP hD hS 0 rfl rfl 3 (by decide) (hts _ w_166) (fun _ h9 => h9) rfl (by decide +kernel) rfl rfl (Nat.le_of_ble_eq_true rfl) dX3_prepare_24 (fun H locs hP hD hS => ?_)
    replace hP : va_P D vwCl [(w, .inr (3, [.ref wa0, .ref wa1, .ref wa2, .int v1285, .int 1])), (wa0, .inl (K 1, 1024, .inl wf0)), (wa1, .inl (K 1, 4096, .inl wf1)), (wa2, .inl (K 1, 10, .inl wf2)), (v, .inr (9, [.ref va0, .ref va1, .ref va2, .ref va3, .ref va4, .ref va5, .ref va6, .ref va7, .int vn8, .int vn9, .int vn10, .int vn11])), (va0, .inl (K 1, 40, .inl vf0)), (va1, .inl (K 1, 10, .inl vf1))] H := hP
    replace hD : va_D A [(w, .inr (3, [.ref wa0, .ref wa1, .ref wa2, .int v1285, .int 1])), (wa0, .inl (K 1, 1024, .inl wf0)), (wa1, .inl (K 1, 4096, .inl wf1)), (wa2, .inl (K 1, 10, .inl wf2)), (v, .inr (9, [.ref va0, .ref va1, .ref va2, .ref va3, .ref va4, .ref va5, .ref va6, .ref va7, .int vn8, .int vn9, .int vn10, .int vn11])), (va0, .inl (K 1, 40, .inl vf0)), (va1, .inl (K 1, 10, .inl vf1))] := hD
    refine lv_iconst (v := 0) hx hb dX3_prepare_27 (by decide) ?_
    refine lv_istore_n (lv' := [(2, .int 0), (0, .ref w), (1, .ref v)]) hx hb dX3_prepare_28 rfl hl (by decide) rfl (fun ls hl => ?_)
    have hl' := hl; have hP' := hP; have hD' := hD; clear hl hP hD
    obtain ⟨i1292, g1293, hi_29, hl, hP, hD⟩ : ∃ (i1292 : Int32) (g1293 : Nat → Int32), ((0 : Int) ≤ i1292.toInt) ∧ lv_has ls 4 [(2, .int i1292), (0, .ref w), (1, .ref v)] ∧ va_P D vwCl [(w, .inr (3, [.ref wa0, .ref wa1, .ref wa2, .int v1285, .int 1])), (wa0, .inl (K 1, 1024, .inl wf0)), (wa1, .inl (K 1, 4096, .inl wf1)), (wa2, .inl (K 1, 10, .inl g1293)), (v, .inr (9, [.ref va0, .ref va1, .ref va2, .ref va3, .ref va4, .ref va5, .ref va6, .ref va7, .int vn8, .int vn9, .int vn10, .int vn11])), (va0, .inl (K 1, 40, .inl vf0)), (va1, .inl (K 1, 10, .inl vf1))] H ∧ va_D A [(w, .inr (3, [.ref wa0, .ref wa1, .ref wa2, .int v1285, .int 1])), (wa0, .inl (K 1, 1024, .inl wf0)), (wa1, .inl (K 1, 4096, .inl wf1)), (wa2, .inl (K 1, 10, .inl g1293)), (v, .inr (9, [.ref va0, .ref va1, .ref va2, .ref va3, .ref va4, .ref va5, .ref va6, .ref va7, .int vn8, .int vn9, .int vn10, .int vn11])), (va0, .inl (K 1, 40, .inl vf0)), (va1, .inl (K 1, 10, .inl vf1))] := ⟨_, _, by omega, hl', hP', hD'⟩
    clear hl' hP' hD'
    obtain ⟨n_29, hn_29⟩ : ∃ n : Nat, (10 - i1292.toInt).toNat < n := ⟨_, Nat.lt_succ_self _⟩
    induction n_29 generalizing i1292 g1293 H locs ls with
    | zero => exact absurd hn_29 (Nat.not_lt_zero _)
    | succ n_29 ih_29 =>
      refine lv_iload_n hx hb dX3_prepare_29 rfl (lv_at hl 0 rfl) ?_
      refine lv_bipush (v := 10) hx hb dX3_prepare_30 (by decide) ?_
      refine lv_icmp_ge (tgt := 60) hx hb dX3_prepare_32 (by decide) (fun c1294 => ?_) (fun c1294 => ?_)
      · replace c1294 := le_i c1294
        refine lv_iconst (v := 0) hx hb dX3_prepare_60 (by decide) ?_
        refine lv_istore_n (lv' := [(2, .int 0), (0, .ref w), (1, .ref v)]) hx hb dX3_prepare_61 rfl hl (by decide) rfl (fun ls hl => ?_)
        have hl' := hl; have hP' := hP; have hD' := hD; clear hl hP hD
        obtain ⟨i1317, g1318, g1319, hi_62, hl, hP, hD⟩ : ∃ (i1317 : Int32) (g1318 : Nat → Int32) (g1319 : Nat → Int32), ((0 : Int) ≤ i1317.toInt) ∧ lv_has ls 4 [(2, .int i1317), (0, .ref w), (1, .ref v)] ∧ va_P D vwCl [(w, .inr (3, [.ref wa0, .ref wa1, .ref wa2, .int v1285, .int 1])), (wa0, .inl (K 1, 1024, .inl g1318)), (wa1, .inl (K 1, 4096, .inl g1319)), (wa2, .inl (K 1, 10, .inl g1293)), (v, .inr (9, [.ref va0, .ref va1, .ref va2, .ref va3, .ref va4, .ref va5, .ref va6, .ref va7, .int vn8, .int vn9, .int vn10, .int vn11])), (va0, .inl (K 1, 40, .inl vf0)), (va1, .inl (K 1, 10, .inl vf1))] H ∧ va_D A [(w, .inr (3, [.ref wa0, .ref wa1, .ref wa2, .int v1285, .int 1])), (wa0, .inl (K 1, 1024, .inl g1318)), (wa1, .inl (K 1, 4096, .inl g1319)), (wa2, .inl (K 1, 10, .inl g1293)), (v, .inr (9, [.ref va0, .ref va1, .ref va2, .ref va3, .ref va4, .ref va5, .ref va6, .ref va7, .int vn8, .int vn9, .int vn10, .int vn11])), (va0, .inl (K 1, 40, .inl vf0)), (va1, .inl (K 1, 10, .inl vf1))] := ⟨_, _, _, by omega, hl', hP', hD'⟩
        clear hl' hP' hD'
        obtain ⟨n_62, hn_62⟩ : ∃ n : Nat, (v1285.toInt + 1 - i1317.toInt).toNat < n := ⟨_, Nat.lt_succ_self _⟩
        induction n_62 generalizing i1317 g1318 g1319 H locs ls with
        | zero => exact absurd hn_62 (Nat.not_lt_zero _)
        | succ n_62 ih_62 =>
          refine lv_iload_n hx hb dX3_prepare_62 rfl (lv_at hl 0 rfl) ?_
          refine lv_aload_n hx hb dX3_prepare_63 rfl (lv_at hl 1 rfl) ?_
          refine va_get (D := D) (ci := 3) (v := .int v1285) (C := RX3) (T := TX3) (N := 5) hx hb hts in_X3 hown hE.1 hP 0 rfl rfl 3 (by decide) (hts _ w_166) (fun _ h9 => h9) rfl dX3_prepare_64 ?_
          refine lv_icmp_gt (tgt := 124) hx hb dX3_prepare_67 (by decide) (fun c1320 => ?_) (fun c1320 => ?_)
          · replace c1320 := lt_i c1320
            refine lv_iconst (v := 1) hx hb dX3_prepare_124 (by decide) ?_
            refine lv_istore_n (lv' := [(2, .int 1), (0, .ref w), (1, .ref v)]) hx hb dX3_prepare_125 rfl hl (by decide) rfl (fun ls hl => ?_)
            refine lv_iconst (v := 1) hx hb dX3_prepare_126 (by decide) ?_
            refine lv_istore_n (lv' := [(3, .int 1), (2, .int 1), (0, .ref w), (1, .ref v)]) hx hb dX3_prepare_127 rfl hl (by decide) rfl (fun ls hl => ?_)
            have hl' := hl; have hP' := hP; have hD' := hD; clear hl hP hD
            obtain ⟨i1329, i1330, g1331, hi_128, hl, hP, hD⟩ : ∃ (i1329 : Int32) (i1330 : Int32) (g1331 : Nat → Int32), ((0 : Int) ≤ i1329.toInt) ∧ lv_has ls 4 [(3, .int i1329), (2, .int i1330), (0, .ref w), (1, .ref v)] ∧ va_P D vwCl [(w, .inr (3, [.ref wa0, .ref wa1, .ref wa2, .int v1285, .int 1])), (wa0, .inl (K 1, 1024, .inl g1331)), (wa1, .inl (K 1, 4096, .inl g1319)), (wa2, .inl (K 1, 10, .inl g1293)), (v, .inr (9, [.ref va0, .ref va1, .ref va2, .ref va3, .ref va4, .ref va5, .ref va6, .ref va7, .int vn8, .int vn9, .int vn10, .int vn11])), (va0, .inl (K 1, 40, .inl vf0)), (va1, .inl (K 1, 10, .inl vf1))] H ∧ va_D A [(w, .inr (3, [.ref wa0, .ref wa1, .ref wa2, .int v1285, .int 1])), (wa0, .inl (K 1, 1024, .inl g1331)), (wa1, .inl (K 1, 4096, .inl g1319)), (wa2, .inl (K 1, 10, .inl g1293)), (v, .inr (9, [.ref va0, .ref va1, .ref va2, .ref va3, .ref va4, .ref va5, .ref va6, .ref va7, .int vn8, .int vn9, .int vn10, .int vn11])), (va0, .inl (K 1, 40, .inl vf0)), (va1, .inl (K 1, 10, .inl vf1))] := ⟨_, _, _, by omega, hl', hP', hD'⟩
            clear hl' hP' hD'
            obtain ⟨n_128, hn_128⟩ : ∃ n : Nat, (1025 - i1329.toInt).toNat < n := ⟨_, Nat.lt_succ_self _⟩
            induction n_128 generalizing i1329 i1330 g1331 H locs ls with
            | zero => exact absurd hn_128 (Nat.not_lt_zero _)
            | succ n_128 ih_128 =>
              refine lv_iload_n hx hb dX3_prepare_128 rfl (lv_at hl 0 rfl) ?_
              refine lv_sipush (v := 1024) hx hb dX3_prepare_129 (by decide) ?_
              refine lv_icmp_gt (tgt := 151) hx hb dX3_prepare_132 (by decide) (fun c1332 => ?_) (fun c1332 => ?_)
              · replace c1332 := lt_i c1332
                refine W.widen (k := 0) (n := 0) (by decide) (by decide) ?_
                exact ch_vret hC hr hk hS dX3_prepare_151 ((fun k => [v1285, 1].getD k 0, fun k => [g1331, g1319, g1293].getD k (fun _ => 0), fun k => [].getD k (fun _ => 0)) : ((Nat → Int32) × (Nat → Nat → Int32) × (Nat → Nat → Int64))) trivial (hP.sub [0, 1, 2, 3, 4, 5, 6] rfl) (hD.sub [0, 1, 2, 3, 4, 5, 6] (by decide) rfl)
              · replace c1332 := nlt_i c1332
                refine lv_iload_n hx hb dX3_prepare_135 rfl (lv_at hl 1 rfl) ?_
                refine lv_if_eq (tgt := 151) hx hb dX3_prepare_136 (by decide) (fun c1333 => ?_) (fun c1333 => ?_)
                · replace c1333 := eq_i c1333
                  refine W.widen (k := 0) (n := 0) (by decide) (by decide) ?_
                  exact ch_vret hC hr hk hS dX3_prepare_151 ((fun k => [v1285, 1].getD k 0, fun k => [g1331, g1319, g1293].getD k (fun _ => 0), fun k => [].getD k (fun _ => 0)) : ((Nat → Int32) × (Nat → Nat → Int32) × (Nat → Nat → Int64))) trivial (hP.sub [0, 1, 2, 3, 4, 5, 6] rfl) (hD.sub [0, 1, 2, 3, 4, 5, 6] (by decide) rfl)
                · replace c1333 := ne_i c1333
                  refine lv_aload_n hx hb dX3_prepare_139 rfl (lv_at hl 2 rfl) ?_
                  refine lv_iload_n hx hb dX3_prepare_140 rfl (lv_at hl 0 rfl) ?_
                  refine ci_V (As := [.int i1329]) (rest := []) (wc := [(w, .inr (3, [.ref wa0, .ref wa1, .ref wa2, .int v1285, .int 1])), (wa0, .inl (K 1, 1024, .inl g1331)), (wa1, .inl (K 1, 4096, .inl g1319)), (wa2, .inl (K 1, 10, .inl g1293))]) (wr := [(v, .inr (9, [.ref va0, .ref va1, .ref va2, .ref va3, .ref va4, .ref va5, .ref va6, .ref va7, .int vn8, .int vn9, .int vn10, .int vn11])), (va0, .inl (K 1, 40, .inl vf0)), (va1, .inl (K 1, 10, .inl vf1))]) hC hE kV_X3_55 (c_X3_settle l D K w wa0 wa1 wa2 v1285 1 g1331 g1319 g1293 i1329) hP hD hS hA [0, 1, 2, 3] [4, 5, 6] rfl rfl rfl (by decide) (by decide) (by decide) 0 3 rfl rfl rfl hl.1 rfl (Nat.le_of_ble_eq_true rfl) (by decide) (by decide) dX3_prepare_141 (fun r1335 u1334 H locs hw hP hD hS => ?_)
                  replace hP : va_P D vwCl [(v, .inr (9, [.ref va0, .ref va1, .ref va2, .ref va3, .ref va4, .ref va5, .ref va6, .ref va7, .int vn8, .int vn9, .int vn10, .int vn11])), (va0, .inl (K 1, 40, .inl vf0)), (va1, .inl (K 1, 10, .inl vf1)), (w, .inr (3, [.ref wa0, .ref wa1, .ref wa2, .int v1285, .int 1])), (wa0, .inl (K 1, 1024, .inl (u1334.2.1 0))), (wa1, .inl (K 1, 4096, .inl g1319)), (wa2, .inl (K 1, 10, .inl g1293))] H := hP
                  replace hD : va_D A [(v, .inr (9, [.ref va0, .ref va1, .ref va2, .ref va3, .ref va4, .ref va5, .ref va6, .ref va7, .int vn8, .int vn9, .int vn10, .int vn11])), (va0, .inl (K 1, 40, .inl vf0)), (va1, .inl (K 1, 10, .inl vf1)), (w, .inr (3, [.ref wa0, .ref wa1, .ref wa2, .int v1285, .int 1])), (wa0, .inl (K 1, 1024, .inl (u1334.2.1 0))), (wa1, .inl (K 1, 4096, .inl g1319)), (wa2, .inl (K 1, 10, .inl g1293))] := hD
                  replace hP : va_P D vwCl [(w, .inr (3, [.ref wa0, .ref wa1, .ref wa2, .int v1285, .int 1])), (wa0, .inl (K 1, 1024, .inl (u1334.2.1 0))), (wa1, .inl (K 1, 4096, .inl g1319)), (wa2, .inl (K 1, 10, .inl g1293)), (v, .inr (9, [.ref va0, .ref va1, .ref va2, .ref va3, .ref va4, .ref va5, .ref va6, .ref va7, .int vn8, .int vn9, .int vn10, .int vn11])), (va0, .inl (K 1, 40, .inl vf0)), (va1, .inl (K 1, 10, .inl vf1))] H := hP.sub [3, 4, 5, 6, 0, 1, 2] rfl
                  replace hD : va_D A [(w, .inr (3, [.ref wa0, .ref wa1, .ref wa2, .int v1285, .int 1])), (wa0, .inl (K 1, 1024, .inl (u1334.2.1 0))), (wa1, .inl (K 1, 4096, .inl g1319)), (wa2, .inl (K 1, 10, .inl g1293)), (v, .inr (9, [.ref va0, .ref va1, .ref va2, .ref va3, .ref va4, .ref va5, .ref va6, .ref va7, .int vn8, .int vn9, .int vn10, .int vn11])), (va0, .inl (K 1, 40, .inl vf0)), (va1, .inl (K 1, 10, .inl vf1))] := hD.sub [3, 4, 5, 6, 0, 1, 2] (by decide) rfl
                  refine W.widen (k := 0) (n := 0) (by decide) (by decide) ?_
                  rcases hw with rfl | rfl
                  · refine lv_istore_n (lv' := [(2, .int 0), (3, .int i1329), (0, .ref w), (1, .ref v)]) hx hb dX3_prepare_144 rfl hl (by decide) rfl (fun ls hl => ?_)
                    obtain ⟨v1336, ev1336⟩ : ∃ z : Int32, z = i1329 + 1 := ⟨_, rfl⟩
                    refine lv_iinc (v := v1336) (lv' := [(3, .int v1336), (2, .int 0), (0, .ref w), (1, .ref v)]) hx hb dX3_prepare_145 hl (k := 1) rfl (by rw [ev1336]; rfl) (by decide) rfl (fun ls hl => ?_)
                    refine lv_goto (tgt := 128) hx hb dX3_prepare_148 (by decide) ?_
                    have tv1336 : v1336.toInt = (i1329 : Int32).toInt + (1 : Int32).toInt := add_i ev1336 (by omega) (by omega)
                    exact ih_128 (i1329 := v1336) (i1330 := 0) (g1331 := (u1334.2.1 0)) (hi_128 := by omega) (H := H) (locs := locs) (ls := ls) (hn_128 := by omega) (hP := hP) (hD := hD) (hS := hS) (hl := lv_sub hl [0, 1, 2, 3] rfl)
                  · refine lv_istore_n (lv' := [(2, .int 1), (3, .int i1329), (0, .ref w), (1, .ref v)]) hx hb dX3_prepare_144 rfl hl (by decide) rfl (fun ls hl => ?_)
                    obtain ⟨v1337, ev1337⟩ : ∃ z : Int32, z = i1329 + 1 := ⟨_, rfl⟩
                    refine lv_iinc (v := v1337) (lv' := [(3, .int v1337), (2, .int 1), (0, .ref w), (1, .ref v)]) hx hb dX3_prepare_145 hl (k := 1) rfl (by rw [ev1337]; rfl) (by decide) rfl (fun ls hl => ?_)
                    refine lv_goto (tgt := 128) hx hb dX3_prepare_148 (by decide) ?_
                    have tv1337 : v1337.toInt = (i1329 : Int32).toInt + (1 : Int32).toInt := add_i ev1337 (by omega) (by omega)
                    exact ih_128 (i1329 := v1337) (i1330 := 1) (g1331 := (u1334.2.1 0)) (hi_128 := by omega) (H := H) (locs := locs) (ls := ls) (hn_128 := by omega) (hP := hP) (hD := hD) (hS := hS) (hl := lv_sub hl [0, 1, 2, 3] rfl)
          · replace c1320 := nlt_i c1320
            refine lv_aload_n hx hb dX3_prepare_70 rfl (lv_at hl 1 rfl) ?_
            refine va_get (D := D) (ci := 3) (v := .ref wa0) (C := RX3) (T := TX3) (N := 5) hx hb hts in_X3 hown hE.1 hP 0 rfl rfl 0 (by decide) (hts _ w_167) (fun _ h9 => h9) rfl dX3_prepare_71 ?_
            refine lv_iload_n hx hb dX3_prepare_74 rfl (lv_at hl 0 rfl) ?_
            refine lv_iload_n hx hb dX3_prepare_75 rfl (lv_at hl 0 rfl) ?_
            refine ro_S (As := [.int i1317]) (rest := [.int i1317, .ref wa0]) hC hE kS_X3_47 (c_J6_bitCount_0f7a4 l D K i1317) (hP.sub (ws' := []) [] rfl) rfl hl.1 rfl (Nat.le_of_ble_eq_true rfl) (by decide) (by decide) dX3_prepare_76 (fun r1338 _ => ?_)
            refine lv_iconst (v := 1) hx hb dX3_prepare_79 (by decide) ?_
            refine lv_icmp_ne (tgt := 87) hx hb dX3_prepare_80 (by decide) (fun c1339 => ?_) (fun c1339 => ?_)
            · replace c1339 := ne_i c1339
              refine lv_iconst (v := (-1)) hx hb dX3_prepare_87 (by decide) ?_
              refine sti hx hb hE.1 hP hD hS 1 1 rfl rfl (vp_in_iff.mpr (by omega)) dX3_prepare_88 (fun g1340 eg1340 H locs hP hD hS => ?_)
              replace hP : va_P D vwCl [(w, .inr (3, [.ref wa0, .ref wa1, .ref wa2, .int v1285, .int 1])), (wa0, .inl (K 1, 1024, .inl g1340)), (wa1, .inl (K 1, 4096, .inl g1319)), (wa2, .inl (K 1, 10, .inl g1293)), (v, .inr (9, [.ref va0, .ref va1, .ref va2, .ref va3, .ref va4, .ref va5, .ref va6, .ref va7, .int vn8, .int vn9, .int vn10, .int vn11])), (va0, .inl (K 1, 40, .inl vf0)), (va1, .inl (K 1, 10, .inl vf1))] H := hP
              replace hD : va_D A [(w, .inr (3, [.ref wa0, .ref wa1, .ref wa2, .int v1285, .int 1])), (wa0, .inl (K 1, 1024, .inl g1340)), (wa1, .inl (K 1, 4096, .inl g1319)), (wa2, .inl (K 1, 10, .inl g1293)), (v, .inr (9, [.ref va0, .ref va1, .ref va2, .ref va3, .ref va4, .ref va5, .ref va6, .ref va7, .int vn8, .int vn9, .int vn10, .int vn11])), (va0, .inl (K 1, 40, .inl vf0)), (va1, .inl (K 1, 10, .inl vf1))] := hD
              refine lv_iconst (v := 0) hx hb dX3_prepare_89 (by decide) ?_
              refine lv_istore_n (lv' := [(3, .int 0), (2, .int i1317), (0, .ref w), (1, .ref v)]) hx hb dX3_prepare_90 rfl hl (by decide) rfl (fun ls hl => ?_)
              have hl' := hl; have hP' := hP; have hD' := hD; clear hl hP hD
              obtain ⟨i1348, g1349, hi_91, hl, hP, hD⟩ : ∃ (i1348 : Int32) (g1349 : Nat → Int32), ((0 : Int) ≤ i1348.toInt) ∧ lv_has ls 4 [(3, .int i1348), (2, .int i1317), (0, .ref w), (1, .ref v)] ∧ va_P D vwCl [(w, .inr (3, [.ref wa0, .ref wa1, .ref wa2, .int v1285, .int 1])), (wa0, .inl (K 1, 1024, .inl g1340)), (wa1, .inl (K 1, 4096, .inl g1349)), (wa2, .inl (K 1, 10, .inl g1293)), (v, .inr (9, [.ref va0, .ref va1, .ref va2, .ref va3, .ref va4, .ref va5, .ref va6, .ref va7, .int vn8, .int vn9, .int vn10, .int vn11])), (va0, .inl (K 1, 40, .inl vf0)), (va1, .inl (K 1, 10, .inl vf1))] H ∧ va_D A [(w, .inr (3, [.ref wa0, .ref wa1, .ref wa2, .int v1285, .int 1])), (wa0, .inl (K 1, 1024, .inl g1340)), (wa1, .inl (K 1, 4096, .inl g1349)), (wa2, .inl (K 1, 10, .inl g1293)), (v, .inr (9, [.ref va0, .ref va1, .ref va2, .ref va3, .ref va4, .ref va5, .ref va6, .ref va7, .int vn8, .int vn9, .int vn10, .int vn11])), (va0, .inl (K 1, 40, .inl vf0)), (va1, .inl (K 1, 10, .inl vf1))] := ⟨_, _, by omega, hl', hP', hD'⟩
              clear hl' hP' hD'
              obtain ⟨n_91, hn_91⟩ : ∃ n : Nat, (4 - i1348.toInt).toNat < n := ⟨_, Nat.lt_succ_self _⟩
              induction n_91 generalizing i1348 g1349 H locs ls with
              | zero => exact absurd hn_91 (Nat.not_lt_zero _)
              | succ n_91 ih_91 =>
                refine lv_iload_n hx hb dX3_prepare_91 rfl (lv_at hl 0 rfl) ?_
                refine lv_iconst (v := 4) hx hb dX3_prepare_92 (by decide) ?_
                refine lv_icmp_ge (tgt := 118) hx hb dX3_prepare_93 (by decide) (fun c1350 => ?_) (fun c1350 => ?_)
                · replace c1350 := le_i c1350
                  obtain ⟨v1351, ev1351⟩ : ∃ z : Int32, z = i1317 + 1 := ⟨_, rfl⟩
                  refine lv_iinc (v := v1351) (lv' := [(2, .int v1351), (3, .int i1348), (0, .ref w), (1, .ref v)]) hx hb dX3_prepare_118 hl (k := 1) rfl (by rw [ev1351]; rfl) (by decide) rfl (fun ls hl => ?_)
                  refine lv_goto (tgt := 62) hx hb dX3_prepare_121 (by decide) ?_
                  have tv1351 : v1351.toInt = (i1317 : Int32).toInt + (1 : Int32).toInt := add_i ev1351 (by omega) (by omega)
                  exact ih_62 (i1317 := v1351) (g1318 := g1340) (g1319 := g1349) (hi_62 := by omega) (H := H) (locs := locs) (ls := ls) (hn_62 := by omega) (hP := hP) (hD := hD) (hS := hS) (hl := lv_sub hl [0, 2, 3] rfl)
                · replace c1350 := nle_i c1350
                  refine lv_aload_n hx hb dX3_prepare_96 rfl (lv_at hl 2 rfl) ?_
                  refine va_get (D := D) (ci := 3) (v := .ref wa1) (C := RX3) (T := TX3) (N := 5) hx hb hts in_X3 hown hE.1 hP 0 rfl rfl 1 (by decide) (hts _ w_171) (fun _ h9 => h9) rfl dX3_prepare_97 ?_
                  refine lv_iload_n hx hb dX3_prepare_100 rfl (lv_at hl 1 rfl) ?_
                  refine lv_iconst (v := 4) hx hb dX3_prepare_101 (by decide) ?_
                  refine lv_imul hx hb dX3_prepare_102 ?_
                  refine lv_topi (fun v1352 ev1352 => ?_)
                  refine lv_iload_n hx hb dX3_prepare_103 rfl (lv_at hl 0 rfl) ?_
                  refine lv_iadd hx hb dX3_prepare_104 ?_
                  refine lv_topi (fun v1353 ev1353 => ?_)
                  refine lv_aload_n hx hb dX3_prepare_105 rfl (lv_at hl 3 rfl) ?_
                  refine lv_iload_n hx hb dX3_prepare_106 rfl (lv_at hl 1 rfl) ?_
                  refine lv_iload_n hx hb dX3_prepare_107 rfl (lv_at hl 0 rfl) ?_
                  refine ro_V (As := [.int i1317, .int i1348]) (rest := [.int v1353, .ref wa1]) hC hE kV_X3_52 (c_X10_spread l D K v va0 va1 va2 va3 va4 va5 va6 va7 vn8 vn9 vn10 vn11 vf0 i1317 i1348) (hP.sub (ws' := [(v, .inr (9, [.ref va0, .ref va1, .ref va2, .ref va3, .ref va4, .ref va5, .ref va6, .ref va7, .int vn8, .int vn9, .int vn10, .int vn11])), (va0, .inl (K 1, 40, .inl vf0))]) [4, 5] rfl) 0 9 rfl rfl rfl hl.1 rfl (Nat.le_of_ble_eq_true rfl) (by decide) (by decide) dX3_prepare_108 (fun r1354 _ => ?_)
                  have tv1352 : v1352.toInt = i1317.toInt * 4 := mul_i ev1352 rfl (by decide) (by omega) (by omega)
                  have tv1353 : v1353.toInt = (v1352 : Int32).toInt + (i1348 : Int32).toInt := add_i ev1353 (by omega) (by omega)
                  refine sti hx hb hE.1 hP hD hS 2 1 rfl rfl (vp_in_iff.mpr (by omega)) dX3_prepare_111 (fun g1355 eg1355 H locs hP hD hS => ?_)
                  replace hP : va_P D vwCl [(w, .inr (3, [.ref wa0, .ref wa1, .ref wa2, .int v1285, .int 1])), (wa0, .inl (K 1, 1024, .inl g1340)), (wa1, .inl (K 1, 4096, .inl g1355)), (wa2, .inl (K 1, 10, .inl g1293)), (v, .inr (9, [.ref va0, .ref va1, .ref va2, .ref va3, .ref va4, .ref va5, .ref va6, .ref va7, .int vn8, .int vn9, .int vn10, .int vn11])), (va0, .inl (K 1, 40, .inl vf0)), (va1, .inl (K 1, 10, .inl vf1))] H := hP
                  replace hD : va_D A [(w, .inr (3, [.ref wa0, .ref wa1, .ref wa2, .int v1285, .int 1])), (wa0, .inl (K 1, 1024, .inl g1340)), (wa1, .inl (K 1, 4096, .inl g1355)), (wa2, .inl (K 1, 10, .inl g1293)), (v, .inr (9, [.ref va0, .ref va1, .ref va2, .ref va3, .ref va4, .ref va5, .ref va6, .ref va7, .int vn8, .int vn9, .int vn10, .int vn11])), (va0, .inl (K 1, 40, .inl vf0)), (va1, .inl (K 1, 10, .inl vf1))] := hD
                  obtain ⟨v1356, ev1356⟩ : ∃ z : Int32, z = i1348 + 1 := ⟨_, rfl⟩
                  refine lv_iinc (v := v1356) (lv' := [(3, .int v1356), (2, .int i1317), (0, .ref w), (1, .ref v)]) hx hb dX3_prepare_112 hl (k := 0) rfl (by rw [ev1356]; rfl) (by decide) rfl (fun ls hl => ?_)
                  refine lv_goto (tgt := 91) hx hb dX3_prepare_115 (by decide) ?_
                  have tv1356 : v1356.toInt = (i1348 : Int32).toInt + (1 : Int32).toInt := add_i ev1356 (by omega) (by omega)
                  exact ih_91 (i1348 := v1356) (g1349 := g1355) (hi_91 := by omega) (H := H) (locs := locs) (ls := ls) (hn_91 := by omega) (hP := hP) (hD := hD) (hS := hS) (hl := lv_sub hl [0, 1, 2, 3] rfl)
            · replace c1339 := eq_i c1339
              refine lv_iconst (v := 0) hx hb dX3_prepare_83 (by decide) ?_
              refine lv_goto (tgt := 88) hx hb dX3_prepare_84 (by decide) ?_
              refine sti hx hb hE.1 hP hD hS 1 1 rfl rfl (vp_in_iff.mpr (by omega)) dX3_prepare_88 (fun g1357 eg1357 H locs hP hD hS => ?_)
              replace hP : va_P D vwCl [(w, .inr (3, [.ref wa0, .ref wa1, .ref wa2, .int v1285, .int 1])), (wa0, .inl (K 1, 1024, .inl g1357)), (wa1, .inl (K 1, 4096, .inl g1319)), (wa2, .inl (K 1, 10, .inl g1293)), (v, .inr (9, [.ref va0, .ref va1, .ref va2, .ref va3, .ref va4, .ref va5, .ref va6, .ref va7, .int vn8, .int vn9, .int vn10, .int vn11])), (va0, .inl (K 1, 40, .inl vf0)), (va1, .inl (K 1, 10, .inl vf1))] H := hP
              replace hD : va_D A [(w, .inr (3, [.ref wa0, .ref wa1, .ref wa2, .int v1285, .int 1])), (wa0, .inl (K 1, 1024, .inl g1357)), (wa1, .inl (K 1, 4096, .inl g1319)), (wa2, .inl (K 1, 10, .inl g1293)), (v, .inr (9, [.ref va0, .ref va1, .ref va2, .ref va3, .ref va4, .ref va5, .ref va6, .ref va7, .int vn8, .int vn9, .int vn10, .int vn11])), (va0, .inl (K 1, 40, .inl vf0)), (va1, .inl (K 1, 10, .inl vf1))] := hD
              refine lv_iconst (v := 0) hx hb dX3_prepare_89 (by decide) ?_
              refine lv_istore_n (lv' := [(3, .int 0), (2, .int i1317), (0, .ref w), (1, .ref v)]) hx hb dX3_prepare_90 rfl hl (by decide) rfl (fun ls hl => ?_)
              have hl' := hl; have hP' := hP; have hD' := hD; clear hl hP hD
              obtain ⟨i1365, g1366, hi_91, hl, hP, hD⟩ : ∃ (i1365 : Int32) (g1366 : Nat → Int32), ((0 : Int) ≤ i1365.toInt) ∧ lv_has ls 4 [(3, .int i1365), (2, .int i1317), (0, .ref w), (1, .ref v)] ∧ va_P D vwCl [(w, .inr (3, [.ref wa0, .ref wa1, .ref wa2, .int v1285, .int 1])), (wa0, .inl (K 1, 1024, .inl g1357)), (wa1, .inl (K 1, 4096, .inl g1366)), (wa2, .inl (K 1, 10, .inl g1293)), (v, .inr (9, [.ref va0, .ref va1, .ref va2, .ref va3, .ref va4, .ref va5, .ref va6, .ref va7, .int vn8, .int vn9, .int vn10, .int vn11])), (va0, .inl (K 1, 40, .inl vf0)), (va1, .inl (K 1, 10, .inl vf1))] H ∧ va_D A [(w, .inr (3, [.ref wa0, .ref wa1, .ref wa2, .int v1285, .int 1])), (wa0, .inl (K 1, 1024, .inl g1357)), (wa1, .inl (K 1, 4096, .inl g1366)), (wa2, .inl (K 1, 10, .inl g1293)), (v, .inr (9, [.ref va0, .ref va1, .ref va2, .ref va3, .ref va4, .ref va5, .ref va6, .ref va7, .int vn8, .int vn9, .int vn10, .int vn11])), (va0, .inl (K 1, 40, .inl vf0)), (va1, .inl (K 1, 10, .inl vf1))] := ⟨_, _, by omega, hl', hP', hD'⟩
              clear hl' hP' hD'
              obtain ⟨n_91, hn_91⟩ : ∃ n : Nat, (4 - i1365.toInt).toNat < n := ⟨_, Nat.lt_succ_self _⟩
              induction n_91 generalizing i1365 g1366 H locs ls with
              | zero => exact absurd hn_91 (Nat.not_lt_zero _)
              | succ n_91 ih_91 =>
                refine lv_iload_n hx hb dX3_prepare_91 rfl (lv_at hl 0 rfl) ?_
                refine lv_iconst (v := 4) hx hb dX3_prepare_92 (by decide) ?_
                refine lv_icmp_ge (tgt := 118) hx hb dX3_prepare_93 (by decide) (fun c1367 => ?_) (fun c1367 => ?_)
                · replace c1367 := le_i c1367
                  obtain ⟨v1368, ev1368⟩ : ∃ z : Int32, z = i1317 + 1 := ⟨_, rfl⟩
                  refine lv_iinc (v := v1368) (lv' := [(2, .int v1368), (3, .int i1365), (0, .ref w), (1, .ref v)]) hx hb dX3_prepare_118 hl (k := 1) rfl (by rw [ev1368]; rfl) (by decide) rfl (fun ls hl => ?_)
                  refine lv_goto (tgt := 62) hx hb dX3_prepare_121 (by decide) ?_
                  have tv1368 : v1368.toInt = (i1317 : Int32).toInt + (1 : Int32).toInt := add_i ev1368 (by omega) (by omega)
                  exact ih_62 (i1317 := v1368) (g1318 := g1357) (g1319 := g1366) (hi_62 := by omega) (H := H) (locs := locs) (ls := ls) (hn_62 := by omega) (hP := hP) (hD := hD) (hS := hS) (hl := lv_sub hl [0, 2, 3] rfl)
                · replace c1367 := nle_i c1367
                  refine lv_aload_n hx hb dX3_prepare_96 rfl (lv_at hl 2 rfl) ?_
                  refine va_get (D := D) (ci := 3) (v := .ref wa1) (C := RX3) (T := TX3) (N := 5) hx hb hts in_X3 hown hE.1 hP 0 rfl rfl 1 (by decide) (hts _ w_171) (fun _ h9 => h9) rfl dX3_prepare_97 ?_
                  refine lv_iload_n hx hb dX3_prepare_100 rfl (lv_at hl 1 rfl) ?_
                  refine lv_iconst (v := 4) hx hb dX3_prepare_101 (by decide) ?_
                  refine lv_imul hx hb dX3_prepare_102 ?_
                  refine lv_topi (fun v1369 ev1369 => ?_)
                  refine lv_iload_n hx hb dX3_prepare_103 rfl (lv_at hl 0 rfl) ?_
                  refine lv_iadd hx hb dX3_prepare_104 ?_
                  refine lv_topi (fun v1370 ev1370 => ?_)
                  refine lv_aload_n hx hb dX3_prepare_105 rfl (lv_at hl 3 rfl) ?_
                  refine lv_iload_n hx hb dX3_prepare_106 rfl (lv_at hl 1 rfl) ?_
                  refine lv_iload_n hx hb dX3_prepare_107 rfl (lv_at hl 0 rfl) ?_
                  refine ro_V (As := [.int i1317, .int i1365]) (rest := [.int v1370, .ref wa1]) hC hE kV_X3_52 (c_X10_spread l D K v va0 va1 va2 va3 va4 va5 va6 va7 vn8 vn9 vn10 vn11 vf0 i1317 i1365) (hP.sub (ws' := [(v, .inr (9, [.ref va0, .ref va1, .ref va2, .ref va3, .ref va4, .ref va5, .ref va6, .ref va7, .int vn8, .int vn9, .int vn10, .int vn11])), (va0, .inl (K 1, 40, .inl vf0))]) [4, 5] rfl) 0 9 rfl rfl rfl hl.1 rfl (Nat.le_of_ble_eq_true rfl) (by decide) (by decide) dX3_prepare_108 (fun r1371 _ => ?_)
                  have tv1369 : v1369.toInt = i1317.toInt * 4 := mul_i ev1369 rfl (by decide) (by omega) (by omega)
                  have tv1370 : v1370.toInt = (v1369 : Int32).toInt + (i1365 : Int32).toInt := add_i ev1370 (by omega) (by omega)
                  refine sti hx hb hE.1 hP hD hS 2 1 rfl rfl (vp_in_iff.mpr (by omega)) dX3_prepare_111 (fun g1372 eg1372 H locs hP hD hS => ?_)
                  replace hP : va_P D vwCl [(w, .inr (3, [.ref wa0, .ref wa1, .ref wa2, .int v1285, .int 1])), (wa0, .inl (K 1, 1024, .inl g1357)), (wa1, .inl (K 1, 4096, .inl g1372)), (wa2, .inl (K 1, 10, .inl g1293)), (v, .inr (9, [.ref va0, .ref va1, .ref va2, .ref va3, .ref va4, .ref va5, .ref va6, .ref va7, .int vn8, .int vn9, .int vn10, .int vn11])), (va0, .inl (K 1, 40, .inl vf0)), (va1, .inl (K 1, 10, .inl vf1))] H := hP
                  replace hD : va_D A [(w, .inr (3, [.ref wa0, .ref wa1, .ref wa2, .int v1285, .int 1])), (wa0, .inl (K 1, 1024, .inl g1357)), (wa1, .inl (K 1, 4096, .inl g1372)), (wa2, .inl (K 1, 10, .inl g1293)), (v, .inr (9, [.ref va0, .ref va1, .ref va2, .ref va3, .ref va4, .ref va5, .ref va6, .ref va7, .int vn8, .int vn9, .int vn10, .int vn11])), (va0, .inl (K 1, 40, .inl vf0)), (va1, .inl (K 1, 10, .inl vf1))] := hD
                  obtain ⟨v1373, ev1373⟩ : ∃ z : Int32, z = i1365 + 1 := ⟨_, rfl⟩
                  refine lv_iinc (v := v1373) (lv' := [(3, .int v1373), (2, .int i1317), (0, .ref w), (1, .ref v)]) hx hb dX3_prepare_112 hl (k := 0) rfl (by rw [ev1373]; rfl) (by decide) rfl (fun ls hl => ?_)
                  refine lv_goto (tgt := 91) hx hb dX3_prepare_115 (by decide) ?_
                  have tv1373 : v1373.toInt = (i1365 : Int32).toInt + (1 : Int32).toInt := add_i ev1373 (by omega) (by omega)
                  exact ih_91 (i1365 := v1373) (g1366 := g1372) (hi_91 := by omega) (H := H) (locs := locs) (ls := ls) (hn_91 := by omega) (hP := hP) (hD := hD) (hS := hS) (hl := lv_sub hl [0, 1, 2, 3] rfl)
      · replace c1294 := nle_i c1294
        refine lv_aload_n hx hb dX3_prepare_35 rfl (lv_at hl 1 rfl) ?_
        refine va_get (D := D) (ci := 3) (v := .ref wa2) (C := RX3) (T := TX3) (N := 5) hx hb hts in_X3 hown hE.1 hP 0 rfl rfl 2 (by decide) (hts _ w_165) (fun _ h9 => h9) rfl dX3_prepare_36 ?_
        refine lv_iload_n hx hb dX3_prepare_39 rfl (lv_at hl 0 rfl) ?_
        refine lv_aload_n hx hb dX3_prepare_40 rfl (lv_at hl 2 rfl) ?_
        refine lv_aload_n hx hb dX3_prepare_41 rfl (lv_at hl 1 rfl) ?_
        refine va_get (D := D) (ci := 3) (v := .int v1285) (C := RX3) (T := TX3) (N := 5) hx hb hts in_X3 hown hE.1 hP 0 rfl rfl 3 (by decide) (hts _ w_166) (fun _ h9 => h9) rfl dX3_prepare_42 ?_
        refine lv_aload_n hx hb dX3_prepare_45 rfl (lv_at hl 2 rfl) ?_
        refine lv_iload_n hx hb dX3_prepare_46 rfl (lv_at hl 0 rfl) ?_
        refine ro_V (As := [.int i1292]) (rest := [.int v1285, .ref v, .int i1292, .ref wa2]) hC hE kV_X3_40 (c_X10_sign l D K v va0 va1 va2 va3 va4 va5 va6 va7 vn8 vn9 vn10 vn11 vf1 i1292) (hP.sub (ws' := [(v, .inr (9, [.ref va0, .ref va1, .ref va2, .ref va3, .ref va4, .ref va5, .ref va6, .ref va7, .int vn8, .int vn9, .int vn10, .int vn11])), (va1, .inl (K 1, 10, .inl vf1))]) [4, 6] rfl) 0 9 rfl rfl rfl hl.1 rfl (Nat.le_of_ble_eq_true rfl) (by decide) (by decide) dX3_prepare_47 (fun r1374 _ => ?_)
        refine ro_V (As := [.int v1285, .int r1374]) (rest := [.int i1292, .ref wa2]) hC hE kV_X3_44 (c_X10_showing l D K v va0 va1 va2 va3 va4 va5 va6 va7 vn8 vn9 vn10 vn11 vf1 v1285 r1374) (hP.sub (ws' := [(v, .inr (9, [.ref va0, .ref va1, .ref va2, .ref va3, .ref va4, .ref va5, .ref va6, .ref va7, .int vn8, .int vn9, .int vn10, .int vn11])), (va1, .inl (K 1, 10, .inl vf1))]) [4, 6] rfl) 0 9 rfl rfl rfl hl.1 rfl (Nat.le_of_ble_eq_true rfl) (by decide) (by decide) dX3_prepare_50 (fun r1375 _ => ?_)
        refine sti hx hb hE.1 hP hD hS 3 1 rfl rfl (vp_in_iff.mpr (by omega)) dX3_prepare_53 (fun g1376 eg1376 H locs hP hD hS => ?_)
        replace hP : va_P D vwCl [(w, .inr (3, [.ref wa0, .ref wa1, .ref wa2, .int v1285, .int 1])), (wa0, .inl (K 1, 1024, .inl wf0)), (wa1, .inl (K 1, 4096, .inl wf1)), (wa2, .inl (K 1, 10, .inl g1376)), (v, .inr (9, [.ref va0, .ref va1, .ref va2, .ref va3, .ref va4, .ref va5, .ref va6, .ref va7, .int vn8, .int vn9, .int vn10, .int vn11])), (va0, .inl (K 1, 40, .inl vf0)), (va1, .inl (K 1, 10, .inl vf1))] H := hP
        replace hD : va_D A [(w, .inr (3, [.ref wa0, .ref wa1, .ref wa2, .int v1285, .int 1])), (wa0, .inl (K 1, 1024, .inl wf0)), (wa1, .inl (K 1, 4096, .inl wf1)), (wa2, .inl (K 1, 10, .inl g1376)), (v, .inr (9, [.ref va0, .ref va1, .ref va2, .ref va3, .ref va4, .ref va5, .ref va6, .ref va7, .int vn8, .int vn9, .int vn10, .int vn11])), (va0, .inl (K 1, 40, .inl vf0)), (va1, .inl (K 1, 10, .inl vf1))] := hD
        obtain ⟨v1377, ev1377⟩ : ∃ z : Int32, z = i1292 + 1 := ⟨_, rfl⟩
        refine lv_iinc (v := v1377) (lv' := [(2, .int v1377), (0, .ref w), (1, .ref v)]) hx hb dX3_prepare_54 hl (k := 0) rfl (by rw [ev1377]; rfl) (by decide) rfl (fun ls hl => ?_)
        refine lv_goto (tgt := 29) hx hb dX3_prepare_57 (by decide) ?_
        have tv1377 : v1377.toInt = (i1292 : Int32).toInt + (1 : Int32).toInt := add_i ev1377 (by omega) (by omega)
        exact ih_29 (i1292 := v1377) (g1293 := g1376) (hi_29 := by omega) (H := H) (locs := locs) (ls := ls) (hn_29 := by omega) (hP := hP) (hD := hD) (hS := hS) (hl := lv_sub hl [0, 1, 2] rfl)
  · replace c1283 := ne_i c1283
    refine W.widen (k := 0) (n := 0) (by decide) (by decide) ?_
    exact ch_vret hC hr hk hS dX3_prepare_7 ((fun k => [wn3, wn4].getD k 0, fun k => [wf0, wf1, wf2].getD k (fun _ => 0), fun k => [].getD k (fun _ => 0)) : ((Nat → Int32) × (Nat → Nat → Int32) × (Nat → Nat → Int64))) trivial (hP.sub [0, 1, 2, 3, 4, 5, 6] rfl) (hD.sub [0, 1, 2, 3, 4, 5, 6] (by decide) rfl)
set_option maxRecDepth 40000 in
set_option maxHeartbeats 4000000 in
theorem c_X0_swap (l : Launch) (D : va_G) (K : Nat → ClassId) (w : Nat) (wa0 : Nat) (wa1 : Nat) (wa2 : Nat) (wa3 : Nat) (wn4 : Int32) (wn5 : Int32) (wf2 : Nat → Int32) (p0 : Int32) (p1 : Int32) : Cv (S := ((Nat → Int32) × (Nat → Nat → Int32) × (Nat → Nat → Int64))) l D K yX0_swap cX0_swap 4 0 0 0 0 [.ref w, .int p0, .int p1] [(w, .inr (0, [.ref wa0, .ref wa1, .ref wa2, .ref wa3, .int wn4, .int wn5])), (wa2, .inl (K 1, 5, .inl wf2))] (fun _ => True) (fun u => [(w, .inr (0, [.ref wa0, .ref wa1, .ref wa2, .ref wa3, .int wn4, .int wn5])), (wa2, .inl (K 1, 5, .inl (u.2.1 0)))]) := by
  intro sz
  refine ch_of (y := yX0_swap) (cc := cX0_swap) (maxL := 4) (ret := none) (av := [.ref w, .int p0, .int p1]) (ws := [(w, .inr (0, [.ref wa0, .ref wa1, .ref wa2, .ref wa3, .int wn4, .int wn5])), (wa2, .inl (K 1, 5, .inl wf2))]) (D := D) (K := K) (Qc := fun A => va_Qv (S := ((Nat → Int32) × (Nat → Nat → Int32) × (Nat → Nat → Int64))) (fun _ => True) (chB D A (fun u => [(w, .inr (0, [.ref wa0, .ref wa1, .ref wa2, .ref wa3, .int wn4, .int wn5])), (wa2, .inl (K 1, 5, .inl (u.2.1 0)))])) A) (by decide) (Nat.le_of_ble_eq_true rfl) ?_
  intro p e s m below meth c A hC hr hk hin hE hD hA H locs hP hS ls hl
  replace hC : CallFix p m c cX0_swap 4 s [.ref w, .int p0, .int p1].toArray wl RX0 := hC
  have hx := hC.1
  have hb := hC.2.1
  have hml := hC.2.2.1
  have hown := hC.2.2.2.1
  have hts := hC.2.2.2.2
  replace hl : lv_has ls 4 [(0, .ref w), (1, .int p0), (2, .int p1)] := hl
  have kc_0 : (0 : Int32).toInt = 0 := by decide
  have kc_5 : (5 : Int32).toInt = 5 := by decide
  refine lv_iload_n hx hb dX0_swap_0 rfl (lv_at hl 1 rfl) ?_
  refine lv_if_lt (tgt := 18) hx hb dX0_swap_1 (by decide) (fun c1386 => ?_) (fun c1386 => ?_)
  · replace c1386 := lt_i c1386
    refine W.widen (k := 0) (n := 0) (by decide) (by decide) ?_
    exact ch_vret hC hr hk hS dX0_swap_18 ((fun k => [].getD k 0, fun k => [wf2].getD k (fun _ => 0), fun k => [].getD k (fun _ => 0)) : ((Nat → Int32) × (Nat → Nat → Int32) × (Nat → Nat → Int64))) trivial (hP.sub [0, 1] rfl) (hD.sub [0, 1] (by decide) rfl)
  · replace c1386 := nlt_i c1386
    refine lv_iload_n hx hb dX0_swap_4 rfl (lv_at hl 2 rfl) ?_
    refine lv_if_lt (tgt := 18) hx hb dX0_swap_5 (by decide) (fun c1387 => ?_) (fun c1387 => ?_)
    · replace c1387 := lt_i c1387
      refine W.widen (k := 0) (n := 0) (by decide) (by decide) ?_
      exact ch_vret hC hr hk hS dX0_swap_18 ((fun k => [].getD k 0, fun k => [wf2].getD k (fun _ => 0), fun k => [].getD k (fun _ => 0)) : ((Nat → Int32) × (Nat → Nat → Int32) × (Nat → Nat → Int64))) trivial (hP.sub [0, 1] rfl) (hD.sub [0, 1] (by decide) rfl)
    · replace c1387 := nlt_i c1387
      refine lv_iload_n hx hb dX0_swap_8 rfl (lv_at hl 1 rfl) ?_
      refine lv_iconst (v := 5) hx hb dX0_swap_9 (by decide) ?_
      refine lv_icmp_ge (tgt := 18) hx hb dX0_swap_10 (by decide) (fun c1388 => ?_) (fun c1388 => ?_)
      · replace c1388 := le_i c1388
        refine W.widen (k := 0) (n := 0) (by decide) (by decide) ?_
        exact ch_vret hC hr hk hS dX0_swap_18 ((fun k => [].getD k 0, fun k => [wf2].getD k (fun _ => 0), fun k => [].getD k (fun _ => 0)) : ((Nat → Int32) × (Nat → Nat → Int32) × (Nat → Nat → Int64))) trivial (hP.sub [0, 1] rfl) (hD.sub [0, 1] (by decide) rfl)
      · replace c1388 := nle_i c1388
        refine lv_iload_n hx hb dX0_swap_13 rfl (lv_at hl 2 rfl) ?_
        refine lv_iconst (v := 5) hx hb dX0_swap_14 (by decide) ?_
        refine lv_icmp_lt (tgt := 19) hx hb dX0_swap_15 (by decide) (fun c1389 => ?_) (fun c1389 => ?_)
        · replace c1389 := lt_i c1389
          refine lv_aload_n hx hb dX0_swap_19 rfl (lv_at hl 0 rfl) ?_
          refine va_get (D := D) (ci := 0) (v := .ref wa2) (C := RX0) (T := TX0) (N := 6) hx hb hts in_X0 hown hE.1 hP 0 rfl rfl 2 (by decide) (hts _ w_202) (fun _ h9 => h9) rfl dX0_swap_20 ?_
          refine lv_iload_n hx hb dX0_swap_23 rfl (lv_at hl 1 rfl) ?_
          refine va_iald hx hb hE.1 hP 1 1 rfl rfl (vp_in_iff.mpr (by omega)) dX0_swap_24 ?_
          refine lv_topi (fun v1390 ev1390 => ?_)
          refine lv_istore_n (lv' := [(3, .int v1390), (0, .ref w), (1, .int p0), (2, .int p1)]) hx hb dX0_swap_25 rfl hl (by decide) rfl (fun ls hl => ?_)
          refine lv_aload_n hx hb dX0_swap_26 rfl (lv_at hl 1 rfl) ?_
          refine va_get (D := D) (ci := 0) (v := .ref wa2) (C := RX0) (T := TX0) (N := 6) hx hb hts in_X0 hown hE.1 hP 0 rfl rfl 2 (by decide) (hts _ w_202) (fun _ h9 => h9) rfl dX0_swap_27 ?_
          refine lv_iload_n hx hb dX0_swap_30 rfl (lv_at hl 2 rfl) ?_
          refine lv_aload_n hx hb dX0_swap_31 rfl (lv_at hl 1 rfl) ?_
          refine va_get (D := D) (ci := 0) (v := .ref wa2) (C := RX0) (T := TX0) (N := 6) hx hb hts in_X0 hown hE.1 hP 0 rfl rfl 2 (by decide) (hts _ w_202) (fun _ h9 => h9) rfl dX0_swap_32 ?_
          refine lv_iload_n hx hb dX0_swap_35 rfl (lv_at hl 3 rfl) ?_
          refine va_iald hx hb hE.1 hP 1 1 rfl rfl (vp_in_iff.mpr (by omega)) dX0_swap_36 ?_
          refine lv_topi (fun v1391 ev1391 => ?_)
          refine sti hx hb hE.1 hP hD hS 1 1 rfl rfl (vp_in_iff.mpr (by omega)) dX0_swap_37 (fun g1392 eg1392 H locs hP hD hS => ?_)
          replace hP : va_P D vwCl [(w, .inr (0, [.ref wa0, .ref wa1, .ref wa2, .ref wa3, .int wn4, .int wn5])), (wa2, .inl (K 1, 5, .inl g1392))] H := hP
          replace hD : va_D A [(w, .inr (0, [.ref wa0, .ref wa1, .ref wa2, .ref wa3, .int wn4, .int wn5])), (wa2, .inl (K 1, 5, .inl g1392))] := hD
          refine lv_aload_n hx hb dX0_swap_38 rfl (lv_at hl 1 rfl) ?_
          refine va_get (D := D) (ci := 0) (v := .ref wa2) (C := RX0) (T := TX0) (N := 6) hx hb hts in_X0 hown hE.1 hP 0 rfl rfl 2 (by decide) (hts _ w_202) (fun _ h9 => h9) rfl dX0_swap_39 ?_
          refine lv_iload_n hx hb dX0_swap_42 rfl (lv_at hl 3 rfl) ?_
          refine lv_iload_n hx hb dX0_swap_43 rfl (lv_at hl 0 rfl) ?_
          refine sti hx hb hE.1 hP hD hS 1 1 rfl rfl (vp_in_iff.mpr (by omega)) dX0_swap_44 (fun g1393 eg1393 H locs hP hD hS => ?_)
          replace hP : va_P D vwCl [(w, .inr (0, [.ref wa0, .ref wa1, .ref wa2, .ref wa3, .int wn4, .int wn5])), (wa2, .inl (K 1, 5, .inl g1393))] H := hP
          replace hD : va_D A [(w, .inr (0, [.ref wa0, .ref wa1, .ref wa2, .ref wa3, .int wn4, .int wn5])), (wa2, .inl (K 1, 5, .inl g1393))] := hD
          refine W.widen (k := 0) (n := 0) (by decide) (by decide) ?_
          exact ch_vret hC hr hk hS dX0_swap_45 ((fun k => [].getD k 0, fun k => [g1393].getD k (fun _ => 0), fun k => [].getD k (fun _ => 0)) : ((Nat → Int32) × (Nat → Nat → Int32) × (Nat → Nat → Int64))) trivial (hP.sub [0, 1] rfl) (hD.sub [0, 1] (by decide) rfl)
        · replace c1389 := nlt_i c1389
          refine W.widen (k := 0) (n := 0) (by decide) (by decide) ?_
          exact ch_vret hC hr hk hS dX0_swap_18 ((fun k => [].getD k 0, fun k => [wf2].getD k (fun _ => 0), fun k => [].getD k (fun _ => 0)) : ((Nat → Int32) × (Nat → Nat → Int32) × (Nat → Nat → Int64))) trivial (hP.sub [0, 1] rfl) (hD.sub [0, 1] (by decide) rfl)
set_option maxRecDepth 40000 in
set_option maxHeartbeats 4000000 in
theorem c_X0_nextOrder (l : Launch) (D : va_G) (K : Nat → ClassId) (w : Nat) (wa0 : Nat) (wa1 : Nat) (wa2 : Nat) (wa3 : Nat) (wn4 : Int32) (wn5 : Int32) (wf2 : Nat → Int32) (p0 : Int32) (h1 : p0.toInt ≤ 5) (h0 : 0 ≤ p0.toInt) : Ci (S := ((Nat → Int32) × (Nat → Nat → Int32) × (Nat → Nat → Int64))) l D K yX0_nextOrder cX0_nextOrder 6 (some .boolean) 1 23 0 0 [.ref w, .int p0] [(w, .inr (0, [.ref wa0, .ref wa1, .ref wa2, .ref wa3, .int wn4, .int wn5])), (wa2, .inl (K 1, 5, .inl wf2))] (fun r u => ((r = 0) ∨ (r = 1))) (fun u => [(w, .inr (0, [.ref wa0, .ref wa1, .ref wa2, .ref wa3, .int wn4, .int wn5])), (wa2, .inl (K 1, 5, .inl (u.2.1 0)))]) := by
  intro sz
  refine ch_of (y := yX0_nextOrder) (cc := cX0_nextOrder) (maxL := 6) (ret := (some .boolean)) (av := [.ref w, .int p0]) (ws := [(w, .inr (0, [.ref wa0, .ref wa1, .ref wa2, .ref wa3, .int wn4, .int wn5])), (wa2, .inl (K 1, 5, .inl wf2))]) (D := D) (K := K) (Qc := fun A => va_Qi (S := ((Nat → Int32) × (Nat → Nat → Int32) × (Nat → Nat → Int64))) (fun r u => ((r = 0) ∨ (r = 1))) (chB D A (fun u => [(w, .inr (0, [.ref wa0, .ref wa1, .ref wa2, .ref wa3, .int wn4, .int wn5])), (wa2, .inl (K 1, 5, .inl (u.2.1 0)))])) A) (by decide) (Nat.le_of_ble_eq_true rfl) ?_
  intro p e s m below meth c A hC hr hk hin hE hD hA H locs hP hS ls hl
  replace hC : CallFix p m c cX0_nextOrder 6 s [.ref w, .int p0].toArray wl RX0 := hC
  have hx := hC.1
  have hb := hC.2.1
  have hml := hC.2.2.1
  have hown := hC.2.2.2.1
  have hts := hC.2.2.2.2
  replace hl : lv_has ls 6 [(0, .ref w), (1, .int p0)] := hl
  have kc_m1 : (-1 : Int32).toInt = -1 := by decide
  have kc_0 : (0 : Int32).toInt = 0 := by decide
  have kc_1 : (1 : Int32).toInt = 1 := by decide
  have kc_2 : (2 : Int32).toInt = 2 := by decide
  refine lv_iload_n hx hb dX0_nextOrder_0 rfl (lv_at hl 1 rfl) ?_
  refine lv_iconst (v := 2) hx hb dX0_nextOrder_1 (by decide) ?_
  refine lv_isub hx hb dX0_nextOrder_2 ?_
  refine lv_topi (fun v1462 ev1462 => ?_)
  refine lv_istore_n (lv' := [(2, .int v1462), (0, .ref w), (1, .int p0)]) hx hb dX0_nextOrder_3 rfl hl (by decide) rfl (fun ls hl => ?_)
  have tv1462 : v1462.toInt = (p0 : Int32).toInt - (2 : Int32).toInt := sub_i ev1462 (by omega) (by omega)
  have hl' := hl; have hP' := hP; have hD' := hD; clear hl hP hD
  obtain ⟨i1470, hv_4, hw_4, hl, hP, hD⟩ : ∃ (i1470 : Int32), (i1470.toInt ≤ 3) ∧ (-2147483648 ≤ i1470.toInt) ∧ lv_has ls 6 [(2, .int i1470), (0, .ref w), (1, .int p0)] ∧ va_P D vwCl [(w, .inr (0, [.ref wa0, .ref wa1, .ref wa2, .ref wa3, .int wn4, .int wn5])), (wa2, .inl (K 1, 5, .inl wf2))] H ∧ va_D A [(w, .inr (0, [.ref wa0, .ref wa1, .ref wa2, .ref wa3, .int wn4, .int wn5])), (wa2, .inl (K 1, 5, .inl wf2))] := ⟨_, by omega, by omega, hl', hP', hD'⟩
  clear hl' hP' hD'
  obtain ⟨n_4, hn_4⟩ : ∃ n : Nat, (i1470.toInt + 1).toNat < n := ⟨_, Nat.lt_succ_self _⟩
  induction n_4 generalizing i1470 H locs ls with
  | zero => exact absurd hn_4 (Nat.not_lt_zero _)
  | succ n_4 ih_4 =>
    refine lv_iload_n hx hb dX0_nextOrder_4 rfl (lv_at hl 0 rfl) ?_
    refine lv_if_lt (tgt := 31) hx hb dX0_nextOrder_5 (by decide) (fun c1471 => ?_) (fun c1471 => ?_)
    · replace c1471 := lt_i c1471
      refine lv_iload_n hx hb dX0_nextOrder_31 rfl (lv_at hl 0 rfl) ?_
      refine lv_if_ge (tgt := 37) hx hb dX0_nextOrder_32 (by decide) (fun c1472 => ?_) (fun c1472 => ?_)
      · replace c1472 := le_i c1472
        refine lv_iload_n hx hb dX0_nextOrder_37 rfl (lv_at hl 2 rfl) ?_
        refine lv_iconst (v := 1) hx hb dX0_nextOrder_38 (by decide) ?_
        refine lv_isub hx hb dX0_nextOrder_39 ?_
        refine lv_topi (fun v1473 ev1473 => ?_)
        refine lv_istore_n (lv' := [(3, .int v1473), (2, .int i1470), (0, .ref w), (1, .int p0)]) hx hb dX0_nextOrder_40 rfl hl (by decide) rfl (fun ls hl => ?_)
        have tv1473 : v1473.toInt = (p0 : Int32).toInt - (1 : Int32).toInt := sub_i ev1473 (by omega) (by omega)
        have hl' := hl; have hP' := hP; have hD' := hD; clear hl hP hD
        obtain ⟨i1480, hv_41, hl, hP, hD⟩ : ∃ (i1480 : Int32), (i1480.toInt ≤ 4) ∧ lv_has ls 6 [(3, .int i1480), (2, .int i1470), (0, .ref w), (1, .int p0)] ∧ va_P D vwCl [(w, .inr (0, [.ref wa0, .ref wa1, .ref wa2, .ref wa3, .int wn4, .int wn5])), (wa2, .inl (K 1, 5, .inl wf2))] H ∧ va_D A [(w, .inr (0, [.ref wa0, .ref wa1, .ref wa2, .ref wa3, .int wn4, .int wn5])), (wa2, .inl (K 1, 5, .inl wf2))] := ⟨_, by omega, hl', hP', hD'⟩
        clear hl' hP' hD'
        obtain ⟨n_41, hn_41⟩ : ∃ n : Nat, (i1480.toInt - i1470.toInt).toNat < n := ⟨_, Nat.lt_succ_self _⟩
        induction n_41 generalizing i1480 H locs ls with
        | zero => exact absurd hn_41 (Nat.not_lt_zero _)
        | succ n_41 ih_41 =>
          refine lv_iload_n hx hb dX0_nextOrder_41 rfl (lv_at hl 0 rfl) ?_
          refine lv_iload_n hx hb dX0_nextOrder_42 rfl (lv_at hl 1 rfl) ?_
          refine lv_icmp_le (tgt := 67) hx hb dX0_nextOrder_43 (by decide) (fun c1481 => ?_) (fun c1481 => ?_)
          · replace c1481 := le_i c1481
            refine lv_aload_n hx hb dX0_nextOrder_67 rfl (lv_at hl 2 rfl) ?_
            refine lv_iload_n hx hb dX0_nextOrder_68 rfl (lv_at hl 1 rfl) ?_
            refine lv_iload_n hx hb dX0_nextOrder_69 rfl (lv_at hl 0 rfl) ?_
            refine cv_V (As := [.int i1470, .int i1480]) (rest := []) (wc := [(w, .inr (0, [.ref wa0, .ref wa1, .ref wa2, .ref wa3, .int wn4, .int wn5])), (wa2, .inl (K 1, 5, .inl wf2))]) (wr := []) hC hE kV_X0_116 (c_X0_swap l D K w wa0 wa1 wa2 wa3 wn4 wn5 wf2 i1470 i1480) hP hD hS hA [0, 1] [] rfl rfl rfl (by decide) (by decide) (by decide) 0 0 rfl rfl rfl hl.1 rfl (Nat.le_of_ble_eq_true rfl) (by decide) (by decide) dX0_nextOrder_70 (fun u1482 H locs hw hP hD hS => ?_)
            replace hP : va_P D vwCl [(w, .inr (0, [.ref wa0, .ref wa1, .ref wa2, .ref wa3, .int wn4, .int wn5])), (wa2, .inl (K 1, 5, .inl (u1482.2.1 0)))] H := hP
            replace hD : va_D A [(w, .inr (0, [.ref wa0, .ref wa1, .ref wa2, .ref wa3, .int wn4, .int wn5])), (wa2, .inl (K 1, 5, .inl (u1482.2.1 0)))] := hD
            replace hP : va_P D vwCl [(w, .inr (0, [.ref wa0, .ref wa1, .ref wa2, .ref wa3, .int wn4, .int wn5])), (wa2, .inl (K 1, 5, .inl (u1482.2.1 0)))] H := hP.sub [0, 1] rfl
            replace hD : va_D A [(w, .inr (0, [.ref wa0, .ref wa1, .ref wa2, .ref wa3, .int wn4, .int wn5])), (wa2, .inl (K 1, 5, .inl (u1482.2.1 0)))] := hD.sub [0, 1] (by decide) rfl
            refine W.widen (k := 0) (n := 0) (by decide) (by decide) ?_
            refine lv_iload_n hx hb dX0_nextOrder_73 rfl (lv_at hl 1 rfl) ?_
            refine lv_iconst (v := 1) hx hb dX0_nextOrder_74 (by decide) ?_
            refine lv_iadd hx hb dX0_nextOrder_75 ?_
            refine lv_topi (fun v1484 ev1484 => ?_)
            refine lv_istore (lv' := [(4, .int v1484), (3, .int i1480), (2, .int i1470), (0, .ref w), (1, .int p0)]) hx hb dX0_nextOrder_76 hl (by decide) rfl (fun ls hl => ?_)
            refine lv_iload_n hx hb dX0_nextOrder_78 rfl (lv_at hl 4 rfl) ?_
            refine lv_iconst (v := 1) hx hb dX0_nextOrder_79 (by decide) ?_
            refine lv_isub hx hb dX0_nextOrder_80 ?_
            refine lv_topi (fun v1485 ev1485 => ?_)
            refine lv_istore (lv' := [(5, .int v1485), (4, .int v1484), (3, .int i1480), (2, .int i1470), (0, .ref w), (1, .int p0)]) hx hb dX0_nextOrder_81 hl (by decide) rfl (fun ls hl => ?_)
            have tv1485 : v1485.toInt = (p0 : Int32).toInt - (1 : Int32).toInt := sub_i ev1485 (by omega) (by omega)
            have tv1484 : v1484.toInt = (i1470 : Int32).toInt + (1 : Int32).toInt := add_i ev1484 (by omega) (by omega)
            have hl' := hl; have hP' := hP; have hD' := hD; clear hl hP hD
            obtain ⟨i1493, i1494, g1495, hi_83, hv_83, hl, hP, hD⟩ : ∃ (i1493 : Int32) (i1494 : Int32) (g1495 : Nat → Int32), ((0 : Int) ≤ i1494.toInt) ∧ (i1493.toInt ≤ 4) ∧ lv_has ls 6 [(5, .int i1493), (4, .int i1494), (3, .int i1480), (2, .int i1470), (0, .ref w), (1, .int p0)] ∧ va_P D vwCl [(w, .inr (0, [.ref wa0, .ref wa1, .ref wa2, .ref wa3, .int wn4, .int wn5])), (wa2, .inl (K 1, 5, .inl g1495))] H ∧ va_D A [(w, .inr (0, [.ref wa0, .ref wa1, .ref wa2, .ref wa3, .int wn4, .int wn5])), (wa2, .inl (K 1, 5, .inl g1495))] := ⟨_, _, _, by omega, by omega, hl', hP', hD'⟩
            clear hl' hP' hD'
            obtain ⟨n_83, hn_83⟩ : ∃ n : Nat, (i1493.toInt - i1494.toInt).toNat < n := ⟨_, Nat.lt_succ_self _⟩
            induction n_83 generalizing i1493 i1494 g1495 H locs ls with
            | zero => exact absurd hn_83 (Nat.not_lt_zero _)
            | succ n_83 ih_83 =>
              refine lv_iload hx hb dX0_nextOrder_83 (lv_at hl 1 rfl) ?_
              refine lv_iload hx hb dX0_nextOrder_85 (lv_at hl 0 rfl) ?_
              refine lv_icmp_ge (tgt := 107) hx hb dX0_nextOrder_87 (by decide) (fun c1496 => ?_) (fun c1496 => ?_)
              · replace c1496 := le_i c1496
                refine lv_iconst (v := 1) hx hb dX0_nextOrder_107 (by decide) ?_
                refine W.widen (k := 0) (n := 0) (by decide) (by decide) ?_
                exact ch_zret hC hr hk hS dX0_nextOrder_108 rfl ((fun k => [].getD k 0, fun k => [g1495].getD k (fun _ => 0), fun k => [].getD k (fun _ => 0)) : ((Nat → Int32) × (Nat → Nat → Int32) × (Nat → Nat → Int64))) (Or.inr rfl) (hP.sub [0, 1] rfl) (hD.sub [0, 1] (by decide) rfl)
              · replace c1496 := nle_i c1496
                refine lv_aload_n hx hb dX0_nextOrder_90 rfl (lv_at hl 4 rfl) ?_
                refine lv_iload hx hb dX0_nextOrder_91 (lv_at hl 1 rfl) ?_
                refine lv_iload hx hb dX0_nextOrder_93 (lv_at hl 0 rfl) ?_
                refine cv_V (As := [.int i1494, .int i1493]) (rest := []) (wc := [(w, .inr (0, [.ref wa0, .ref wa1, .ref wa2, .ref wa3, .int wn4, .int wn5])), (wa2, .inl (K 1, 5, .inl g1495))]) (wr := []) hC hE kV_X0_116 (c_X0_swap l D K w wa0 wa1 wa2 wa3 wn4 wn5 g1495 i1494 i1493) hP hD hS hA [0, 1] [] rfl rfl rfl (by decide) (by decide) (by decide) 0 0 rfl rfl rfl hl.1 rfl (Nat.le_of_ble_eq_true rfl) (by decide) (by decide) dX0_nextOrder_95 (fun u1497 H locs hw hP hD hS => ?_)
                replace hP : va_P D vwCl [(w, .inr (0, [.ref wa0, .ref wa1, .ref wa2, .ref wa3, .int wn4, .int wn5])), (wa2, .inl (K 1, 5, .inl (u1497.2.1 0)))] H := hP
                replace hD : va_D A [(w, .inr (0, [.ref wa0, .ref wa1, .ref wa2, .ref wa3, .int wn4, .int wn5])), (wa2, .inl (K 1, 5, .inl (u1497.2.1 0)))] := hD
                replace hP : va_P D vwCl [(w, .inr (0, [.ref wa0, .ref wa1, .ref wa2, .ref wa3, .int wn4, .int wn5])), (wa2, .inl (K 1, 5, .inl (u1497.2.1 0)))] H := hP.sub [0, 1] rfl
                replace hD : va_D A [(w, .inr (0, [.ref wa0, .ref wa1, .ref wa2, .ref wa3, .int wn4, .int wn5])), (wa2, .inl (K 1, 5, .inl (u1497.2.1 0)))] := hD.sub [0, 1] (by decide) rfl
                refine W.widen (k := 0) (n := 0) (by decide) (by decide) ?_
                obtain ⟨v1499, ev1499⟩ : ∃ z : Int32, z = i1494 + 1 := ⟨_, rfl⟩
                refine lv_iinc (v := v1499) (lv' := [(4, .int v1499), (5, .int i1493), (3, .int i1480), (2, .int i1470), (0, .ref w), (1, .int p0)]) hx hb dX0_nextOrder_98 hl (k := 1) rfl (by rw [ev1499]; rfl) (by decide) rfl (fun ls hl => ?_)
                obtain ⟨v1500, ev1500⟩ : ∃ z : Int32, z = i1493 + (-1) := ⟨_, rfl⟩
                refine lv_iinc (v := v1500) (lv' := [(5, .int v1500), (4, .int v1499), (3, .int i1480), (2, .int i1470), (0, .ref w), (1, .int p0)]) hx hb dX0_nextOrder_101 hl (k := 1) rfl (by rw [ev1500]; rfl) (by decide) rfl (fun ls hl => ?_)
                refine lv_goto (tgt := 83) hx hb dX0_nextOrder_104 (by decide) ?_
                have tv1500 : v1500.toInt = (i1493 : Int32).toInt + ((-1) : Int32).toInt := add_i ev1500 (by omega) (by omega)
                have tv1499 : v1499.toInt = (i1494 : Int32).toInt + (1 : Int32).toInt := add_i ev1499 (by omega) (by omega)
                exact ih_83 (i1493 := v1500) (i1494 := v1499) (g1495 := (u1497.2.1 0)) (hi_83 := by omega) (hv_83 := by omega) (H := H) (locs := locs) (ls := ls) (hn_83 := by omega) (hP := hP) (hD := hD) (hS := hS) (hl := lv_sub hl [0, 1, 2, 3, 4, 5] rfl)
          · replace c1481 := nle_i c1481
            refine lv_aload_n hx hb dX0_nextOrder_46 rfl (lv_at hl 2 rfl) ?_
            refine va_get (D := D) (ci := 0) (v := .ref wa2) (C := RX0) (T := TX0) (N := 6) hx hb hts in_X0 hown hE.1 hP 0 rfl rfl 2 (by decide) (hts _ w_202) (fun _ h9 => h9) rfl dX0_nextOrder_47 ?_
            refine lv_iload_n hx hb dX0_nextOrder_50 rfl (lv_at hl 0 rfl) ?_
            refine va_iald hx hb hE.1 hP 1 1 rfl rfl (vp_in_iff.mpr (by omega)) dX0_nextOrder_51 ?_
            refine lv_topi (fun v1501 ev1501 => ?_)
            refine lv_aload_n hx hb dX0_nextOrder_52 rfl (lv_at hl 2 rfl) ?_
            refine va_get (D := D) (ci := 0) (v := .ref wa2) (C := RX0) (T := TX0) (N := 6) hx hb hts in_X0 hown hE.1 hP 0 rfl rfl 2 (by decide) (hts _ w_202) (fun _ h9 => h9) rfl dX0_nextOrder_53 ?_
            refine lv_iload_n hx hb dX0_nextOrder_56 rfl (lv_at hl 1 rfl) ?_
            refine va_iald hx hb hE.1 hP 1 1 rfl rfl (vp_in_iff.mpr (by omega)) dX0_nextOrder_57 ?_
            refine lv_topi (fun v1502 ev1502 => ?_)
            refine lv_icmp_ge (tgt := 67) hx hb dX0_nextOrder_58 (by decide) (fun c1503 => ?_) (fun c1503 => ?_)
            · replace c1503 := le_i c1503
              refine lv_aload_n hx hb dX0_nextOrder_67 rfl (lv_at hl 2 rfl) ?_
              refine lv_iload_n hx hb dX0_nextOrder_68 rfl (lv_at hl 1 rfl) ?_
              refine lv_iload_n hx hb dX0_nextOrder_69 rfl (lv_at hl 0 rfl) ?_
              refine cv_V (As := [.int i1470, .int i1480]) (rest := []) (wc := [(w, .inr (0, [.ref wa0, .ref wa1, .ref wa2, .ref wa3, .int wn4, .int wn5])), (wa2, .inl (K 1, 5, .inl wf2))]) (wr := []) hC hE kV_X0_116 (c_X0_swap l D K w wa0 wa1 wa2 wa3 wn4 wn5 wf2 i1470 i1480) hP hD hS hA [0, 1] [] rfl rfl rfl (by decide) (by decide) (by decide) 0 0 rfl rfl rfl hl.1 rfl (Nat.le_of_ble_eq_true rfl) (by decide) (by decide) dX0_nextOrder_70 (fun u1504 H locs hw hP hD hS => ?_)
              replace hP : va_P D vwCl [(w, .inr (0, [.ref wa0, .ref wa1, .ref wa2, .ref wa3, .int wn4, .int wn5])), (wa2, .inl (K 1, 5, .inl (u1504.2.1 0)))] H := hP
              replace hD : va_D A [(w, .inr (0, [.ref wa0, .ref wa1, .ref wa2, .ref wa3, .int wn4, .int wn5])), (wa2, .inl (K 1, 5, .inl (u1504.2.1 0)))] := hD
              replace hP : va_P D vwCl [(w, .inr (0, [.ref wa0, .ref wa1, .ref wa2, .ref wa3, .int wn4, .int wn5])), (wa2, .inl (K 1, 5, .inl (u1504.2.1 0)))] H := hP.sub [0, 1] rfl
              replace hD : va_D A [(w, .inr (0, [.ref wa0, .ref wa1, .ref wa2, .ref wa3, .int wn4, .int wn5])), (wa2, .inl (K 1, 5, .inl (u1504.2.1 0)))] := hD.sub [0, 1] (by decide) rfl
              refine W.widen (k := 0) (n := 0) (by decide) (by decide) ?_
              refine lv_iload_n hx hb dX0_nextOrder_73 rfl (lv_at hl 1 rfl) ?_
              refine lv_iconst (v := 1) hx hb dX0_nextOrder_74 (by decide) ?_
              refine lv_iadd hx hb dX0_nextOrder_75 ?_
              refine lv_topi (fun v1506 ev1506 => ?_)
              refine lv_istore (lv' := [(4, .int v1506), (3, .int i1480), (2, .int i1470), (0, .ref w), (1, .int p0)]) hx hb dX0_nextOrder_76 hl (by decide) rfl (fun ls hl => ?_)
              refine lv_iload_n hx hb dX0_nextOrder_78 rfl (lv_at hl 4 rfl) ?_
              refine lv_iconst (v := 1) hx hb dX0_nextOrder_79 (by decide) ?_
              refine lv_isub hx hb dX0_nextOrder_80 ?_
              refine lv_topi (fun v1507 ev1507 => ?_)
              refine lv_istore (lv' := [(5, .int v1507), (4, .int v1506), (3, .int i1480), (2, .int i1470), (0, .ref w), (1, .int p0)]) hx hb dX0_nextOrder_81 hl (by decide) rfl (fun ls hl => ?_)
              have tv1507 : v1507.toInt = (p0 : Int32).toInt - (1 : Int32).toInt := sub_i ev1507 (by omega) (by omega)
              have tv1506 : v1506.toInt = (i1470 : Int32).toInt + (1 : Int32).toInt := add_i ev1506 (by omega) (by omega)
              have hl' := hl; have hP' := hP; have hD' := hD; clear hl hP hD
              obtain ⟨i1515, i1516, g1517, hi_83, hv_83, hl, hP, hD⟩ : ∃ (i1515 : Int32) (i1516 : Int32) (g1517 : Nat → Int32), ((0 : Int) ≤ i1516.toInt) ∧ (i1515.toInt ≤ 4) ∧ lv_has ls 6 [(5, .int i1515), (4, .int i1516), (3, .int i1480), (2, .int i1470), (0, .ref w), (1, .int p0)] ∧ va_P D vwCl [(w, .inr (0, [.ref wa0, .ref wa1, .ref wa2, .ref wa3, .int wn4, .int wn5])), (wa2, .inl (K 1, 5, .inl g1517))] H ∧ va_D A [(w, .inr (0, [.ref wa0, .ref wa1, .ref wa2, .ref wa3, .int wn4, .int wn5])), (wa2, .inl (K 1, 5, .inl g1517))] := ⟨_, _, _, by omega, by omega, hl', hP', hD'⟩
              clear hl' hP' hD'
              obtain ⟨n_83, hn_83⟩ : ∃ n : Nat, (i1515.toInt - i1516.toInt).toNat < n := ⟨_, Nat.lt_succ_self _⟩
              induction n_83 generalizing i1515 i1516 g1517 H locs ls with
              | zero => exact absurd hn_83 (Nat.not_lt_zero _)
              | succ n_83 ih_83 =>
                refine lv_iload hx hb dX0_nextOrder_83 (lv_at hl 1 rfl) ?_
                refine lv_iload hx hb dX0_nextOrder_85 (lv_at hl 0 rfl) ?_
                refine lv_icmp_ge (tgt := 107) hx hb dX0_nextOrder_87 (by decide) (fun c1518 => ?_) (fun c1518 => ?_)
                · replace c1518 := le_i c1518
                  refine lv_iconst (v := 1) hx hb dX0_nextOrder_107 (by decide) ?_
                  refine W.widen (k := 0) (n := 0) (by decide) (by decide) ?_
                  exact ch_zret hC hr hk hS dX0_nextOrder_108 rfl ((fun k => [].getD k 0, fun k => [g1517].getD k (fun _ => 0), fun k => [].getD k (fun _ => 0)) : ((Nat → Int32) × (Nat → Nat → Int32) × (Nat → Nat → Int64))) (Or.inr rfl) (hP.sub [0, 1] rfl) (hD.sub [0, 1] (by decide) rfl)
                · replace c1518 := nle_i c1518
                  refine lv_aload_n hx hb dX0_nextOrder_90 rfl (lv_at hl 4 rfl) ?_
                  refine lv_iload hx hb dX0_nextOrder_91 (lv_at hl 1 rfl) ?_
                  refine lv_iload hx hb dX0_nextOrder_93 (lv_at hl 0 rfl) ?_
                  refine cv_V (As := [.int i1516, .int i1515]) (rest := []) (wc := [(w, .inr (0, [.ref wa0, .ref wa1, .ref wa2, .ref wa3, .int wn4, .int wn5])), (wa2, .inl (K 1, 5, .inl g1517))]) (wr := []) hC hE kV_X0_116 (c_X0_swap l D K w wa0 wa1 wa2 wa3 wn4 wn5 g1517 i1516 i1515) hP hD hS hA [0, 1] [] rfl rfl rfl (by decide) (by decide) (by decide) 0 0 rfl rfl rfl hl.1 rfl (Nat.le_of_ble_eq_true rfl) (by decide) (by decide) dX0_nextOrder_95 (fun u1519 H locs hw hP hD hS => ?_)
                  replace hP : va_P D vwCl [(w, .inr (0, [.ref wa0, .ref wa1, .ref wa2, .ref wa3, .int wn4, .int wn5])), (wa2, .inl (K 1, 5, .inl (u1519.2.1 0)))] H := hP
                  replace hD : va_D A [(w, .inr (0, [.ref wa0, .ref wa1, .ref wa2, .ref wa3, .int wn4, .int wn5])), (wa2, .inl (K 1, 5, .inl (u1519.2.1 0)))] := hD
                  replace hP : va_P D vwCl [(w, .inr (0, [.ref wa0, .ref wa1, .ref wa2, .ref wa3, .int wn4, .int wn5])), (wa2, .inl (K 1, 5, .inl (u1519.2.1 0)))] H := hP.sub [0, 1] rfl
                  replace hD : va_D A [(w, .inr (0, [.ref wa0, .ref wa1, .ref wa2, .ref wa3, .int wn4, .int wn5])), (wa2, .inl (K 1, 5, .inl (u1519.2.1 0)))] := hD.sub [0, 1] (by decide) rfl
                  refine W.widen (k := 0) (n := 0) (by decide) (by decide) ?_
                  obtain ⟨v1521, ev1521⟩ : ∃ z : Int32, z = i1516 + 1 := ⟨_, rfl⟩
                  refine lv_iinc (v := v1521) (lv' := [(4, .int v1521), (5, .int i1515), (3, .int i1480), (2, .int i1470), (0, .ref w), (1, .int p0)]) hx hb dX0_nextOrder_98 hl (k := 1) rfl (by rw [ev1521]; rfl) (by decide) rfl (fun ls hl => ?_)
                  obtain ⟨v1522, ev1522⟩ : ∃ z : Int32, z = i1515 + (-1) := ⟨_, rfl⟩
                  refine lv_iinc (v := v1522) (lv' := [(5, .int v1522), (4, .int v1521), (3, .int i1480), (2, .int i1470), (0, .ref w), (1, .int p0)]) hx hb dX0_nextOrder_101 hl (k := 1) rfl (by rw [ev1522]; rfl) (by decide) rfl (fun ls hl => ?_)
                  refine lv_goto (tgt := 83) hx hb dX0_nextOrder_104 (by decide) ?_
                  have tv1522 : v1522.toInt = (i1515 : Int32).toInt + ((-1) : Int32).toInt := add_i ev1522 (by omega) (by omega)
                  have tv1521 : v1521.toInt = (i1516 : Int32).toInt + (1 : Int32).toInt := add_i ev1521 (by omega) (by omega)
                  exact ih_83 (i1515 := v1522) (i1516 := v1521) (g1517 := (u1519.2.1 0)) (hi_83 := by omega) (hv_83 := by omega) (H := H) (locs := locs) (ls := ls) (hn_83 := by omega) (hP := hP) (hD := hD) (hS := hS) (hl := lv_sub hl [0, 1, 2, 3, 4, 5] rfl)
            · replace c1503 := nle_i c1503
              obtain ⟨v1523, ev1523⟩ : ∃ z : Int32, z = i1480 + (-1) := ⟨_, rfl⟩
              refine lv_iinc (v := v1523) (lv' := [(3, .int v1523), (2, .int i1470), (0, .ref w), (1, .int p0)]) hx hb dX0_nextOrder_61 hl (k := 0) rfl (by rw [ev1523]; rfl) (by decide) rfl (fun ls hl => ?_)
              refine lv_goto (tgt := 41) hx hb dX0_nextOrder_64 (by decide) ?_
              have tv1523 : v1523.toInt = (i1480 : Int32).toInt + ((-1) : Int32).toInt := add_i ev1523 (by omega) (by omega)
              exact ih_41 (i1480 := v1523) (hv_41 := by omega) (H := H) (locs := locs) (ls := ls) (hn_41 := by omega) (hP := hP) (hS := hS) (hl := lv_sub hl [0, 1, 2, 3] rfl)
      · replace c1472 := nle_i c1472
        refine lv_iconst (v := 0) hx hb dX0_nextOrder_35 (by decide) ?_
        refine W.widen (k := 0) (n := 0) (by decide) (by decide) ?_
        exact ch_zret hC hr hk hS dX0_nextOrder_36 rfl ((fun k => [].getD k 0, fun k => [wf2].getD k (fun _ => 0), fun k => [].getD k (fun _ => 0)) : ((Nat → Int32) × (Nat → Nat → Int32) × (Nat → Nat → Int64))) (Or.inl rfl) (hP.sub [0, 1] rfl) (hD.sub [0, 1] (by decide) rfl)
    · replace c1471 := nlt_i c1471
      refine lv_aload_n hx hb dX0_nextOrder_8 rfl (lv_at hl 1 rfl) ?_
      refine va_get (D := D) (ci := 0) (v := .ref wa2) (C := RX0) (T := TX0) (N := 6) hx hb hts in_X0 hown hE.1 hP 0 rfl rfl 2 (by decide) (hts _ w_202) (fun _ h9 => h9) rfl dX0_nextOrder_9 ?_
      refine lv_iload_n hx hb dX0_nextOrder_12 rfl (lv_at hl 0 rfl) ?_
      refine va_iald hx hb hE.1 hP 1 1 rfl rfl (vp_in_iff.mpr (by omega)) dX0_nextOrder_13 ?_
      refine lv_topi (fun v1524 ev1524 => ?_)
      refine lv_aload_n hx hb dX0_nextOrder_14 rfl (lv_at hl 1 rfl) ?_
      refine va_get (D := D) (ci := 0) (v := .ref wa2) (C := RX0) (T := TX0) (N := 6) hx hb hts in_X0 hown hE.1 hP 0 rfl rfl 2 (by decide) (hts _ w_202) (fun _ h9 => h9) rfl dX0_nextOrder_15 ?_
      refine lv_iload_n hx hb dX0_nextOrder_18 rfl (lv_at hl 0 rfl) ?_
      refine lv_iconst (v := 1) hx hb dX0_nextOrder_19 (by decide) ?_
      refine lv_iadd hx hb dX0_nextOrder_20 ?_
      refine lv_topi (fun v1525 ev1525 => ?_)
      have tv1525 : v1525.toInt = (i1470 : Int32).toInt + (1 : Int32).toInt := add_i ev1525 (by omega) (by omega)
      refine va_iald hx hb hE.1 hP 1 1 rfl rfl (vp_in_iff.mpr (by omega)) dX0_nextOrder_21 ?_
      refine lv_topi (fun v1526 ev1526 => ?_)
      refine lv_icmp_le (tgt := 31) hx hb dX0_nextOrder_22 (by decide) (fun c1527 => ?_) (fun c1527 => ?_)
      · replace c1527 := le_i c1527
        refine lv_iload_n hx hb dX0_nextOrder_31 rfl (lv_at hl 0 rfl) ?_
        refine lv_if_ge (tgt := 37) hx hb dX0_nextOrder_32 (by decide) (fun c1528 => ?_) (fun c1528 => ?_)
        · replace c1528 := le_i c1528
          refine lv_iload_n hx hb dX0_nextOrder_37 rfl (lv_at hl 2 rfl) ?_
          refine lv_iconst (v := 1) hx hb dX0_nextOrder_38 (by decide) ?_
          refine lv_isub hx hb dX0_nextOrder_39 ?_
          refine lv_topi (fun v1529 ev1529 => ?_)
          refine lv_istore_n (lv' := [(3, .int v1529), (2, .int i1470), (0, .ref w), (1, .int p0)]) hx hb dX0_nextOrder_40 rfl hl (by decide) rfl (fun ls hl => ?_)
          have tv1529 : v1529.toInt = (p0 : Int32).toInt - (1 : Int32).toInt := sub_i ev1529 (by omega) (by omega)
          have hl' := hl; have hP' := hP; have hD' := hD; clear hl hP hD
          obtain ⟨i1536, hv_41, hl, hP, hD⟩ : ∃ (i1536 : Int32), (i1536.toInt ≤ 4) ∧ lv_has ls 6 [(3, .int i1536), (2, .int i1470), (0, .ref w), (1, .int p0)] ∧ va_P D vwCl [(w, .inr (0, [.ref wa0, .ref wa1, .ref wa2, .ref wa3, .int wn4, .int wn5])), (wa2, .inl (K 1, 5, .inl wf2))] H ∧ va_D A [(w, .inr (0, [.ref wa0, .ref wa1, .ref wa2, .ref wa3, .int wn4, .int wn5])), (wa2, .inl (K 1, 5, .inl wf2))] := ⟨_, by omega, hl', hP', hD'⟩
          clear hl' hP' hD'
          obtain ⟨n_41, hn_41⟩ : ∃ n : Nat, (i1536.toInt - i1470.toInt).toNat < n := ⟨_, Nat.lt_succ_self _⟩
          induction n_41 generalizing i1536 H locs ls with
          | zero => exact absurd hn_41 (Nat.not_lt_zero _)
          | succ n_41 ih_41 =>
            refine lv_iload_n hx hb dX0_nextOrder_41 rfl (lv_at hl 0 rfl) ?_
            refine lv_iload_n hx hb dX0_nextOrder_42 rfl (lv_at hl 1 rfl) ?_
            refine lv_icmp_le (tgt := 67) hx hb dX0_nextOrder_43 (by decide) (fun c1537 => ?_) (fun c1537 => ?_)
            · replace c1537 := le_i c1537
              refine lv_aload_n hx hb dX0_nextOrder_67 rfl (lv_at hl 2 rfl) ?_
              refine lv_iload_n hx hb dX0_nextOrder_68 rfl (lv_at hl 1 rfl) ?_
              refine lv_iload_n hx hb dX0_nextOrder_69 rfl (lv_at hl 0 rfl) ?_
              refine cv_V (As := [.int i1470, .int i1536]) (rest := []) (wc := [(w, .inr (0, [.ref wa0, .ref wa1, .ref wa2, .ref wa3, .int wn4, .int wn5])), (wa2, .inl (K 1, 5, .inl wf2))]) (wr := []) hC hE kV_X0_116 (c_X0_swap l D K w wa0 wa1 wa2 wa3 wn4 wn5 wf2 i1470 i1536) hP hD hS hA [0, 1] [] rfl rfl rfl (by decide) (by decide) (by decide) 0 0 rfl rfl rfl hl.1 rfl (Nat.le_of_ble_eq_true rfl) (by decide) (by decide) dX0_nextOrder_70 (fun u1538 H locs hw hP hD hS => ?_)
              replace hP : va_P D vwCl [(w, .inr (0, [.ref wa0, .ref wa1, .ref wa2, .ref wa3, .int wn4, .int wn5])), (wa2, .inl (K 1, 5, .inl (u1538.2.1 0)))] H := hP
              replace hD : va_D A [(w, .inr (0, [.ref wa0, .ref wa1, .ref wa2, .ref wa3, .int wn4, .int wn5])), (wa2, .inl (K 1, 5, .inl (u1538.2.1 0)))] := hD
              replace hP : va_P D vwCl [(w, .inr (0, [.ref wa0, .ref wa1, .ref wa2, .ref wa3, .int wn4, .int wn5])), (wa2, .inl (K 1, 5, .inl (u1538.2.1 0)))] H := hP.sub [0, 1] rfl
              replace hD : va_D A [(w, .inr (0, [.ref wa0, .ref wa1, .ref wa2, .ref wa3, .int wn4, .int wn5])), (wa2, .inl (K 1, 5, .inl (u1538.2.1 0)))] := hD.sub [0, 1] (by decide) rfl
              refine W.widen (k := 0) (n := 0) (by decide) (by decide) ?_
              refine lv_iload_n hx hb dX0_nextOrder_73 rfl (lv_at hl 1 rfl) ?_
              refine lv_iconst (v := 1) hx hb dX0_nextOrder_74 (by decide) ?_
              refine lv_iadd hx hb dX0_nextOrder_75 ?_
              refine lv_topi (fun v1540 ev1540 => ?_)
              refine lv_istore (lv' := [(4, .int v1540), (3, .int i1536), (2, .int i1470), (0, .ref w), (1, .int p0)]) hx hb dX0_nextOrder_76 hl (by decide) rfl (fun ls hl => ?_)
              refine lv_iload_n hx hb dX0_nextOrder_78 rfl (lv_at hl 4 rfl) ?_
              refine lv_iconst (v := 1) hx hb dX0_nextOrder_79 (by decide) ?_
              refine lv_isub hx hb dX0_nextOrder_80 ?_
              refine lv_topi (fun v1541 ev1541 => ?_)
              refine lv_istore (lv' := [(5, .int v1541), (4, .int v1540), (3, .int i1536), (2, .int i1470), (0, .ref w), (1, .int p0)]) hx hb dX0_nextOrder_81 hl (by decide) rfl (fun ls hl => ?_)
              have tv1541 : v1541.toInt = (p0 : Int32).toInt - (1 : Int32).toInt := sub_i ev1541 (by omega) (by omega)
              have tv1540 : v1540.toInt = (i1470 : Int32).toInt + (1 : Int32).toInt := add_i ev1540 (by omega) (by omega)
              have hl' := hl; have hP' := hP; have hD' := hD; clear hl hP hD
              obtain ⟨i1549, i1550, g1551, hi_83, hv_83, hl, hP, hD⟩ : ∃ (i1549 : Int32) (i1550 : Int32) (g1551 : Nat → Int32), ((0 : Int) ≤ i1550.toInt) ∧ (i1549.toInt ≤ 4) ∧ lv_has ls 6 [(5, .int i1549), (4, .int i1550), (3, .int i1536), (2, .int i1470), (0, .ref w), (1, .int p0)] ∧ va_P D vwCl [(w, .inr (0, [.ref wa0, .ref wa1, .ref wa2, .ref wa3, .int wn4, .int wn5])), (wa2, .inl (K 1, 5, .inl g1551))] H ∧ va_D A [(w, .inr (0, [.ref wa0, .ref wa1, .ref wa2, .ref wa3, .int wn4, .int wn5])), (wa2, .inl (K 1, 5, .inl g1551))] := ⟨_, _, _, by omega, by omega, hl', hP', hD'⟩
              clear hl' hP' hD'
              obtain ⟨n_83, hn_83⟩ : ∃ n : Nat, (i1549.toInt - i1550.toInt).toNat < n := ⟨_, Nat.lt_succ_self _⟩
              induction n_83 generalizing i1549 i1550 g1551 H locs ls with
              | zero => exact absurd hn_83 (Nat.not_lt_zero _)
              | succ n_83 ih_83 =>
                refine lv_iload hx hb dX0_nextOrder_83 (lv_at hl 1 rfl) ?_
                refine lv_iload hx hb dX0_nextOrder_85 (lv_at hl 0 rfl) ?_
                refine lv_icmp_ge (tgt := 107) hx hb dX0_nextOrder_87 (by decide) (fun c1552 => ?_) (fun c1552 => ?_)
                · replace c1552 := le_i c1552
                  refine lv_iconst (v := 1) hx hb dX0_nextOrder_107 (by decide) ?_
                  refine W.widen (k := 0) (n := 0) (by decide) (by decide) ?_
                  exact ch_zret hC hr hk hS dX0_nextOrder_108 rfl ((fun k => [].getD k 0, fun k => [g1551].getD k (fun _ => 0), fun k => [].getD k (fun _ => 0)) : ((Nat → Int32) × (Nat → Nat → Int32) × (Nat → Nat → Int64))) (Or.inr rfl) (hP.sub [0, 1] rfl) (hD.sub [0, 1] (by decide) rfl)
                · replace c1552 := nle_i c1552
                  refine lv_aload_n hx hb dX0_nextOrder_90 rfl (lv_at hl 4 rfl) ?_
                  refine lv_iload hx hb dX0_nextOrder_91 (lv_at hl 1 rfl) ?_
                  refine lv_iload hx hb dX0_nextOrder_93 (lv_at hl 0 rfl) ?_
                  refine cv_V (As := [.int i1550, .int i1549]) (rest := []) (wc := [(w, .inr (0, [.ref wa0, .ref wa1, .ref wa2, .ref wa3, .int wn4, .int wn5])), (wa2, .inl (K 1, 5, .inl g1551))]) (wr := []) hC hE kV_X0_116 (c_X0_swap l D K w wa0 wa1 wa2 wa3 wn4 wn5 g1551 i1550 i1549) hP hD hS hA [0, 1] [] rfl rfl rfl (by decide) (by decide) (by decide) 0 0 rfl rfl rfl hl.1 rfl (Nat.le_of_ble_eq_true rfl) (by decide) (by decide) dX0_nextOrder_95 (fun u1553 H locs hw hP hD hS => ?_)
                  replace hP : va_P D vwCl [(w, .inr (0, [.ref wa0, .ref wa1, .ref wa2, .ref wa3, .int wn4, .int wn5])), (wa2, .inl (K 1, 5, .inl (u1553.2.1 0)))] H := hP
                  replace hD : va_D A [(w, .inr (0, [.ref wa0, .ref wa1, .ref wa2, .ref wa3, .int wn4, .int wn5])), (wa2, .inl (K 1, 5, .inl (u1553.2.1 0)))] := hD
                  replace hP : va_P D vwCl [(w, .inr (0, [.ref wa0, .ref wa1, .ref wa2, .ref wa3, .int wn4, .int wn5])), (wa2, .inl (K 1, 5, .inl (u1553.2.1 0)))] H := hP.sub [0, 1] rfl
                  replace hD : va_D A [(w, .inr (0, [.ref wa0, .ref wa1, .ref wa2, .ref wa3, .int wn4, .int wn5])), (wa2, .inl (K 1, 5, .inl (u1553.2.1 0)))] := hD.sub [0, 1] (by decide) rfl
                  refine W.widen (k := 0) (n := 0) (by decide) (by decide) ?_
                  obtain ⟨v1555, ev1555⟩ : ∃ z : Int32, z = i1550 + 1 := ⟨_, rfl⟩
                  refine lv_iinc (v := v1555) (lv' := [(4, .int v1555), (5, .int i1549), (3, .int i1536), (2, .int i1470), (0, .ref w), (1, .int p0)]) hx hb dX0_nextOrder_98 hl (k := 1) rfl (by rw [ev1555]; rfl) (by decide) rfl (fun ls hl => ?_)
                  obtain ⟨v1556, ev1556⟩ : ∃ z : Int32, z = i1549 + (-1) := ⟨_, rfl⟩
                  refine lv_iinc (v := v1556) (lv' := [(5, .int v1556), (4, .int v1555), (3, .int i1536), (2, .int i1470), (0, .ref w), (1, .int p0)]) hx hb dX0_nextOrder_101 hl (k := 1) rfl (by rw [ev1556]; rfl) (by decide) rfl (fun ls hl => ?_)
                  refine lv_goto (tgt := 83) hx hb dX0_nextOrder_104 (by decide) ?_
                  have tv1556 : v1556.toInt = (i1549 : Int32).toInt + ((-1) : Int32).toInt := add_i ev1556 (by omega) (by omega)
                  have tv1555 : v1555.toInt = (i1550 : Int32).toInt + (1 : Int32).toInt := add_i ev1555 (by omega) (by omega)
                  exact ih_83 (i1549 := v1556) (i1550 := v1555) (g1551 := (u1553.2.1 0)) (hi_83 := by omega) (hv_83 := by omega) (H := H) (locs := locs) (ls := ls) (hn_83 := by omega) (hP := hP) (hD := hD) (hS := hS) (hl := lv_sub hl [0, 1, 2, 3, 4, 5] rfl)
            · replace c1537 := nle_i c1537
              refine lv_aload_n hx hb dX0_nextOrder_46 rfl (lv_at hl 2 rfl) ?_
              refine va_get (D := D) (ci := 0) (v := .ref wa2) (C := RX0) (T := TX0) (N := 6) hx hb hts in_X0 hown hE.1 hP 0 rfl rfl 2 (by decide) (hts _ w_202) (fun _ h9 => h9) rfl dX0_nextOrder_47 ?_
              refine lv_iload_n hx hb dX0_nextOrder_50 rfl (lv_at hl 0 rfl) ?_
              refine va_iald hx hb hE.1 hP 1 1 rfl rfl (vp_in_iff.mpr (by omega)) dX0_nextOrder_51 ?_
              refine lv_topi (fun v1557 ev1557 => ?_)
              refine lv_aload_n hx hb dX0_nextOrder_52 rfl (lv_at hl 2 rfl) ?_
              refine va_get (D := D) (ci := 0) (v := .ref wa2) (C := RX0) (T := TX0) (N := 6) hx hb hts in_X0 hown hE.1 hP 0 rfl rfl 2 (by decide) (hts _ w_202) (fun _ h9 => h9) rfl dX0_nextOrder_53 ?_
              refine lv_iload_n hx hb dX0_nextOrder_56 rfl (lv_at hl 1 rfl) ?_
              refine va_iald hx hb hE.1 hP 1 1 rfl rfl (vp_in_iff.mpr (by omega)) dX0_nextOrder_57 ?_
              refine lv_topi (fun v1558 ev1558 => ?_)
              refine lv_icmp_ge (tgt := 67) hx hb dX0_nextOrder_58 (by decide) (fun c1559 => ?_) (fun c1559 => ?_)
              · replace c1559 := le_i c1559
                refine lv_aload_n hx hb dX0_nextOrder_67 rfl (lv_at hl 2 rfl) ?_
                refine lv_iload_n hx hb dX0_nextOrder_68 rfl (lv_at hl 1 rfl) ?_
                refine lv_iload_n hx hb dX0_nextOrder_69 rfl (lv_at hl 0 rfl) ?_
                refine cv_V (As := [.int i1470, .int i1536]) (rest := []) (wc := [(w, .inr (0, [.ref wa0, .ref wa1, .ref wa2, .ref wa3, .int wn4, .int wn5])), (wa2, .inl (K 1, 5, .inl wf2))]) (wr := []) hC hE kV_X0_116 (c_X0_swap l D K w wa0 wa1 wa2 wa3 wn4 wn5 wf2 i1470 i1536) hP hD hS hA [0, 1] [] rfl rfl rfl (by decide) (by decide) (by decide) 0 0 rfl rfl rfl hl.1 rfl (Nat.le_of_ble_eq_true rfl) (by decide) (by decide) dX0_nextOrder_70 (fun u1560 H locs hw hP hD hS => ?_)
                replace hP : va_P D vwCl [(w, .inr (0, [.ref wa0, .ref wa1, .ref wa2, .ref wa3, .int wn4, .int wn5])), (wa2, .inl (K 1, 5, .inl (u1560.2.1 0)))] H := hP
                replace hD : va_D A [(w, .inr (0, [.ref wa0, .ref wa1, .ref wa2, .ref wa3, .int wn4, .int wn5])), (wa2, .inl (K 1, 5, .inl (u1560.2.1 0)))] := hD
                replace hP : va_P D vwCl [(w, .inr (0, [.ref wa0, .ref wa1, .ref wa2, .ref wa3, .int wn4, .int wn5])), (wa2, .inl (K 1, 5, .inl (u1560.2.1 0)))] H := hP.sub [0, 1] rfl
                replace hD : va_D A [(w, .inr (0, [.ref wa0, .ref wa1, .ref wa2, .ref wa3, .int wn4, .int wn5])), (wa2, .inl (K 1, 5, .inl (u1560.2.1 0)))] := hD.sub [0, 1] (by decide) rfl
                refine W.widen (k := 0) (n := 0) (by decide) (by decide) ?_
                refine lv_iload_n hx hb dX0_nextOrder_73 rfl (lv_at hl 1 rfl) ?_
                refine lv_iconst (v := 1) hx hb dX0_nextOrder_74 (by decide) ?_
                refine lv_iadd hx hb dX0_nextOrder_75 ?_
                refine lv_topi (fun v1562 ev1562 => ?_)
                refine lv_istore (lv' := [(4, .int v1562), (3, .int i1536), (2, .int i1470), (0, .ref w), (1, .int p0)]) hx hb dX0_nextOrder_76 hl (by decide) rfl (fun ls hl => ?_)
                refine lv_iload_n hx hb dX0_nextOrder_78 rfl (lv_at hl 4 rfl) ?_
                refine lv_iconst (v := 1) hx hb dX0_nextOrder_79 (by decide) ?_
                refine lv_isub hx hb dX0_nextOrder_80 ?_
                refine lv_topi (fun v1563 ev1563 => ?_)
                refine lv_istore (lv' := [(5, .int v1563), (4, .int v1562), (3, .int i1536), (2, .int i1470), (0, .ref w), (1, .int p0)]) hx hb dX0_nextOrder_81 hl (by decide) rfl (fun ls hl => ?_)
                have tv1563 : v1563.toInt = (p0 : Int32).toInt - (1 : Int32).toInt := sub_i ev1563 (by omega) (by omega)
                have tv1562 : v1562.toInt = (i1470 : Int32).toInt + (1 : Int32).toInt := add_i ev1562 (by omega) (by omega)
                have hl' := hl; have hP' := hP; have hD' := hD; clear hl hP hD
                obtain ⟨i1571, i1572, g1573, hi_83, hv_83, hl, hP, hD⟩ : ∃ (i1571 : Int32) (i1572 : Int32) (g1573 : Nat → Int32), ((0 : Int) ≤ i1572.toInt) ∧ (i1571.toInt ≤ 4) ∧ lv_has ls 6 [(5, .int i1571), (4, .int i1572), (3, .int i1536), (2, .int i1470), (0, .ref w), (1, .int p0)] ∧ va_P D vwCl [(w, .inr (0, [.ref wa0, .ref wa1, .ref wa2, .ref wa3, .int wn4, .int wn5])), (wa2, .inl (K 1, 5, .inl g1573))] H ∧ va_D A [(w, .inr (0, [.ref wa0, .ref wa1, .ref wa2, .ref wa3, .int wn4, .int wn5])), (wa2, .inl (K 1, 5, .inl g1573))] := ⟨_, _, _, by omega, by omega, hl', hP', hD'⟩
                clear hl' hP' hD'
                obtain ⟨n_83, hn_83⟩ : ∃ n : Nat, (i1571.toInt - i1572.toInt).toNat < n := ⟨_, Nat.lt_succ_self _⟩
                induction n_83 generalizing i1571 i1572 g1573 H locs ls with
                | zero => exact absurd hn_83 (Nat.not_lt_zero _)
                | succ n_83 ih_83 =>
                  refine lv_iload hx hb dX0_nextOrder_83 (lv_at hl 1 rfl) ?_
                  refine lv_iload hx hb dX0_nextOrder_85 (lv_at hl 0 rfl) ?_
                  refine lv_icmp_ge (tgt := 107) hx hb dX0_nextOrder_87 (by decide) (fun c1574 => ?_) (fun c1574 => ?_)
                  · replace c1574 := le_i c1574
                    refine lv_iconst (v := 1) hx hb dX0_nextOrder_107 (by decide) ?_
                    refine W.widen (k := 0) (n := 0) (by decide) (by decide) ?_
                    exact ch_zret hC hr hk hS dX0_nextOrder_108 rfl ((fun k => [].getD k 0, fun k => [g1573].getD k (fun _ => 0), fun k => [].getD k (fun _ => 0)) : ((Nat → Int32) × (Nat → Nat → Int32) × (Nat → Nat → Int64))) (Or.inr rfl) (hP.sub [0, 1] rfl) (hD.sub [0, 1] (by decide) rfl)
                  · replace c1574 := nle_i c1574
                    refine lv_aload_n hx hb dX0_nextOrder_90 rfl (lv_at hl 4 rfl) ?_
                    refine lv_iload hx hb dX0_nextOrder_91 (lv_at hl 1 rfl) ?_
                    refine lv_iload hx hb dX0_nextOrder_93 (lv_at hl 0 rfl) ?_
                    refine cv_V (As := [.int i1572, .int i1571]) (rest := []) (wc := [(w, .inr (0, [.ref wa0, .ref wa1, .ref wa2, .ref wa3, .int wn4, .int wn5])), (wa2, .inl (K 1, 5, .inl g1573))]) (wr := []) hC hE kV_X0_116 (c_X0_swap l D K w wa0 wa1 wa2 wa3 wn4 wn5 g1573 i1572 i1571) hP hD hS hA [0, 1] [] rfl rfl rfl (by decide) (by decide) (by decide) 0 0 rfl rfl rfl hl.1 rfl (Nat.le_of_ble_eq_true rfl) (by decide) (by decide) dX0_nextOrder_95 (fun u1575 H locs hw hP hD hS => ?_)
                    replace hP : va_P D vwCl [(w, .inr (0, [.ref wa0, .ref wa1, .ref wa2, .ref wa3, .int wn4, .int wn5])), (wa2, .inl (K 1, 5, .inl (u1575.2.1 0)))] H := hP
                    replace hD : va_D A [(w, .inr (0, [.ref wa0, .ref wa1, .ref wa2, .ref wa3, .int wn4, .int wn5])), (wa2, .inl (K 1, 5, .inl (u1575.2.1 0)))] := hD
                    replace hP : va_P D vwCl [(w, .inr (0, [.ref wa0, .ref wa1, .ref wa2, .ref wa3, .int wn4, .int wn5])), (wa2, .inl (K 1, 5, .inl (u1575.2.1 0)))] H := hP.sub [0, 1] rfl
                    replace hD : va_D A [(w, .inr (0, [.ref wa0, .ref wa1, .ref wa2, .ref wa3, .int wn4, .int wn5])), (wa2, .inl (K 1, 5, .inl (u1575.2.1 0)))] := hD.sub [0, 1] (by decide) rfl
                    refine W.widen (k := 0) (n := 0) (by decide) (by decide) ?_
                    obtain ⟨v1577, ev1577⟩ : ∃ z : Int32, z = i1572 + 1 := ⟨_, rfl⟩
                    refine lv_iinc (v := v1577) (lv' := [(4, .int v1577), (5, .int i1571), (3, .int i1536), (2, .int i1470), (0, .ref w), (1, .int p0)]) hx hb dX0_nextOrder_98 hl (k := 1) rfl (by rw [ev1577]; rfl) (by decide) rfl (fun ls hl => ?_)
                    obtain ⟨v1578, ev1578⟩ : ∃ z : Int32, z = i1571 + (-1) := ⟨_, rfl⟩
                    refine lv_iinc (v := v1578) (lv' := [(5, .int v1578), (4, .int v1577), (3, .int i1536), (2, .int i1470), (0, .ref w), (1, .int p0)]) hx hb dX0_nextOrder_101 hl (k := 1) rfl (by rw [ev1578]; rfl) (by decide) rfl (fun ls hl => ?_)
                    refine lv_goto (tgt := 83) hx hb dX0_nextOrder_104 (by decide) ?_
                    have tv1578 : v1578.toInt = (i1571 : Int32).toInt + ((-1) : Int32).toInt := add_i ev1578 (by omega) (by omega)
                    have tv1577 : v1577.toInt = (i1572 : Int32).toInt + (1 : Int32).toInt := add_i ev1577 (by omega) (by omega)
                    exact ih_83 (i1571 := v1578) (i1572 := v1577) (g1573 := (u1575.2.1 0)) (hi_83 := by omega) (hv_83 := by omega) (H := H) (locs := locs) (ls := ls) (hn_83 := by omega) (hP := hP) (hD := hD) (hS := hS) (hl := lv_sub hl [0, 1, 2, 3, 4, 5] rfl)
              · replace c1559 := nle_i c1559
                obtain ⟨v1579, ev1579⟩ : ∃ z : Int32, z = i1536 + (-1) := ⟨_, rfl⟩
                refine lv_iinc (v := v1579) (lv' := [(3, .int v1579), (2, .int i1470), (0, .ref w), (1, .int p0)]) hx hb dX0_nextOrder_61 hl (k := 0) rfl (by rw [ev1579]; rfl) (by decide) rfl (fun ls hl => ?_)
                refine lv_goto (tgt := 41) hx hb dX0_nextOrder_64 (by decide) ?_
                have tv1579 : v1579.toInt = (i1536 : Int32).toInt + ((-1) : Int32).toInt := add_i ev1579 (by omega) (by omega)
                exact ih_41 (i1536 := v1579) (hv_41 := by omega) (H := H) (locs := locs) (ls := ls) (hn_41 := by omega) (hP := hP) (hS := hS) (hl := lv_sub hl [0, 1, 2, 3] rfl)
        · replace c1528 := nle_i c1528
          refine lv_iconst (v := 0) hx hb dX0_nextOrder_35 (by decide) ?_
          refine W.widen (k := 0) (n := 0) (by decide) (by decide) ?_
          exact ch_zret hC hr hk hS dX0_nextOrder_36 rfl ((fun k => [].getD k 0, fun k => [wf2].getD k (fun _ => 0), fun k => [].getD k (fun _ => 0)) : ((Nat → Int32) × (Nat → Nat → Int32) × (Nat → Nat → Int64))) (Or.inl rfl) (hP.sub [0, 1] rfl) (hD.sub [0, 1] (by decide) rfl)
      · replace c1527 := nle_i c1527
        obtain ⟨v1580, ev1580⟩ : ∃ z : Int32, z = i1470 + (-1) := ⟨_, rfl⟩
        refine lv_iinc (v := v1580) (lv' := [(2, .int v1580), (0, .ref w), (1, .int p0)]) hx hb dX0_nextOrder_25 hl (k := 0) rfl (by rw [ev1580]; rfl) (by decide) rfl (fun ls hl => ?_)
        refine lv_goto (tgt := 4) hx hb dX0_nextOrder_28 (by decide) ?_
        have tv1580 : v1580.toInt = (i1470 : Int32).toInt + ((-1) : Int32).toInt := add_i ev1580 (by omega) (by omega)
        exact ih_4 (i1470 := v1580) (hv_4 := by omega) (hw_4 := by omega) (H := H) (locs := locs) (ls := ls) (hn_4 := by omega) (hP := hP) (hS := hS) (hl := lv_sub hl [0, 1, 2] rfl)
set_option maxRecDepth 40000 in
set_option maxHeartbeats 4000000 in
theorem c_X0_teach (l : Launch) (D : va_G) (K : Nat → ClassId) (w : Nat) (wa0 : Nat) (wa1 : Nat) (wa2 : Nat) (wa3 : Nat) (wa0a0 : Nat) (wa0a1 : Nat) (wa0a2 : Nat) (wa0a3 : Nat) (wa0a4 : Nat) (wa0a5 : Nat) (wa0a6 : Nat) (wa0a7 : Nat) (wn4 : Int32) (wn5 : Int32) (wa0n8 : Int32) (wa0n9 : Int32) (wa0n10 : Int32) (wa0n11 : Int32) (wa1n0 : Int32) (wa1n1 : Int32) (wa1n2 : Int32) (wa0f0 : Nat → Int32) (wa0f1 : Nat → Int32) (wa0f2 : Nat → Int32) (wa0f3 : Nat → Int32) (wa0f4 : Nat → Int32) (wa0f5 : Nat → Int32) (wa0f6 : Nat → Int32) (wa0f7 : Nat → Int32) (p0 : Int32) : Cv (S := ((Nat → Int32) × (Nat → Nat → Int32) × (Nat → Nat → Int64))) l D K yX0_teach cX0_teach 3 2 44 0 0 [.ref w, .int p0] [(w, .inr (0, [.ref wa0, .ref wa1, .ref wa2, .ref wa3, .int wn4, .int wn5])), (wa0, .inr (9, [.ref wa0a0, .ref wa0a1, .ref wa0a2, .ref wa0a3, .ref wa0a4, .ref wa0a5, .ref wa0a6, .ref wa0a7, .int wa0n8, .int wa0n9, .int wa0n10, .int wa0n11])), (wa0a0, .inl (K 1, 40, .inl wa0f0)), (wa0a1, .inl (K 1, 10, .inl wa0f1)), (wa0a2, .inl (K 1, 4, .inl wa0f2)), (wa0a3, .inl (K 1, 4, .inl wa0f3)), (wa0a4, .inl (K 1, 4, .inl wa0f4)), (wa0a5, .inl (K 1, 5, .inl wa0f5)), (wa0a6, .inl (K 1, 5, .inl wa0f6)), (wa0a7, .inl (K 1, 5, .inl wa0f7)), (wa1, .inr (8, [.int wa1n0, .int wa1n1, .int wa1n2]))] (fun _ => True) (fun u => [(w, .inr (0, [.ref wa0, .ref wa1, .ref wa2, .ref wa3, .int wn4, .int wn5])), (wa0, .inr (9, [.ref wa0a0, .ref wa0a1, .ref wa0a2, .ref wa0a3, .ref wa0a4, .ref wa0a5, .ref wa0a6, .ref wa0a7, .int wa0n8, .int wa0n9, .int wa0n10, .int wa0n11])), (wa0a0, .inl (K 1, 40, .inl (u.2.1 0))), (wa0a1, .inl (K 1, 10, .inl (u.2.1 1))), (wa0a2, .inl (K 1, 4, .inl wa0f2)), (wa0a3, .inl (K 1, 4, .inl wa0f3)), (wa0a4, .inl (K 1, 4, .inl wa0f4)), (wa0a5, .inl (K 1, 5, .inl wa0f5)), (wa0a6, .inl (K 1, 5, .inl wa0f6)), (wa0a7, .inl (K 1, 5, .inl wa0f7)), (wa1, .inr (8, [.int wa1n0, .int wa1n1, .int (u.1 0)]))]) := by
  intro sz
  refine ch_of (y := yX0_teach) (cc := cX0_teach) (maxL := 3) (ret := none) (av := [.ref w, .int p0]) (ws := [(w, .inr (0, [.ref wa0, .ref wa1, .ref wa2, .ref wa3, .int wn4, .int wn5])), (wa0, .inr (9, [.ref wa0a0, .ref wa0a1, .ref wa0a2, .ref wa0a3, .ref wa0a4, .ref wa0a5, .ref wa0a6, .ref wa0a7, .int wa0n8, .int wa0n9, .int wa0n10, .int wa0n11])), (wa0a0, .inl (K 1, 40, .inl wa0f0)), (wa0a1, .inl (K 1, 10, .inl wa0f1)), (wa0a2, .inl (K 1, 4, .inl wa0f2)), (wa0a3, .inl (K 1, 4, .inl wa0f3)), (wa0a4, .inl (K 1, 4, .inl wa0f4)), (wa0a5, .inl (K 1, 5, .inl wa0f5)), (wa0a6, .inl (K 1, 5, .inl wa0f6)), (wa0a7, .inl (K 1, 5, .inl wa0f7)), (wa1, .inr (8, [.int wa1n0, .int wa1n1, .int wa1n2]))]) (D := D) (K := K) (Qc := fun A => va_Qv (S := ((Nat → Int32) × (Nat → Nat → Int32) × (Nat → Nat → Int64))) (fun _ => True) (chB D A (fun u => [(w, .inr (0, [.ref wa0, .ref wa1, .ref wa2, .ref wa3, .int wn4, .int wn5])), (wa0, .inr (9, [.ref wa0a0, .ref wa0a1, .ref wa0a2, .ref wa0a3, .ref wa0a4, .ref wa0a5, .ref wa0a6, .ref wa0a7, .int wa0n8, .int wa0n9, .int wa0n10, .int wa0n11])), (wa0a0, .inl (K 1, 40, .inl (u.2.1 0))), (wa0a1, .inl (K 1, 10, .inl (u.2.1 1))), (wa0a2, .inl (K 1, 4, .inl wa0f2)), (wa0a3, .inl (K 1, 4, .inl wa0f3)), (wa0a4, .inl (K 1, 4, .inl wa0f4)), (wa0a5, .inl (K 1, 5, .inl wa0f5)), (wa0a6, .inl (K 1, 5, .inl wa0f6)), (wa0a7, .inl (K 1, 5, .inl wa0f7)), (wa1, .inr (8, [.int wa1n0, .int wa1n1, .int (u.1 0)]))])) A) (by decide) (Nat.le_of_ble_eq_true rfl) ?_
  intro p e s m below meth c A hC hr hk hin hE hD hA H locs hP hS ls hl
  replace hC : CallFix p m c cX0_teach 3 s [.ref w, .int p0].toArray wl RX0 := hC
  have hx := hC.1
  have hb := hC.2.1
  have hml := hC.2.2.1
  have hown := hC.2.2.2.1
  have hts := hC.2.2.2.2
  replace hl : lv_has ls 3 [(0, .ref w), (1, .int p0)] := hl
  have kc_0 : (0 : Int32).toInt = 0 := by decide
  have kc_5 : (5 : Int32).toInt = 5 := by decide
  refine lv_iload_n hx hb dX0_teach_0 rfl (lv_at hl 1 rfl) ?_
  refine lv_if_lt (tgt := 9) hx hb dX0_teach_1 (by decide) (fun c1594 => ?_) (fun c1594 => ?_)
  · replace c1594 := lt_i c1594
    refine W.widen (k := 0) (n := 0) (by decide) (by decide) ?_
    exact ch_vret hC hr hk hS dX0_teach_9 ((fun k => [wa1n2].getD k 0, fun k => [wa0f0, wa0f1].getD k (fun _ => 0), fun k => [].getD k (fun _ => 0)) : ((Nat → Int32) × (Nat → Nat → Int32) × (Nat → Nat → Int64))) trivial (hP.sub [0, 1, 2, 3, 4, 5, 6, 7, 8, 9, 10] rfl) (hD.sub [0, 1, 2, 3, 4, 5, 6, 7, 8, 9, 10] (by decide) rfl)
  · replace c1594 := nlt_i c1594
    refine lv_iload_n hx hb dX0_teach_4 rfl (lv_at hl 1 rfl) ?_
    refine lv_iconst (v := 5) hx hb dX0_teach_5 (by decide) ?_
    refine lv_icmp_lt (tgt := 10) hx hb dX0_teach_6 (by decide) (fun c1595 => ?_) (fun c1595 => ?_)
    · replace c1595 := lt_i c1595
      refine lv_aload_n hx hb dX0_teach_10 rfl (lv_at hl 0 rfl) ?_
      refine va_get (D := D) (ci := 0) (v := .ref wa0) (C := RX0) (T := TX0) (N := 6) hx hb hts in_X0 hown hE.1 hP 0 rfl rfl 0 (by decide) (hts _ w_208) (fun _ h9 => h9) rfl dX0_teach_11 ?_
      refine va_get (D := D) (ci := 9) (v := .ref wa0a6) (C := RX10) (T := TX10) (N := 12) hx hb hts in_X10 hown hE.1 hP 1 rfl rfl 6 (by decide) (hts _ w_209) (fun _ h9 => h9) rfl dX0_teach_14 ?_
      refine lv_iload_n hx hb dX0_teach_17 rfl (lv_at hl 1 rfl) ?_
      refine va_iald hx hb hE.1 hP 8 1 rfl rfl (vp_in_iff.mpr (by omega)) dX0_teach_18 ?_
      refine lv_topi (fun v1596 ev1596 => ?_)
      refine lv_istore_n (lv' := [(2, .int v1596), (0, .ref w), (1, .int p0)]) hx hb dX0_teach_19 rfl hl (by decide) rfl (fun ls hl => ?_)
      refine lv_aload_n hx hb dX0_teach_20 rfl (lv_at hl 1 rfl) ?_
      refine va_get (D := D) (ci := 0) (v := .ref wa0) (C := RX0) (T := TX0) (N := 6) hx hb hts in_X0 hown hE.1 hP 0 rfl rfl 0 (by decide) (hts _ w_208) (fun _ h9 => h9) rfl dX0_teach_21 ?_
      refine va_get (D := D) (ci := 9) (v := .ref wa0a5) (C := RX10) (T := TX10) (N := 12) hx hb hts in_X10 hown hE.1 hP 1 rfl rfl 5 (by decide) (hts _ w_210) (fun _ h9 => h9) rfl dX0_teach_24 ?_
      refine lv_iload_n hx hb dX0_teach_27 rfl (lv_at hl 2 rfl) ?_
      refine va_iald hx hb hE.1 hP 7 1 rfl rfl (vp_in_iff.mpr (by omega)) dX0_teach_28 ?_
      refine lv_topi (fun v1597 ev1597 => ?_)
      by_cases c1598 : v1597 = 0
      · refine tc (y := 0) c1598 ?_
        refine lv_lookup (off := 27) (tgt := 56) hx hb dX0_teach_29 (by decide) (by decide) (by decide) ?_
        refine lv_aload_n hx hb dX0_teach_56 rfl (lv_at hl 1 rfl) ?_
        refine va_get (D := D) (ci := 0) (v := .ref wa0) (C := RX0) (T := TX0) (N := 6) hx hb hts in_X0 hown hE.1 hP 0 rfl rfl 0 (by decide) (hts _ w_208) (fun _ h9 => h9) rfl dX0_teach_57 ?_
        refine lv_iload_n hx hb dX0_teach_60 rfl (lv_at hl 0 rfl) ?_
        refine lv_iconst (v := 0) hx hb dX0_teach_61 (by decide) ?_
        refine cv_V (As := [.int v1596, .int 0]) (rest := []) (wc := [(wa0, .inr (9, [.ref wa0a0, .ref wa0a1, .ref wa0a2, .ref wa0a3, .ref wa0a4, .ref wa0a5, .ref wa0a6, .ref wa0a7, .int wa0n8, .int wa0n9, .int wa0n10, .int wa0n11])), (wa0a1, .inl (K 1, 10, .inl wa0f1))]) (wr := [(w, .inr (0, [.ref wa0, .ref wa1, .ref wa2, .ref wa3, .int wn4, .int wn5])), (wa0a0, .inl (K 1, 40, .inl wa0f0)), (wa0a2, .inl (K 1, 4, .inl wa0f2)), (wa0a3, .inl (K 1, 4, .inl wa0f3)), (wa0a4, .inl (K 1, 4, .inl wa0f4)), (wa0a5, .inl (K 1, 5, .inl wa0f5)), (wa0a6, .inl (K 1, 5, .inl wa0f6)), (wa0a7, .inl (K 1, 5, .inl wa0f7)), (wa1, .inr (8, [.int wa1n0, .int wa1n1, .int wa1n2]))]) hC hE kV_X0_106 (c_X10_setSign l D K wa0 wa0a0 wa0a1 wa0a2 wa0a3 wa0a4 wa0a5 wa0a6 wa0a7 wa0n8 wa0n9 wa0n10 wa0n11 wa0f1 v1596 0) hP hD hS hA [1, 3] [0, 2, 4, 5, 6, 7, 8, 9, 10] rfl rfl rfl (by decide) (by decide) (by decide) 0 9 rfl rfl rfl hl.1 rfl (Nat.le_of_ble_eq_true rfl) (by decide) (by decide) dX0_teach_62 (fun u1599 H locs hw hP hD hS => ?_)
        replace hP : va_P D vwCl [(w, .inr (0, [.ref wa0, .ref wa1, .ref wa2, .ref wa3, .int wn4, .int wn5])), (wa0a0, .inl (K 1, 40, .inl wa0f0)), (wa0a2, .inl (K 1, 4, .inl wa0f2)), (wa0a3, .inl (K 1, 4, .inl wa0f3)), (wa0a4, .inl (K 1, 4, .inl wa0f4)), (wa0a5, .inl (K 1, 5, .inl wa0f5)), (wa0a6, .inl (K 1, 5, .inl wa0f6)), (wa0a7, .inl (K 1, 5, .inl wa0f7)), (wa1, .inr (8, [.int wa1n0, .int wa1n1, .int wa1n2])), (wa0, .inr (9, [.ref wa0a0, .ref wa0a1, .ref wa0a2, .ref wa0a3, .ref wa0a4, .ref wa0a5, .ref wa0a6, .ref wa0a7, .int wa0n8, .int wa0n9, .int wa0n10, .int wa0n11])), (wa0a1, .inl (K 1, 10, .inl (u1599.2.1 0)))] H := hP
        replace hD : va_D A [(w, .inr (0, [.ref wa0, .ref wa1, .ref wa2, .ref wa3, .int wn4, .int wn5])), (wa0a0, .inl (K 1, 40, .inl wa0f0)), (wa0a2, .inl (K 1, 4, .inl wa0f2)), (wa0a3, .inl (K 1, 4, .inl wa0f3)), (wa0a4, .inl (K 1, 4, .inl wa0f4)), (wa0a5, .inl (K 1, 5, .inl wa0f5)), (wa0a6, .inl (K 1, 5, .inl wa0f6)), (wa0a7, .inl (K 1, 5, .inl wa0f7)), (wa1, .inr (8, [.int wa1n0, .int wa1n1, .int wa1n2])), (wa0, .inr (9, [.ref wa0a0, .ref wa0a1, .ref wa0a2, .ref wa0a3, .ref wa0a4, .ref wa0a5, .ref wa0a6, .ref wa0a7, .int wa0n8, .int wa0n9, .int wa0n10, .int wa0n11])), (wa0a1, .inl (K 1, 10, .inl (u1599.2.1 0)))] := hD
        replace hP : va_P D vwCl [(w, .inr (0, [.ref wa0, .ref wa1, .ref wa2, .ref wa3, .int wn4, .int wn5])), (wa0, .inr (9, [.ref wa0a0, .ref wa0a1, .ref wa0a2, .ref wa0a3, .ref wa0a4, .ref wa0a5, .ref wa0a6, .ref wa0a7, .int wa0n8, .int wa0n9, .int wa0n10, .int wa0n11])), (wa0a0, .inl (K 1, 40, .inl wa0f0)), (wa0a1, .inl (K 1, 10, .inl (u1599.2.1 0))), (wa0a2, .inl (K 1, 4, .inl wa0f2)), (wa0a3, .inl (K 1, 4, .inl wa0f3)), (wa0a4, .inl (K 1, 4, .inl wa0f4)), (wa0a5, .inl (K 1, 5, .inl wa0f5)), (wa0a6, .inl (K 1, 5, .inl wa0f6)), (wa0a7, .inl (K 1, 5, .inl wa0f7)), (wa1, .inr (8, [.int wa1n0, .int wa1n1, .int wa1n2]))] H := hP.sub [0, 9, 1, 10, 2, 3, 4, 5, 6, 7, 8] rfl
        replace hD : va_D A [(w, .inr (0, [.ref wa0, .ref wa1, .ref wa2, .ref wa3, .int wn4, .int wn5])), (wa0, .inr (9, [.ref wa0a0, .ref wa0a1, .ref wa0a2, .ref wa0a3, .ref wa0a4, .ref wa0a5, .ref wa0a6, .ref wa0a7, .int wa0n8, .int wa0n9, .int wa0n10, .int wa0n11])), (wa0a0, .inl (K 1, 40, .inl wa0f0)), (wa0a1, .inl (K 1, 10, .inl (u1599.2.1 0))), (wa0a2, .inl (K 1, 4, .inl wa0f2)), (wa0a3, .inl (K 1, 4, .inl wa0f3)), (wa0a4, .inl (K 1, 4, .inl wa0f4)), (wa0a5, .inl (K 1, 5, .inl wa0f5)), (wa0a6, .inl (K 1, 5, .inl wa0f6)), (wa0a7, .inl (K 1, 5, .inl wa0f7)), (wa1, .inr (8, [.int wa1n0, .int wa1n1, .int wa1n2]))] := hD.sub [0, 9, 1, 10, 2, 3, 4, 5, 6, 7, 8] (by decide) rfl
        refine W.widen (k := 0) (n := 0) (by decide) (by decide) ?_
        refine lv_goto (tgt := 107) hx hb dX0_teach_65 (by decide) ?_
        refine W.widen (k := 0) (n := 0) (by decide) (by decide) ?_
        exact ch_vret hC hr hk hS dX0_teach_107 ((fun k => [wa1n2].getD k 0, fun k => [wa0f0, (u1599.2.1 0)].getD k (fun _ => 0), fun k => [].getD k (fun _ => 0)) : ((Nat → Int32) × (Nat → Nat → Int32) × (Nat → Nat → Int64))) trivial (hP.sub [0, 1, 2, 3, 4, 5, 6, 7, 8, 9, 10] rfl) (hD.sub [0, 1, 2, 3, 4, 5, 6, 7, 8, 9, 10] (by decide) rfl)
      · have c1598n := ne_i c1598
        by_cases c1601 : v1597 = 1
        · refine tc (y := 1) c1601 ?_
          refine lv_lookup (off := 39) (tgt := 68) hx hb dX0_teach_29 (by decide) (by decide) (by decide) ?_
          refine lv_aload_n hx hb dX0_teach_68 rfl (lv_at hl 1 rfl) ?_
          refine va_get (D := D) (ci := 0) (v := .ref wa1) (C := RX0) (T := TX0) (N := 6) hx hb hts in_X0 hown hE.1 hP 0 rfl rfl 1 (by decide) (hts _ w_211) (fun _ h9 => h9) rfl dX0_teach_69 ?_
          refine lv_aload_n hx hb dX0_teach_72 rfl (lv_at hl 1 rfl) ?_
          refine va_get (D := D) (ci := 0) (v := .ref wa1) (C := RX0) (T := TX0) (N := 6) hx hb hts in_X0 hown hE.1 hP 0 rfl rfl 1 (by decide) (hts _ w_211) (fun _ h9 => h9) rfl dX0_teach_73 ?_
          refine va_get (D := D) (ci := 8) (v := .int wa1n2) (C := RX9) (T := TX9) (N := 3) hx hb hts in_X9 hown hE.1 hP 10 rfl rfl 2 (by decide) (hts _ w_212) (fun _ h9 => h9) rfl dX0_teach_76 ?_
          refine lv_iload_n hx hb dX0_teach_79 rfl (lv_at hl 0 rfl) ?_
          refine lv_iadd hx hb dX0_teach_80 ?_
          refine lv_topi (fun v1602 ev1602 => ?_)
          refine lv_iconst (v := 4) hx hb dX0_teach_81 (by decide) ?_
          refine lv_irem hx hb dX0_teach_82 (by decide) ?_
          refine lv_topi (fun v1603 ev1603 => ?_)
          refine va_put (D := D) (ci := 8) (v := .int v1603) (ty := .int) (C := RX9) (T := TX9) (N := 3) hx hb hts in_X9 tyX9 tyX9_ok nmX9 hown hE.1 hP hD hS 10 rfl rfl 2 (by decide) (hts _ w_212) (fun _ h9 => h9) rfl (by decide +kernel) rfl rfl (Nat.le_of_ble_eq_true rfl) dX0_teach_83 (fun H locs hP hD hS => ?_)
          replace hP : va_P D vwCl [(w, .inr (0, [.ref wa0, .ref wa1, .ref wa2, .ref wa3, .int wn4, .int wn5])), (wa0, .inr (9, [.ref wa0a0, .ref wa0a1, .ref wa0a2, .ref wa0a3, .ref wa0a4, .ref wa0a5, .ref wa0a6, .ref wa0a7, .int wa0n8, .int wa0n9, .int wa0n10, .int wa0n11])), (wa0a0, .inl (K 1, 40, .inl wa0f0)), (wa0a1, .inl (K 1, 10, .inl wa0f1)), (wa0a2, .inl (K 1, 4, .inl wa0f2)), (wa0a3, .inl (K 1, 4, .inl wa0f3)), (wa0a4, .inl (K 1, 4, .inl wa0f4)), (wa0a5, .inl (K 1, 5, .inl wa0f5)), (wa0a6, .inl (K 1, 5, .inl wa0f6)), (wa0a7, .inl (K 1, 5, .inl wa0f7)), (wa1, .inr (8, [.int wa1n0, .int wa1n1, .int v1603]))] H := hP
          replace hD : va_D A [(w, .inr (0, [.ref wa0, .ref wa1, .ref wa2, .ref wa3, .int wn4, .int wn5])), (wa0, .inr (9, [.ref wa0a0, .ref wa0a1, .ref wa0a2, .ref wa0a3, .ref wa0a4, .ref wa0a5, .ref wa0a6, .ref wa0a7, .int wa0n8, .int wa0n9, .int wa0n10, .int wa0n11])), (wa0a0, .inl (K 1, 40, .inl wa0f0)), (wa0a1, .inl (K 1, 10, .inl wa0f1)), (wa0a2, .inl (K 1, 4, .inl wa0f2)), (wa0a3, .inl (K 1, 4, .inl wa0f3)), (wa0a4, .inl (K 1, 4, .inl wa0f4)), (wa0a5, .inl (K 1, 5, .inl wa0f5)), (wa0a6, .inl (K 1, 5, .inl wa0f6)), (wa0a7, .inl (K 1, 5, .inl wa0f7)), (wa1, .inr (8, [.int wa1n0, .int wa1n1, .int v1603]))] := hD
          refine lv_goto (tgt := 107) hx hb dX0_teach_86 (by decide) ?_
          refine W.widen (k := 0) (n := 0) (by decide) (by decide) ?_
          exact ch_vret hC hr hk hS dX0_teach_107 ((fun k => [v1603].getD k 0, fun k => [wa0f0, wa0f1].getD k (fun _ => 0), fun k => [].getD k (fun _ => 0)) : ((Nat → Int32) × (Nat → Nat → Int32) × (Nat → Nat → Int64))) trivial (hP.sub [0, 1, 2, 3, 4, 5, 6, 7, 8, 9, 10] rfl) (hD.sub [0, 1, 2, 3, 4, 5, 6, 7, 8, 9, 10] (by decide) rfl)
        · have c1601n := ne_i c1601
          refine lv_lookup (off := 60) (tgt := 89) hx hb dX0_teach_29 (by decide) (by rw [lv_osw c1598 (by decide), lv_osw c1601 (by decide)]; rfl) (by decide) ?_
          refine lv_aload_n hx hb dX0_teach_89 rfl (lv_at hl 1 rfl) ?_
          refine va_get (D := D) (ci := 0) (v := .ref wa0) (C := RX0) (T := TX0) (N := 6) hx hb hts in_X0 hown hE.1 hP 0 rfl rfl 0 (by decide) (hts _ w_208) (fun _ h9 => h9) rfl dX0_teach_90 ?_
          refine lv_iload_n hx hb dX0_teach_93 rfl (lv_at hl 0 rfl) ?_
          refine lv_aload_n hx hb dX0_teach_94 rfl (lv_at hl 1 rfl) ?_
          refine va_get (D := D) (ci := 0) (v := .ref wa0) (C := RX0) (T := TX0) (N := 6) hx hb hts in_X0 hown hE.1 hP 0 rfl rfl 0 (by decide) (hts _ w_208) (fun _ h9 => h9) rfl dX0_teach_95 ?_
          refine va_get (D := D) (ci := 9) (v := .ref wa0a7) (C := RX10) (T := TX10) (N := 12) hx hb hts in_X10 hown hE.1 hP 1 rfl rfl 7 (by decide) (hts _ w_213) (fun _ h9 => h9) rfl dX0_teach_98 ?_
          refine lv_iload_n hx hb dX0_teach_101 rfl (lv_at hl 2 rfl) ?_
          refine va_iald hx hb hE.1 hP 9 1 rfl rfl (vp_in_iff.mpr (by omega)) dX0_teach_102 ?_
          refine lv_topi (fun v1604 ev1604 => ?_)
          refine lv_iload_n hx hb dX0_teach_103 rfl (lv_at hl 0 rfl) ?_
          refine cv_V (As := [.int v1596, .int v1604, .int v1596]) (rest := []) (wc := [(wa0, .inr (9, [.ref wa0a0, .ref wa0a1, .ref wa0a2, .ref wa0a3, .ref wa0a4, .ref wa0a5, .ref wa0a6, .ref wa0a7, .int wa0n8, .int wa0n9, .int wa0n10, .int wa0n11])), (wa0a0, .inl (K 1, 40, .inl wa0f0))]) (wr := [(w, .inr (0, [.ref wa0, .ref wa1, .ref wa2, .ref wa3, .int wn4, .int wn5])), (wa0a1, .inl (K 1, 10, .inl wa0f1)), (wa0a2, .inl (K 1, 4, .inl wa0f2)), (wa0a3, .inl (K 1, 4, .inl wa0f3)), (wa0a4, .inl (K 1, 4, .inl wa0f4)), (wa0a5, .inl (K 1, 5, .inl wa0f5)), (wa0a6, .inl (K 1, 5, .inl wa0f6)), (wa0a7, .inl (K 1, 5, .inl wa0f7)), (wa1, .inr (8, [.int wa1n0, .int wa1n1, .int wa1n2]))]) hC hE kV_X0_113 (c_X10_setWay l D K wa0 wa0a0 wa0a1 wa0a2 wa0a3 wa0a4 wa0a5 wa0a6 wa0a7 wa0n8 wa0n9 wa0n10 wa0n11 wa0f0 v1596 v1604 v1596) hP hD hS hA [1, 2] [0, 3, 4, 5, 6, 7, 8, 9, 10] rfl rfl rfl (by decide) (by decide) (by decide) 0 9 rfl rfl rfl hl.1 rfl (Nat.le_of_ble_eq_true rfl) (by decide) (by decide) dX0_teach_104 (fun u1605 H locs hw hP hD hS => ?_)
          replace hP : va_P D vwCl [(w, .inr (0, [.ref wa0, .ref wa1, .ref wa2, .ref wa3, .int wn4, .int wn5])), (wa0a1, .inl (K 1, 10, .inl wa0f1)), (wa0a2, .inl (K 1, 4, .inl wa0f2)), (wa0a3, .inl (K 1, 4, .inl wa0f3)), (wa0a4, .inl (K 1, 4, .inl wa0f4)), (wa0a5, .inl (K 1, 5, .inl wa0f5)), (wa0a6, .inl (K 1, 5, .inl wa0f6)), (wa0a7, .inl (K 1, 5, .inl wa0f7)), (wa1, .inr (8, [.int wa1n0, .int wa1n1, .int wa1n2])), (wa0, .inr (9, [.ref wa0a0, .ref wa0a1, .ref wa0a2, .ref wa0a3, .ref wa0a4, .ref wa0a5, .ref wa0a6, .ref wa0a7, .int wa0n8, .int wa0n9, .int wa0n10, .int wa0n11])), (wa0a0, .inl (K 1, 40, .inl (u1605.2.1 0)))] H := hP
          replace hD : va_D A [(w, .inr (0, [.ref wa0, .ref wa1, .ref wa2, .ref wa3, .int wn4, .int wn5])), (wa0a1, .inl (K 1, 10, .inl wa0f1)), (wa0a2, .inl (K 1, 4, .inl wa0f2)), (wa0a3, .inl (K 1, 4, .inl wa0f3)), (wa0a4, .inl (K 1, 4, .inl wa0f4)), (wa0a5, .inl (K 1, 5, .inl wa0f5)), (wa0a6, .inl (K 1, 5, .inl wa0f6)), (wa0a7, .inl (K 1, 5, .inl wa0f7)), (wa1, .inr (8, [.int wa1n0, .int wa1n1, .int wa1n2])), (wa0, .inr (9, [.ref wa0a0, .ref wa0a1, .ref wa0a2, .ref wa0a3, .ref wa0a4, .ref wa0a5, .ref wa0a6, .ref wa0a7, .int wa0n8, .int wa0n9, .int wa0n10, .int wa0n11])), (wa0a0, .inl (K 1, 40, .inl (u1605.2.1 0)))] := hD
          replace hP : va_P D vwCl [(w, .inr (0, [.ref wa0, .ref wa1, .ref wa2, .ref wa3, .int wn4, .int wn5])), (wa0, .inr (9, [.ref wa0a0, .ref wa0a1, .ref wa0a2, .ref wa0a3, .ref wa0a4, .ref wa0a5, .ref wa0a6, .ref wa0a7, .int wa0n8, .int wa0n9, .int wa0n10, .int wa0n11])), (wa0a0, .inl (K 1, 40, .inl (u1605.2.1 0))), (wa0a1, .inl (K 1, 10, .inl wa0f1)), (wa0a2, .inl (K 1, 4, .inl wa0f2)), (wa0a3, .inl (K 1, 4, .inl wa0f3)), (wa0a4, .inl (K 1, 4, .inl wa0f4)), (wa0a5, .inl (K 1, 5, .inl wa0f5)), (wa0a6, .inl (K 1, 5, .inl wa0f6)), (wa0a7, .inl (K 1, 5, .inl wa0f7)), (wa1, .inr (8, [.int wa1n0, .int wa1n1, .int wa1n2]))] H := hP.sub [0, 9, 10, 1, 2, 3, 4, 5, 6, 7, 8] rfl
          replace hD : va_D A [(w, .inr (0, [.ref wa0, .ref wa1, .ref wa2, .ref wa3, .int wn4, .int wn5])), (wa0, .inr (9, [.ref wa0a0, .ref wa0a1, .ref wa0a2, .ref wa0a3, .ref wa0a4, .ref wa0a5, .ref wa0a6, .ref wa0a7, .int wa0n8, .int wa0n9, .int wa0n10, .int wa0n11])), (wa0a0, .inl (K 1, 40, .inl (u1605.2.1 0))), (wa0a1, .inl (K 1, 10, .inl wa0f1)), (wa0a2, .inl (K 1, 4, .inl wa0f2)), (wa0a3, .inl (K 1, 4, .inl wa0f3)), (wa0a4, .inl (K 1, 4, .inl wa0f4)), (wa0a5, .inl (K 1, 5, .inl wa0f5)), (wa0a6, .inl (K 1, 5, .inl wa0f6)), (wa0a7, .inl (K 1, 5, .inl wa0f7)), (wa1, .inr (8, [.int wa1n0, .int wa1n1, .int wa1n2]))] := hD.sub [0, 9, 10, 1, 2, 3, 4, 5, 6, 7, 8] (by decide) rfl
          refine W.widen (k := 0) (n := 0) (by decide) (by decide) ?_
          refine W.widen (k := 0) (n := 0) (by decide) (by decide) ?_
          exact ch_vret hC hr hk hS dX0_teach_107 ((fun k => [wa1n2].getD k 0, fun k => [(u1605.2.1 0), wa0f1].getD k (fun _ => 0), fun k => [].getD k (fun _ => 0)) : ((Nat → Int32) × (Nat → Nat → Int32) × (Nat → Nat → Int64))) trivial (hP.sub [0, 1, 2, 3, 4, 5, 6, 7, 8, 9, 10] rfl) (hD.sub [0, 1, 2, 3, 4, 5, 6, 7, 8, 9, 10] (by decide) rfl)
    · replace c1595 := nlt_i c1595
      refine W.widen (k := 0) (n := 0) (by decide) (by decide) ?_
      exact ch_vret hC hr hk hS dX0_teach_9 ((fun k => [wa1n2].getD k 0, fun k => [wa0f0, wa0f1].getD k (fun _ => 0), fun k => [].getD k (fun _ => 0)) : ((Nat → Int32) × (Nat → Nat → Int32) × (Nat → Nat → Int64))) trivial (hP.sub [0, 1, 2, 3, 4, 5, 6, 7, 8, 9, 10] rfl) (hD.sub [0, 1, 2, 3, 4, 5, 6, 7, 8, 9, 10] (by decide) rfl)
set_option maxRecDepth 40000 in
set_option maxHeartbeats 4000000 in
theorem c_X0_tryOrder (l : Launch) (D : va_G) (K : Nat → ClassId) (w : Nat) (wa0 : Nat) (wa1 : Nat) (wa2 : Nat) (wa3 : Nat) (wa0a0 : Nat) (wa0a1 : Nat) (wa0a2 : Nat) (wa0a3 : Nat) (wa0a4 : Nat) (wa0a5 : Nat) (wa0a6 : Nat) (wa0a7 : Nat) (v : Nat) (va0 : Nat) (va1 : Nat) (va2 : Nat) (va3 : Nat) (va4 : Nat) (va5 : Nat) (va6 : Nat) (va7 : Nat) (x : Nat) (y : Nat) (ya0 : Nat) (ya1 : Nat) (ya2 : Nat) (wn4 : Int32) (wn5 : Int32) (wa0n8 : Int32) (wa0n9 : Int32) (wa0n10 : Int32) (wa0n11 : Int32) (wa1n0 : Int32) (wa1n1 : Int32) (wa1n2 : Int32) (vn8 : Int32) (vn9 : Int32) (vn10 : Int32) (vn11 : Int32) (xn0 : Int32) (xn1 : Int32) (xn2 : Int32) (wf2 : Nat → Int32) (wa0f0 : Nat → Int32) (wa0f1 : Nat → Int32) (wa0f2 : Nat → Int32) (wa0f3 : Nat → Int32) (wa0f4 : Nat → Int32) (wa0f5 : Nat → Int32) (wa0f6 : Nat → Int32) (wa0f7 : Nat → Int32) (vf0 : Nat → Int32) (vf1 : Nat → Int32) (vf2 : Nat → Int32) (vf3 : Nat → Int32) (vf4 : Nat → Int32) (vf5 : Nat → Int32) (vf6 : Nat → Int32) (vf7 : Nat → Int32) (yf0 : Nat → Int64) (yf2 : Nat → Int32) (p3 : Int32) (hsz : ∀ j, j < 4 → -1 ≤ (yf2 j).toInt ∧ (yf2 j).toInt ≤ 60) : Ci (S := ((Nat → Int32) × (Nat → Nat → Int32) × (Nat → Nat → Int64))) l D K yX0_tryOrder cX0_tryOrder 7 (some .int) 4 84 0 0 [.ref w, .ref v, .ref x, .ref y, .int p3] [(w, .inr (0, [.ref wa0, .ref wa1, .ref wa2, .ref wa3, .int wn4, .int wn5])), (wa2, .inl (K 1, 5, .inl wf2)), (wa0, .inr (9, [.ref wa0a0, .ref wa0a1, .ref wa0a2, .ref wa0a3, .ref wa0a4, .ref wa0a5, .ref wa0a6, .ref wa0a7, .int wa0n8, .int wa0n9, .int wa0n10, .int wa0n11])), (wa0a0, .inl (K 1, 40, .inl wa0f0)), (wa0a1, .inl (K 1, 10, .inl wa0f1)), (wa0a2, .inl (K 1, 4, .inl wa0f2)), (wa0a3, .inl (K 1, 4, .inl wa0f3)), (wa0a4, .inl (K 1, 4, .inl wa0f4)), (wa0a5, .inl (K 1, 5, .inl wa0f5)), (wa0a6, .inl (K 1, 5, .inl wa0f6)), (wa0a7, .inl (K 1, 5, .inl wa0f7)), (wa1, .inr (8, [.int wa1n0, .int wa1n1, .int wa1n2])), (v, .inr (9, [.ref va0, .ref va1, .ref va2, .ref va3, .ref va4, .ref va5, .ref va6, .ref va7, .int vn8, .int vn9, .int vn10, .int vn11])), (va0, .inl (K 1, 40, .inl vf0)), (va1, .inl (K 1, 10, .inl vf1)), (va2, .inl (K 1, 4, .inl vf2)), (va3, .inl (K 1, 4, .inl vf3)), (va4, .inl (K 1, 4, .inl vf4)), (va5, .inl (K 1, 5, .inl vf5)), (va6, .inl (K 1, 5, .inl vf6)), (va7, .inl (K 1, 5, .inl vf7)), (x, .inr (8, [.int xn0, .int xn1, .int xn2])), (y, .inr (5, [.ref ya0, .ref ya1, .ref ya2])), (ya0, .inl (K 2, 240, .inr (.inl yf0))), (ya2, .inl (K 1, 4, .inl yf2))] (fun _ _ => True) (fun u => [(w, .inr (0, [.ref wa0, .ref wa1, .ref wa2, .ref wa3, .int wn4, .int wn5])), (wa2, .inl (K 1, 5, .inl wf2)), (wa0, .inr (9, [.ref wa0a0, .ref wa0a1, .ref wa0a2, .ref wa0a3, .ref wa0a4, .ref wa0a5, .ref wa0a6, .ref wa0a7, .int (u.1 0), .int (u.1 1), .int (u.1 2), .int (u.1 3)])), (wa0a0, .inl (K 1, 40, .inl (u.2.1 0))), (wa0a1, .inl (K 1, 10, .inl (u.2.1 1))), (wa0a2, .inl (K 1, 4, .inl (u.2.1 2))), (wa0a3, .inl (K 1, 4, .inl (u.2.1 3))), (wa0a4, .inl (K 1, 4, .inl (u.2.1 4))), (wa0a5, .inl (K 1, 5, .inl (u.2.1 5))), (wa0a6, .inl (K 1, 5, .inl (u.2.1 6))), (wa0a7, .inl (K 1, 5, .inl (u.2.1 7))), (wa1, .inr (8, [.int (u.1 4), .int (u.1 5), .int (u.1 6)])), (v, .inr (9, [.ref va0, .ref va1, .ref va2, .ref va3, .ref va4, .ref va5, .ref va6, .ref va7, .int vn8, .int vn9, .int vn10, .int vn11])), (va0, .inl (K 1, 40, .inl vf0)), (va1, .inl (K 1, 10, .inl vf1)), (va2, .inl (K 1, 4, .inl vf2)), (va3, .inl (K 1, 4, .inl vf3)), (va4, .inl (K 1, 4, .inl vf4)), (va5, .inl (K 1, 5, .inl vf5)), (va6, .inl (K 1, 5, .inl vf6)), (va7, .inl (K 1, 5, .inl vf7)), (x, .inr (8, [.int xn0, .int xn1, .int xn2])), (y, .inr (5, [.ref ya0, .ref ya1, .ref ya2])), (ya0, .inl (K 2, 240, .inr (.inl yf0))), (ya2, .inl (K 1, 4, .inl yf2))]) := by
  intro sz
  refine ch_of (y := yX0_tryOrder) (cc := cX0_tryOrder) (maxL := 7) (ret := (some .int)) (av := [.ref w, .ref v, .ref x, .ref y, .int p3]) (ws := [(w, .inr (0, [.ref wa0, .ref wa1, .ref wa2, .ref wa3, .int wn4, .int wn5])), (wa2, .inl (K 1, 5, .inl wf2)), (wa0, .inr (9, [.ref wa0a0, .ref wa0a1, .ref wa0a2, .ref wa0a3, .ref wa0a4, .ref wa0a5, .ref wa0a6, .ref wa0a7, .int wa0n8, .int wa0n9, .int wa0n10, .int wa0n11])), (wa0a0, .inl (K 1, 40, .inl wa0f0)), (wa0a1, .inl (K 1, 10, .inl wa0f1)), (wa0a2, .inl (K 1, 4, .inl wa0f2)), (wa0a3, .inl (K 1, 4, .inl wa0f3)), (wa0a4, .inl (K 1, 4, .inl wa0f4)), (wa0a5, .inl (K 1, 5, .inl wa0f5)), (wa0a6, .inl (K 1, 5, .inl wa0f6)), (wa0a7, .inl (K 1, 5, .inl wa0f7)), (wa1, .inr (8, [.int wa1n0, .int wa1n1, .int wa1n2])), (v, .inr (9, [.ref va0, .ref va1, .ref va2, .ref va3, .ref va4, .ref va5, .ref va6, .ref va7, .int vn8, .int vn9, .int vn10, .int vn11])), (va0, .inl (K 1, 40, .inl vf0)), (va1, .inl (K 1, 10, .inl vf1)), (va2, .inl (K 1, 4, .inl vf2)), (va3, .inl (K 1, 4, .inl vf3)), (va4, .inl (K 1, 4, .inl vf4)), (va5, .inl (K 1, 5, .inl vf5)), (va6, .inl (K 1, 5, .inl vf6)), (va7, .inl (K 1, 5, .inl vf7)), (x, .inr (8, [.int xn0, .int xn1, .int xn2])), (y, .inr (5, [.ref ya0, .ref ya1, .ref ya2])), (ya0, .inl (K 2, 240, .inr (.inl yf0))), (ya2, .inl (K 1, 4, .inl yf2))]) (D := D) (K := K) (Qc := fun A => va_Qi (S := ((Nat → Int32) × (Nat → Nat → Int32) × (Nat → Nat → Int64))) (fun _ _ => True) (chB D A (fun u => [(w, .inr (0, [.ref wa0, .ref wa1, .ref wa2, .ref wa3, .int wn4, .int wn5])), (wa2, .inl (K 1, 5, .inl wf2)), (wa0, .inr (9, [.ref wa0a0, .ref wa0a1, .ref wa0a2, .ref wa0a3, .ref wa0a4, .ref wa0a5, .ref wa0a6, .ref wa0a7, .int (u.1 0), .int (u.1 1), .int (u.1 2), .int (u.1 3)])), (wa0a0, .inl (K 1, 40, .inl (u.2.1 0))), (wa0a1, .inl (K 1, 10, .inl (u.2.1 1))), (wa0a2, .inl (K 1, 4, .inl (u.2.1 2))), (wa0a3, .inl (K 1, 4, .inl (u.2.1 3))), (wa0a4, .inl (K 1, 4, .inl (u.2.1 4))), (wa0a5, .inl (K 1, 5, .inl (u.2.1 5))), (wa0a6, .inl (K 1, 5, .inl (u.2.1 6))), (wa0a7, .inl (K 1, 5, .inl (u.2.1 7))), (wa1, .inr (8, [.int (u.1 4), .int (u.1 5), .int (u.1 6)])), (v, .inr (9, [.ref va0, .ref va1, .ref va2, .ref va3, .ref va4, .ref va5, .ref va6, .ref va7, .int vn8, .int vn9, .int vn10, .int vn11])), (va0, .inl (K 1, 40, .inl vf0)), (va1, .inl (K 1, 10, .inl vf1)), (va2, .inl (K 1, 4, .inl vf2)), (va3, .inl (K 1, 4, .inl vf3)), (va4, .inl (K 1, 4, .inl vf4)), (va5, .inl (K 1, 5, .inl vf5)), (va6, .inl (K 1, 5, .inl vf6)), (va7, .inl (K 1, 5, .inl vf7)), (x, .inr (8, [.int xn0, .int xn1, .int xn2])), (y, .inr (5, [.ref ya0, .ref ya1, .ref ya2])), (ya0, .inl (K 2, 240, .inr (.inl yf0))), (ya2, .inl (K 1, 4, .inl yf2))])) A) (by decide) (Nat.le_of_ble_eq_true rfl) ?_
  intro p e s m below meth c A hC hr hk hin hE hD hA H locs hP hS ls hl
  replace hC : CallFix p m c cX0_tryOrder 7 s [.ref w, .ref v, .ref x, .ref y, .int p3].toArray wl RX0 := hC
  have hx := hC.1
  have hb := hC.2.1
  have hml := hC.2.2.1
  have hown := hC.2.2.2.1
  have hts := hC.2.2.2.2
  replace hl : lv_has ls 7 [(0, .ref w), (1, .ref v), (2, .ref x), (3, .ref y), (4, .int p3)] := hl
  have kc_0 : (0 : Int32).toInt = 0 := by decide
  have kc_1 : (1 : Int32).toInt = 1 := by decide
  have kc_5 : (5 : Int32).toInt = 5 := by decide
  have kc_60 : (60 : Int32).toInt = 60 := by decide
  refine lv_aload_n hx hb dX0_tryOrder_0 rfl (lv_at hl 0 rfl) ?_
  refine va_get (D := D) (ci := 0) (v := .ref wa0) (C := RX0) (T := TX0) (N := 6) hx hb hts in_X0 hown hE.1 hP 0 rfl rfl 0 (by decide) (hts _ w_208) (fun _ h9 => h9) rfl dX0_tryOrder_1 ?_
  refine lv_aload_n hx hb dX0_tryOrder_4 rfl (lv_at hl 1 rfl) ?_
  refine cv_V (As := [.ref v]) (rest := []) (wc := [(wa0, .inr (9, [.ref wa0a0, .ref wa0a1, .ref wa0a2, .ref wa0a3, .ref wa0a4, .ref wa0a5, .ref wa0a6, .ref wa0a7, .int wa0n8, .int wa0n9, .int wa0n10, .int wa0n11])), (wa0a0, .inl (K 1, 40, .inl wa0f0)), (wa0a1, .inl (K 1, 10, .inl wa0f1)), (wa0a2, .inl (K 1, 4, .inl wa0f2)), (wa0a3, .inl (K 1, 4, .inl wa0f3)), (wa0a4, .inl (K 1, 4, .inl wa0f4)), (wa0a5, .inl (K 1, 5, .inl wa0f5)), (wa0a6, .inl (K 1, 5, .inl wa0f6)), (wa0a7, .inl (K 1, 5, .inl wa0f7)), (v, .inr (9, [.ref va0, .ref va1, .ref va2, .ref va3, .ref va4, .ref va5, .ref va6, .ref va7, .int vn8, .int vn9, .int vn10, .int vn11])), (va0, .inl (K 1, 40, .inl vf0)), (va1, .inl (K 1, 10, .inl vf1)), (va2, .inl (K 1, 4, .inl vf2)), (va3, .inl (K 1, 4, .inl vf3)), (va4, .inl (K 1, 4, .inl vf4)), (va5, .inl (K 1, 5, .inl vf5)), (va6, .inl (K 1, 5, .inl vf6)), (va7, .inl (K 1, 5, .inl vf7))]) (wr := [(w, .inr (0, [.ref wa0, .ref wa1, .ref wa2, .ref wa3, .int wn4, .int wn5])), (wa2, .inl (K 1, 5, .inl wf2)), (wa1, .inr (8, [.int wa1n0, .int wa1n1, .int wa1n2])), (x, .inr (8, [.int xn0, .int xn1, .int xn2])), (y, .inr (5, [.ref ya0, .ref ya1, .ref ya2])), (ya0, .inl (K 2, 240, .inr (.inl yf0))), (ya2, .inl (K 1, 4, .inl yf2))]) hC hE kV_X0_62 (c_X10_copyFrom l D K wa0 wa0a0 wa0a1 wa0a2 wa0a3 wa0a4 wa0a5 wa0a6 wa0a7 v va0 va1 va2 va3 va4 va5 va6 va7 wa0n8 wa0n9 wa0n10 wa0n11 vn8 vn9 vn10 vn11 wa0f0 wa0f1 wa0f2 wa0f3 wa0f4 wa0f5 wa0f6 wa0f7 vf0 vf1 vf2 vf3 vf4 vf5 vf6 vf7) hP hD hS hA [2, 3, 4, 5, 6, 7, 8, 9, 10, 12, 13, 14, 15, 16, 17, 18, 19, 20] [0, 1, 11, 21, 22, 23, 24] rfl rfl rfl (by decide) (by decide) (by decide) 0 9 rfl rfl rfl hl.1 rfl (Nat.le_of_ble_eq_true rfl) (by decide) (by decide) dX0_tryOrder_5 (fun u1645 H locs hw hP hD hS => ?_)
  replace hP : va_P D vwCl [(w, .inr (0, [.ref wa0, .ref wa1, .ref wa2, .ref wa3, .int wn4, .int wn5])), (wa2, .inl (K 1, 5, .inl wf2)), (wa1, .inr (8, [.int wa1n0, .int wa1n1, .int wa1n2])), (x, .inr (8, [.int xn0, .int xn1, .int xn2])), (y, .inr (5, [.ref ya0, .ref ya1, .ref ya2])), (ya0, .inl (K 2, 240, .inr (.inl yf0))), (ya2, .inl (K 1, 4, .inl yf2)), (wa0, .inr (9, [.ref wa0a0, .ref wa0a1, .ref wa0a2, .ref wa0a3, .ref wa0a4, .ref wa0a5, .ref wa0a6, .ref wa0a7, .int (u1645.1 0), .int (u1645.1 1), .int (u1645.1 2), .int (u1645.1 3)])), (wa0a0, .inl (K 1, 40, .inl (u1645.2.1 0))), (wa0a1, .inl (K 1, 10, .inl (u1645.2.1 1))), (wa0a2, .inl (K 1, 4, .inl (u1645.2.1 2))), (wa0a3, .inl (K 1, 4, .inl (u1645.2.1 3))), (wa0a4, .inl (K 1, 4, .inl (u1645.2.1 4))), (wa0a5, .inl (K 1, 5, .inl (u1645.2.1 5))), (wa0a6, .inl (K 1, 5, .inl (u1645.2.1 6))), (wa0a7, .inl (K 1, 5, .inl (u1645.2.1 7))), (v, .inr (9, [.ref va0, .ref va1, .ref va2, .ref va3, .ref va4, .ref va5, .ref va6, .ref va7, .int vn8, .int vn9, .int vn10, .int vn11])), (va0, .inl (K 1, 40, .inl vf0)), (va1, .inl (K 1, 10, .inl vf1)), (va2, .inl (K 1, 4, .inl vf2)), (va3, .inl (K 1, 4, .inl vf3)), (va4, .inl (K 1, 4, .inl vf4)), (va5, .inl (K 1, 5, .inl vf5)), (va6, .inl (K 1, 5, .inl vf6)), (va7, .inl (K 1, 5, .inl vf7))] H := hP
  replace hD : va_D A [(w, .inr (0, [.ref wa0, .ref wa1, .ref wa2, .ref wa3, .int wn4, .int wn5])), (wa2, .inl (K 1, 5, .inl wf2)), (wa1, .inr (8, [.int wa1n0, .int wa1n1, .int wa1n2])), (x, .inr (8, [.int xn0, .int xn1, .int xn2])), (y, .inr (5, [.ref ya0, .ref ya1, .ref ya2])), (ya0, .inl (K 2, 240, .inr (.inl yf0))), (ya2, .inl (K 1, 4, .inl yf2)), (wa0, .inr (9, [.ref wa0a0, .ref wa0a1, .ref wa0a2, .ref wa0a3, .ref wa0a4, .ref wa0a5, .ref wa0a6, .ref wa0a7, .int (u1645.1 0), .int (u1645.1 1), .int (u1645.1 2), .int (u1645.1 3)])), (wa0a0, .inl (K 1, 40, .inl (u1645.2.1 0))), (wa0a1, .inl (K 1, 10, .inl (u1645.2.1 1))), (wa0a2, .inl (K 1, 4, .inl (u1645.2.1 2))), (wa0a3, .inl (K 1, 4, .inl (u1645.2.1 3))), (wa0a4, .inl (K 1, 4, .inl (u1645.2.1 4))), (wa0a5, .inl (K 1, 5, .inl (u1645.2.1 5))), (wa0a6, .inl (K 1, 5, .inl (u1645.2.1 6))), (wa0a7, .inl (K 1, 5, .inl (u1645.2.1 7))), (v, .inr (9, [.ref va0, .ref va1, .ref va2, .ref va3, .ref va4, .ref va5, .ref va6, .ref va7, .int vn8, .int vn9, .int vn10, .int vn11])), (va0, .inl (K 1, 40, .inl vf0)), (va1, .inl (K 1, 10, .inl vf1)), (va2, .inl (K 1, 4, .inl vf2)), (va3, .inl (K 1, 4, .inl vf3)), (va4, .inl (K 1, 4, .inl vf4)), (va5, .inl (K 1, 5, .inl vf5)), (va6, .inl (K 1, 5, .inl vf6)), (va7, .inl (K 1, 5, .inl vf7))] := hD
  replace hP : va_P D vwCl [(w, .inr (0, [.ref wa0, .ref wa1, .ref wa2, .ref wa3, .int wn4, .int wn5])), (wa2, .inl (K 1, 5, .inl wf2)), (wa0, .inr (9, [.ref wa0a0, .ref wa0a1, .ref wa0a2, .ref wa0a3, .ref wa0a4, .ref wa0a5, .ref wa0a6, .ref wa0a7, .int (u1645.1 0), .int (u1645.1 1), .int (u1645.1 2), .int (u1645.1 3)])), (wa0a0, .inl (K 1, 40, .inl (u1645.2.1 0))), (wa0a1, .inl (K 1, 10, .inl (u1645.2.1 1))), (wa0a2, .inl (K 1, 4, .inl (u1645.2.1 2))), (wa0a3, .inl (K 1, 4, .inl (u1645.2.1 3))), (wa0a4, .inl (K 1, 4, .inl (u1645.2.1 4))), (wa0a5, .inl (K 1, 5, .inl (u1645.2.1 5))), (wa0a6, .inl (K 1, 5, .inl (u1645.2.1 6))), (wa0a7, .inl (K 1, 5, .inl (u1645.2.1 7))), (wa1, .inr (8, [.int wa1n0, .int wa1n1, .int wa1n2])), (v, .inr (9, [.ref va0, .ref va1, .ref va2, .ref va3, .ref va4, .ref va5, .ref va6, .ref va7, .int vn8, .int vn9, .int vn10, .int vn11])), (va0, .inl (K 1, 40, .inl vf0)), (va1, .inl (K 1, 10, .inl vf1)), (va2, .inl (K 1, 4, .inl vf2)), (va3, .inl (K 1, 4, .inl vf3)), (va4, .inl (K 1, 4, .inl vf4)), (va5, .inl (K 1, 5, .inl vf5)), (va6, .inl (K 1, 5, .inl vf6)), (va7, .inl (K 1, 5, .inl vf7)), (x, .inr (8, [.int xn0, .int xn1, .int xn2])), (y, .inr (5, [.ref ya0, .ref ya1, .ref ya2])), (ya0, .inl (K 2, 240, .inr (.inl yf0))), (ya2, .inl (K 1, 4, .inl yf2))] H := hP.sub [0, 1, 7, 8, 9, 10, 11, 12, 13, 14, 15, 2, 16, 17, 18, 19, 20, 21, 22, 23, 24, 3, 4, 5, 6] rfl
  replace hD : va_D A [(w, .inr (0, [.ref wa0, .ref wa1, .ref wa2, .ref wa3, .int wn4, .int wn5])), (wa2, .inl (K 1, 5, .inl wf2)), (wa0, .inr (9, [.ref wa0a0, .ref wa0a1, .ref wa0a2, .ref wa0a3, .ref wa0a4, .ref wa0a5, .ref wa0a6, .ref wa0a7, .int (u1645.1 0), .int (u1645.1 1), .int (u1645.1 2), .int (u1645.1 3)])), (wa0a0, .inl (K 1, 40, .inl (u1645.2.1 0))), (wa0a1, .inl (K 1, 10, .inl (u1645.2.1 1))), (wa0a2, .inl (K 1, 4, .inl (u1645.2.1 2))), (wa0a3, .inl (K 1, 4, .inl (u1645.2.1 3))), (wa0a4, .inl (K 1, 4, .inl (u1645.2.1 4))), (wa0a5, .inl (K 1, 5, .inl (u1645.2.1 5))), (wa0a6, .inl (K 1, 5, .inl (u1645.2.1 6))), (wa0a7, .inl (K 1, 5, .inl (u1645.2.1 7))), (wa1, .inr (8, [.int wa1n0, .int wa1n1, .int wa1n2])), (v, .inr (9, [.ref va0, .ref va1, .ref va2, .ref va3, .ref va4, .ref va5, .ref va6, .ref va7, .int vn8, .int vn9, .int vn10, .int vn11])), (va0, .inl (K 1, 40, .inl vf0)), (va1, .inl (K 1, 10, .inl vf1)), (va2, .inl (K 1, 4, .inl vf2)), (va3, .inl (K 1, 4, .inl vf3)), (va4, .inl (K 1, 4, .inl vf4)), (va5, .inl (K 1, 5, .inl vf5)), (va6, .inl (K 1, 5, .inl vf6)), (va7, .inl (K 1, 5, .inl vf7)), (x, .inr (8, [.int xn0, .int xn1, .int xn2])), (y, .inr (5, [.ref ya0, .ref ya1, .ref ya2])), (ya0, .inl (K 2, 240, .inr (.inl yf0))), (ya2, .inl (K 1, 4, .inl yf2))] := hD.sub [0, 1, 7, 8, 9, 10, 11, 12, 13, 14, 15, 2, 16, 17, 18, 19, 20, 21, 22, 23, 24, 3, 4, 5, 6] (by decide) rfl
  refine W.widen (k := 0) (n := 0) (by decide) (by decide) ?_
  have hf := hw
  have f1647 : (u1645.1 1).toInt = vn9.toInt := hf.1
  have f1648 : (u1645.1 2).toInt = vn10.toInt := hf.2
  refine lv_aload_n hx hb dX0_tryOrder_8 rfl (lv_at hl 0 rfl) ?_
  refine va_get (D := D) (ci := 0) (v := .ref wa1) (C := RX0) (T := TX0) (N := 6) hx hb hts in_X0 hown hE.1 hP 0 rfl rfl 1 (by decide) (hts _ w_211) (fun _ h9 => h9) rfl dX0_tryOrder_9 ?_
  refine lv_aload_n hx hb dX0_tryOrder_12 rfl (lv_at hl 2 rfl) ?_
  refine va_get (D := D) (ci := 8) (v := .int xn0) (C := RX9) (T := TX9) (N := 3) hx hb hts in_X9 hown hE.1 hP 21 rfl rfl 0 (by decide) (hts _ w_222) (fun _ h9 => h9) rfl dX0_tryOrder_13 ?_
  refine lv_aload_n hx hb dX0_tryOrder_16 rfl (lv_at hl 2 rfl) ?_
  refine va_get (D := D) (ci := 8) (v := .int xn1) (C := RX9) (T := TX9) (N := 3) hx hb hts in_X9 hown hE.1 hP 21 rfl rfl 1 (by decide) (hts _ w_223) (fun _ h9 => h9) rfl dX0_tryOrder_17 ?_
  refine lv_aload_n hx hb dX0_tryOrder_20 rfl (lv_at hl 2 rfl) ?_
  refine va_get (D := D) (ci := 8) (v := .int xn2) (C := RX9) (T := TX9) (N := 3) hx hb hts in_X9 hown hE.1 hP 21 rfl rfl 2 (by decide) (hts _ w_212) (fun _ h9 => h9) rfl dX0_tryOrder_21 ?_
  refine cv_V (As := [.int xn0, .int xn1, .int xn2]) (rest := []) (wc := [(wa1, .inr (8, [.int wa1n0, .int wa1n1, .int wa1n2]))]) (wr := [(w, .inr (0, [.ref wa0, .ref wa1, .ref wa2, .ref wa3, .int wn4, .int wn5])), (wa2, .inl (K 1, 5, .inl wf2)), (wa0, .inr (9, [.ref wa0a0, .ref wa0a1, .ref wa0a2, .ref wa0a3, .ref wa0a4, .ref wa0a5, .ref wa0a6, .ref wa0a7, .int (u1645.1 0), .int (u1645.1 1), .int (u1645.1 2), .int (u1645.1 3)])), (wa0a0, .inl (K 1, 40, .inl (u1645.2.1 0))), (wa0a1, .inl (K 1, 10, .inl (u1645.2.1 1))), (wa0a2, .inl (K 1, 4, .inl (u1645.2.1 2))), (wa0a3, .inl (K 1, 4, .inl (u1645.2.1 3))), (wa0a4, .inl (K 1, 4, .inl (u1645.2.1 4))), (wa0a5, .inl (K 1, 5, .inl (u1645.2.1 5))), (wa0a6, .inl (K 1, 5, .inl (u1645.2.1 6))), (wa0a7, .inl (K 1, 5, .inl (u1645.2.1 7))), (v, .inr (9, [.ref va0, .ref va1, .ref va2, .ref va3, .ref va4, .ref va5, .ref va6, .ref va7, .int vn8, .int vn9, .int vn10, .int vn11])), (va0, .inl (K 1, 40, .inl vf0)), (va1, .inl (K 1, 10, .inl vf1)), (va2, .inl (K 1, 4, .inl vf2)), (va3, .inl (K 1, 4, .inl vf3)), (va4, .inl (K 1, 4, .inl vf4)), (va5, .inl (K 1, 5, .inl vf5)), (va6, .inl (K 1, 5, .inl vf6)), (va7, .inl (K 1, 5, .inl vf7)), (x, .inr (8, [.int xn0, .int xn1, .int xn2])), (y, .inr (5, [.ref ya0, .ref ya1, .ref ya2])), (ya0, .inl (K 2, 240, .inr (.inl yf0))), (ya2, .inl (K 1, 4, .inl yf2))]) hC hE kV_X0_75 (c_X9_place l D K wa1 wa1n0 wa1n1 wa1n2 xn0 xn1 xn2) hP hD hS hA [11] [0, 1, 2, 3, 4, 5, 6, 7, 8, 9, 10, 12, 13, 14, 15, 16, 17, 18, 19, 20, 21, 22, 23, 24] rfl rfl rfl (by decide) (by decide) (by decide) 0 8 rfl rfl rfl hl.1 rfl (Nat.le_of_ble_eq_true rfl) (by decide) (by decide) dX0_tryOrder_24 (fun u1649 H locs hw hP hD hS => ?_)
  replace hP : va_P D vwCl [(w, .inr (0, [.ref wa0, .ref wa1, .ref wa2, .ref wa3, .int wn4, .int wn5])), (wa2, .inl (K 1, 5, .inl wf2)), (wa0, .inr (9, [.ref wa0a0, .ref wa0a1, .ref wa0a2, .ref wa0a3, .ref wa0a4, .ref wa0a5, .ref wa0a6, .ref wa0a7, .int (u1645.1 0), .int (u1645.1 1), .int (u1645.1 2), .int (u1645.1 3)])), (wa0a0, .inl (K 1, 40, .inl (u1645.2.1 0))), (wa0a1, .inl (K 1, 10, .inl (u1645.2.1 1))), (wa0a2, .inl (K 1, 4, .inl (u1645.2.1 2))), (wa0a3, .inl (K 1, 4, .inl (u1645.2.1 3))), (wa0a4, .inl (K 1, 4, .inl (u1645.2.1 4))), (wa0a5, .inl (K 1, 5, .inl (u1645.2.1 5))), (wa0a6, .inl (K 1, 5, .inl (u1645.2.1 6))), (wa0a7, .inl (K 1, 5, .inl (u1645.2.1 7))), (v, .inr (9, [.ref va0, .ref va1, .ref va2, .ref va3, .ref va4, .ref va5, .ref va6, .ref va7, .int vn8, .int vn9, .int vn10, .int vn11])), (va0, .inl (K 1, 40, .inl vf0)), (va1, .inl (K 1, 10, .inl vf1)), (va2, .inl (K 1, 4, .inl vf2)), (va3, .inl (K 1, 4, .inl vf3)), (va4, .inl (K 1, 4, .inl vf4)), (va5, .inl (K 1, 5, .inl vf5)), (va6, .inl (K 1, 5, .inl vf6)), (va7, .inl (K 1, 5, .inl vf7)), (x, .inr (8, [.int xn0, .int xn1, .int xn2])), (y, .inr (5, [.ref ya0, .ref ya1, .ref ya2])), (ya0, .inl (K 2, 240, .inr (.inl yf0))), (ya2, .inl (K 1, 4, .inl yf2)), (wa1, .inr (8, [.int (u1649.1 0), .int (u1649.1 1), .int (u1649.1 2)]))] H := hP
  replace hD : va_D A [(w, .inr (0, [.ref wa0, .ref wa1, .ref wa2, .ref wa3, .int wn4, .int wn5])), (wa2, .inl (K 1, 5, .inl wf2)), (wa0, .inr (9, [.ref wa0a0, .ref wa0a1, .ref wa0a2, .ref wa0a3, .ref wa0a4, .ref wa0a5, .ref wa0a6, .ref wa0a7, .int (u1645.1 0), .int (u1645.1 1), .int (u1645.1 2), .int (u1645.1 3)])), (wa0a0, .inl (K 1, 40, .inl (u1645.2.1 0))), (wa0a1, .inl (K 1, 10, .inl (u1645.2.1 1))), (wa0a2, .inl (K 1, 4, .inl (u1645.2.1 2))), (wa0a3, .inl (K 1, 4, .inl (u1645.2.1 3))), (wa0a4, .inl (K 1, 4, .inl (u1645.2.1 4))), (wa0a5, .inl (K 1, 5, .inl (u1645.2.1 5))), (wa0a6, .inl (K 1, 5, .inl (u1645.2.1 6))), (wa0a7, .inl (K 1, 5, .inl (u1645.2.1 7))), (v, .inr (9, [.ref va0, .ref va1, .ref va2, .ref va3, .ref va4, .ref va5, .ref va6, .ref va7, .int vn8, .int vn9, .int vn10, .int vn11])), (va0, .inl (K 1, 40, .inl vf0)), (va1, .inl (K 1, 10, .inl vf1)), (va2, .inl (K 1, 4, .inl vf2)), (va3, .inl (K 1, 4, .inl vf3)), (va4, .inl (K 1, 4, .inl vf4)), (va5, .inl (K 1, 5, .inl vf5)), (va6, .inl (K 1, 5, .inl vf6)), (va7, .inl (K 1, 5, .inl vf7)), (x, .inr (8, [.int xn0, .int xn1, .int xn2])), (y, .inr (5, [.ref ya0, .ref ya1, .ref ya2])), (ya0, .inl (K 2, 240, .inr (.inl yf0))), (ya2, .inl (K 1, 4, .inl yf2)), (wa1, .inr (8, [.int (u1649.1 0), .int (u1649.1 1), .int (u1649.1 2)]))] := hD
  replace hP : va_P D vwCl [(w, .inr (0, [.ref wa0, .ref wa1, .ref wa2, .ref wa3, .int wn4, .int wn5])), (wa2, .inl (K 1, 5, .inl wf2)), (wa0, .inr (9, [.ref wa0a0, .ref wa0a1, .ref wa0a2, .ref wa0a3, .ref wa0a4, .ref wa0a5, .ref wa0a6, .ref wa0a7, .int (u1645.1 0), .int (u1645.1 1), .int (u1645.1 2), .int (u1645.1 3)])), (wa0a0, .inl (K 1, 40, .inl (u1645.2.1 0))), (wa0a1, .inl (K 1, 10, .inl (u1645.2.1 1))), (wa0a2, .inl (K 1, 4, .inl (u1645.2.1 2))), (wa0a3, .inl (K 1, 4, .inl (u1645.2.1 3))), (wa0a4, .inl (K 1, 4, .inl (u1645.2.1 4))), (wa0a5, .inl (K 1, 5, .inl (u1645.2.1 5))), (wa0a6, .inl (K 1, 5, .inl (u1645.2.1 6))), (wa0a7, .inl (K 1, 5, .inl (u1645.2.1 7))), (wa1, .inr (8, [.int (u1649.1 0), .int (u1649.1 1), .int (u1649.1 2)])), (v, .inr (9, [.ref va0, .ref va1, .ref va2, .ref va3, .ref va4, .ref va5, .ref va6, .ref va7, .int vn8, .int vn9, .int vn10, .int vn11])), (va0, .inl (K 1, 40, .inl vf0)), (va1, .inl (K 1, 10, .inl vf1)), (va2, .inl (K 1, 4, .inl vf2)), (va3, .inl (K 1, 4, .inl vf3)), (va4, .inl (K 1, 4, .inl vf4)), (va5, .inl (K 1, 5, .inl vf5)), (va6, .inl (K 1, 5, .inl vf6)), (va7, .inl (K 1, 5, .inl vf7)), (x, .inr (8, [.int xn0, .int xn1, .int xn2])), (y, .inr (5, [.ref ya0, .ref ya1, .ref ya2])), (ya0, .inl (K 2, 240, .inr (.inl yf0))), (ya2, .inl (K 1, 4, .inl yf2))] H := hP.sub [0, 1, 2, 3, 4, 5, 6, 7, 8, 9, 10, 24, 11, 12, 13, 14, 15, 16, 17, 18, 19, 20, 21, 22, 23] rfl
  replace hD : va_D A [(w, .inr (0, [.ref wa0, .ref wa1, .ref wa2, .ref wa3, .int wn4, .int wn5])), (wa2, .inl (K 1, 5, .inl wf2)), (wa0, .inr (9, [.ref wa0a0, .ref wa0a1, .ref wa0a2, .ref wa0a3, .ref wa0a4, .ref wa0a5, .ref wa0a6, .ref wa0a7, .int (u1645.1 0), .int (u1645.1 1), .int (u1645.1 2), .int (u1645.1 3)])), (wa0a0, .inl (K 1, 40, .inl (u1645.2.1 0))), (wa0a1, .inl (K 1, 10, .inl (u1645.2.1 1))), (wa0a2, .inl (K 1, 4, .inl (u1645.2.1 2))), (wa0a3, .inl (K 1, 4, .inl (u1645.2.1 3))), (wa0a4, .inl (K 1, 4, .inl (u1645.2.1 4))), (wa0a5, .inl (K 1, 5, .inl (u1645.2.1 5))), (wa0a6, .inl (K 1, 5, .inl (u1645.2.1 6))), (wa0a7, .inl (K 1, 5, .inl (u1645.2.1 7))), (wa1, .inr (8, [.int (u1649.1 0), .int (u1649.1 1), .int (u1649.1 2)])), (v, .inr (9, [.ref va0, .ref va1, .ref va2, .ref va3, .ref va4, .ref va5, .ref va6, .ref va7, .int vn8, .int vn9, .int vn10, .int vn11])), (va0, .inl (K 1, 40, .inl vf0)), (va1, .inl (K 1, 10, .inl vf1)), (va2, .inl (K 1, 4, .inl vf2)), (va3, .inl (K 1, 4, .inl vf3)), (va4, .inl (K 1, 4, .inl vf4)), (va5, .inl (K 1, 5, .inl vf5)), (va6, .inl (K 1, 5, .inl vf6)), (va7, .inl (K 1, 5, .inl vf7)), (x, .inr (8, [.int xn0, .int xn1, .int xn2])), (y, .inr (5, [.ref ya0, .ref ya1, .ref ya2])), (ya0, .inl (K 2, 240, .inr (.inl yf0))), (ya2, .inl (K 1, 4, .inl yf2))] := hD.sub [0, 1, 2, 3, 4, 5, 6, 7, 8, 9, 10, 24, 11, 12, 13, 14, 15, 16, 17, 18, 19, 20, 21, 22, 23] (by decide) rfl
  refine W.widen (k := 0) (n := 0) (by decide) (by decide) ?_
  refine lv_iconst (v := 0) hx hb dX0_tryOrder_27 (by decide) ?_
  refine lv_istore (lv' := [(5, .int 0), (0, .ref w), (1, .ref v), (2, .ref x), (3, .ref y), (4, .int p3)]) hx hb dX0_tryOrder_28 hl (by decide) rfl (fun ls hl => ?_)
  have hl' := hl; have hP' := hP; have hD' := hD; clear hl hP hD
  obtain ⟨i1681, g1682, g1683, w1684, w1685, w1686, hi_30, hl, hP, hD⟩ : ∃ (i1681 : Int32) (g1682 : Nat → Int32) (g1683 : Nat → Int32) (w1684 : Int32) (w1685 : Int32) (w1686 : Int32), ((0 : Int) ≤ i1681.toInt) ∧ lv_has ls 7 [(5, .int i1681), (0, .ref w), (1, .ref v), (2, .ref x), (3, .ref y), (4, .int p3)] ∧ va_P D vwCl [(w, .inr (0, [.ref wa0, .ref wa1, .ref wa2, .ref wa3, .int wn4, .int wn5])), (wa2, .inl (K 1, 5, .inl wf2)), (wa0, .inr (9, [.ref wa0a0, .ref wa0a1, .ref wa0a2, .ref wa0a3, .ref wa0a4, .ref wa0a5, .ref wa0a6, .ref wa0a7, .int (u1645.1 0), .int (u1645.1 1), .int (u1645.1 2), .int (u1645.1 3)])), (wa0a0, .inl (K 1, 40, .inl g1682)), (wa0a1, .inl (K 1, 10, .inl g1683)), (wa0a2, .inl (K 1, 4, .inl (u1645.2.1 2))), (wa0a3, .inl (K 1, 4, .inl (u1645.2.1 3))), (wa0a4, .inl (K 1, 4, .inl (u1645.2.1 4))), (wa0a5, .inl (K 1, 5, .inl (u1645.2.1 5))), (wa0a6, .inl (K 1, 5, .inl (u1645.2.1 6))), (wa0a7, .inl (K 1, 5, .inl (u1645.2.1 7))), (wa1, .inr (8, [.int w1684, .int w1685, .int w1686])), (v, .inr (9, [.ref va0, .ref va1, .ref va2, .ref va3, .ref va4, .ref va5, .ref va6, .ref va7, .int vn8, .int vn9, .int vn10, .int vn11])), (va0, .inl (K 1, 40, .inl vf0)), (va1, .inl (K 1, 10, .inl vf1)), (va2, .inl (K 1, 4, .inl vf2)), (va3, .inl (K 1, 4, .inl vf3)), (va4, .inl (K 1, 4, .inl vf4)), (va5, .inl (K 1, 5, .inl vf5)), (va6, .inl (K 1, 5, .inl vf6)), (va7, .inl (K 1, 5, .inl vf7)), (x, .inr (8, [.int xn0, .int xn1, .int xn2])), (y, .inr (5, [.ref ya0, .ref ya1, .ref ya2])), (ya0, .inl (K 2, 240, .inr (.inl yf0))), (ya2, .inl (K 1, 4, .inl yf2))] H ∧ va_D A [(w, .inr (0, [.ref wa0, .ref wa1, .ref wa2, .ref wa3, .int wn4, .int wn5])), (wa2, .inl (K 1, 5, .inl wf2)), (wa0, .inr (9, [.ref wa0a0, .ref wa0a1, .ref wa0a2, .ref wa0a3, .ref wa0a4, .ref wa0a5, .ref wa0a6, .ref wa0a7, .int (u1645.1 0), .int (u1645.1 1), .int (u1645.1 2), .int (u1645.1 3)])), (wa0a0, .inl (K 1, 40, .inl g1682)), (wa0a1, .inl (K 1, 10, .inl g1683)), (wa0a2, .inl (K 1, 4, .inl (u1645.2.1 2))), (wa0a3, .inl (K 1, 4, .inl (u1645.2.1 3))), (wa0a4, .inl (K 1, 4, .inl (u1645.2.1 4))), (wa0a5, .inl (K 1, 5, .inl (u1645.2.1 5))), (wa0a6, .inl (K 1, 5, .inl (u1645.2.1 6))), (wa0a7, .inl (K 1, 5, .inl (u1645.2.1 7))), (wa1, .inr (8, [.int w1684, .int w1685, .int w1686])), (v, .inr (9, [.ref va0, .ref va1, .ref va2, .ref va3, .ref va4, .ref va5, .ref va6, .ref va7, .int vn8, .int vn9, .int vn10, .int vn11])), (va0, .inl (K 1, 40, .inl vf0)), (va1, .inl (K 1, 10, .inl vf1)), (va2, .inl (K 1, 4, .inl vf2)), (va3, .inl (K 1, 4, .inl vf3)), (va4, .inl (K 1, 4, .inl vf4)), (va5, .inl (K 1, 5, .inl vf5)), (va6, .inl (K 1, 5, .inl vf6)), (va7, .inl (K 1, 5, .inl vf7)), (x, .inr (8, [.int xn0, .int xn1, .int xn2])), (y, .inr (5, [.ref ya0, .ref ya1, .ref ya2])), (ya0, .inl (K 2, 240, .inr (.inl yf0))), (ya2, .inl (K 1, 4, .inl yf2))] := ⟨_, _, _, _, _, _, by omega, hl', hP', hD'⟩
  clear hl' hP' hD'
  obtain ⟨n_30, hn_30⟩ : ∃ n : Nat, (5 - i1681.toInt).toNat < n := ⟨_, Nat.lt_succ_self _⟩
  induction n_30 generalizing i1681 g1682 g1683 w1684 w1685 w1686 H locs ls with
  | zero => exact absurd hn_30 (Nat.not_lt_zero _)
  | succ n_30 ih_30 =>
    refine lv_iload hx hb dX0_tryOrder_30 (lv_at hl 0 rfl) ?_
    refine lv_aload_n hx hb dX0_tryOrder_32 rfl (lv_at hl 1 rfl) ?_
    refine va_get (D := D) (ci := 0) (v := .ref wa0) (C := RX0) (T := TX0) (N := 6) hx hb hts in_X0 hown hE.1 hP 0 rfl rfl 0 (by decide) (hts _ w_208) (fun _ h9 => h9) rfl dX0_tryOrder_33 ?_
    refine va_get (D := D) (ci := 9) (v := .int (u1645.1 2)) (C := RX10) (T := TX10) (N := 12) hx hb hts in_X10 hown hE.1 hP 2 rfl rfl 10 (by decide) (hts _ w_224) (fun _ h9 => h9) rfl dX0_tryOrder_36 ?_
    refine lv_icmp_ge (tgt := 111) hx hb dX0_tryOrder_39 (by decide) (fun c1687 => ?_) (fun c1687 => ?_)
    · replace c1687 := le_i c1687
      refine lv_aload_n hx hb dX0_tryOrder_111 rfl (lv_at hl 1 rfl) ?_
      refine va_get (D := D) (ci := 0) (v := .ref wa1) (C := RX0) (T := TX0) (N := 6) hx hb hts in_X0 hown hE.1 hP 0 rfl rfl 1 (by decide) (hts _ w_211) (fun _ h9 => h9) rfl dX0_tryOrder_112 ?_
      refine ro_V (As := []) (rest := []) hC hE kV_X0_96 (c_X9_doubt l D K wa1 w1684 w1685 w1686) (hP.sub (ws' := [(wa1, .inr (8, [.int w1684, .int w1685, .int w1686]))]) [11] rfl) 0 8 rfl rfl rfl hl.1 rfl (Nat.le_of_ble_eq_true rfl) (by decide) (by decide) dX0_tryOrder_115 (fun r1688 _ => ?_)
      refine W.widen (k := 0) (n := 0) (by decide) (by decide) ?_
      exact ch_iret hC hr hk hS dX0_tryOrder_118 ((fun k => [(u1645.1 0), (u1645.1 1), (u1645.1 2), (u1645.1 3), w1684, w1685, w1686].getD k 0, fun k => [g1682, g1683, (u1645.2.1 2), (u1645.2.1 3), (u1645.2.1 4), (u1645.2.1 5), (u1645.2.1 6), (u1645.2.1 7)].getD k (fun _ => 0), fun k => [].getD k (fun _ => 0)) : ((Nat → Int32) × (Nat → Nat → Int32) × (Nat → Nat → Int64))) trivial (hP.sub [0, 1, 2, 3, 4, 5, 6, 7, 8, 9, 10, 11, 12, 13, 14, 15, 16, 17, 18, 19, 20, 21, 22, 23, 24] rfl) (hD.sub [0, 1, 2, 3, 4, 5, 6, 7, 8, 9, 10, 11, 12, 13, 14, 15, 16, 17, 18, 19, 20, 21, 22, 23, 24] (by decide) rfl)
    · replace c1687 := nle_i c1687
      refine lv_iload hx hb dX0_tryOrder_42 (lv_at hl 0 rfl) ?_
      refine lv_iconst (v := 5) hx hb dX0_tryOrder_44 (by decide) ?_
      refine lv_icmp_ge (tgt := 111) hx hb dX0_tryOrder_45 (by decide) (fun c1689 => ?_) (fun c1689 => ?_)
      · replace c1689 := le_i c1689
        refine lv_aload_n hx hb dX0_tryOrder_111 rfl (lv_at hl 1 rfl) ?_
        refine va_get (D := D) (ci := 0) (v := .ref wa1) (C := RX0) (T := TX0) (N := 6) hx hb hts in_X0 hown hE.1 hP 0 rfl rfl 1 (by decide) (hts _ w_211) (fun _ h9 => h9) rfl dX0_tryOrder_112 ?_
        refine ro_V (As := []) (rest := []) hC hE kV_X0_96 (c_X9_doubt l D K wa1 w1684 w1685 w1686) (hP.sub (ws' := [(wa1, .inr (8, [.int w1684, .int w1685, .int w1686]))]) [11] rfl) 0 8 rfl rfl rfl hl.1 rfl (Nat.le_of_ble_eq_true rfl) (by decide) (by decide) dX0_tryOrder_115 (fun r1690 _ => ?_)
        refine W.widen (k := 0) (n := 0) (by decide) (by decide) ?_
        exact ch_iret hC hr hk hS dX0_tryOrder_118 ((fun k => [(u1645.1 0), (u1645.1 1), (u1645.1 2), (u1645.1 3), w1684, w1685, w1686].getD k 0, fun k => [g1682, g1683, (u1645.2.1 2), (u1645.2.1 3), (u1645.2.1 4), (u1645.2.1 5), (u1645.2.1 6), (u1645.2.1 7)].getD k (fun _ => 0), fun k => [].getD k (fun _ => 0)) : ((Nat → Int32) × (Nat → Nat → Int32) × (Nat → Nat → Int64))) trivial (hP.sub [0, 1, 2, 3, 4, 5, 6, 7, 8, 9, 10, 11, 12, 13, 14, 15, 16, 17, 18, 19, 20, 21, 22, 23, 24] rfl) (hD.sub [0, 1, 2, 3, 4, 5, 6, 7, 8, 9, 10, 11, 12, 13, 14, 15, 16, 17, 18, 19, 20, 21, 22, 23, 24] (by decide) rfl)
      · replace c1689 := nle_i c1689
        refine lv_aload_n hx hb dX0_tryOrder_48 rfl (lv_at hl 1 rfl) ?_
        refine lv_aload_n hx hb dX0_tryOrder_49 rfl (lv_at hl 1 rfl) ?_
        refine va_get (D := D) (ci := 0) (v := .ref wa2) (C := RX0) (T := TX0) (N := 6) hx hb hts in_X0 hown hE.1 hP 0 rfl rfl 2 (by decide) (hts _ w_202) (fun _ h9 => h9) rfl dX0_tryOrder_50 ?_
        refine lv_iload hx hb dX0_tryOrder_53 (lv_at hl 0 rfl) ?_
        refine va_iald hx hb hE.1 hP 1 1 rfl rfl (vp_in_iff.mpr (by omega)) dX0_tryOrder_55 ?_
        refine lv_topi (fun v1691 ev1691 => ?_)
        refine cv_V (As := [.int v1691]) (rest := []) (wc := [(w, .inr (0, [.ref wa0, .ref wa1, .ref wa2, .ref wa3, .int wn4, .int wn5])), (wa0, .inr (9, [.ref wa0a0, .ref wa0a1, .ref wa0a2, .ref wa0a3, .ref wa0a4, .ref wa0a5, .ref wa0a6, .ref wa0a7, .int (u1645.1 0), .int (u1645.1 1), .int (u1645.1 2), .int (u1645.1 3)])), (wa0a0, .inl (K 1, 40, .inl g1682)), (wa0a1, .inl (K 1, 10, .inl g1683)), (wa0a2, .inl (K 1, 4, .inl (u1645.2.1 2))), (wa0a3, .inl (K 1, 4, .inl (u1645.2.1 3))), (wa0a4, .inl (K 1, 4, .inl (u1645.2.1 4))), (wa0a5, .inl (K 1, 5, .inl (u1645.2.1 5))), (wa0a6, .inl (K 1, 5, .inl (u1645.2.1 6))), (wa0a7, .inl (K 1, 5, .inl (u1645.2.1 7))), (wa1, .inr (8, [.int w1684, .int w1685, .int w1686]))]) (wr := [(wa2, .inl (K 1, 5, .inl wf2)), (v, .inr (9, [.ref va0, .ref va1, .ref va2, .ref va3, .ref va4, .ref va5, .ref va6, .ref va7, .int vn8, .int vn9, .int vn10, .int vn11])), (va0, .inl (K 1, 40, .inl vf0)), (va1, .inl (K 1, 10, .inl vf1)), (va2, .inl (K 1, 4, .inl vf2)), (va3, .inl (K 1, 4, .inl vf3)), (va4, .inl (K 1, 4, .inl vf4)), (va5, .inl (K 1, 5, .inl vf5)), (va6, .inl (K 1, 5, .inl vf6)), (va7, .inl (K 1, 5, .inl vf7)), (x, .inr (8, [.int xn0, .int xn1, .int xn2])), (y, .inr (5, [.ref ya0, .ref ya1, .ref ya2])), (ya0, .inl (K 2, 240, .inr (.inl yf0))), (ya2, .inl (K 1, 4, .inl yf2))]) hC hE kV_X0_79 (c_X0_teach l D K w wa0 wa1 wa2 wa3 wa0a0 wa0a1 wa0a2 wa0a3 wa0a4 wa0a5 wa0a6 wa0a7 wn4 wn5 (u1645.1 0) (u1645.1 1) (u1645.1 2) (u1645.1 3) w1684 w1685 w1686 g1682 g1683 (u1645.2.1 2) (u1645.2.1 3) (u1645.2.1 4) (u1645.2.1 5) (u1645.2.1 6) (u1645.2.1 7) v1691) hP hD hS hA [0, 2, 3, 4, 5, 6, 7, 8, 9, 10, 11] [1, 12, 13, 14, 15, 16, 17, 18, 19, 20, 21, 22, 23, 24] rfl rfl rfl (by decide) (by decide) (by decide) 0 0 rfl rfl rfl hl.1 rfl (Nat.le_of_ble_eq_true rfl) (by decide) (by decide) dX0_tryOrder_56 (fun u1692 H locs hw hP hD hS => ?_)
        replace hP : va_P D vwCl [(wa2, .inl (K 1, 5, .inl wf2)), (v, .inr (9, [.ref va0, .ref va1, .ref va2, .ref va3, .ref va4, .ref va5, .ref va6, .ref va7, .int vn8, .int vn9, .int vn10, .int vn11])), (va0, .inl (K 1, 40, .inl vf0)), (va1, .inl (K 1, 10, .inl vf1)), (va2, .inl (K 1, 4, .inl vf2)), (va3, .inl (K 1, 4, .inl vf3)), (va4, .inl (K 1, 4, .inl vf4)), (va5, .inl (K 1, 5, .inl vf5)), (va6, .inl (K 1, 5, .inl vf6)), (va7, .inl (K 1, 5, .inl vf7)), (x, .inr (8, [.int xn0, .int xn1, .int xn2])), (y, .inr (5, [.ref ya0, .ref ya1, .ref ya2])), (ya0, .inl (K 2, 240, .inr (.inl yf0))), (ya2, .inl (K 1, 4, .inl yf2)), (w, .inr (0, [.ref wa0, .ref wa1, .ref wa2, .ref wa3, .int wn4, .int wn5])), (wa0, .inr (9, [.ref wa0a0, .ref wa0a1, .ref wa0a2, .ref wa0a3, .ref wa0a4, .ref wa0a5, .ref wa0a6, .ref wa0a7, .int (u1645.1 0), .int (u1645.1 1), .int (u1645.1 2), .int (u1645.1 3)])), (wa0a0, .inl (K 1, 40, .inl (u1692.2.1 0))), (wa0a1, .inl (K 1, 10, .inl (u1692.2.1 1))), (wa0a2, .inl (K 1, 4, .inl (u1645.2.1 2))), (wa0a3, .inl (K 1, 4, .inl (u1645.2.1 3))), (wa0a4, .inl (K 1, 4, .inl (u1645.2.1 4))), (wa0a5, .inl (K 1, 5, .inl (u1645.2.1 5))), (wa0a6, .inl (K 1, 5, .inl (u1645.2.1 6))), (wa0a7, .inl (K 1, 5, .inl (u1645.2.1 7))), (wa1, .inr (8, [.int w1684, .int w1685, .int (u1692.1 0)]))] H := hP
        replace hD : va_D A [(wa2, .inl (K 1, 5, .inl wf2)), (v, .inr (9, [.ref va0, .ref va1, .ref va2, .ref va3, .ref va4, .ref va5, .ref va6, .ref va7, .int vn8, .int vn9, .int vn10, .int vn11])), (va0, .inl (K 1, 40, .inl vf0)), (va1, .inl (K 1, 10, .inl vf1)), (va2, .inl (K 1, 4, .inl vf2)), (va3, .inl (K 1, 4, .inl vf3)), (va4, .inl (K 1, 4, .inl vf4)), (va5, .inl (K 1, 5, .inl vf5)), (va6, .inl (K 1, 5, .inl vf6)), (va7, .inl (K 1, 5, .inl vf7)), (x, .inr (8, [.int xn0, .int xn1, .int xn2])), (y, .inr (5, [.ref ya0, .ref ya1, .ref ya2])), (ya0, .inl (K 2, 240, .inr (.inl yf0))), (ya2, .inl (K 1, 4, .inl yf2)), (w, .inr (0, [.ref wa0, .ref wa1, .ref wa2, .ref wa3, .int wn4, .int wn5])), (wa0, .inr (9, [.ref wa0a0, .ref wa0a1, .ref wa0a2, .ref wa0a3, .ref wa0a4, .ref wa0a5, .ref wa0a6, .ref wa0a7, .int (u1645.1 0), .int (u1645.1 1), .int (u1645.1 2), .int (u1645.1 3)])), (wa0a0, .inl (K 1, 40, .inl (u1692.2.1 0))), (wa0a1, .inl (K 1, 10, .inl (u1692.2.1 1))), (wa0a2, .inl (K 1, 4, .inl (u1645.2.1 2))), (wa0a3, .inl (K 1, 4, .inl (u1645.2.1 3))), (wa0a4, .inl (K 1, 4, .inl (u1645.2.1 4))), (wa0a5, .inl (K 1, 5, .inl (u1645.2.1 5))), (wa0a6, .inl (K 1, 5, .inl (u1645.2.1 6))), (wa0a7, .inl (K 1, 5, .inl (u1645.2.1 7))), (wa1, .inr (8, [.int w1684, .int w1685, .int (u1692.1 0)]))] := hD
        replace hP : va_P D vwCl [(w, .inr (0, [.ref wa0, .ref wa1, .ref wa2, .ref wa3, .int wn4, .int wn5])), (wa2, .inl (K 1, 5, .inl wf2)), (wa0, .inr (9, [.ref wa0a0, .ref wa0a1, .ref wa0a2, .ref wa0a3, .ref wa0a4, .ref wa0a5, .ref wa0a6, .ref wa0a7, .int (u1645.1 0), .int (u1645.1 1), .int (u1645.1 2), .int (u1645.1 3)])), (wa0a0, .inl (K 1, 40, .inl (u1692.2.1 0))), (wa0a1, .inl (K 1, 10, .inl (u1692.2.1 1))), (wa0a2, .inl (K 1, 4, .inl (u1645.2.1 2))), (wa0a3, .inl (K 1, 4, .inl (u1645.2.1 3))), (wa0a4, .inl (K 1, 4, .inl (u1645.2.1 4))), (wa0a5, .inl (K 1, 5, .inl (u1645.2.1 5))), (wa0a6, .inl (K 1, 5, .inl (u1645.2.1 6))), (wa0a7, .inl (K 1, 5, .inl (u1645.2.1 7))), (wa1, .inr (8, [.int w1684, .int w1685, .int (u1692.1 0)])), (v, .inr (9, [.ref va0, .ref va1, .ref va2, .ref va3, .ref va4, .ref va5, .ref va6, .ref va7, .int vn8, .int vn9, .int vn10, .int vn11])), (va0, .inl (K 1, 40, .inl vf0)), (va1, .inl (K 1, 10, .inl vf1)), (va2, .inl (K 1, 4, .inl vf2)), (va3, .inl (K 1, 4, .inl vf3)), (va4, .inl (K 1, 4, .inl vf4)), (va5, .inl (K 1, 5, .inl vf5)), (va6, .inl (K 1, 5, .inl vf6)), (va7, .inl (K 1, 5, .inl vf7)), (x, .inr (8, [.int xn0, .int xn1, .int xn2])), (y, .inr (5, [.ref ya0, .ref ya1, .ref ya2])), (ya0, .inl (K 2, 240, .inr (.inl yf0))), (ya2, .inl (K 1, 4, .inl yf2))] H := hP.sub [14, 0, 15, 16, 17, 18, 19, 20, 21, 22, 23, 24, 1, 2, 3, 4, 5, 6, 7, 8, 9, 10, 11, 12, 13] rfl
        replace hD : va_D A [(w, .inr (0, [.ref wa0, .ref wa1, .ref wa2, .ref wa3, .int wn4, .int wn5])), (wa2, .inl (K 1, 5, .inl wf2)), (wa0, .inr (9, [.ref wa0a0, .ref wa0a1, .ref wa0a2, .ref wa0a3, .ref wa0a4, .ref wa0a5, .ref wa0a6, .ref wa0a7, .int (u1645.1 0), .int (u1645.1 1), .int (u1645.1 2), .int (u1645.1 3)])), (wa0a0, .inl (K 1, 40, .inl (u1692.2.1 0))), (wa0a1, .inl (K 1, 10, .inl (u1692.2.1 1))), (wa0a2, .inl (K 1, 4, .inl (u1645.2.1 2))), (wa0a3, .inl (K 1, 4, .inl (u1645.2.1 3))), (wa0a4, .inl (K 1, 4, .inl (u1645.2.1 4))), (wa0a5, .inl (K 1, 5, .inl (u1645.2.1 5))), (wa0a6, .inl (K 1, 5, .inl (u1645.2.1 6))), (wa0a7, .inl (K 1, 5, .inl (u1645.2.1 7))), (wa1, .inr (8, [.int w1684, .int w1685, .int (u1692.1 0)])), (v, .inr (9, [.ref va0, .ref va1, .ref va2, .ref va3, .ref va4, .ref va5, .ref va6, .ref va7, .int vn8, .int vn9, .int vn10, .int vn11])), (va0, .inl (K 1, 40, .inl vf0)), (va1, .inl (K 1, 10, .inl vf1)), (va2, .inl (K 1, 4, .inl vf2)), (va3, .inl (K 1, 4, .inl vf3)), (va4, .inl (K 1, 4, .inl vf4)), (va5, .inl (K 1, 5, .inl vf5)), (va6, .inl (K 1, 5, .inl vf6)), (va7, .inl (K 1, 5, .inl vf7)), (x, .inr (8, [.int xn0, .int xn1, .int xn2])), (y, .inr (5, [.ref ya0, .ref ya1, .ref ya2])), (ya0, .inl (K 2, 240, .inr (.inl yf0))), (ya2, .inl (K 1, 4, .inl yf2))] := hD.sub [14, 0, 15, 16, 17, 18, 19, 20, 21, 22, 23, 24, 1, 2, 3, 4, 5, 6, 7, 8, 9, 10, 11, 12, 13] (by decide) rfl
        refine W.widen (k := 0) (n := 0) (by decide) (by decide) ?_
        refine lv_iconst (v := 0) hx hb dX0_tryOrder_59 (by decide) ?_
        refine lv_istore (lv' := [(6, .int 0), (5, .int i1681), (0, .ref w), (1, .ref v), (2, .ref x), (3, .ref y), (4, .int p3)]) hx hb dX0_tryOrder_60 hl (by decide) rfl (fun ls hl => ?_)
        have hl' := hl; have hP' := hP; have hD' := hD; clear hl hP hD
        obtain ⟨i1714, w1715, w1716, hi_62, hl, hP, hD⟩ : ∃ (i1714 : Int32) (w1715 : Int32) (w1716 : Int32), ((0 : Int) ≤ i1714.toInt) ∧ lv_has ls 7 [(6, .int i1714), (5, .int i1681), (0, .ref w), (1, .ref v), (2, .ref x), (3, .ref y), (4, .int p3)] ∧ va_P D vwCl [(w, .inr (0, [.ref wa0, .ref wa1, .ref wa2, .ref wa3, .int wn4, .int wn5])), (wa2, .inl (K 1, 5, .inl wf2)), (wa0, .inr (9, [.ref wa0a0, .ref wa0a1, .ref wa0a2, .ref wa0a3, .ref wa0a4, .ref wa0a5, .ref wa0a6, .ref wa0a7, .int (u1645.1 0), .int (u1645.1 1), .int (u1645.1 2), .int (u1645.1 3)])), (wa0a0, .inl (K 1, 40, .inl (u1692.2.1 0))), (wa0a1, .inl (K 1, 10, .inl (u1692.2.1 1))), (wa0a2, .inl (K 1, 4, .inl (u1645.2.1 2))), (wa0a3, .inl (K 1, 4, .inl (u1645.2.1 3))), (wa0a4, .inl (K 1, 4, .inl (u1645.2.1 4))), (wa0a5, .inl (K 1, 5, .inl (u1645.2.1 5))), (wa0a6, .inl (K 1, 5, .inl (u1645.2.1 6))), (wa0a7, .inl (K 1, 5, .inl (u1645.2.1 7))), (wa1, .inr (8, [.int w1715, .int w1716, .int (u1692.1 0)])), (v, .inr (9, [.ref va0, .ref va1, .ref va2, .ref va3, .ref va4, .ref va5, .ref va6, .ref va7, .int vn8, .int vn9, .int vn10, .int vn11])), (va0, .inl (K 1, 40, .inl vf0)), (va1, .inl (K 1, 10, .inl vf1)), (va2, .inl (K 1, 4, .inl vf2)), (va3, .inl (K 1, 4, .inl vf3)), (va4, .inl (K 1, 4, .inl vf4)), (va5, .inl (K 1, 5, .inl vf5)), (va6, .inl (K 1, 5, .inl vf6)), (va7, .inl (K 1, 5, .inl vf7)), (x, .inr (8, [.int xn0, .int xn1, .int xn2])), (y, .inr (5, [.ref ya0, .ref ya1, .ref ya2])), (ya0, .inl (K 2, 240, .inr (.inl yf0))), (ya2, .inl (K 1, 4, .inl yf2))] H ∧ va_D A [(w, .inr (0, [.ref wa0, .ref wa1, .ref wa2, .ref wa3, .int wn4, .int wn5])), (wa2, .inl (K 1, 5, .inl wf2)), (wa0, .inr (9, [.ref wa0a0, .ref wa0a1, .ref wa0a2, .ref wa0a3, .ref wa0a4, .ref wa0a5, .ref wa0a6, .ref wa0a7, .int (u1645.1 0), .int (u1645.1 1), .int (u1645.1 2), .int (u1645.1 3)])), (wa0a0, .inl (K 1, 40, .inl (u1692.2.1 0))), (wa0a1, .inl (K 1, 10, .inl (u1692.2.1 1))), (wa0a2, .inl (K 1, 4, .inl (u1645.2.1 2))), (wa0a3, .inl (K 1, 4, .inl (u1645.2.1 3))), (wa0a4, .inl (K 1, 4, .inl (u1645.2.1 4))), (wa0a5, .inl (K 1, 5, .inl (u1645.2.1 5))), (wa0a6, .inl (K 1, 5, .inl (u1645.2.1 6))), (wa0a7, .inl (K 1, 5, .inl (u1645.2.1 7))), (wa1, .inr (8, [.int w1715, .int w1716, .int (u1692.1 0)])), (v, .inr (9, [.ref va0, .ref va1, .ref va2, .ref va3, .ref va4, .ref va5, .ref va6, .ref va7, .int vn8, .int vn9, .int vn10, .int vn11])), (va0, .inl (K 1, 40, .inl vf0)), (va1, .inl (K 1, 10, .inl vf1)), (va2, .inl (K 1, 4, .inl vf2)), (va3, .inl (K 1, 4, .inl vf3)), (va4, .inl (K 1, 4, .inl vf4)), (va5, .inl (K 1, 5, .inl vf5)), (va6, .inl (K 1, 5, .inl vf6)), (va7, .inl (K 1, 5, .inl vf7)), (x, .inr (8, [.int xn0, .int xn1, .int xn2])), (y, .inr (5, [.ref ya0, .ref ya1, .ref ya2])), (ya0, .inl (K 2, 240, .inr (.inl yf0))), (ya2, .inl (K 1, 4, .inl yf2))] := ⟨_, _, _, by omega, hl', hP', hD'⟩
        clear hl' hP' hD'
        obtain ⟨n_62, hn_62⟩ : ∃ n : Nat, (60 - i1714.toInt).toNat < n := ⟨_, Nat.lt_succ_self _⟩
        induction n_62 generalizing i1714 w1715 w1716 H locs ls with
        | zero => exact absurd hn_62 (Nat.not_lt_zero _)
        | succ n_62 ih_62 =>
          refine lv_iload hx hb dX0_tryOrder_62 (lv_at hl 0 rfl) ?_
          refine lv_aload_n hx hb dX0_tryOrder_64 rfl (lv_at hl 5 rfl) ?_
          refine lv_iload hx hb dX0_tryOrder_65 (lv_at hl 6 rfl) ?_
          refine ro_V (As := [.int p3]) (rest := [.int i1714]) hC hE kV_X0_83 (c_X5_size l D K y ya0 ya1 ya2 yf2 p3 hsz) (hP.sub (ws' := [(y, .inr (5, [.ref ya0, .ref ya1, .ref ya2])), (ya2, .inl (K 1, 4, .inl yf2))]) [22, 24] rfl) 0 5 rfl rfl rfl hl.1 rfl (Nat.le_of_ble_eq_true rfl) (by decide) (by decide) dX0_tryOrder_67 (fun r1723 hq => ?_)
          rcases hq with ⟨rfl, h1717⟩ | ⟨h1718, h1719, h1720, h1721, h1722⟩
          · refine lv_icmp_ge (tgt := 105) hx hb dX0_tryOrder_70 (by decide) (fun c1724 => ?_) (fun c1724 => ?_)
            · replace c1724 := le_i c1724
              obtain ⟨v1725, ev1725⟩ : ∃ z : Int32, z = i1681 + 1 := ⟨_, rfl⟩
              refine lv_iinc (v := v1725) (lv' := [(5, .int v1725), (6, .int i1714), (0, .ref w), (1, .ref v), (2, .ref x), (3, .ref y), (4, .int p3)]) hx hb dX0_tryOrder_105 hl (k := 1) rfl (by rw [ev1725]; rfl) (by decide) rfl (fun ls hl => ?_)
              refine lv_goto (tgt := 30) hx hb dX0_tryOrder_108 (by decide) ?_
              have tv1725 : v1725.toInt = (i1681 : Int32).toInt + (1 : Int32).toInt := add_i ev1725 (by omega) (by omega)
              exact ih_30 (i1681 := v1725) (g1682 := (u1692.2.1 0)) (g1683 := (u1692.2.1 1)) (w1684 := w1715) (w1685 := w1716) (w1686 := (u1692.1 0)) (hi_30 := by omega) (H := H) (locs := locs) (ls := ls) (hn_30 := by omega) (hP := hP) (hD := hD) (hS := hS) (hl := lv_sub hl [0, 2, 3, 4, 5, 6] rfl)
            · replace c1724 := nle_i c1724
              refine lv_iload hx hb dX0_tryOrder_73 (lv_at hl 0 rfl) ?_
              refine lv_bipush (v := 60) hx hb dX0_tryOrder_75 (by decide) ?_
              refine lv_icmp_ge (tgt := 105) hx hb dX0_tryOrder_77 (by decide) (fun c1726 => ?_) (fun c1726 => ?_)
              · replace c1726 := le_i c1726
                obtain ⟨v1727, ev1727⟩ : ∃ z : Int32, z = i1681 + 1 := ⟨_, rfl⟩
                refine lv_iinc (v := v1727) (lv' := [(5, .int v1727), (6, .int i1714), (0, .ref w), (1, .ref v), (2, .ref x), (3, .ref y), (4, .int p3)]) hx hb dX0_tryOrder_105 hl (k := 1) rfl (by rw [ev1727]; rfl) (by decide) rfl (fun ls hl => ?_)
                refine lv_goto (tgt := 30) hx hb dX0_tryOrder_108 (by decide) ?_
                have tv1727 : v1727.toInt = (i1681 : Int32).toInt + (1 : Int32).toInt := add_i ev1727 (by omega) (by omega)
                exact ih_30 (i1681 := v1727) (g1682 := (u1692.2.1 0)) (g1683 := (u1692.2.1 1)) (w1684 := w1715) (w1685 := w1716) (w1686 := (u1692.1 0)) (hi_30 := by omega) (H := H) (locs := locs) (ls := ls) (hn_30 := by omega) (hP := hP) (hD := hD) (hS := hS) (hl := lv_sub hl [0, 2, 3, 4, 5, 6] rfl)
              · replace c1726 := nle_i c1726
                refine lv_aload_n hx hb dX0_tryOrder_80 rfl (lv_at hl 2 rfl) ?_
                refine va_get (D := D) (ci := 0) (v := .ref wa1) (C := RX0) (T := TX0) (N := 6) hx hb hts in_X0 hown hE.1 hP 0 rfl rfl 1 (by decide) (hts _ w_211) (fun _ h9 => h9) rfl dX0_tryOrder_81 ?_
                refine lv_aload_n hx hb dX0_tryOrder_84 rfl (lv_at hl 2 rfl) ?_
                refine va_get (D := D) (ci := 0) (v := .ref wa0) (C := RX0) (T := TX0) (N := 6) hx hb hts in_X0 hown hE.1 hP 0 rfl rfl 0 (by decide) (hts _ w_208) (fun _ h9 => h9) rfl dX0_tryOrder_85 ?_
                refine lv_aload_n hx hb dX0_tryOrder_88 rfl (lv_at hl 5 rfl) ?_
                refine lv_iload hx hb dX0_tryOrder_89 (lv_at hl 6 rfl) ?_
                refine lv_iload hx hb dX0_tryOrder_91 (lv_at hl 0 rfl) ?_
                refine ro_V (As := [.int p3, .int i1714]) (rest := [.ref wa0, .ref wa1]) hC hE kV_X0_89 (c_X5_small l D K y ya0 ya1 ya2 yf0 yf2 p3 i1714 hsz) (hP.sub (ws' := [(y, .inr (5, [.ref ya0, .ref ya1, .ref ya2])), (ya0, .inl (K 2, 240, .inr (.inl yf0))), (ya2, .inl (K 1, 4, .inl yf2))]) [22, 23, 24] rfl) 0 5 rfl rfl rfl hl.1 rfl (Nat.le_of_ble_eq_true rfl) (by decide) (by decide) dX0_tryOrder_93 (fun r1728 _ => ?_)
                refine cv_V (As := [.ref wa0, .int r1728]) (rest := []) (wc := [(wa1, .inr (8, [.int w1715, .int w1716, .int (u1692.1 0)])), (wa0, .inr (9, [.ref wa0a0, .ref wa0a1, .ref wa0a2, .ref wa0a3, .ref wa0a4, .ref wa0a5, .ref wa0a6, .ref wa0a7, .int (u1645.1 0), .int (u1645.1 1), .int (u1645.1 2), .int (u1645.1 3)])), (wa0a0, .inl (K 1, 40, .inl (u1692.2.1 0))), (wa0a1, .inl (K 1, 10, .inl (u1692.2.1 1)))]) (wr := [(w, .inr (0, [.ref wa0, .ref wa1, .ref wa2, .ref wa3, .int wn4, .int wn5])), (wa2, .inl (K 1, 5, .inl wf2)), (wa0a2, .inl (K 1, 4, .inl (u1645.2.1 2))), (wa0a3, .inl (K 1, 4, .inl (u1645.2.1 3))), (wa0a4, .inl (K 1, 4, .inl (u1645.2.1 4))), (wa0a5, .inl (K 1, 5, .inl (u1645.2.1 5))), (wa0a6, .inl (K 1, 5, .inl (u1645.2.1 6))), (wa0a7, .inl (K 1, 5, .inl (u1645.2.1 7))), (v, .inr (9, [.ref va0, .ref va1, .ref va2, .ref va3, .ref va4, .ref va5, .ref va6, .ref va7, .int vn8, .int vn9, .int vn10, .int vn11])), (va0, .inl (K 1, 40, .inl vf0)), (va1, .inl (K 1, 10, .inl vf1)), (va2, .inl (K 1, 4, .inl vf2)), (va3, .inl (K 1, 4, .inl vf3)), (va4, .inl (K 1, 4, .inl vf4)), (va5, .inl (K 1, 5, .inl vf5)), (va6, .inl (K 1, 5, .inl vf6)), (va7, .inl (K 1, 5, .inl vf7)), (x, .inr (8, [.int xn0, .int xn1, .int xn2])), (y, .inr (5, [.ref ya0, .ref ya1, .ref ya2])), (ya0, .inl (K 2, 240, .inr (.inl yf0))), (ya2, .inl (K 1, 4, .inl yf2))]) hC hE kV_X0_92 (c_X9_step l D K wa1 wa0 wa0a0 wa0a1 wa0a2 wa0a3 wa0a4 wa0a5 wa0a6 wa0a7 w1715 w1716 (u1692.1 0) (u1645.1 0) (u1645.1 1) (u1645.1 2) (u1645.1 3) (u1692.2.1 0) (u1692.2.1 1) r1728) hP hD hS hA [11, 2, 3, 4] [0, 1, 5, 6, 7, 8, 9, 10, 12, 13, 14, 15, 16, 17, 18, 19, 20, 21, 22, 23, 24] rfl rfl rfl (by decide) (by decide) (by decide) 0 8 rfl rfl rfl hl.1 rfl (Nat.le_of_ble_eq_true rfl) (by decide) (by decide) dX0_tryOrder_96 (fun u1729 H locs hw hP hD hS => ?_)
                replace hP : va_P D vwCl [(w, .inr (0, [.ref wa0, .ref wa1, .ref wa2, .ref wa3, .int wn4, .int wn5])), (wa2, .inl (K 1, 5, .inl wf2)), (wa0a2, .inl (K 1, 4, .inl (u1645.2.1 2))), (wa0a3, .inl (K 1, 4, .inl (u1645.2.1 3))), (wa0a4, .inl (K 1, 4, .inl (u1645.2.1 4))), (wa0a5, .inl (K 1, 5, .inl (u1645.2.1 5))), (wa0a6, .inl (K 1, 5, .inl (u1645.2.1 6))), (wa0a7, .inl (K 1, 5, .inl (u1645.2.1 7))), (v, .inr (9, [.ref va0, .ref va1, .ref va2, .ref va3, .ref va4, .ref va5, .ref va6, .ref va7, .int vn8, .int vn9, .int vn10, .int vn11])), (va0, .inl (K 1, 40, .inl vf0)), (va1, .inl (K 1, 10, .inl vf1)), (va2, .inl (K 1, 4, .inl vf2)), (va3, .inl (K 1, 4, .inl vf3)), (va4, .inl (K 1, 4, .inl vf4)), (va5, .inl (K 1, 5, .inl vf5)), (va6, .inl (K 1, 5, .inl vf6)), (va7, .inl (K 1, 5, .inl vf7)), (x, .inr (8, [.int xn0, .int xn1, .int xn2])), (y, .inr (5, [.ref ya0, .ref ya1, .ref ya2])), (ya0, .inl (K 2, 240, .inr (.inl yf0))), (ya2, .inl (K 1, 4, .inl yf2)), (wa1, .inr (8, [.int (u1729.1 0), .int (u1729.1 1), .int (u1692.1 0)])), (wa0, .inr (9, [.ref wa0a0, .ref wa0a1, .ref wa0a2, .ref wa0a3, .ref wa0a4, .ref wa0a5, .ref wa0a6, .ref wa0a7, .int (u1645.1 0), .int (u1645.1 1), .int (u1645.1 2), .int (u1645.1 3)])), (wa0a0, .inl (K 1, 40, .inl (u1692.2.1 0))), (wa0a1, .inl (K 1, 10, .inl (u1692.2.1 1)))] H := hP
                replace hD : va_D A [(w, .inr (0, [.ref wa0, .ref wa1, .ref wa2, .ref wa3, .int wn4, .int wn5])), (wa2, .inl (K 1, 5, .inl wf2)), (wa0a2, .inl (K 1, 4, .inl (u1645.2.1 2))), (wa0a3, .inl (K 1, 4, .inl (u1645.2.1 3))), (wa0a4, .inl (K 1, 4, .inl (u1645.2.1 4))), (wa0a5, .inl (K 1, 5, .inl (u1645.2.1 5))), (wa0a6, .inl (K 1, 5, .inl (u1645.2.1 6))), (wa0a7, .inl (K 1, 5, .inl (u1645.2.1 7))), (v, .inr (9, [.ref va0, .ref va1, .ref va2, .ref va3, .ref va4, .ref va5, .ref va6, .ref va7, .int vn8, .int vn9, .int vn10, .int vn11])), (va0, .inl (K 1, 40, .inl vf0)), (va1, .inl (K 1, 10, .inl vf1)), (va2, .inl (K 1, 4, .inl vf2)), (va3, .inl (K 1, 4, .inl vf3)), (va4, .inl (K 1, 4, .inl vf4)), (va5, .inl (K 1, 5, .inl vf5)), (va6, .inl (K 1, 5, .inl vf6)), (va7, .inl (K 1, 5, .inl vf7)), (x, .inr (8, [.int xn0, .int xn1, .int xn2])), (y, .inr (5, [.ref ya0, .ref ya1, .ref ya2])), (ya0, .inl (K 2, 240, .inr (.inl yf0))), (ya2, .inl (K 1, 4, .inl yf2)), (wa1, .inr (8, [.int (u1729.1 0), .int (u1729.1 1), .int (u1692.1 0)])), (wa0, .inr (9, [.ref wa0a0, .ref wa0a1, .ref wa0a2, .ref wa0a3, .ref wa0a4, .ref wa0a5, .ref wa0a6, .ref wa0a7, .int (u1645.1 0), .int (u1645.1 1), .int (u1645.1 2), .int (u1645.1 3)])), (wa0a0, .inl (K 1, 40, .inl (u1692.2.1 0))), (wa0a1, .inl (K 1, 10, .inl (u1692.2.1 1)))] := hD
                replace hP : va_P D vwCl [(w, .inr (0, [.ref wa0, .ref wa1, .ref wa2, .ref wa3, .int wn4, .int wn5])), (wa2, .inl (K 1, 5, .inl wf2)), (wa0, .inr (9, [.ref wa0a0, .ref wa0a1, .ref wa0a2, .ref wa0a3, .ref wa0a4, .ref wa0a5, .ref wa0a6, .ref wa0a7, .int (u1645.1 0), .int (u1645.1 1), .int (u1645.1 2), .int (u1645.1 3)])), (wa0a0, .inl (K 1, 40, .inl (u1692.2.1 0))), (wa0a1, .inl (K 1, 10, .inl (u1692.2.1 1))), (wa0a2, .inl (K 1, 4, .inl (u1645.2.1 2))), (wa0a3, .inl (K 1, 4, .inl (u1645.2.1 3))), (wa0a4, .inl (K 1, 4, .inl (u1645.2.1 4))), (wa0a5, .inl (K 1, 5, .inl (u1645.2.1 5))), (wa0a6, .inl (K 1, 5, .inl (u1645.2.1 6))), (wa0a7, .inl (K 1, 5, .inl (u1645.2.1 7))), (wa1, .inr (8, [.int (u1729.1 0), .int (u1729.1 1), .int (u1692.1 0)])), (v, .inr (9, [.ref va0, .ref va1, .ref va2, .ref va3, .ref va4, .ref va5, .ref va6, .ref va7, .int vn8, .int vn9, .int vn10, .int vn11])), (va0, .inl (K 1, 40, .inl vf0)), (va1, .inl (K 1, 10, .inl vf1)), (va2, .inl (K 1, 4, .inl vf2)), (va3, .inl (K 1, 4, .inl vf3)), (va4, .inl (K 1, 4, .inl vf4)), (va5, .inl (K 1, 5, .inl vf5)), (va6, .inl (K 1, 5, .inl vf6)), (va7, .inl (K 1, 5, .inl vf7)), (x, .inr (8, [.int xn0, .int xn1, .int xn2])), (y, .inr (5, [.ref ya0, .ref ya1, .ref ya2])), (ya0, .inl (K 2, 240, .inr (.inl yf0))), (ya2, .inl (K 1, 4, .inl yf2))] H := hP.sub [0, 1, 22, 23, 24, 2, 3, 4, 5, 6, 7, 21, 8, 9, 10, 11, 12, 13, 14, 15, 16, 17, 18, 19, 20] rfl
                replace hD : va_D A [(w, .inr (0, [.ref wa0, .ref wa1, .ref wa2, .ref wa3, .int wn4, .int wn5])), (wa2, .inl (K 1, 5, .inl wf2)), (wa0, .inr (9, [.ref wa0a0, .ref wa0a1, .ref wa0a2, .ref wa0a3, .ref wa0a4, .ref wa0a5, .ref wa0a6, .ref wa0a7, .int (u1645.1 0), .int (u1645.1 1), .int (u1645.1 2), .int (u1645.1 3)])), (wa0a0, .inl (K 1, 40, .inl (u1692.2.1 0))), (wa0a1, .inl (K 1, 10, .inl (u1692.2.1 1))), (wa0a2, .inl (K 1, 4, .inl (u1645.2.1 2))), (wa0a3, .inl (K 1, 4, .inl (u1645.2.1 3))), (wa0a4, .inl (K 1, 4, .inl (u1645.2.1 4))), (wa0a5, .inl (K 1, 5, .inl (u1645.2.1 5))), (wa0a6, .inl (K 1, 5, .inl (u1645.2.1 6))), (wa0a7, .inl (K 1, 5, .inl (u1645.2.1 7))), (wa1, .inr (8, [.int (u1729.1 0), .int (u1729.1 1), .int (u1692.1 0)])), (v, .inr (9, [.ref va0, .ref va1, .ref va2, .ref va3, .ref va4, .ref va5, .ref va6, .ref va7, .int vn8, .int vn9, .int vn10, .int vn11])), (va0, .inl (K 1, 40, .inl vf0)), (va1, .inl (K 1, 10, .inl vf1)), (va2, .inl (K 1, 4, .inl vf2)), (va3, .inl (K 1, 4, .inl vf3)), (va4, .inl (K 1, 4, .inl vf4)), (va5, .inl (K 1, 5, .inl vf5)), (va6, .inl (K 1, 5, .inl vf6)), (va7, .inl (K 1, 5, .inl vf7)), (x, .inr (8, [.int xn0, .int xn1, .int xn2])), (y, .inr (5, [.ref ya0, .ref ya1, .ref ya2])), (ya0, .inl (K 2, 240, .inr (.inl yf0))), (ya2, .inl (K 1, 4, .inl yf2))] := hD.sub [0, 1, 22, 23, 24, 2, 3, 4, 5, 6, 7, 21, 8, 9, 10, 11, 12, 13, 14, 15, 16, 17, 18, 19, 20] (by decide) rfl
                refine W.widen (k := 0) (n := 0) (by decide) (by decide) ?_
                obtain ⟨v1731, ev1731⟩ : ∃ z : Int32, z = i1714 + 1 := ⟨_, rfl⟩
                refine lv_iinc (v := v1731) (lv' := [(6, .int v1731), (5, .int i1681), (0, .ref w), (1, .ref v), (2, .ref x), (3, .ref y), (4, .int p3)]) hx hb dX0_tryOrder_99 hl (k := 0) rfl (by rw [ev1731]; rfl) (by decide) rfl (fun ls hl => ?_)
                refine lv_goto (tgt := 62) hx hb dX0_tryOrder_102 (by decide) ?_
                have tv1731 : v1731.toInt = (i1714 : Int32).toInt + (1 : Int32).toInt := add_i ev1731 (by omega) (by omega)
                exact ih_62 (i1714 := v1731) (w1715 := (u1729.1 0)) (w1716 := (u1729.1 1)) (hi_62 := by omega) (H := H) (locs := locs) (ls := ls) (hn_62 := by omega) (hP := hP) (hD := hD) (hS := hS) (hl := lv_sub hl [0, 1, 2, 3, 4, 5, 6] rfl)
          · refine lv_icmp_ge (tgt := 105) hx hb dX0_tryOrder_70 (by decide) (fun c1732 => ?_) (fun c1732 => ?_)
            · replace c1732 := le_i c1732
              obtain ⟨v1733, ev1733⟩ : ∃ z : Int32, z = i1681 + 1 := ⟨_, rfl⟩
              refine lv_iinc (v := v1733) (lv' := [(5, .int v1733), (6, .int i1714), (0, .ref w), (1, .ref v), (2, .ref x), (3, .ref y), (4, .int p3)]) hx hb dX0_tryOrder_105 hl (k := 1) rfl (by rw [ev1733]; rfl) (by decide) rfl (fun ls hl => ?_)
              refine lv_goto (tgt := 30) hx hb dX0_tryOrder_108 (by decide) ?_
              have tv1733 : v1733.toInt = (i1681 : Int32).toInt + (1 : Int32).toInt := add_i ev1733 (by omega) (by omega)
              exact ih_30 (i1681 := v1733) (g1682 := (u1692.2.1 0)) (g1683 := (u1692.2.1 1)) (w1684 := w1715) (w1685 := w1716) (w1686 := (u1692.1 0)) (hi_30 := by omega) (H := H) (locs := locs) (ls := ls) (hn_30 := by omega) (hP := hP) (hD := hD) (hS := hS) (hl := lv_sub hl [0, 2, 3, 4, 5, 6] rfl)
            · replace c1732 := nle_i c1732
              refine lv_iload hx hb dX0_tryOrder_73 (lv_at hl 0 rfl) ?_
              refine lv_bipush (v := 60) hx hb dX0_tryOrder_75 (by decide) ?_
              refine lv_icmp_ge (tgt := 105) hx hb dX0_tryOrder_77 (by decide) (fun c1734 => ?_) (fun c1734 => ?_)
              · replace c1734 := le_i c1734
                obtain ⟨v1735, ev1735⟩ : ∃ z : Int32, z = i1681 + 1 := ⟨_, rfl⟩
                refine lv_iinc (v := v1735) (lv' := [(5, .int v1735), (6, .int i1714), (0, .ref w), (1, .ref v), (2, .ref x), (3, .ref y), (4, .int p3)]) hx hb dX0_tryOrder_105 hl (k := 1) rfl (by rw [ev1735]; rfl) (by decide) rfl (fun ls hl => ?_)
                refine lv_goto (tgt := 30) hx hb dX0_tryOrder_108 (by decide) ?_
                have tv1735 : v1735.toInt = (i1681 : Int32).toInt + (1 : Int32).toInt := add_i ev1735 (by omega) (by omega)
                exact ih_30 (i1681 := v1735) (g1682 := (u1692.2.1 0)) (g1683 := (u1692.2.1 1)) (w1684 := w1715) (w1685 := w1716) (w1686 := (u1692.1 0)) (hi_30 := by omega) (H := H) (locs := locs) (ls := ls) (hn_30 := by omega) (hP := hP) (hD := hD) (hS := hS) (hl := lv_sub hl [0, 2, 3, 4, 5, 6] rfl)
              · replace c1734 := nle_i c1734
                refine lv_aload_n hx hb dX0_tryOrder_80 rfl (lv_at hl 2 rfl) ?_
                refine va_get (D := D) (ci := 0) (v := .ref wa1) (C := RX0) (T := TX0) (N := 6) hx hb hts in_X0 hown hE.1 hP 0 rfl rfl 1 (by decide) (hts _ w_211) (fun _ h9 => h9) rfl dX0_tryOrder_81 ?_
                refine lv_aload_n hx hb dX0_tryOrder_84 rfl (lv_at hl 2 rfl) ?_
                refine va_get (D := D) (ci := 0) (v := .ref wa0) (C := RX0) (T := TX0) (N := 6) hx hb hts in_X0 hown hE.1 hP 0 rfl rfl 0 (by decide) (hts _ w_208) (fun _ h9 => h9) rfl dX0_tryOrder_85 ?_
                refine lv_aload_n hx hb dX0_tryOrder_88 rfl (lv_at hl 5 rfl) ?_
                refine lv_iload hx hb dX0_tryOrder_89 (lv_at hl 6 rfl) ?_
                refine lv_iload hx hb dX0_tryOrder_91 (lv_at hl 0 rfl) ?_
                refine ro_V (As := [.int p3, .int i1714]) (rest := [.ref wa0, .ref wa1]) hC hE kV_X0_89 (c_X5_small l D K y ya0 ya1 ya2 yf0 yf2 p3 i1714 hsz) (hP.sub (ws' := [(y, .inr (5, [.ref ya0, .ref ya1, .ref ya2])), (ya0, .inl (K 2, 240, .inr (.inl yf0))), (ya2, .inl (K 1, 4, .inl yf2))]) [22, 23, 24] rfl) 0 5 rfl rfl rfl hl.1 rfl (Nat.le_of_ble_eq_true rfl) (by decide) (by decide) dX0_tryOrder_93 (fun r1736 _ => ?_)
                refine cv_V (As := [.ref wa0, .int r1736]) (rest := []) (wc := [(wa1, .inr (8, [.int w1715, .int w1716, .int (u1692.1 0)])), (wa0, .inr (9, [.ref wa0a0, .ref wa0a1, .ref wa0a2, .ref wa0a3, .ref wa0a4, .ref wa0a5, .ref wa0a6, .ref wa0a7, .int (u1645.1 0), .int (u1645.1 1), .int (u1645.1 2), .int (u1645.1 3)])), (wa0a0, .inl (K 1, 40, .inl (u1692.2.1 0))), (wa0a1, .inl (K 1, 10, .inl (u1692.2.1 1)))]) (wr := [(w, .inr (0, [.ref wa0, .ref wa1, .ref wa2, .ref wa3, .int wn4, .int wn5])), (wa2, .inl (K 1, 5, .inl wf2)), (wa0a2, .inl (K 1, 4, .inl (u1645.2.1 2))), (wa0a3, .inl (K 1, 4, .inl (u1645.2.1 3))), (wa0a4, .inl (K 1, 4, .inl (u1645.2.1 4))), (wa0a5, .inl (K 1, 5, .inl (u1645.2.1 5))), (wa0a6, .inl (K 1, 5, .inl (u1645.2.1 6))), (wa0a7, .inl (K 1, 5, .inl (u1645.2.1 7))), (v, .inr (9, [.ref va0, .ref va1, .ref va2, .ref va3, .ref va4, .ref va5, .ref va6, .ref va7, .int vn8, .int vn9, .int vn10, .int vn11])), (va0, .inl (K 1, 40, .inl vf0)), (va1, .inl (K 1, 10, .inl vf1)), (va2, .inl (K 1, 4, .inl vf2)), (va3, .inl (K 1, 4, .inl vf3)), (va4, .inl (K 1, 4, .inl vf4)), (va5, .inl (K 1, 5, .inl vf5)), (va6, .inl (K 1, 5, .inl vf6)), (va7, .inl (K 1, 5, .inl vf7)), (x, .inr (8, [.int xn0, .int xn1, .int xn2])), (y, .inr (5, [.ref ya0, .ref ya1, .ref ya2])), (ya0, .inl (K 2, 240, .inr (.inl yf0))), (ya2, .inl (K 1, 4, .inl yf2))]) hC hE kV_X0_92 (c_X9_step l D K wa1 wa0 wa0a0 wa0a1 wa0a2 wa0a3 wa0a4 wa0a5 wa0a6 wa0a7 w1715 w1716 (u1692.1 0) (u1645.1 0) (u1645.1 1) (u1645.1 2) (u1645.1 3) (u1692.2.1 0) (u1692.2.1 1) r1736) hP hD hS hA [11, 2, 3, 4] [0, 1, 5, 6, 7, 8, 9, 10, 12, 13, 14, 15, 16, 17, 18, 19, 20, 21, 22, 23, 24] rfl rfl rfl (by decide) (by decide) (by decide) 0 8 rfl rfl rfl hl.1 rfl (Nat.le_of_ble_eq_true rfl) (by decide) (by decide) dX0_tryOrder_96 (fun u1737 H locs hw hP hD hS => ?_)
                replace hP : va_P D vwCl [(w, .inr (0, [.ref wa0, .ref wa1, .ref wa2, .ref wa3, .int wn4, .int wn5])), (wa2, .inl (K 1, 5, .inl wf2)), (wa0a2, .inl (K 1, 4, .inl (u1645.2.1 2))), (wa0a3, .inl (K 1, 4, .inl (u1645.2.1 3))), (wa0a4, .inl (K 1, 4, .inl (u1645.2.1 4))), (wa0a5, .inl (K 1, 5, .inl (u1645.2.1 5))), (wa0a6, .inl (K 1, 5, .inl (u1645.2.1 6))), (wa0a7, .inl (K 1, 5, .inl (u1645.2.1 7))), (v, .inr (9, [.ref va0, .ref va1, .ref va2, .ref va3, .ref va4, .ref va5, .ref va6, .ref va7, .int vn8, .int vn9, .int vn10, .int vn11])), (va0, .inl (K 1, 40, .inl vf0)), (va1, .inl (K 1, 10, .inl vf1)), (va2, .inl (K 1, 4, .inl vf2)), (va3, .inl (K 1, 4, .inl vf3)), (va4, .inl (K 1, 4, .inl vf4)), (va5, .inl (K 1, 5, .inl vf5)), (va6, .inl (K 1, 5, .inl vf6)), (va7, .inl (K 1, 5, .inl vf7)), (x, .inr (8, [.int xn0, .int xn1, .int xn2])), (y, .inr (5, [.ref ya0, .ref ya1, .ref ya2])), (ya0, .inl (K 2, 240, .inr (.inl yf0))), (ya2, .inl (K 1, 4, .inl yf2)), (wa1, .inr (8, [.int (u1737.1 0), .int (u1737.1 1), .int (u1692.1 0)])), (wa0, .inr (9, [.ref wa0a0, .ref wa0a1, .ref wa0a2, .ref wa0a3, .ref wa0a4, .ref wa0a5, .ref wa0a6, .ref wa0a7, .int (u1645.1 0), .int (u1645.1 1), .int (u1645.1 2), .int (u1645.1 3)])), (wa0a0, .inl (K 1, 40, .inl (u1692.2.1 0))), (wa0a1, .inl (K 1, 10, .inl (u1692.2.1 1)))] H := hP
                replace hD : va_D A [(w, .inr (0, [.ref wa0, .ref wa1, .ref wa2, .ref wa3, .int wn4, .int wn5])), (wa2, .inl (K 1, 5, .inl wf2)), (wa0a2, .inl (K 1, 4, .inl (u1645.2.1 2))), (wa0a3, .inl (K 1, 4, .inl (u1645.2.1 3))), (wa0a4, .inl (K 1, 4, .inl (u1645.2.1 4))), (wa0a5, .inl (K 1, 5, .inl (u1645.2.1 5))), (wa0a6, .inl (K 1, 5, .inl (u1645.2.1 6))), (wa0a7, .inl (K 1, 5, .inl (u1645.2.1 7))), (v, .inr (9, [.ref va0, .ref va1, .ref va2, .ref va3, .ref va4, .ref va5, .ref va6, .ref va7, .int vn8, .int vn9, .int vn10, .int vn11])), (va0, .inl (K 1, 40, .inl vf0)), (va1, .inl (K 1, 10, .inl vf1)), (va2, .inl (K 1, 4, .inl vf2)), (va3, .inl (K 1, 4, .inl vf3)), (va4, .inl (K 1, 4, .inl vf4)), (va5, .inl (K 1, 5, .inl vf5)), (va6, .inl (K 1, 5, .inl vf6)), (va7, .inl (K 1, 5, .inl vf7)), (x, .inr (8, [.int xn0, .int xn1, .int xn2])), (y, .inr (5, [.ref ya0, .ref ya1, .ref ya2])), (ya0, .inl (K 2, 240, .inr (.inl yf0))), (ya2, .inl (K 1, 4, .inl yf2)), (wa1, .inr (8, [.int (u1737.1 0), .int (u1737.1 1), .int (u1692.1 0)])), (wa0, .inr (9, [.ref wa0a0, .ref wa0a1, .ref wa0a2, .ref wa0a3, .ref wa0a4, .ref wa0a5, .ref wa0a6, .ref wa0a7, .int (u1645.1 0), .int (u1645.1 1), .int (u1645.1 2), .int (u1645.1 3)])), (wa0a0, .inl (K 1, 40, .inl (u1692.2.1 0))), (wa0a1, .inl (K 1, 10, .inl (u1692.2.1 1)))] := hD
                replace hP : va_P D vwCl [(w, .inr (0, [.ref wa0, .ref wa1, .ref wa2, .ref wa3, .int wn4, .int wn5])), (wa2, .inl (K 1, 5, .inl wf2)), (wa0, .inr (9, [.ref wa0a0, .ref wa0a1, .ref wa0a2, .ref wa0a3, .ref wa0a4, .ref wa0a5, .ref wa0a6, .ref wa0a7, .int (u1645.1 0), .int (u1645.1 1), .int (u1645.1 2), .int (u1645.1 3)])), (wa0a0, .inl (K 1, 40, .inl (u1692.2.1 0))), (wa0a1, .inl (K 1, 10, .inl (u1692.2.1 1))), (wa0a2, .inl (K 1, 4, .inl (u1645.2.1 2))), (wa0a3, .inl (K 1, 4, .inl (u1645.2.1 3))), (wa0a4, .inl (K 1, 4, .inl (u1645.2.1 4))), (wa0a5, .inl (K 1, 5, .inl (u1645.2.1 5))), (wa0a6, .inl (K 1, 5, .inl (u1645.2.1 6))), (wa0a7, .inl (K 1, 5, .inl (u1645.2.1 7))), (wa1, .inr (8, [.int (u1737.1 0), .int (u1737.1 1), .int (u1692.1 0)])), (v, .inr (9, [.ref va0, .ref va1, .ref va2, .ref va3, .ref va4, .ref va5, .ref va6, .ref va7, .int vn8, .int vn9, .int vn10, .int vn11])), (va0, .inl (K 1, 40, .inl vf0)), (va1, .inl (K 1, 10, .inl vf1)), (va2, .inl (K 1, 4, .inl vf2)), (va3, .inl (K 1, 4, .inl vf3)), (va4, .inl (K 1, 4, .inl vf4)), (va5, .inl (K 1, 5, .inl vf5)), (va6, .inl (K 1, 5, .inl vf6)), (va7, .inl (K 1, 5, .inl vf7)), (x, .inr (8, [.int xn0, .int xn1, .int xn2])), (y, .inr (5, [.ref ya0, .ref ya1, .ref ya2])), (ya0, .inl (K 2, 240, .inr (.inl yf0))), (ya2, .inl (K 1, 4, .inl yf2))] H := hP.sub [0, 1, 22, 23, 24, 2, 3, 4, 5, 6, 7, 21, 8, 9, 10, 11, 12, 13, 14, 15, 16, 17, 18, 19, 20] rfl
                replace hD : va_D A [(w, .inr (0, [.ref wa0, .ref wa1, .ref wa2, .ref wa3, .int wn4, .int wn5])), (wa2, .inl (K 1, 5, .inl wf2)), (wa0, .inr (9, [.ref wa0a0, .ref wa0a1, .ref wa0a2, .ref wa0a3, .ref wa0a4, .ref wa0a5, .ref wa0a6, .ref wa0a7, .int (u1645.1 0), .int (u1645.1 1), .int (u1645.1 2), .int (u1645.1 3)])), (wa0a0, .inl (K 1, 40, .inl (u1692.2.1 0))), (wa0a1, .inl (K 1, 10, .inl (u1692.2.1 1))), (wa0a2, .inl (K 1, 4, .inl (u1645.2.1 2))), (wa0a3, .inl (K 1, 4, .inl (u1645.2.1 3))), (wa0a4, .inl (K 1, 4, .inl (u1645.2.1 4))), (wa0a5, .inl (K 1, 5, .inl (u1645.2.1 5))), (wa0a6, .inl (K 1, 5, .inl (u1645.2.1 6))), (wa0a7, .inl (K 1, 5, .inl (u1645.2.1 7))), (wa1, .inr (8, [.int (u1737.1 0), .int (u1737.1 1), .int (u1692.1 0)])), (v, .inr (9, [.ref va0, .ref va1, .ref va2, .ref va3, .ref va4, .ref va5, .ref va6, .ref va7, .int vn8, .int vn9, .int vn10, .int vn11])), (va0, .inl (K 1, 40, .inl vf0)), (va1, .inl (K 1, 10, .inl vf1)), (va2, .inl (K 1, 4, .inl vf2)), (va3, .inl (K 1, 4, .inl vf3)), (va4, .inl (K 1, 4, .inl vf4)), (va5, .inl (K 1, 5, .inl vf5)), (va6, .inl (K 1, 5, .inl vf6)), (va7, .inl (K 1, 5, .inl vf7)), (x, .inr (8, [.int xn0, .int xn1, .int xn2])), (y, .inr (5, [.ref ya0, .ref ya1, .ref ya2])), (ya0, .inl (K 2, 240, .inr (.inl yf0))), (ya2, .inl (K 1, 4, .inl yf2))] := hD.sub [0, 1, 22, 23, 24, 2, 3, 4, 5, 6, 7, 21, 8, 9, 10, 11, 12, 13, 14, 15, 16, 17, 18, 19, 20] (by decide) rfl
                refine W.widen (k := 0) (n := 0) (by decide) (by decide) ?_
                obtain ⟨v1739, ev1739⟩ : ∃ z : Int32, z = i1714 + 1 := ⟨_, rfl⟩
                refine lv_iinc (v := v1739) (lv' := [(6, .int v1739), (5, .int i1681), (0, .ref w), (1, .ref v), (2, .ref x), (3, .ref y), (4, .int p3)]) hx hb dX0_tryOrder_99 hl (k := 0) rfl (by rw [ev1739]; rfl) (by decide) rfl (fun ls hl => ?_)
                refine lv_goto (tgt := 62) hx hb dX0_tryOrder_102 (by decide) ?_
                have tv1739 : v1739.toInt = (i1714 : Int32).toInt + (1 : Int32).toInt := add_i ev1739 (by omega) (by omega)
                exact ih_62 (i1714 := v1739) (w1715 := (u1737.1 0)) (w1716 := (u1737.1 1)) (hi_62 := by omega) (H := H) (locs := locs) (ls := ls) (hn_62 := by omega) (hP := hP) (hD := hD) (hS := hS) (hl := lv_sub hl [0, 1, 2, 3, 4, 5, 6] rfl)
set_option maxRecDepth 40000 in
set_option maxHeartbeats 4000000 in
theorem c_X0_tryAll (l : Launch) (D : va_G) (K : Nat → ClassId) (w : Nat) (wa0 : Nat) (wa1 : Nat) (wa2 : Nat) (wa3 : Nat) (wa0a0 : Nat) (wa0a1 : Nat) (wa0a2 : Nat) (wa0a3 : Nat) (wa0a4 : Nat) (wa0a5 : Nat) (wa0a6 : Nat) (wa0a7 : Nat) (v : Nat) (va0 : Nat) (va1 : Nat) (va2 : Nat) (va3 : Nat) (va4 : Nat) (va5 : Nat) (va6 : Nat) (va7 : Nat) (x : Nat) (y : Nat) (ya0 : Nat) (ya1 : Nat) (ya2 : Nat) (wn4 : Int32) (wn5 : Int32) (wa0n8 : Int32) (wa0n9 : Int32) (wa0n10 : Int32) (wa0n11 : Int32) (wa1n0 : Int32) (wa1n1 : Int32) (wa1n2 : Int32) (vn8 : Int32) (vn9 : Int32) (vn10 : Int32) (vn11 : Int32) (xn0 : Int32) (xn1 : Int32) (xn2 : Int32) (wf2 : Nat → Int32) (wf3 : Nat → Int32) (wa0f0 : Nat → Int32) (wa0f1 : Nat → Int32) (wa0f2 : Nat → Int32) (wa0f3 : Nat → Int32) (wa0f4 : Nat → Int32) (wa0f5 : Nat → Int32) (wa0f6 : Nat → Int32) (wa0f7 : Nat → Int32) (vf0 : Nat → Int32) (vf1 : Nat → Int32) (vf2 : Nat → Int32) (vf3 : Nat → Int32) (vf4 : Nat → Int32) (vf5 : Nat → Int32) (vf6 : Nat → Int32) (vf7 : Nat → Int32) (yf0 : Nat → Int64) (yf2 : Nat → Int32) (p3 : Int32) (hsz : ∀ j, j < 4 → -1 ≤ (yf2 j).toInt ∧ (yf2 j).toInt ≤ 60) (hl10 : 0 ≤ vn10.toInt) : Cv (S := ((Nat → Int32) × (Nat → Nat → Int32) × (Nat → Nat → Int64))) l D K yX0_tryAll cX0_tryAll 9 5 110 0 0 [.ref w, .ref v, .ref x, .ref y, .int p3] [(w, .inr (0, [.ref wa0, .ref wa1, .ref wa2, .ref wa3, .int wn4, .int wn5])), (wa2, .inl (K 1, 5, .inl wf2)), (wa3, .inl (K 1, 5, .inl wf3)), (wa0, .inr (9, [.ref wa0a0, .ref wa0a1, .ref wa0a2, .ref wa0a3, .ref wa0a4, .ref wa0a5, .ref wa0a6, .ref wa0a7, .int wa0n8, .int wa0n9, .int wa0n10, .int wa0n11])), (wa0a0, .inl (K 1, 40, .inl wa0f0)), (wa0a1, .inl (K 1, 10, .inl wa0f1)), (wa0a2, .inl (K 1, 4, .inl wa0f2)), (wa0a3, .inl (K 1, 4, .inl wa0f3)), (wa0a4, .inl (K 1, 4, .inl wa0f4)), (wa0a5, .inl (K 1, 5, .inl wa0f5)), (wa0a6, .inl (K 1, 5, .inl wa0f6)), (wa0a7, .inl (K 1, 5, .inl wa0f7)), (wa1, .inr (8, [.int wa1n0, .int wa1n1, .int wa1n2])), (v, .inr (9, [.ref va0, .ref va1, .ref va2, .ref va3, .ref va4, .ref va5, .ref va6, .ref va7, .int vn8, .int vn9, .int vn10, .int vn11])), (va0, .inl (K 1, 40, .inl vf0)), (va1, .inl (K 1, 10, .inl vf1)), (va2, .inl (K 1, 4, .inl vf2)), (va3, .inl (K 1, 4, .inl vf3)), (va4, .inl (K 1, 4, .inl vf4)), (va5, .inl (K 1, 5, .inl vf5)), (va6, .inl (K 1, 5, .inl vf6)), (va7, .inl (K 1, 5, .inl vf7)), (x, .inr (8, [.int xn0, .int xn1, .int xn2])), (y, .inr (5, [.ref ya0, .ref ya1, .ref ya2])), (ya0, .inl (K 2, 240, .inr (.inl yf0))), (ya2, .inl (K 1, 4, .inl yf2))] (fun _ => True) (fun u => [(w, .inr (0, [.ref wa0, .ref wa1, .ref wa2, .ref wa3, .int (u.1 0), .int (u.1 1)])), (wa2, .inl (K 1, 5, .inl (u.2.1 0))), (wa3, .inl (K 1, 5, .inl (u.2.1 1))), (wa0, .inr (9, [.ref wa0a0, .ref wa0a1, .ref wa0a2, .ref wa0a3, .ref wa0a4, .ref wa0a5, .ref wa0a6, .ref wa0a7, .int (u.1 2), .int (u.1 3), .int (u.1 4), .int (u.1 5)])), (wa0a0, .inl (K 1, 40, .inl (u.2.1 2))), (wa0a1, .inl (K 1, 10, .inl (u.2.1 3))), (wa0a2, .inl (K 1, 4, .inl (u.2.1 4))), (wa0a3, .inl (K 1, 4, .inl (u.2.1 5))), (wa0a4, .inl (K 1, 4, .inl (u.2.1 6))), (wa0a5, .inl (K 1, 5, .inl (u.2.1 7))), (wa0a6, .inl (K 1, 5, .inl (u.2.1 8))), (wa0a7, .inl (K 1, 5, .inl (u.2.1 9))), (wa1, .inr (8, [.int (u.1 6), .int (u.1 7), .int (u.1 8)])), (v, .inr (9, [.ref va0, .ref va1, .ref va2, .ref va3, .ref va4, .ref va5, .ref va6, .ref va7, .int vn8, .int vn9, .int vn10, .int vn11])), (va0, .inl (K 1, 40, .inl vf0)), (va1, .inl (K 1, 10, .inl vf1)), (va2, .inl (K 1, 4, .inl vf2)), (va3, .inl (K 1, 4, .inl vf3)), (va4, .inl (K 1, 4, .inl vf4)), (va5, .inl (K 1, 5, .inl vf5)), (va6, .inl (K 1, 5, .inl vf6)), (va7, .inl (K 1, 5, .inl vf7)), (x, .inr (8, [.int xn0, .int xn1, .int xn2])), (y, .inr (5, [.ref ya0, .ref ya1, .ref ya2])), (ya0, .inl (K 2, 240, .inr (.inl yf0))), (ya2, .inl (K 1, 4, .inl yf2))]) := by
  intro sz
  refine ch_of (y := yX0_tryAll) (cc := cX0_tryAll) (maxL := 9) (ret := none) (av := [.ref w, .ref v, .ref x, .ref y, .int p3]) (ws := [(w, .inr (0, [.ref wa0, .ref wa1, .ref wa2, .ref wa3, .int wn4, .int wn5])), (wa2, .inl (K 1, 5, .inl wf2)), (wa3, .inl (K 1, 5, .inl wf3)), (wa0, .inr (9, [.ref wa0a0, .ref wa0a1, .ref wa0a2, .ref wa0a3, .ref wa0a4, .ref wa0a5, .ref wa0a6, .ref wa0a7, .int wa0n8, .int wa0n9, .int wa0n10, .int wa0n11])), (wa0a0, .inl (K 1, 40, .inl wa0f0)), (wa0a1, .inl (K 1, 10, .inl wa0f1)), (wa0a2, .inl (K 1, 4, .inl wa0f2)), (wa0a3, .inl (K 1, 4, .inl wa0f3)), (wa0a4, .inl (K 1, 4, .inl wa0f4)), (wa0a5, .inl (K 1, 5, .inl wa0f5)), (wa0a6, .inl (K 1, 5, .inl wa0f6)), (wa0a7, .inl (K 1, 5, .inl wa0f7)), (wa1, .inr (8, [.int wa1n0, .int wa1n1, .int wa1n2])), (v, .inr (9, [.ref va0, .ref va1, .ref va2, .ref va3, .ref va4, .ref va5, .ref va6, .ref va7, .int vn8, .int vn9, .int vn10, .int vn11])), (va0, .inl (K 1, 40, .inl vf0)), (va1, .inl (K 1, 10, .inl vf1)), (va2, .inl (K 1, 4, .inl vf2)), (va3, .inl (K 1, 4, .inl vf3)), (va4, .inl (K 1, 4, .inl vf4)), (va5, .inl (K 1, 5, .inl vf5)), (va6, .inl (K 1, 5, .inl vf6)), (va7, .inl (K 1, 5, .inl vf7)), (x, .inr (8, [.int xn0, .int xn1, .int xn2])), (y, .inr (5, [.ref ya0, .ref ya1, .ref ya2])), (ya0, .inl (K 2, 240, .inr (.inl yf0))), (ya2, .inl (K 1, 4, .inl yf2))]) (D := D) (K := K) (Qc := fun A => va_Qv (S := ((Nat → Int32) × (Nat → Nat → Int32) × (Nat → Nat → Int64))) (fun _ => True) (chB D A (fun u => [(w, .inr (0, [.ref wa0, .ref wa1, .ref wa2, .ref wa3, .int (u.1 0), .int (u.1 1)])), (wa2, .inl (K 1, 5, .inl (u.2.1 0))), (wa3, .inl (K 1, 5, .inl (u.2.1 1))), (wa0, .inr (9, [.ref wa0a0, .ref wa0a1, .ref wa0a2, .ref wa0a3, .ref wa0a4, .ref wa0a5, .ref wa0a6, .ref wa0a7, .int (u.1 2), .int (u.1 3), .int (u.1 4), .int (u.1 5)])), (wa0a0, .inl (K 1, 40, .inl (u.2.1 2))), (wa0a1, .inl (K 1, 10, .inl (u.2.1 3))), (wa0a2, .inl (K 1, 4, .inl (u.2.1 4))), (wa0a3, .inl (K 1, 4, .inl (u.2.1 5))), (wa0a4, .inl (K 1, 4, .inl (u.2.1 6))), (wa0a5, .inl (K 1, 5, .inl (u.2.1 7))), (wa0a6, .inl (K 1, 5, .inl (u.2.1 8))), (wa0a7, .inl (K 1, 5, .inl (u.2.1 9))), (wa1, .inr (8, [.int (u.1 6), .int (u.1 7), .int (u.1 8)])), (v, .inr (9, [.ref va0, .ref va1, .ref va2, .ref va3, .ref va4, .ref va5, .ref va6, .ref va7, .int vn8, .int vn9, .int vn10, .int vn11])), (va0, .inl (K 1, 40, .inl vf0)), (va1, .inl (K 1, 10, .inl vf1)), (va2, .inl (K 1, 4, .inl vf2)), (va3, .inl (K 1, 4, .inl vf3)), (va4, .inl (K 1, 4, .inl vf4)), (va5, .inl (K 1, 5, .inl vf5)), (va6, .inl (K 1, 5, .inl vf6)), (va7, .inl (K 1, 5, .inl vf7)), (x, .inr (8, [.int xn0, .int xn1, .int xn2])), (y, .inr (5, [.ref ya0, .ref ya1, .ref ya2])), (ya0, .inl (K 2, 240, .inr (.inl yf0))), (ya2, .inl (K 1, 4, .inl yf2))])) A) (by decide) (Nat.le_of_ble_eq_true rfl) ?_
  intro p e s m below meth c A hC hr hk hin hE hD hA H locs hP hS ls hl
  replace hC : CallFix p m c cX0_tryAll 9 s [.ref w, .ref v, .ref x, .ref y, .int p3].toArray wl RX0 := hC
  have hx := hC.1
  have hb := hC.2.1
  have hml := hC.2.2.1
  have hown := hC.2.2.2.1
  have hts := hC.2.2.2.2
  replace hl : lv_has ls 9 [(0, .ref w), (1, .ref v), (2, .ref x), (3, .ref y), (4, .int p3)] := hl
  have kc_0 : (0 : Int32).toInt = 0 := by decide
  have kc_1 : (1 : Int32).toInt = 1 := by decide
  have kc_5 : (5 : Int32).toInt = 5 := by decide
  have kc_10 : (10 : Int32).toInt = 10 := by decide
  have kc_200 : (200 : Int32).toInt = 200 := by decide
  refine lv_aload_n hx hb dX0_tryAll_0 rfl (lv_at hl 1 rfl) ?_
  refine va_get (D := D) (ci := 9) (v := .int vn10) (C := RX10) (T := TX10) (N := 12) hx hb hts in_X10 hown hE.1 hP 13 rfl rfl 10 (by decide) (hts _ w_224) (fun _ h9 => h9) rfl dX0_tryAll_1 ?_
  refine lv_iconst (v := 5) hx hb dX0_tryAll_4 (by decide) ?_
  refine va_mmin hx hb (hml.trans hl.1.symm) hown (hts _ w_251) (hts _ w_142) (hts _ w_143) (hts _ w_144) (by decide) (Nat.le_of_ble_eq_true rfl) (by decide) (by decide) dX0_tryAll_5 ?_
  refine lv_topi (fun v1763 ev1763 => ?_)
  have tv1763 := min_i ev1763
  refine lv_istore (lv' := [(5, .int v1763), (0, .ref w), (1, .ref v), (2, .ref x), (3, .ref y), (4, .int p3)]) hx hb dX0_tryAll_8 hl (by decide) rfl (fun ls hl => ?_)
  refine lv_iconst (v := 0) hx hb dX0_tryAll_10 (by decide) ?_
  refine lv_istore (lv' := [(6, .int 0), (5, .int v1763), (0, .ref w), (1, .ref v), (2, .ref x), (3, .ref y), (4, .int p3)]) hx hb dX0_tryAll_11 hl (by decide) rfl (fun ls hl => ?_)
  have hl' := hl; have hP' := hP; have hD' := hD; clear hl hP hD
  obtain ⟨i1768, g1769, hi_13, hl, hP, hD⟩ : ∃ (i1768 : Int32) (g1769 : Nat → Int32), ((0 : Int) ≤ i1768.toInt) ∧ lv_has ls 9 [(6, .int i1768), (5, .int v1763), (0, .ref w), (1, .ref v), (2, .ref x), (3, .ref y), (4, .int p3)] ∧ va_P D vwCl [(w, .inr (0, [.ref wa0, .ref wa1, .ref wa2, .ref wa3, .int wn4, .int wn5])), (wa2, .inl (K 1, 5, .inl g1769)), (wa3, .inl (K 1, 5, .inl wf3)), (wa0, .inr (9, [.ref wa0a0, .ref wa0a1, .ref wa0a2, .ref wa0a3, .ref wa0a4, .ref wa0a5, .ref wa0a6, .ref wa0a7, .int wa0n8, .int wa0n9, .int wa0n10, .int wa0n11])), (wa0a0, .inl (K 1, 40, .inl wa0f0)), (wa0a1, .inl (K 1, 10, .inl wa0f1)), (wa0a2, .inl (K 1, 4, .inl wa0f2)), (wa0a3, .inl (K 1, 4, .inl wa0f3)), (wa0a4, .inl (K 1, 4, .inl wa0f4)), (wa0a5, .inl (K 1, 5, .inl wa0f5)), (wa0a6, .inl (K 1, 5, .inl wa0f6)), (wa0a7, .inl (K 1, 5, .inl wa0f7)), (wa1, .inr (8, [.int wa1n0, .int wa1n1, .int wa1n2])), (v, .inr (9, [.ref va0, .ref va1, .ref va2, .ref va3, .ref va4, .ref va5, .ref va6, .ref va7, .int vn8, .int vn9, .int vn10, .int vn11])), (va0, .inl (K 1, 40, .inl vf0)), (va1, .inl (K 1, 10, .inl vf1)), (va2, .inl (K 1, 4, .inl vf2)), (va3, .inl (K 1, 4, .inl vf3)), (va4, .inl (K 1, 4, .inl vf4)), (va5, .inl (K 1, 5, .inl vf5)), (va6, .inl (K 1, 5, .inl vf6)), (va7, .inl (K 1, 5, .inl vf7)), (x, .inr (8, [.int xn0, .int xn1, .int xn2])), (y, .inr (5, [.ref ya0, .ref ya1, .ref ya2])), (ya0, .inl (K 2, 240, .inr (.inl yf0))), (ya2, .inl (K 1, 4, .inl yf2))] H ∧ va_D A [(w, .inr (0, [.ref wa0, .ref wa1, .ref wa2, .ref wa3, .int wn4, .int wn5])), (wa2, .inl (K 1, 5, .inl g1769)), (wa3, .inl (K 1, 5, .inl wf3)), (wa0, .inr (9, [.ref wa0a0, .ref wa0a1, .ref wa0a2, .ref wa0a3, .ref wa0a4, .ref wa0a5, .ref wa0a6, .ref wa0a7, .int wa0n8, .int wa0n9, .int wa0n10, .int wa0n11])), (wa0a0, .inl (K 1, 40, .inl wa0f0)), (wa0a1, .inl (K 1, 10, .inl wa0f1)), (wa0a2, .inl (K 1, 4, .inl wa0f2)), (wa0a3, .inl (K 1, 4, .inl wa0f3)), (wa0a4, .inl (K 1, 4, .inl wa0f4)), (wa0a5, .inl (K 1, 5, .inl wa0f5)), (wa0a6, .inl (K 1, 5, .inl wa0f6)), (wa0a7, .inl (K 1, 5, .inl wa0f7)), (wa1, .inr (8, [.int wa1n0, .int wa1n1, .int wa1n2])), (v, .inr (9, [.ref va0, .ref va1, .ref va2, .ref va3, .ref va4, .ref va5, .ref va6, .ref va7, .int vn8, .int vn9, .int vn10, .int vn11])), (va0, .inl (K 1, 40, .inl vf0)), (va1, .inl (K 1, 10, .inl vf1)), (va2, .inl (K 1, 4, .inl vf2)), (va3, .inl (K 1, 4, .inl vf3)), (va4, .inl (K 1, 4, .inl vf4)), (va5, .inl (K 1, 5, .inl vf5)), (va6, .inl (K 1, 5, .inl vf6)), (va7, .inl (K 1, 5, .inl vf7)), (x, .inr (8, [.int xn0, .int xn1, .int xn2])), (y, .inr (5, [.ref ya0, .ref ya1, .ref ya2])), (ya0, .inl (K 2, 240, .inr (.inl yf0))), (ya2, .inl (K 1, 4, .inl yf2))] := ⟨_, _, by omega, hl', hP', hD'⟩
  clear hl' hP' hD'
  obtain ⟨n_13, hn_13⟩ : ∃ n : Nat, (5 - i1768.toInt).toNat < n := ⟨_, Nat.lt_succ_self _⟩
  induction n_13 generalizing i1768 g1769 H locs ls with
  | zero => exact absurd hn_13 (Nat.not_lt_zero _)
  | succ n_13 ih_13 =>
    refine lv_iload hx hb dX0_tryAll_13 (lv_at hl 0 rfl) ?_
    refine lv_iconst (v := 5) hx hb dX0_tryAll_15 (by decide) ?_
    refine lv_icmp_ge (tgt := 34) hx hb dX0_tryAll_16 (by decide) (fun c1770 => ?_) (fun c1770 => ?_)
    · replace c1770 := le_i c1770
      refine lv_aload_n hx hb dX0_tryAll_34 rfl (lv_at hl 2 rfl) ?_
      refine lv_iconst (v := (-1)) hx hb dX0_tryAll_35 (by decide) ?_
      refine va_put (D := D) (ci := 0) (v := .int (-1)) (ty := .int) (C := RX0) (T := TX0) (N := 6) hx hb hts in_X0 tyX0 tyX0_ok nmX0 hown hE.1 hP hD hS 0 rfl rfl 4 (by decide) (hts _ w_252) (fun _ h9 => h9) rfl (by decide +kernel) rfl rfl (Nat.le_of_ble_eq_true rfl) dX0_tryAll_36 (fun H locs hP hD hS => ?_)
      replace hP : va_P D vwCl [(w, .inr (0, [.ref wa0, .ref wa1, .ref wa2, .ref wa3, .int (-1), .int wn5])), (wa2, .inl (K 1, 5, .inl g1769)), (wa3, .inl (K 1, 5, .inl wf3)), (wa0, .inr (9, [.ref wa0a0, .ref wa0a1, .ref wa0a2, .ref wa0a3, .ref wa0a4, .ref wa0a5, .ref wa0a6, .ref wa0a7, .int wa0n8, .int wa0n9, .int wa0n10, .int wa0n11])), (wa0a0, .inl (K 1, 40, .inl wa0f0)), (wa0a1, .inl (K 1, 10, .inl wa0f1)), (wa0a2, .inl (K 1, 4, .inl wa0f2)), (wa0a3, .inl (K 1, 4, .inl wa0f3)), (wa0a4, .inl (K 1, 4, .inl wa0f4)), (wa0a5, .inl (K 1, 5, .inl wa0f5)), (wa0a6, .inl (K 1, 5, .inl wa0f6)), (wa0a7, .inl (K 1, 5, .inl wa0f7)), (wa1, .inr (8, [.int wa1n0, .int wa1n1, .int wa1n2])), (v, .inr (9, [.ref va0, .ref va1, .ref va2, .ref va3, .ref va4, .ref va5, .ref va6, .ref va7, .int vn8, .int vn9, .int vn10, .int vn11])), (va0, .inl (K 1, 40, .inl vf0)), (va1, .inl (K 1, 10, .inl vf1)), (va2, .inl (K 1, 4, .inl vf2)), (va3, .inl (K 1, 4, .inl vf3)), (va4, .inl (K 1, 4, .inl vf4)), (va5, .inl (K 1, 5, .inl vf5)), (va6, .inl (K 1, 5, .inl vf6)), (va7, .inl (K 1, 5, .inl vf7)), (x, .inr (8, [.int xn0, .int xn1, .int xn2])), (y, .inr (5, [.ref ya0, .ref ya1, .ref ya2])), (ya0, .inl (K 2, 240, .inr (.inl yf0))), (ya2, .inl (K 1, 4, .inl yf2))] H := hP
      replace hD : va_D A [(w, .inr (0, [.ref wa0, .ref wa1, .ref wa2, .ref wa3, .int (-1), .int wn5])), (wa2, .inl (K 1, 5, .inl g1769)), (wa3, .inl (K 1, 5, .inl wf3)), (wa0, .inr (9, [.ref wa0a0, .ref wa0a1, .ref wa0a2, .ref wa0a3, .ref wa0a4, .ref wa0a5, .ref wa0a6, .ref wa0a7, .int wa0n8, .int wa0n9, .int wa0n10, .int wa0n11])), (wa0a0, .inl (K 1, 40, .inl wa0f0)), (wa0a1, .inl (K 1, 10, .inl wa0f1)), (wa0a2, .inl (K 1, 4, .inl wa0f2)), (wa0a3, .inl (K 1, 4, .inl wa0f3)), (wa0a4, .inl (K 1, 4, .inl wa0f4)), (wa0a5, .inl (K 1, 5, .inl wa0f5)), (wa0a6, .inl (K 1, 5, .inl wa0f6)), (wa0a7, .inl (K 1, 5, .inl wa0f7)), (wa1, .inr (8, [.int wa1n0, .int wa1n1, .int wa1n2])), (v, .inr (9, [.ref va0, .ref va1, .ref va2, .ref va3, .ref va4, .ref va5, .ref va6, .ref va7, .int vn8, .int vn9, .int vn10, .int vn11])), (va0, .inl (K 1, 40, .inl vf0)), (va1, .inl (K 1, 10, .inl vf1)), (va2, .inl (K 1, 4, .inl vf2)), (va3, .inl (K 1, 4, .inl vf3)), (va4, .inl (K 1, 4, .inl vf4)), (va5, .inl (K 1, 5, .inl vf5)), (va6, .inl (K 1, 5, .inl vf6)), (va7, .inl (K 1, 5, .inl vf7)), (x, .inr (8, [.int xn0, .int xn1, .int xn2])), (y, .inr (5, [.ref ya0, .ref ya1, .ref ya2])), (ya0, .inl (K 2, 240, .inr (.inl yf0))), (ya2, .inl (K 1, 4, .inl yf2))] := hD
      refine lv_aload_n hx hb dX0_tryAll_39 rfl (lv_at hl 2 rfl) ?_
      refine lv_bipush (v := 10) hx hb dX0_tryAll_40 (by decide) ?_
      refine va_put (D := D) (ci := 0) (v := .int 10) (ty := .int) (C := RX0) (T := TX0) (N := 6) hx hb hts in_X0 tyX0 tyX0_ok nmX0 hown hE.1 hP hD hS 0 rfl rfl 5 (by decide) (hts _ w_253) (fun _ h9 => h9) rfl (by decide +kernel) rfl rfl (Nat.le_of_ble_eq_true rfl) dX0_tryAll_42 (fun H locs hP hD hS => ?_)
      replace hP : va_P D vwCl [(w, .inr (0, [.ref wa0, .ref wa1, .ref wa2, .ref wa3, .int (-1), .int 10])), (wa2, .inl (K 1, 5, .inl g1769)), (wa3, .inl (K 1, 5, .inl wf3)), (wa0, .inr (9, [.ref wa0a0, .ref wa0a1, .ref wa0a2, .ref wa0a3, .ref wa0a4, .ref wa0a5, .ref wa0a6, .ref wa0a7, .int wa0n8, .int wa0n9, .int wa0n10, .int wa0n11])), (wa0a0, .inl (K 1, 40, .inl wa0f0)), (wa0a1, .inl (K 1, 10, .inl wa0f1)), (wa0a2, .inl (K 1, 4, .inl wa0f2)), (wa0a3, .inl (K 1, 4, .inl wa0f3)), (wa0a4, .inl (K 1, 4, .inl wa0f4)), (wa0a5, .inl (K 1, 5, .inl wa0f5)), (wa0a6, .inl (K 1, 5, .inl wa0f6)), (wa0a7, .inl (K 1, 5, .inl wa0f7)), (wa1, .inr (8, [.int wa1n0, .int wa1n1, .int wa1n2])), (v, .inr (9, [.ref va0, .ref va1, .ref va2, .ref va3, .ref va4, .ref va5, .ref va6, .ref va7, .int vn8, .int vn9, .int vn10, .int vn11])), (va0, .inl (K 1, 40, .inl vf0)), (va1, .inl (K 1, 10, .inl vf1)), (va2, .inl (K 1, 4, .inl vf2)), (va3, .inl (K 1, 4, .inl vf3)), (va4, .inl (K 1, 4, .inl vf4)), (va5, .inl (K 1, 5, .inl vf5)), (va6, .inl (K 1, 5, .inl vf6)), (va7, .inl (K 1, 5, .inl vf7)), (x, .inr (8, [.int xn0, .int xn1, .int xn2])), (y, .inr (5, [.ref ya0, .ref ya1, .ref ya2])), (ya0, .inl (K 2, 240, .inr (.inl yf0))), (ya2, .inl (K 1, 4, .inl yf2))] H := hP
      replace hD : va_D A [(w, .inr (0, [.ref wa0, .ref wa1, .ref wa2, .ref wa3, .int (-1), .int 10])), (wa2, .inl (K 1, 5, .inl g1769)), (wa3, .inl (K 1, 5, .inl wf3)), (wa0, .inr (9, [.ref wa0a0, .ref wa0a1, .ref wa0a2, .ref wa0a3, .ref wa0a4, .ref wa0a5, .ref wa0a6, .ref wa0a7, .int wa0n8, .int wa0n9, .int wa0n10, .int wa0n11])), (wa0a0, .inl (K 1, 40, .inl wa0f0)), (wa0a1, .inl (K 1, 10, .inl wa0f1)), (wa0a2, .inl (K 1, 4, .inl wa0f2)), (wa0a3, .inl (K 1, 4, .inl wa0f3)), (wa0a4, .inl (K 1, 4, .inl wa0f4)), (wa0a5, .inl (K 1, 5, .inl wa0f5)), (wa0a6, .inl (K 1, 5, .inl wa0f6)), (wa0a7, .inl (K 1, 5, .inl wa0f7)), (wa1, .inr (8, [.int wa1n0, .int wa1n1, .int wa1n2])), (v, .inr (9, [.ref va0, .ref va1, .ref va2, .ref va3, .ref va4, .ref va5, .ref va6, .ref va7, .int vn8, .int vn9, .int vn10, .int vn11])), (va0, .inl (K 1, 40, .inl vf0)), (va1, .inl (K 1, 10, .inl vf1)), (va2, .inl (K 1, 4, .inl vf2)), (va3, .inl (K 1, 4, .inl vf3)), (va4, .inl (K 1, 4, .inl vf4)), (va5, .inl (K 1, 5, .inl vf5)), (va6, .inl (K 1, 5, .inl vf6)), (va7, .inl (K 1, 5, .inl vf7)), (x, .inr (8, [.int xn0, .int xn1, .int xn2])), (y, .inr (5, [.ref ya0, .ref ya1, .ref ya2])), (ya0, .inl (K 2, 240, .inr (.inl yf0))), (ya2, .inl (K 1, 4, .inl yf2))] := hD
      refine lv_iconst (v := 1) hx hb dX0_tryAll_45 (by decide) ?_
      refine lv_istore (lv' := [(6, .int 1), (5, .int v1763), (0, .ref w), (1, .ref v), (2, .ref x), (3, .ref y), (4, .int p3)]) hx hb dX0_tryAll_46 hl (by decide) rfl (fun ls hl => ?_)
      refine lv_iconst (v := 0) hx hb dX0_tryAll_48 (by decide) ?_
      refine lv_istore (lv' := [(7, .int 0), (6, .int 1), (5, .int v1763), (0, .ref w), (1, .ref v), (2, .ref x), (3, .ref y), (4, .int p3)]) hx hb dX0_tryAll_49 hl (by decide) rfl (fun ls hl => ?_)
      have hl' := hl; have hP' := hP; have hD' := hD; clear hl hP hD
      obtain ⟨i1789, i1790, w1791, w1792, g1793, g1794, w1795, w1796, w1797, w1798, g1799, g1800, g1801, g1802, g1803, g1804, g1805, g1806, w1807, w1808, w1809, hi_51, hl, hP, hD⟩ : ∃ (i1789 : Int32) (i1790 : Int32) (w1791 : Int32) (w1792 : Int32) (g1793 : Nat → Int32) (g1794 : Nat → Int32) (w1795 : Int32) (w1796 : Int32) (w1797 : Int32) (w1798 : Int32) (g1799 : Nat → Int32) (g1800 : Nat → Int32) (g1801 : Nat → Int32) (g1802 : Nat → Int32) (g1803 : Nat → Int32) (g1804 : Nat → Int32) (g1805 : Nat → Int32) (g1806 : Nat → Int32) (w1807 : Int32) (w1808 : Int32) (w1809 : Int32), ((0 : Int) ≤ i1789.toInt) ∧ lv_has ls 9 [(7, .int i1789), (6, .int i1790), (5, .int v1763), (0, .ref w), (1, .ref v), (2, .ref x), (3, .ref y), (4, .int p3)] ∧ va_P D vwCl [(w, .inr (0, [.ref wa0, .ref wa1, .ref wa2, .ref wa3, .int w1791, .int w1792])), (wa2, .inl (K 1, 5, .inl g1793)), (wa3, .inl (K 1, 5, .inl g1794)), (wa0, .inr (9, [.ref wa0a0, .ref wa0a1, .ref wa0a2, .ref wa0a3, .ref wa0a4, .ref wa0a5, .ref wa0a6, .ref wa0a7, .int w1795, .int w1796, .int w1797, .int w1798])), (wa0a0, .inl (K 1, 40, .inl g1799)), (wa0a1, .inl (K 1, 10, .inl g1800)), (wa0a2, .inl (K 1, 4, .inl g1801)), (wa0a3, .inl (K 1, 4, .inl g1802)), (wa0a4, .inl (K 1, 4, .inl g1803)), (wa0a5, .inl (K 1, 5, .inl g1804)), (wa0a6, .inl (K 1, 5, .inl g1805)), (wa0a7, .inl (K 1, 5, .inl g1806)), (wa1, .inr (8, [.int w1807, .int w1808, .int w1809])), (v, .inr (9, [.ref va0, .ref va1, .ref va2, .ref va3, .ref va4, .ref va5, .ref va6, .ref va7, .int vn8, .int vn9, .int vn10, .int vn11])), (va0, .inl (K 1, 40, .inl vf0)), (va1, .inl (K 1, 10, .inl vf1)), (va2, .inl (K 1, 4, .inl vf2)), (va3, .inl (K 1, 4, .inl vf3)), (va4, .inl (K 1, 4, .inl vf4)), (va5, .inl (K 1, 5, .inl vf5)), (va6, .inl (K 1, 5, .inl vf6)), (va7, .inl (K 1, 5, .inl vf7)), (x, .inr (8, [.int xn0, .int xn1, .int xn2])), (y, .inr (5, [.ref ya0, .ref ya1, .ref ya2])), (ya0, .inl (K 2, 240, .inr (.inl yf0))), (ya2, .inl (K 1, 4, .inl yf2))] H ∧ va_D A [(w, .inr (0, [.ref wa0, .ref wa1, .ref wa2, .ref wa3, .int w1791, .int w1792])), (wa2, .inl (K 1, 5, .inl g1793)), (wa3, .inl (K 1, 5, .inl g1794)), (wa0, .inr (9, [.ref wa0a0, .ref wa0a1, .ref wa0a2, .ref wa0a3, .ref wa0a4, .ref wa0a5, .ref wa0a6, .ref wa0a7, .int w1795, .int w1796, .int w1797, .int w1798])), (wa0a0, .inl (K 1, 40, .inl g1799)), (wa0a1, .inl (K 1, 10, .inl g1800)), (wa0a2, .inl (K 1, 4, .inl g1801)), (wa0a3, .inl (K 1, 4, .inl g1802)), (wa0a4, .inl (K 1, 4, .inl g1803)), (wa0a5, .inl (K 1, 5, .inl g1804)), (wa0a6, .inl (K 1, 5, .inl g1805)), (wa0a7, .inl (K 1, 5, .inl g1806)), (wa1, .inr (8, [.int w1807, .int w1808, .int w1809])), (v, .inr (9, [.ref va0, .ref va1, .ref va2, .ref va3, .ref va4, .ref va5, .ref va6, .ref va7, .int vn8, .int vn9, .int vn10, .int vn11])), (va0, .inl (K 1, 40, .inl vf0)), (va1, .inl (K 1, 10, .inl vf1)), (va2, .inl (K 1, 4, .inl vf2)), (va3, .inl (K 1, 4, .inl vf3)), (va4, .inl (K 1, 4, .inl vf4)), (va5, .inl (K 1, 5, .inl vf5)), (va6, .inl (K 1, 5, .inl vf6)), (va7, .inl (K 1, 5, .inl vf7)), (x, .inr (8, [.int xn0, .int xn1, .int xn2])), (y, .inr (5, [.ref ya0, .ref ya1, .ref ya2])), (ya0, .inl (K 2, 240, .inr (.inl yf0))), (ya2, .inl (K 1, 4, .inl yf2))] := ⟨_, _, _, _, _, _, _, _, _, _, _, _, _, _, _, _, _, _, _, _, _, by omega, hl', hP', hD'⟩
      clear hl' hP' hD'
      obtain ⟨n_51, hn_51⟩ : ∃ n : Nat, (200 - i1789.toInt).toNat < n := ⟨_, Nat.lt_succ_self _⟩
      induction n_51 generalizing i1789 i1790 w1791 w1792 g1793 g1794 w1795 w1796 w1797 w1798 g1799 g1800 g1801 g1802 g1803 g1804 g1805 g1806 w1807 w1808 w1809 H locs ls with
      | zero => exact absurd hn_51 (Nat.not_lt_zero _)
      | succ n_51 ih_51 =>
        refine lv_iload hx hb dX0_tryAll_51 (lv_at hl 0 rfl) ?_
        refine lv_sipush (v := 200) hx hb dX0_tryAll_53 (by decide) ?_
        refine lv_icmp_ge (tgt := 135) hx hb dX0_tryAll_56 (by decide) (fun c1810 => ?_) (fun c1810 => ?_)
        · replace c1810 := le_i c1810
          refine W.widen (k := 0) (n := 0) (by decide) (by decide) ?_
          exact ch_vret hC hr hk hS dX0_tryAll_135 ((fun k => [w1791, w1792, w1795, w1796, w1797, w1798, w1807, w1808, w1809].getD k 0, fun k => [g1793, g1794, g1799, g1800, g1801, g1802, g1803, g1804, g1805, g1806].getD k (fun _ => 0), fun k => [].getD k (fun _ => 0)) : ((Nat → Int32) × (Nat → Nat → Int32) × (Nat → Nat → Int64))) trivial (hP.sub [0, 1, 2, 3, 4, 5, 6, 7, 8, 9, 10, 11, 12, 13, 14, 15, 16, 17, 18, 19, 20, 21, 22, 23, 24, 25] rfl) (hD.sub [0, 1, 2, 3, 4, 5, 6, 7, 8, 9, 10, 11, 12, 13, 14, 15, 16, 17, 18, 19, 20, 21, 22, 23, 24, 25] (by decide) rfl)
        · replace c1810 := nle_i c1810
          refine lv_iload hx hb dX0_tryAll_59 (lv_at hl 1 rfl) ?_
          refine lv_if_eq (tgt := 135) hx hb dX0_tryAll_61 (by decide) (fun c1811 => ?_) (fun c1811 => ?_)
          · replace c1811 := eq_i c1811
            refine W.widen (k := 0) (n := 0) (by decide) (by decide) ?_
            exact ch_vret hC hr hk hS dX0_tryAll_135 ((fun k => [w1791, w1792, w1795, w1796, w1797, w1798, w1807, w1808, w1809].getD k 0, fun k => [g1793, g1794, g1799, g1800, g1801, g1802, g1803, g1804, g1805, g1806].getD k (fun _ => 0), fun k => [].getD k (fun _ => 0)) : ((Nat → Int32) × (Nat → Nat → Int32) × (Nat → Nat → Int64))) trivial (hP.sub [0, 1, 2, 3, 4, 5, 6, 7, 8, 9, 10, 11, 12, 13, 14, 15, 16, 17, 18, 19, 20, 21, 22, 23, 24, 25] rfl) (hD.sub [0, 1, 2, 3, 4, 5, 6, 7, 8, 9, 10, 11, 12, 13, 14, 15, 16, 17, 18, 19, 20, 21, 22, 23, 24, 25] (by decide) rfl)
          · replace c1811 := ne_i c1811
            refine lv_aload_n hx hb dX0_tryAll_64 rfl (lv_at hl 3 rfl) ?_
            refine lv_aload_n hx hb dX0_tryAll_65 rfl (lv_at hl 4 rfl) ?_
            refine lv_aload_n hx hb dX0_tryAll_66 rfl (lv_at hl 5 rfl) ?_
            refine lv_aload_n hx hb dX0_tryAll_67 rfl (lv_at hl 6 rfl) ?_
            refine lv_iload hx hb dX0_tryAll_68 (lv_at hl 7 rfl) ?_
            refine ci_V (As := [.ref v, .ref x, .ref y, .int p3]) (rest := []) (wc := [(w, .inr (0, [.ref wa0, .ref wa1, .ref wa2, .ref wa3, .int w1791, .int w1792])), (wa2, .inl (K 1, 5, .inl g1793)), (wa0, .inr (9, [.ref wa0a0, .ref wa0a1, .ref wa0a2, .ref wa0a3, .ref wa0a4, .ref wa0a5, .ref wa0a6, .ref wa0a7, .int w1795, .int w1796, .int w1797, .int w1798])), (wa0a0, .inl (K 1, 40, .inl g1799)), (wa0a1, .inl (K 1, 10, .inl g1800)), (wa0a2, .inl (K 1, 4, .inl g1801)), (wa0a3, .inl (K 1, 4, .inl g1802)), (wa0a4, .inl (K 1, 4, .inl g1803)), (wa0a5, .inl (K 1, 5, .inl g1804)), (wa0a6, .inl (K 1, 5, .inl g1805)), (wa0a7, .inl (K 1, 5, .inl g1806)), (wa1, .inr (8, [.int w1807, .int w1808, .int w1809])), (v, .inr (9, [.ref va0, .ref va1, .ref va2, .ref va3, .ref va4, .ref va5, .ref va6, .ref va7, .int vn8, .int vn9, .int vn10, .int vn11])), (va0, .inl (K 1, 40, .inl vf0)), (va1, .inl (K 1, 10, .inl vf1)), (va2, .inl (K 1, 4, .inl vf2)), (va3, .inl (K 1, 4, .inl vf3)), (va4, .inl (K 1, 4, .inl vf4)), (va5, .inl (K 1, 5, .inl vf5)), (va6, .inl (K 1, 5, .inl vf6)), (va7, .inl (K 1, 5, .inl vf7)), (x, .inr (8, [.int xn0, .int xn1, .int xn2])), (y, .inr (5, [.ref ya0, .ref ya1, .ref ya2])), (ya0, .inl (K 2, 240, .inr (.inl yf0))), (ya2, .inl (K 1, 4, .inl yf2))]) (wr := [(wa3, .inl (K 1, 5, .inl g1794))]) hC hE kV_X0_48 (c_X0_tryOrder l D K w wa0 wa1 wa2 wa3 wa0a0 wa0a1 wa0a2 wa0a3 wa0a4 wa0a5 wa0a6 wa0a7 v va0 va1 va2 va3 va4 va5 va6 va7 x y ya0 ya1 ya2 w1791 w1792 w1795 w1796 w1797 w1798 w1807 w1808 w1809 vn8 vn9 vn10 vn11 xn0 xn1 xn2 g1793 g1799 g1800 g1801 g1802 g1803 g1804 g1805 g1806 vf0 vf1 vf2 vf3 vf4 vf5 vf6 vf7 yf0 yf2 p3 hsz) hP hD hS hA [0, 1, 3, 4, 5, 6, 7, 8, 9, 10, 11, 12, 13, 14, 15, 16, 17, 18, 19, 20, 21, 22, 23, 24, 25] [2] rfl rfl rfl (by decide) (by decide) (by decide) 0 0 rfl rfl rfl hl.1 rfl (Nat.le_of_ble_eq_true rfl) (by decide) (by decide) dX0_tryAll_70 (fun r1813 u1812 H locs hw hP hD hS => ?_)
            replace hP : va_P D vwCl [(wa3, .inl (K 1, 5, .inl g1794)), (w, .inr (0, [.ref wa0, .ref wa1, .ref wa2, .ref wa3, .int w1791, .int w1792])), (wa2, .inl (K 1, 5, .inl g1793)), (wa0, .inr (9, [.ref wa0a0, .ref wa0a1, .ref wa0a2, .ref wa0a3, .ref wa0a4, .ref wa0a5, .ref wa0a6, .ref wa0a7, .int (u1812.1 0), .int (u1812.1 1), .int (u1812.1 2), .int (u1812.1 3)])), (wa0a0, .inl (K 1, 40, .inl (u1812.2.1 0))), (wa0a1, .inl (K 1, 10, .inl (u1812.2.1 1))), (wa0a2, .inl (K 1, 4, .inl (u1812.2.1 2))), (wa0a3, .inl (K 1, 4, .inl (u1812.2.1 3))), (wa0a4, .inl (K 1, 4, .inl (u1812.2.1 4))), (wa0a5, .inl (K 1, 5, .inl (u1812.2.1 5))), (wa0a6, .inl (K 1, 5, .inl (u1812.2.1 6))), (wa0a7, .inl (K 1, 5, .inl (u1812.2.1 7))), (wa1, .inr (8, [.int (u1812.1 4), .int (u1812.1 5), .int (u1812.1 6)])), (v, .inr (9, [.ref va0, .ref va1, .ref va2, .ref va3, .ref va4, .ref va5, .ref va6, .ref va7, .int vn8, .int vn9, .int vn10, .int vn11])), (va0, .inl (K 1, 40, .inl vf0)), (va1, .inl (K 1, 10, .inl vf1)), (va2, .inl (K 1, 4, .inl vf2)), (va3, .inl (K 1, 4, .inl vf3)), (va4, .inl (K 1, 4, .inl vf4)), (va5, .inl (K 1, 5, .inl vf5)), (va6, .inl (K 1, 5, .inl vf6)), (va7, .inl (K 1, 5, .inl vf7)), (x, .inr (8, [.int xn0, .int xn1, .int xn2])), (y, .inr (5, [.ref ya0, .ref ya1, .ref ya2])), (ya0, .inl (K 2, 240, .inr (.inl yf0))), (ya2, .inl (K 1, 4, .inl yf2))] H := hP
            replace hD : va_D A [(wa3, .inl (K 1, 5, .inl g1794)), (w, .inr (0, [.ref wa0, .ref wa1, .ref wa2, .ref wa3, .int w1791, .int w1792])), (wa2, .inl (K 1, 5, .inl g1793)), (wa0, .inr (9, [.ref wa0a0, .ref wa0a1, .ref wa0a2, .ref wa0a3, .ref wa0a4, .ref wa0a5, .ref wa0a6, .ref wa0a7, .int (u1812.1 0), .int (u1812.1 1), .int (u1812.1 2), .int (u1812.1 3)])), (wa0a0, .inl (K 1, 40, .inl (u1812.2.1 0))), (wa0a1, .inl (K 1, 10, .inl (u1812.2.1 1))), (wa0a2, .inl (K 1, 4, .inl (u1812.2.1 2))), (wa0a3, .inl (K 1, 4, .inl (u1812.2.1 3))), (wa0a4, .inl (K 1, 4, .inl (u1812.2.1 4))), (wa0a5, .inl (K 1, 5, .inl (u1812.2.1 5))), (wa0a6, .inl (K 1, 5, .inl (u1812.2.1 6))), (wa0a7, .inl (K 1, 5, .inl (u1812.2.1 7))), (wa1, .inr (8, [.int (u1812.1 4), .int (u1812.1 5), .int (u1812.1 6)])), (v, .inr (9, [.ref va0, .ref va1, .ref va2, .ref va3, .ref va4, .ref va5, .ref va6, .ref va7, .int vn8, .int vn9, .int vn10, .int vn11])), (va0, .inl (K 1, 40, .inl vf0)), (va1, .inl (K 1, 10, .inl vf1)), (va2, .inl (K 1, 4, .inl vf2)), (va3, .inl (K 1, 4, .inl vf3)), (va4, .inl (K 1, 4, .inl vf4)), (va5, .inl (K 1, 5, .inl vf5)), (va6, .inl (K 1, 5, .inl vf6)), (va7, .inl (K 1, 5, .inl vf7)), (x, .inr (8, [.int xn0, .int xn1, .int xn2])), (y, .inr (5, [.ref ya0, .ref ya1, .ref ya2])), (ya0, .inl (K 2, 240, .inr (.inl yf0))), (ya2, .inl (K 1, 4, .inl yf2))] := hD
            replace hP : va_P D vwCl [(w, .inr (0, [.ref wa0, .ref wa1, .ref wa2, .ref wa3, .int w1791, .int w1792])), (wa2, .inl (K 1, 5, .inl g1793)), (wa3, .inl (K 1, 5, .inl g1794)), (wa0, .inr (9, [.ref wa0a0, .ref wa0a1, .ref wa0a2, .ref wa0a3, .ref wa0a4, .ref wa0a5, .ref wa0a6, .ref wa0a7, .int (u1812.1 0), .int (u1812.1 1), .int (u1812.1 2), .int (u1812.1 3)])), (wa0a0, .inl (K 1, 40, .inl (u1812.2.1 0))), (wa0a1, .inl (K 1, 10, .inl (u1812.2.1 1))), (wa0a2, .inl (K 1, 4, .inl (u1812.2.1 2))), (wa0a3, .inl (K 1, 4, .inl (u1812.2.1 3))), (wa0a4, .inl (K 1, 4, .inl (u1812.2.1 4))), (wa0a5, .inl (K 1, 5, .inl (u1812.2.1 5))), (wa0a6, .inl (K 1, 5, .inl (u1812.2.1 6))), (wa0a7, .inl (K 1, 5, .inl (u1812.2.1 7))), (wa1, .inr (8, [.int (u1812.1 4), .int (u1812.1 5), .int (u1812.1 6)])), (v, .inr (9, [.ref va0, .ref va1, .ref va2, .ref va3, .ref va4, .ref va5, .ref va6, .ref va7, .int vn8, .int vn9, .int vn10, .int vn11])), (va0, .inl (K 1, 40, .inl vf0)), (va1, .inl (K 1, 10, .inl vf1)), (va2, .inl (K 1, 4, .inl vf2)), (va3, .inl (K 1, 4, .inl vf3)), (va4, .inl (K 1, 4, .inl vf4)), (va5, .inl (K 1, 5, .inl vf5)), (va6, .inl (K 1, 5, .inl vf6)), (va7, .inl (K 1, 5, .inl vf7)), (x, .inr (8, [.int xn0, .int xn1, .int xn2])), (y, .inr (5, [.ref ya0, .ref ya1, .ref ya2])), (ya0, .inl (K 2, 240, .inr (.inl yf0))), (ya2, .inl (K 1, 4, .inl yf2))] H := hP.sub [1, 2, 0, 3, 4, 5, 6, 7, 8, 9, 10, 11, 12, 13, 14, 15, 16, 17, 18, 19, 20, 21, 22, 23, 24, 25] rfl
            replace hD : va_D A [(w, .inr (0, [.ref wa0, .ref wa1, .ref wa2, .ref wa3, .int w1791, .int w1792])), (wa2, .inl (K 1, 5, .inl g1793)), (wa3, .inl (K 1, 5, .inl g1794)), (wa0, .inr (9, [.ref wa0a0, .ref wa0a1, .ref wa0a2, .ref wa0a3, .ref wa0a4, .ref wa0a5, .ref wa0a6, .ref wa0a7, .int (u1812.1 0), .int (u1812.1 1), .int (u1812.1 2), .int (u1812.1 3)])), (wa0a0, .inl (K 1, 40, .inl (u1812.2.1 0))), (wa0a1, .inl (K 1, 10, .inl (u1812.2.1 1))), (wa0a2, .inl (K 1, 4, .inl (u1812.2.1 2))), (wa0a3, .inl (K 1, 4, .inl (u1812.2.1 3))), (wa0a4, .inl (K 1, 4, .inl (u1812.2.1 4))), (wa0a5, .inl (K 1, 5, .inl (u1812.2.1 5))), (wa0a6, .inl (K 1, 5, .inl (u1812.2.1 6))), (wa0a7, .inl (K 1, 5, .inl (u1812.2.1 7))), (wa1, .inr (8, [.int (u1812.1 4), .int (u1812.1 5), .int (u1812.1 6)])), (v, .inr (9, [.ref va0, .ref va1, .ref va2, .ref va3, .ref va4, .ref va5, .ref va6, .ref va7, .int vn8, .int vn9, .int vn10, .int vn11])), (va0, .inl (K 1, 40, .inl vf0)), (va1, .inl (K 1, 10, .inl vf1)), (va2, .inl (K 1, 4, .inl vf2)), (va3, .inl (K 1, 4, .inl vf3)), (va4, .inl (K 1, 4, .inl vf4)), (va5, .inl (K 1, 5, .inl vf5)), (va6, .inl (K 1, 5, .inl vf6)), (va7, .inl (K 1, 5, .inl vf7)), (x, .inr (8, [.int xn0, .int xn1, .int xn2])), (y, .inr (5, [.ref ya0, .ref ya1, .ref ya2])), (ya0, .inl (K 2, 240, .inr (.inl yf0))), (ya2, .inl (K 1, 4, .inl yf2))] := hD.sub [1, 2, 0, 3, 4, 5, 6, 7, 8, 9, 10, 11, 12, 13, 14, 15, 16, 17, 18, 19, 20, 21, 22, 23, 24, 25] (by decide) rfl
            refine W.widen (k := 0) (n := 0) (by decide) (by decide) ?_
            refine lv_istore (lv' := [(8, .int r1813), (7, .int i1789), (6, .int i1790), (5, .int v1763), (0, .ref w), (1, .ref v), (2, .ref x), (3, .ref y), (4, .int p3)]) hx hb dX0_tryAll_73 hl (by decide) rfl (fun ls hl => ?_)
            refine lv_iload hx hb dX0_tryAll_75 (lv_at hl 0 rfl) ?_
            refine lv_aload_n hx hb dX0_tryAll_77 rfl (lv_at hl 4 rfl) ?_
            refine va_get (D := D) (ci := 0) (v := .int w1791) (C := RX0) (T := TX0) (N := 6) hx hb hts in_X0 hown hE.1 hP 0 rfl rfl 4 (by decide) (hts _ w_252) (fun _ h9 => h9) rfl dX0_tryAll_78 ?_
            refine lv_icmp_le (tgt := 108) hx hb dX0_tryAll_81 (by decide) (fun c1814 => ?_) (fun c1814 => ?_)
            · replace c1814 := le_i c1814
              refine lv_aload_n hx hb dX0_tryAll_108 rfl (lv_at hl 4 rfl) ?_
              refine lv_aload_n hx hb dX0_tryAll_109 rfl (lv_at hl 4 rfl) ?_
              refine va_get (D := D) (ci := 0) (v := .int w1792) (C := RX0) (T := TX0) (N := 6) hx hb hts in_X0 hown hE.1 hP 0 rfl rfl 5 (by decide) (hts _ w_253) (fun _ h9 => h9) rfl dX0_tryAll_110 ?_
              refine lv_iload hx hb dX0_tryAll_113 (lv_at hl 0 rfl) ?_
              refine va_mmin hx hb (hml.trans hl.1.symm) hown (hts _ w_251) (hts _ w_142) (hts _ w_143) (hts _ w_144) (by decide) (Nat.le_of_ble_eq_true rfl) (by decide) (by decide) dX0_tryAll_115 ?_
              refine lv_topi (fun v1815 ev1815 => ?_)
              have tv1815 := min_i ev1815
              refine va_put (D := D) (ci := 0) (v := .int v1815) (ty := .int) (C := RX0) (T := TX0) (N := 6) hx hb hts in_X0 tyX0 tyX0_ok nmX0 hown hE.1 hP hD hS 0 rfl rfl 5 (by decide) (hts _ w_253) (fun _ h9 => h9) rfl (by decide +kernel) rfl rfl (Nat.le_of_ble_eq_true rfl) dX0_tryAll_118 (fun H locs hP hD hS => ?_)
              replace hP : va_P D vwCl [(w, .inr (0, [.ref wa0, .ref wa1, .ref wa2, .ref wa3, .int w1791, .int v1815])), (wa2, .inl (K 1, 5, .inl g1793)), (wa3, .inl (K 1, 5, .inl g1794)), (wa0, .inr (9, [.ref wa0a0, .ref wa0a1, .ref wa0a2, .ref wa0a3, .ref wa0a4, .ref wa0a5, .ref wa0a6, .ref wa0a7, .int (u1812.1 0), .int (u1812.1 1), .int (u1812.1 2), .int (u1812.1 3)])), (wa0a0, .inl (K 1, 40, .inl (u1812.2.1 0))), (wa0a1, .inl (K 1, 10, .inl (u1812.2.1 1))), (wa0a2, .inl (K 1, 4, .inl (u1812.2.1 2))), (wa0a3, .inl (K 1, 4, .inl (u1812.2.1 3))), (wa0a4, .inl (K 1, 4, .inl (u1812.2.1 4))), (wa0a5, .inl (K 1, 5, .inl (u1812.2.1 5))), (wa0a6, .inl (K 1, 5, .inl (u1812.2.1 6))), (wa0a7, .inl (K 1, 5, .inl (u1812.2.1 7))), (wa1, .inr (8, [.int (u1812.1 4), .int (u1812.1 5), .int (u1812.1 6)])), (v, .inr (9, [.ref va0, .ref va1, .ref va2, .ref va3, .ref va4, .ref va5, .ref va6, .ref va7, .int vn8, .int vn9, .int vn10, .int vn11])), (va0, .inl (K 1, 40, .inl vf0)), (va1, .inl (K 1, 10, .inl vf1)), (va2, .inl (K 1, 4, .inl vf2)), (va3, .inl (K 1, 4, .inl vf3)), (va4, .inl (K 1, 4, .inl vf4)), (va5, .inl (K 1, 5, .inl vf5)), (va6, .inl (K 1, 5, .inl vf6)), (va7, .inl (K 1, 5, .inl vf7)), (x, .inr (8, [.int xn0, .int xn1, .int xn2])), (y, .inr (5, [.ref ya0, .ref ya1, .ref ya2])), (ya0, .inl (K 2, 240, .inr (.inl yf0))), (ya2, .inl (K 1, 4, .inl yf2))] H := hP
              replace hD : va_D A [(w, .inr (0, [.ref wa0, .ref wa1, .ref wa2, .ref wa3, .int w1791, .int v1815])), (wa2, .inl (K 1, 5, .inl g1793)), (wa3, .inl (K 1, 5, .inl g1794)), (wa0, .inr (9, [.ref wa0a0, .ref wa0a1, .ref wa0a2, .ref wa0a3, .ref wa0a4, .ref wa0a5, .ref wa0a6, .ref wa0a7, .int (u1812.1 0), .int (u1812.1 1), .int (u1812.1 2), .int (u1812.1 3)])), (wa0a0, .inl (K 1, 40, .inl (u1812.2.1 0))), (wa0a1, .inl (K 1, 10, .inl (u1812.2.1 1))), (wa0a2, .inl (K 1, 4, .inl (u1812.2.1 2))), (wa0a3, .inl (K 1, 4, .inl (u1812.2.1 3))), (wa0a4, .inl (K 1, 4, .inl (u1812.2.1 4))), (wa0a5, .inl (K 1, 5, .inl (u1812.2.1 5))), (wa0a6, .inl (K 1, 5, .inl (u1812.2.1 6))), (wa0a7, .inl (K 1, 5, .inl (u1812.2.1 7))), (wa1, .inr (8, [.int (u1812.1 4), .int (u1812.1 5), .int (u1812.1 6)])), (v, .inr (9, [.ref va0, .ref va1, .ref va2, .ref va3, .ref va4, .ref va5, .ref va6, .ref va7, .int vn8, .int vn9, .int vn10, .int vn11])), (va0, .inl (K 1, 40, .inl vf0)), (va1, .inl (K 1, 10, .inl vf1)), (va2, .inl (K 1, 4, .inl vf2)), (va3, .inl (K 1, 4, .inl vf3)), (va4, .inl (K 1, 4, .inl vf4)), (va5, .inl (K 1, 5, .inl vf5)), (va6, .inl (K 1, 5, .inl vf6)), (va7, .inl (K 1, 5, .inl vf7)), (x, .inr (8, [.int xn0, .int xn1, .int xn2])), (y, .inr (5, [.ref ya0, .ref ya1, .ref ya2])), (ya0, .inl (K 2, 240, .inr (.inl yf0))), (ya2, .inl (K 1, 4, .inl yf2))] := hD
              refine lv_aload_n hx hb dX0_tryAll_121 rfl (lv_at hl 4 rfl) ?_
              refine lv_iload hx hb dX0_tryAll_122 (lv_at hl 3 rfl) ?_
              refine ci_V (As := [.int v1763]) (rest := []) (wc := [(w, .inr (0, [.ref wa0, .ref wa1, .ref wa2, .ref wa3, .int w1791, .int v1815])), (wa2, .inl (K 1, 5, .inl g1793))]) (wr := [(wa3, .inl (K 1, 5, .inl g1794)), (wa0, .inr (9, [.ref wa0a0, .ref wa0a1, .ref wa0a2, .ref wa0a3, .ref wa0a4, .ref wa0a5, .ref wa0a6, .ref wa0a7, .int (u1812.1 0), .int (u1812.1 1), .int (u1812.1 2), .int (u1812.1 3)])), (wa0a0, .inl (K 1, 40, .inl (u1812.2.1 0))), (wa0a1, .inl (K 1, 10, .inl (u1812.2.1 1))), (wa0a2, .inl (K 1, 4, .inl (u1812.2.1 2))), (wa0a3, .inl (K 1, 4, .inl (u1812.2.1 3))), (wa0a4, .inl (K 1, 4, .inl (u1812.2.1 4))), (wa0a5, .inl (K 1, 5, .inl (u1812.2.1 5))), (wa0a6, .inl (K 1, 5, .inl (u1812.2.1 6))), (wa0a7, .inl (K 1, 5, .inl (u1812.2.1 7))), (wa1, .inr (8, [.int (u1812.1 4), .int (u1812.1 5), .int (u1812.1 6)])), (v, .inr (9, [.ref va0, .ref va1, .ref va2, .ref va3, .ref va4, .ref va5, .ref va6, .ref va7, .int vn8, .int vn9, .int vn10, .int vn11])), (va0, .inl (K 1, 40, .inl vf0)), (va1, .inl (K 1, 10, .inl vf1)), (va2, .inl (K 1, 4, .inl vf2)), (va3, .inl (K 1, 4, .inl vf3)), (va4, .inl (K 1, 4, .inl vf4)), (va5, .inl (K 1, 5, .inl vf5)), (va6, .inl (K 1, 5, .inl vf6)), (va7, .inl (K 1, 5, .inl vf7)), (x, .inr (8, [.int xn0, .int xn1, .int xn2])), (y, .inr (5, [.ref ya0, .ref ya1, .ref ya2])), (ya0, .inl (K 2, 240, .inr (.inl yf0))), (ya2, .inl (K 1, 4, .inl yf2))]) hC hE kV_X0_58 (c_X0_nextOrder l D K w wa0 wa1 wa2 wa3 w1791 v1815 g1793 v1763 (by omega) (by omega)) hP hD hS hA [0, 1] [2, 3, 4, 5, 6, 7, 8, 9, 10, 11, 12, 13, 14, 15, 16, 17, 18, 19, 20, 21, 22, 23, 24, 25] rfl rfl rfl (by decide) (by decide) (by decide) 0 0 rfl rfl rfl hl.1 rfl (Nat.le_of_ble_eq_true rfl) (by decide) (by decide) dX0_tryAll_124 (fun r1817 u1816 H locs hw hP hD hS => ?_)
              replace hP : va_P D vwCl [(wa3, .inl (K 1, 5, .inl g1794)), (wa0, .inr (9, [.ref wa0a0, .ref wa0a1, .ref wa0a2, .ref wa0a3, .ref wa0a4, .ref wa0a5, .ref wa0a6, .ref wa0a7, .int (u1812.1 0), .int (u1812.1 1), .int (u1812.1 2), .int (u1812.1 3)])), (wa0a0, .inl (K 1, 40, .inl (u1812.2.1 0))), (wa0a1, .inl (K 1, 10, .inl (u1812.2.1 1))), (wa0a2, .inl (K 1, 4, .inl (u1812.2.1 2))), (wa0a3, .inl (K 1, 4, .inl (u1812.2.1 3))), (wa0a4, .inl (K 1, 4, .inl (u1812.2.1 4))), (wa0a5, .inl (K 1, 5, .inl (u1812.2.1 5))), (wa0a6, .inl (K 1, 5, .inl (u1812.2.1 6))), (wa0a7, .inl (K 1, 5, .inl (u1812.2.1 7))), (wa1, .inr (8, [.int (u1812.1 4), .int (u1812.1 5), .int (u1812.1 6)])), (v, .inr (9, [.ref va0, .ref va1, .ref va2, .ref va3, .ref va4, .ref va5, .ref va6, .ref va7, .int vn8, .int vn9, .int vn10, .int vn11])), (va0, .inl (K 1, 40, .inl vf0)), (va1, .inl (K 1, 10, .inl vf1)), (va2, .inl (K 1, 4, .inl vf2)), (va3, .inl (K 1, 4, .inl vf3)), (va4, .inl (K 1, 4, .inl vf4)), (va5, .inl (K 1, 5, .inl vf5)), (va6, .inl (K 1, 5, .inl vf6)), (va7, .inl (K 1, 5, .inl vf7)), (x, .inr (8, [.int xn0, .int xn1, .int xn2])), (y, .inr (5, [.ref ya0, .ref ya1, .ref ya2])), (ya0, .inl (K 2, 240, .inr (.inl yf0))), (ya2, .inl (K 1, 4, .inl yf2)), (w, .inr (0, [.ref wa0, .ref wa1, .ref wa2, .ref wa3, .int w1791, .int v1815])), (wa2, .inl (K 1, 5, .inl (u1816.2.1 0)))] H := hP
              replace hD : va_D A [(wa3, .inl (K 1, 5, .inl g1794)), (wa0, .inr (9, [.ref wa0a0, .ref wa0a1, .ref wa0a2, .ref wa0a3, .ref wa0a4, .ref wa0a5, .ref wa0a6, .ref wa0a7, .int (u1812.1 0), .int (u1812.1 1), .int (u1812.1 2), .int (u1812.1 3)])), (wa0a0, .inl (K 1, 40, .inl (u1812.2.1 0))), (wa0a1, .inl (K 1, 10, .inl (u1812.2.1 1))), (wa0a2, .inl (K 1, 4, .inl (u1812.2.1 2))), (wa0a3, .inl (K 1, 4, .inl (u1812.2.1 3))), (wa0a4, .inl (K 1, 4, .inl (u1812.2.1 4))), (wa0a5, .inl (K 1, 5, .inl (u1812.2.1 5))), (wa0a6, .inl (K 1, 5, .inl (u1812.2.1 6))), (wa0a7, .inl (K 1, 5, .inl (u1812.2.1 7))), (wa1, .inr (8, [.int (u1812.1 4), .int (u1812.1 5), .int (u1812.1 6)])), (v, .inr (9, [.ref va0, .ref va1, .ref va2, .ref va3, .ref va4, .ref va5, .ref va6, .ref va7, .int vn8, .int vn9, .int vn10, .int vn11])), (va0, .inl (K 1, 40, .inl vf0)), (va1, .inl (K 1, 10, .inl vf1)), (va2, .inl (K 1, 4, .inl vf2)), (va3, .inl (K 1, 4, .inl vf3)), (va4, .inl (K 1, 4, .inl vf4)), (va5, .inl (K 1, 5, .inl vf5)), (va6, .inl (K 1, 5, .inl vf6)), (va7, .inl (K 1, 5, .inl vf7)), (x, .inr (8, [.int xn0, .int xn1, .int xn2])), (y, .inr (5, [.ref ya0, .ref ya1, .ref ya2])), (ya0, .inl (K 2, 240, .inr (.inl yf0))), (ya2, .inl (K 1, 4, .inl yf2)), (w, .inr (0, [.ref wa0, .ref wa1, .ref wa2, .ref wa3, .int w1791, .int v1815])), (wa2, .inl (K 1, 5, .inl (u1816.2.1 0)))] := hD
              replace hP : va_P D vwCl [(w, .inr (0, [.ref wa0, .ref wa1, .ref wa2, .ref wa3, .int w1791, .int v1815])), (wa2, .inl (K 1, 5, .inl (u1816.2.1 0))), (wa3, .inl (K 1, 5, .inl g1794)), (wa0, .inr (9, [.ref wa0a0, .ref wa0a1, .ref wa0a2, .ref wa0a3, .ref wa0a4, .ref wa0a5, .ref wa0a6, .ref wa0a7, .int (u1812.1 0), .int (u1812.1 1), .int (u1812.1 2), .int (u1812.1 3)])), (wa0a0, .inl (K 1, 40, .inl (u1812.2.1 0))), (wa0a1, .inl (K 1, 10, .inl (u1812.2.1 1))), (wa0a2, .inl (K 1, 4, .inl (u1812.2.1 2))), (wa0a3, .inl (K 1, 4, .inl (u1812.2.1 3))), (wa0a4, .inl (K 1, 4, .inl (u1812.2.1 4))), (wa0a5, .inl (K 1, 5, .inl (u1812.2.1 5))), (wa0a6, .inl (K 1, 5, .inl (u1812.2.1 6))), (wa0a7, .inl (K 1, 5, .inl (u1812.2.1 7))), (wa1, .inr (8, [.int (u1812.1 4), .int (u1812.1 5), .int (u1812.1 6)])), (v, .inr (9, [.ref va0, .ref va1, .ref va2, .ref va3, .ref va4, .ref va5, .ref va6, .ref va7, .int vn8, .int vn9, .int vn10, .int vn11])), (va0, .inl (K 1, 40, .inl vf0)), (va1, .inl (K 1, 10, .inl vf1)), (va2, .inl (K 1, 4, .inl vf2)), (va3, .inl (K 1, 4, .inl vf3)), (va4, .inl (K 1, 4, .inl vf4)), (va5, .inl (K 1, 5, .inl vf5)), (va6, .inl (K 1, 5, .inl vf6)), (va7, .inl (K 1, 5, .inl vf7)), (x, .inr (8, [.int xn0, .int xn1, .int xn2])), (y, .inr (5, [.ref ya0, .ref ya1, .ref ya2])), (ya0, .inl (K 2, 240, .inr (.inl yf0))), (ya2, .inl (K 1, 4, .inl yf2))] H := hP.sub [24, 25, 0, 1, 2, 3, 4, 5, 6, 7, 8, 9, 10, 11, 12, 13, 14, 15, 16, 17, 18, 19, 20, 21, 22, 23] rfl
              replace hD : va_D A [(w, .inr (0, [.ref wa0, .ref wa1, .ref wa2, .ref wa3, .int w1791, .int v1815])), (wa2, .inl (K 1, 5, .inl (u1816.2.1 0))), (wa3, .inl (K 1, 5, .inl g1794)), (wa0, .inr (9, [.ref wa0a0, .ref wa0a1, .ref wa0a2, .ref wa0a3, .ref wa0a4, .ref wa0a5, .ref wa0a6, .ref wa0a7, .int (u1812.1 0), .int (u1812.1 1), .int (u1812.1 2), .int (u1812.1 3)])), (wa0a0, .inl (K 1, 40, .inl (u1812.2.1 0))), (wa0a1, .inl (K 1, 10, .inl (u1812.2.1 1))), (wa0a2, .inl (K 1, 4, .inl (u1812.2.1 2))), (wa0a3, .inl (K 1, 4, .inl (u1812.2.1 3))), (wa0a4, .inl (K 1, 4, .inl (u1812.2.1 4))), (wa0a5, .inl (K 1, 5, .inl (u1812.2.1 5))), (wa0a6, .inl (K 1, 5, .inl (u1812.2.1 6))), (wa0a7, .inl (K 1, 5, .inl (u1812.2.1 7))), (wa1, .inr (8, [.int (u1812.1 4), .int (u1812.1 5), .int (u1812.1 6)])), (v, .inr (9, [.ref va0, .ref va1, .ref va2, .ref va3, .ref va4, .ref va5, .ref va6, .ref va7, .int vn8, .int vn9, .int vn10, .int vn11])), (va0, .inl (K 1, 40, .inl vf0)), (va1, .inl (K 1, 10, .inl vf1)), (va2, .inl (K 1, 4, .inl vf2)), (va3, .inl (K 1, 4, .inl vf3)), (va4, .inl (K 1, 4, .inl vf4)), (va5, .inl (K 1, 5, .inl vf5)), (va6, .inl (K 1, 5, .inl vf6)), (va7, .inl (K 1, 5, .inl vf7)), (x, .inr (8, [.int xn0, .int xn1, .int xn2])), (y, .inr (5, [.ref ya0, .ref ya1, .ref ya2])), (ya0, .inl (K 2, 240, .inr (.inl yf0))), (ya2, .inl (K 1, 4, .inl yf2))] := hD.sub [24, 25, 0, 1, 2, 3, 4, 5, 6, 7, 8, 9, 10, 11, 12, 13, 14, 15, 16, 17, 18, 19, 20, 21, 22, 23] (by decide) rfl
              refine W.widen (k := 0) (n := 0) (by decide) (by decide) ?_
              rcases hw with rfl | rfl
              · refine lv_istore (lv' := [(6, .int 0), (8, .int r1813), (7, .int i1789), (5, .int v1763), (0, .ref w), (1, .ref v), (2, .ref x), (3, .ref y), (4, .int p3)]) hx hb dX0_tryAll_127 hl (by decide) rfl (fun ls hl => ?_)
                obtain ⟨v1818, ev1818⟩ : ∃ z : Int32, z = i1789 + 1 := ⟨_, rfl⟩
                refine lv_iinc (v := v1818) (lv' := [(7, .int v1818), (6, .int 0), (8, .int r1813), (5, .int v1763), (0, .ref w), (1, .ref v), (2, .ref x), (3, .ref y), (4, .int p3)]) hx hb dX0_tryAll_129 hl (k := 2) rfl (by rw [ev1818]; rfl) (by decide) rfl (fun ls hl => ?_)
                refine lv_goto (tgt := 51) hx hb dX0_tryAll_132 (by decide) ?_
                have tv1818 : v1818.toInt = (i1789 : Int32).toInt + (1 : Int32).toInt := add_i ev1818 (by omega) (by omega)
                exact ih_51 (i1789 := v1818) (i1790 := 0) (w1791 := w1791) (w1792 := v1815) (g1793 := (u1816.2.1 0)) (g1794 := g1794) (w1795 := (u1812.1 0)) (w1796 := (u1812.1 1)) (w1797 := (u1812.1 2)) (w1798 := (u1812.1 3)) (g1799 := (u1812.2.1 0)) (g1800 := (u1812.2.1 1)) (g1801 := (u1812.2.1 2)) (g1802 := (u1812.2.1 3)) (g1803 := (u1812.2.1 4)) (g1804 := (u1812.2.1 5)) (g1805 := (u1812.2.1 6)) (g1806 := (u1812.2.1 7)) (w1807 := (u1812.1 4)) (w1808 := (u1812.1 5)) (w1809 := (u1812.1 6)) (hi_51 := by omega) (H := H) (locs := locs) (ls := ls) (hn_51 := by omega) (hP := hP) (hD := hD) (hS := hS) (hl := lv_sub hl [0, 1, 3, 4, 5, 6, 7, 8] rfl)
              · refine lv_istore (lv' := [(6, .int 1), (8, .int r1813), (7, .int i1789), (5, .int v1763), (0, .ref w), (1, .ref v), (2, .ref x), (3, .ref y), (4, .int p3)]) hx hb dX0_tryAll_127 hl (by decide) rfl (fun ls hl => ?_)
                obtain ⟨v1819, ev1819⟩ : ∃ z : Int32, z = i1789 + 1 := ⟨_, rfl⟩
                refine lv_iinc (v := v1819) (lv' := [(7, .int v1819), (6, .int 1), (8, .int r1813), (5, .int v1763), (0, .ref w), (1, .ref v), (2, .ref x), (3, .ref y), (4, .int p3)]) hx hb dX0_tryAll_129 hl (k := 2) rfl (by rw [ev1819]; rfl) (by decide) rfl (fun ls hl => ?_)
                refine lv_goto (tgt := 51) hx hb dX0_tryAll_132 (by decide) ?_
                have tv1819 : v1819.toInt = (i1789 : Int32).toInt + (1 : Int32).toInt := add_i ev1819 (by omega) (by omega)
                exact ih_51 (i1789 := v1819) (i1790 := 1) (w1791 := w1791) (w1792 := v1815) (g1793 := (u1816.2.1 0)) (g1794 := g1794) (w1795 := (u1812.1 0)) (w1796 := (u1812.1 1)) (w1797 := (u1812.1 2)) (w1798 := (u1812.1 3)) (g1799 := (u1812.2.1 0)) (g1800 := (u1812.2.1 1)) (g1801 := (u1812.2.1 2)) (g1802 := (u1812.2.1 3)) (g1803 := (u1812.2.1 4)) (g1804 := (u1812.2.1 5)) (g1805 := (u1812.2.1 6)) (g1806 := (u1812.2.1 7)) (w1807 := (u1812.1 4)) (w1808 := (u1812.1 5)) (w1809 := (u1812.1 6)) (hi_51 := by omega) (H := H) (locs := locs) (ls := ls) (hn_51 := by omega) (hP := hP) (hD := hD) (hS := hS) (hl := lv_sub hl [0, 1, 3, 4, 5, 6, 7, 8] rfl)
            · replace c1814 := nle_i c1814
              refine lv_aload_n hx hb dX0_tryAll_84 rfl (lv_at hl 4 rfl) ?_
              refine lv_iload hx hb dX0_tryAll_85 (lv_at hl 0 rfl) ?_
              refine va_put (D := D) (ci := 0) (v := .int r1813) (ty := .int) (C := RX0) (T := TX0) (N := 6) hx hb hts in_X0 tyX0 tyX0_ok nmX0 hown hE.1 hP hD hS 0 rfl rfl 4 (by decide) (hts _ w_252) (fun _ h9 => h9) rfl (by decide +kernel) rfl rfl (Nat.le_of_ble_eq_true rfl) dX0_tryAll_87 (fun H locs hP hD hS => ?_)
              replace hP : va_P D vwCl [(w, .inr (0, [.ref wa0, .ref wa1, .ref wa2, .ref wa3, .int r1813, .int w1792])), (wa2, .inl (K 1, 5, .inl g1793)), (wa3, .inl (K 1, 5, .inl g1794)), (wa0, .inr (9, [.ref wa0a0, .ref wa0a1, .ref wa0a2, .ref wa0a3, .ref wa0a4, .ref wa0a5, .ref wa0a6, .ref wa0a7, .int (u1812.1 0), .int (u1812.1 1), .int (u1812.1 2), .int (u1812.1 3)])), (wa0a0, .inl (K 1, 40, .inl (u1812.2.1 0))), (wa0a1, .inl (K 1, 10, .inl (u1812.2.1 1))), (wa0a2, .inl (K 1, 4, .inl (u1812.2.1 2))), (wa0a3, .inl (K 1, 4, .inl (u1812.2.1 3))), (wa0a4, .inl (K 1, 4, .inl (u1812.2.1 4))), (wa0a5, .inl (K 1, 5, .inl (u1812.2.1 5))), (wa0a6, .inl (K 1, 5, .inl (u1812.2.1 6))), (wa0a7, .inl (K 1, 5, .inl (u1812.2.1 7))), (wa1, .inr (8, [.int (u1812.1 4), .int (u1812.1 5), .int (u1812.1 6)])), (v, .inr (9, [.ref va0, .ref va1, .ref va2, .ref va3, .ref va4, .ref va5, .ref va6, .ref va7, .int vn8, .int vn9, .int vn10, .int vn11])), (va0, .inl (K 1, 40, .inl vf0)), (va1, .inl (K 1, 10, .inl vf1)), (va2, .inl (K 1, 4, .inl vf2)), (va3, .inl (K 1, 4, .inl vf3)), (va4, .inl (K 1, 4, .inl vf4)), (va5, .inl (K 1, 5, .inl vf5)), (va6, .inl (K 1, 5, .inl vf6)), (va7, .inl (K 1, 5, .inl vf7)), (x, .inr (8, [.int xn0, .int xn1, .int xn2])), (y, .inr (5, [.ref ya0, .ref ya1, .ref ya2])), (ya0, .inl (K 2, 240, .inr (.inl yf0))), (ya2, .inl (K 1, 4, .inl yf2))] H := hP
              replace hD : va_D A [(w, .inr (0, [.ref wa0, .ref wa1, .ref wa2, .ref wa3, .int r1813, .int w1792])), (wa2, .inl (K 1, 5, .inl g1793)), (wa3, .inl (K 1, 5, .inl g1794)), (wa0, .inr (9, [.ref wa0a0, .ref wa0a1, .ref wa0a2, .ref wa0a3, .ref wa0a4, .ref wa0a5, .ref wa0a6, .ref wa0a7, .int (u1812.1 0), .int (u1812.1 1), .int (u1812.1 2), .int (u1812.1 3)])), (wa0a0, .inl (K 1, 40, .inl (u1812.2.1 0))), (wa0a1, .inl (K 1, 10, .inl (u1812.2.1 1))), (wa0a2, .inl (K 1, 4, .inl (u1812.2.1 2))), (wa0a3, .inl (K 1, 4, .inl (u1812.2.1 3))), (wa0a4, .inl (K 1, 4, .inl (u1812.2.1 4))), (wa0a5, .inl (K 1, 5, .inl (u1812.2.1 5))), (wa0a6, .inl (K 1, 5, .inl (u1812.2.1 6))), (wa0a7, .inl (K 1, 5, .inl (u1812.2.1 7))), (wa1, .inr (8, [.int (u1812.1 4), .int (u1812.1 5), .int (u1812.1 6)])), (v, .inr (9, [.ref va0, .ref va1, .ref va2, .ref va3, .ref va4, .ref va5, .ref va6, .ref va7, .int vn8, .int vn9, .int vn10, .int vn11])), (va0, .inl (K 1, 40, .inl vf0)), (va1, .inl (K 1, 10, .inl vf1)), (va2, .inl (K 1, 4, .inl vf2)), (va3, .inl (K 1, 4, .inl vf3)), (va4, .inl (K 1, 4, .inl vf4)), (va5, .inl (K 1, 5, .inl vf5)), (va6, .inl (K 1, 5, .inl vf6)), (va7, .inl (K 1, 5, .inl vf7)), (x, .inr (8, [.int xn0, .int xn1, .int xn2])), (y, .inr (5, [.ref ya0, .ref ya1, .ref ya2])), (ya0, .inl (K 2, 240, .inr (.inl yf0))), (ya2, .inl (K 1, 4, .inl yf2))] := hD
              refine lv_aload_n hx hb dX0_tryAll_90 rfl (lv_at hl 4 rfl) ?_
              refine va_get (D := D) (ci := 0) (v := .ref wa2) (C := RX0) (T := TX0) (N := 6) hx hb hts in_X0 hown hE.1 hP 0 rfl rfl 2 (by decide) (hts _ w_202) (fun _ h9 => h9) rfl dX0_tryAll_91 ?_
              refine lv_iconst (v := 0) hx hb dX0_tryAll_94 (by decide) ?_
              refine lv_aload_n hx hb dX0_tryAll_95 rfl (lv_at hl 4 rfl) ?_
              refine va_get (D := D) (ci := 0) (v := .ref wa3) (C := RX0) (T := TX0) (N := 6) hx hb hts in_X0 hown hE.1 hP 0 rfl rfl 3 (by decide) (hts _ w_254) (fun _ h9 => h9) rfl dX0_tryAll_96 ?_
              refine lv_iconst (v := 0) hx hb dX0_tryAll_99 (by decide) ?_
              refine lv_aload_n hx hb dX0_tryAll_100 rfl (lv_at hl 4 rfl) ?_
              refine va_get (D := D) (ci := 0) (v := .ref wa3) (C := RX0) (T := TX0) (N := 6) hx hb hts in_X0 hown hE.1 hP 0 rfl rfl 3 (by decide) (hts _ w_254) (fun _ h9 => h9) rfl dX0_tryAll_101 ?_
              refine va_alen (v := 5) hx hb hE.1 hP 2 1 rfl rfl (show Int32.ofNat 5 = 5 by decide) dX0_tryAll_104 ?_
              refine cpi hC hE hl.1 w_255 w_81 w_82 w_83 hP hD hS 1 2 rfl rfl (by decide) (by decide) (by decide) (by decide) (by decide) (by decide) (Nat.le_of_ble_eq_true rfl) dX0_tryAll_105 (fun g1820 H locs hP hD hS => ?_)
              replace hP : va_P D vwCl [(w, .inr (0, [.ref wa0, .ref wa1, .ref wa2, .ref wa3, .int r1813, .int w1792])), (wa2, .inl (K 1, 5, .inl g1793)), (wa3, .inl (K 1, 5, .inl g1820)), (wa0, .inr (9, [.ref wa0a0, .ref wa0a1, .ref wa0a2, .ref wa0a3, .ref wa0a4, .ref wa0a5, .ref wa0a6, .ref wa0a7, .int (u1812.1 0), .int (u1812.1 1), .int (u1812.1 2), .int (u1812.1 3)])), (wa0a0, .inl (K 1, 40, .inl (u1812.2.1 0))), (wa0a1, .inl (K 1, 10, .inl (u1812.2.1 1))), (wa0a2, .inl (K 1, 4, .inl (u1812.2.1 2))), (wa0a3, .inl (K 1, 4, .inl (u1812.2.1 3))), (wa0a4, .inl (K 1, 4, .inl (u1812.2.1 4))), (wa0a5, .inl (K 1, 5, .inl (u1812.2.1 5))), (wa0a6, .inl (K 1, 5, .inl (u1812.2.1 6))), (wa0a7, .inl (K 1, 5, .inl (u1812.2.1 7))), (wa1, .inr (8, [.int (u1812.1 4), .int (u1812.1 5), .int (u1812.1 6)])), (v, .inr (9, [.ref va0, .ref va1, .ref va2, .ref va3, .ref va4, .ref va5, .ref va6, .ref va7, .int vn8, .int vn9, .int vn10, .int vn11])), (va0, .inl (K 1, 40, .inl vf0)), (va1, .inl (K 1, 10, .inl vf1)), (va2, .inl (K 1, 4, .inl vf2)), (va3, .inl (K 1, 4, .inl vf3)), (va4, .inl (K 1, 4, .inl vf4)), (va5, .inl (K 1, 5, .inl vf5)), (va6, .inl (K 1, 5, .inl vf6)), (va7, .inl (K 1, 5, .inl vf7)), (x, .inr (8, [.int xn0, .int xn1, .int xn2])), (y, .inr (5, [.ref ya0, .ref ya1, .ref ya2])), (ya0, .inl (K 2, 240, .inr (.inl yf0))), (ya2, .inl (K 1, 4, .inl yf2))] H := hP
              replace hD : va_D A [(w, .inr (0, [.ref wa0, .ref wa1, .ref wa2, .ref wa3, .int r1813, .int w1792])), (wa2, .inl (K 1, 5, .inl g1793)), (wa3, .inl (K 1, 5, .inl g1820)), (wa0, .inr (9, [.ref wa0a0, .ref wa0a1, .ref wa0a2, .ref wa0a3, .ref wa0a4, .ref wa0a5, .ref wa0a6, .ref wa0a7, .int (u1812.1 0), .int (u1812.1 1), .int (u1812.1 2), .int (u1812.1 3)])), (wa0a0, .inl (K 1, 40, .inl (u1812.2.1 0))), (wa0a1, .inl (K 1, 10, .inl (u1812.2.1 1))), (wa0a2, .inl (K 1, 4, .inl (u1812.2.1 2))), (wa0a3, .inl (K 1, 4, .inl (u1812.2.1 3))), (wa0a4, .inl (K 1, 4, .inl (u1812.2.1 4))), (wa0a5, .inl (K 1, 5, .inl (u1812.2.1 5))), (wa0a6, .inl (K 1, 5, .inl (u1812.2.1 6))), (wa0a7, .inl (K 1, 5, .inl (u1812.2.1 7))), (wa1, .inr (8, [.int (u1812.1 4), .int (u1812.1 5), .int (u1812.1 6)])), (v, .inr (9, [.ref va0, .ref va1, .ref va2, .ref va3, .ref va4, .ref va5, .ref va6, .ref va7, .int vn8, .int vn9, .int vn10, .int vn11])), (va0, .inl (K 1, 40, .inl vf0)), (va1, .inl (K 1, 10, .inl vf1)), (va2, .inl (K 1, 4, .inl vf2)), (va3, .inl (K 1, 4, .inl vf3)), (va4, .inl (K 1, 4, .inl vf4)), (va5, .inl (K 1, 5, .inl vf5)), (va6, .inl (K 1, 5, .inl vf6)), (va7, .inl (K 1, 5, .inl vf7)), (x, .inr (8, [.int xn0, .int xn1, .int xn2])), (y, .inr (5, [.ref ya0, .ref ya1, .ref ya2])), (ya0, .inl (K 2, 240, .inr (.inl yf0))), (ya2, .inl (K 1, 4, .inl yf2))] := hD
              refine lv_aload_n hx hb dX0_tryAll_108 rfl (lv_at hl 4 rfl) ?_
              refine lv_aload_n hx hb dX0_tryAll_109 rfl (lv_at hl 4 rfl) ?_
              refine va_get (D := D) (ci := 0) (v := .int w1792) (C := RX0) (T := TX0) (N := 6) hx hb hts in_X0 hown hE.1 hP 0 rfl rfl 5 (by decide) (hts _ w_253) (fun _ h9 => h9) rfl dX0_tryAll_110 ?_
              refine lv_iload hx hb dX0_tryAll_113 (lv_at hl 0 rfl) ?_
              refine va_mmin hx hb (hml.trans hl.1.symm) hown (hts _ w_251) (hts _ w_142) (hts _ w_143) (hts _ w_144) (by decide) (Nat.le_of_ble_eq_true rfl) (by decide) (by decide) dX0_tryAll_115 ?_
              refine lv_topi (fun v1821 ev1821 => ?_)
              have tv1821 := min_i ev1821
              refine va_put (D := D) (ci := 0) (v := .int v1821) (ty := .int) (C := RX0) (T := TX0) (N := 6) hx hb hts in_X0 tyX0 tyX0_ok nmX0 hown hE.1 hP hD hS 0 rfl rfl 5 (by decide) (hts _ w_253) (fun _ h9 => h9) rfl (by decide +kernel) rfl rfl (Nat.le_of_ble_eq_true rfl) dX0_tryAll_118 (fun H locs hP hD hS => ?_)
              replace hP : va_P D vwCl [(w, .inr (0, [.ref wa0, .ref wa1, .ref wa2, .ref wa3, .int r1813, .int v1821])), (wa2, .inl (K 1, 5, .inl g1793)), (wa3, .inl (K 1, 5, .inl g1820)), (wa0, .inr (9, [.ref wa0a0, .ref wa0a1, .ref wa0a2, .ref wa0a3, .ref wa0a4, .ref wa0a5, .ref wa0a6, .ref wa0a7, .int (u1812.1 0), .int (u1812.1 1), .int (u1812.1 2), .int (u1812.1 3)])), (wa0a0, .inl (K 1, 40, .inl (u1812.2.1 0))), (wa0a1, .inl (K 1, 10, .inl (u1812.2.1 1))), (wa0a2, .inl (K 1, 4, .inl (u1812.2.1 2))), (wa0a3, .inl (K 1, 4, .inl (u1812.2.1 3))), (wa0a4, .inl (K 1, 4, .inl (u1812.2.1 4))), (wa0a5, .inl (K 1, 5, .inl (u1812.2.1 5))), (wa0a6, .inl (K 1, 5, .inl (u1812.2.1 6))), (wa0a7, .inl (K 1, 5, .inl (u1812.2.1 7))), (wa1, .inr (8, [.int (u1812.1 4), .int (u1812.1 5), .int (u1812.1 6)])), (v, .inr (9, [.ref va0, .ref va1, .ref va2, .ref va3, .ref va4, .ref va5, .ref va6, .ref va7, .int vn8, .int vn9, .int vn10, .int vn11])), (va0, .inl (K 1, 40, .inl vf0)), (va1, .inl (K 1, 10, .inl vf1)), (va2, .inl (K 1, 4, .inl vf2)), (va3, .inl (K 1, 4, .inl vf3)), (va4, .inl (K 1, 4, .inl vf4)), (va5, .inl (K 1, 5, .inl vf5)), (va6, .inl (K 1, 5, .inl vf6)), (va7, .inl (K 1, 5, .inl vf7)), (x, .inr (8, [.int xn0, .int xn1, .int xn2])), (y, .inr (5, [.ref ya0, .ref ya1, .ref ya2])), (ya0, .inl (K 2, 240, .inr (.inl yf0))), (ya2, .inl (K 1, 4, .inl yf2))] H := hP
              replace hD : va_D A [(w, .inr (0, [.ref wa0, .ref wa1, .ref wa2, .ref wa3, .int r1813, .int v1821])), (wa2, .inl (K 1, 5, .inl g1793)), (wa3, .inl (K 1, 5, .inl g1820)), (wa0, .inr (9, [.ref wa0a0, .ref wa0a1, .ref wa0a2, .ref wa0a3, .ref wa0a4, .ref wa0a5, .ref wa0a6, .ref wa0a7, .int (u1812.1 0), .int (u1812.1 1), .int (u1812.1 2), .int (u1812.1 3)])), (wa0a0, .inl (K 1, 40, .inl (u1812.2.1 0))), (wa0a1, .inl (K 1, 10, .inl (u1812.2.1 1))), (wa0a2, .inl (K 1, 4, .inl (u1812.2.1 2))), (wa0a3, .inl (K 1, 4, .inl (u1812.2.1 3))), (wa0a4, .inl (K 1, 4, .inl (u1812.2.1 4))), (wa0a5, .inl (K 1, 5, .inl (u1812.2.1 5))), (wa0a6, .inl (K 1, 5, .inl (u1812.2.1 6))), (wa0a7, .inl (K 1, 5, .inl (u1812.2.1 7))), (wa1, .inr (8, [.int (u1812.1 4), .int (u1812.1 5), .int (u1812.1 6)])), (v, .inr (9, [.ref va0, .ref va1, .ref va2, .ref va3, .ref va4, .ref va5, .ref va6, .ref va7, .int vn8, .int vn9, .int vn10, .int vn11])), (va0, .inl (K 1, 40, .inl vf0)), (va1, .inl (K 1, 10, .inl vf1)), (va2, .inl (K 1, 4, .inl vf2)), (va3, .inl (K 1, 4, .inl vf3)), (va4, .inl (K 1, 4, .inl vf4)), (va5, .inl (K 1, 5, .inl vf5)), (va6, .inl (K 1, 5, .inl vf6)), (va7, .inl (K 1, 5, .inl vf7)), (x, .inr (8, [.int xn0, .int xn1, .int xn2])), (y, .inr (5, [.ref ya0, .ref ya1, .ref ya2])), (ya0, .inl (K 2, 240, .inr (.inl yf0))), (ya2, .inl (K 1, 4, .inl yf2))] := hD
              refine lv_aload_n hx hb dX0_tryAll_121 rfl (lv_at hl 4 rfl) ?_
              refine lv_iload hx hb dX0_tryAll_122 (lv_at hl 3 rfl) ?_
              refine ci_V (As := [.int v1763]) (rest := []) (wc := [(w, .inr (0, [.ref wa0, .ref wa1, .ref wa2, .ref wa3, .int r1813, .int v1821])), (wa2, .inl (K 1, 5, .inl g1793))]) (wr := [(wa3, .inl (K 1, 5, .inl g1820)), (wa0, .inr (9, [.ref wa0a0, .ref wa0a1, .ref wa0a2, .ref wa0a3, .ref wa0a4, .ref wa0a5, .ref wa0a6, .ref wa0a7, .int (u1812.1 0), .int (u1812.1 1), .int (u1812.1 2), .int (u1812.1 3)])), (wa0a0, .inl (K 1, 40, .inl (u1812.2.1 0))), (wa0a1, .inl (K 1, 10, .inl (u1812.2.1 1))), (wa0a2, .inl (K 1, 4, .inl (u1812.2.1 2))), (wa0a3, .inl (K 1, 4, .inl (u1812.2.1 3))), (wa0a4, .inl (K 1, 4, .inl (u1812.2.1 4))), (wa0a5, .inl (K 1, 5, .inl (u1812.2.1 5))), (wa0a6, .inl (K 1, 5, .inl (u1812.2.1 6))), (wa0a7, .inl (K 1, 5, .inl (u1812.2.1 7))), (wa1, .inr (8, [.int (u1812.1 4), .int (u1812.1 5), .int (u1812.1 6)])), (v, .inr (9, [.ref va0, .ref va1, .ref va2, .ref va3, .ref va4, .ref va5, .ref va6, .ref va7, .int vn8, .int vn9, .int vn10, .int vn11])), (va0, .inl (K 1, 40, .inl vf0)), (va1, .inl (K 1, 10, .inl vf1)), (va2, .inl (K 1, 4, .inl vf2)), (va3, .inl (K 1, 4, .inl vf3)), (va4, .inl (K 1, 4, .inl vf4)), (va5, .inl (K 1, 5, .inl vf5)), (va6, .inl (K 1, 5, .inl vf6)), (va7, .inl (K 1, 5, .inl vf7)), (x, .inr (8, [.int xn0, .int xn1, .int xn2])), (y, .inr (5, [.ref ya0, .ref ya1, .ref ya2])), (ya0, .inl (K 2, 240, .inr (.inl yf0))), (ya2, .inl (K 1, 4, .inl yf2))]) hC hE kV_X0_58 (c_X0_nextOrder l D K w wa0 wa1 wa2 wa3 r1813 v1821 g1793 v1763 (by omega) (by omega)) hP hD hS hA [0, 1] [2, 3, 4, 5, 6, 7, 8, 9, 10, 11, 12, 13, 14, 15, 16, 17, 18, 19, 20, 21, 22, 23, 24, 25] rfl rfl rfl (by decide) (by decide) (by decide) 0 0 rfl rfl rfl hl.1 rfl (Nat.le_of_ble_eq_true rfl) (by decide) (by decide) dX0_tryAll_124 (fun r1823 u1822 H locs hw hP hD hS => ?_)
              replace hP : va_P D vwCl [(wa3, .inl (K 1, 5, .inl g1820)), (wa0, .inr (9, [.ref wa0a0, .ref wa0a1, .ref wa0a2, .ref wa0a3, .ref wa0a4, .ref wa0a5, .ref wa0a6, .ref wa0a7, .int (u1812.1 0), .int (u1812.1 1), .int (u1812.1 2), .int (u1812.1 3)])), (wa0a0, .inl (K 1, 40, .inl (u1812.2.1 0))), (wa0a1, .inl (K 1, 10, .inl (u1812.2.1 1))), (wa0a2, .inl (K 1, 4, .inl (u1812.2.1 2))), (wa0a3, .inl (K 1, 4, .inl (u1812.2.1 3))), (wa0a4, .inl (K 1, 4, .inl (u1812.2.1 4))), (wa0a5, .inl (K 1, 5, .inl (u1812.2.1 5))), (wa0a6, .inl (K 1, 5, .inl (u1812.2.1 6))), (wa0a7, .inl (K 1, 5, .inl (u1812.2.1 7))), (wa1, .inr (8, [.int (u1812.1 4), .int (u1812.1 5), .int (u1812.1 6)])), (v, .inr (9, [.ref va0, .ref va1, .ref va2, .ref va3, .ref va4, .ref va5, .ref va6, .ref va7, .int vn8, .int vn9, .int vn10, .int vn11])), (va0, .inl (K 1, 40, .inl vf0)), (va1, .inl (K 1, 10, .inl vf1)), (va2, .inl (K 1, 4, .inl vf2)), (va3, .inl (K 1, 4, .inl vf3)), (va4, .inl (K 1, 4, .inl vf4)), (va5, .inl (K 1, 5, .inl vf5)), (va6, .inl (K 1, 5, .inl vf6)), (va7, .inl (K 1, 5, .inl vf7)), (x, .inr (8, [.int xn0, .int xn1, .int xn2])), (y, .inr (5, [.ref ya0, .ref ya1, .ref ya2])), (ya0, .inl (K 2, 240, .inr (.inl yf0))), (ya2, .inl (K 1, 4, .inl yf2)), (w, .inr (0, [.ref wa0, .ref wa1, .ref wa2, .ref wa3, .int r1813, .int v1821])), (wa2, .inl (K 1, 5, .inl (u1822.2.1 0)))] H := hP
              replace hD : va_D A [(wa3, .inl (K 1, 5, .inl g1820)), (wa0, .inr (9, [.ref wa0a0, .ref wa0a1, .ref wa0a2, .ref wa0a3, .ref wa0a4, .ref wa0a5, .ref wa0a6, .ref wa0a7, .int (u1812.1 0), .int (u1812.1 1), .int (u1812.1 2), .int (u1812.1 3)])), (wa0a0, .inl (K 1, 40, .inl (u1812.2.1 0))), (wa0a1, .inl (K 1, 10, .inl (u1812.2.1 1))), (wa0a2, .inl (K 1, 4, .inl (u1812.2.1 2))), (wa0a3, .inl (K 1, 4, .inl (u1812.2.1 3))), (wa0a4, .inl (K 1, 4, .inl (u1812.2.1 4))), (wa0a5, .inl (K 1, 5, .inl (u1812.2.1 5))), (wa0a6, .inl (K 1, 5, .inl (u1812.2.1 6))), (wa0a7, .inl (K 1, 5, .inl (u1812.2.1 7))), (wa1, .inr (8, [.int (u1812.1 4), .int (u1812.1 5), .int (u1812.1 6)])), (v, .inr (9, [.ref va0, .ref va1, .ref va2, .ref va3, .ref va4, .ref va5, .ref va6, .ref va7, .int vn8, .int vn9, .int vn10, .int vn11])), (va0, .inl (K 1, 40, .inl vf0)), (va1, .inl (K 1, 10, .inl vf1)), (va2, .inl (K 1, 4, .inl vf2)), (va3, .inl (K 1, 4, .inl vf3)), (va4, .inl (K 1, 4, .inl vf4)), (va5, .inl (K 1, 5, .inl vf5)), (va6, .inl (K 1, 5, .inl vf6)), (va7, .inl (K 1, 5, .inl vf7)), (x, .inr (8, [.int xn0, .int xn1, .int xn2])), (y, .inr (5, [.ref ya0, .ref ya1, .ref ya2])), (ya0, .inl (K 2, 240, .inr (.inl yf0))), (ya2, .inl (K 1, 4, .inl yf2)), (w, .inr (0, [.ref wa0, .ref wa1, .ref wa2, .ref wa3, .int r1813, .int v1821])), (wa2, .inl (K 1, 5, .inl (u1822.2.1 0)))] := hD
              replace hP : va_P D vwCl [(w, .inr (0, [.ref wa0, .ref wa1, .ref wa2, .ref wa3, .int r1813, .int v1821])), (wa2, .inl (K 1, 5, .inl (u1822.2.1 0))), (wa3, .inl (K 1, 5, .inl g1820)), (wa0, .inr (9, [.ref wa0a0, .ref wa0a1, .ref wa0a2, .ref wa0a3, .ref wa0a4, .ref wa0a5, .ref wa0a6, .ref wa0a7, .int (u1812.1 0), .int (u1812.1 1), .int (u1812.1 2), .int (u1812.1 3)])), (wa0a0, .inl (K 1, 40, .inl (u1812.2.1 0))), (wa0a1, .inl (K 1, 10, .inl (u1812.2.1 1))), (wa0a2, .inl (K 1, 4, .inl (u1812.2.1 2))), (wa0a3, .inl (K 1, 4, .inl (u1812.2.1 3))), (wa0a4, .inl (K 1, 4, .inl (u1812.2.1 4))), (wa0a5, .inl (K 1, 5, .inl (u1812.2.1 5))), (wa0a6, .inl (K 1, 5, .inl (u1812.2.1 6))), (wa0a7, .inl (K 1, 5, .inl (u1812.2.1 7))), (wa1, .inr (8, [.int (u1812.1 4), .int (u1812.1 5), .int (u1812.1 6)])), (v, .inr (9, [.ref va0, .ref va1, .ref va2, .ref va3, .ref va4, .ref va5, .ref va6, .ref va7, .int vn8, .int vn9, .int vn10, .int vn11])), (va0, .inl (K 1, 40, .inl vf0)), (va1, .inl (K 1, 10, .inl vf1)), (va2, .inl (K 1, 4, .inl vf2)), (va3, .inl (K 1, 4, .inl vf3)), (va4, .inl (K 1, 4, .inl vf4)), (va5, .inl (K 1, 5, .inl vf5)), (va6, .inl (K 1, 5, .inl vf6)), (va7, .inl (K 1, 5, .inl vf7)), (x, .inr (8, [.int xn0, .int xn1, .int xn2])), (y, .inr (5, [.ref ya0, .ref ya1, .ref ya2])), (ya0, .inl (K 2, 240, .inr (.inl yf0))), (ya2, .inl (K 1, 4, .inl yf2))] H := hP.sub [24, 25, 0, 1, 2, 3, 4, 5, 6, 7, 8, 9, 10, 11, 12, 13, 14, 15, 16, 17, 18, 19, 20, 21, 22, 23] rfl
              replace hD : va_D A [(w, .inr (0, [.ref wa0, .ref wa1, .ref wa2, .ref wa3, .int r1813, .int v1821])), (wa2, .inl (K 1, 5, .inl (u1822.2.1 0))), (wa3, .inl (K 1, 5, .inl g1820)), (wa0, .inr (9, [.ref wa0a0, .ref wa0a1, .ref wa0a2, .ref wa0a3, .ref wa0a4, .ref wa0a5, .ref wa0a6, .ref wa0a7, .int (u1812.1 0), .int (u1812.1 1), .int (u1812.1 2), .int (u1812.1 3)])), (wa0a0, .inl (K 1, 40, .inl (u1812.2.1 0))), (wa0a1, .inl (K 1, 10, .inl (u1812.2.1 1))), (wa0a2, .inl (K 1, 4, .inl (u1812.2.1 2))), (wa0a3, .inl (K 1, 4, .inl (u1812.2.1 3))), (wa0a4, .inl (K 1, 4, .inl (u1812.2.1 4))), (wa0a5, .inl (K 1, 5, .inl (u1812.2.1 5))), (wa0a6, .inl (K 1, 5, .inl (u1812.2.1 6))), (wa0a7, .inl (K 1, 5, .inl (u1812.2.1 7))), (wa1, .inr (8, [.int (u1812.1 4), .int (u1812.1 5), .int (u1812.1 6)])), (v, .inr (9, [.ref va0, .ref va1, .ref va2, .ref va3, .ref va4, .ref va5, .ref va6, .ref va7, .int vn8, .int vn9, .int vn10, .int vn11])), (va0, .inl (K 1, 40, .inl vf0)), (va1, .inl (K 1, 10, .inl vf1)), (va2, .inl (K 1, 4, .inl vf2)), (va3, .inl (K 1, 4, .inl vf3)), (va4, .inl (K 1, 4, .inl vf4)), (va5, .inl (K 1, 5, .inl vf5)), (va6, .inl (K 1, 5, .inl vf6)), (va7, .inl (K 1, 5, .inl vf7)), (x, .inr (8, [.int xn0, .int xn1, .int xn2])), (y, .inr (5, [.ref ya0, .ref ya1, .ref ya2])), (ya0, .inl (K 2, 240, .inr (.inl yf0))), (ya2, .inl (K 1, 4, .inl yf2))] := hD.sub [24, 25, 0, 1, 2, 3, 4, 5, 6, 7, 8, 9, 10, 11, 12, 13, 14, 15, 16, 17, 18, 19, 20, 21, 22, 23] (by decide) rfl
              refine W.widen (k := 0) (n := 0) (by decide) (by decide) ?_
              rcases hw with rfl | rfl
              · refine lv_istore (lv' := [(6, .int 0), (8, .int r1813), (7, .int i1789), (5, .int v1763), (0, .ref w), (1, .ref v), (2, .ref x), (3, .ref y), (4, .int p3)]) hx hb dX0_tryAll_127 hl (by decide) rfl (fun ls hl => ?_)
                obtain ⟨v1824, ev1824⟩ : ∃ z : Int32, z = i1789 + 1 := ⟨_, rfl⟩
                refine lv_iinc (v := v1824) (lv' := [(7, .int v1824), (6, .int 0), (8, .int r1813), (5, .int v1763), (0, .ref w), (1, .ref v), (2, .ref x), (3, .ref y), (4, .int p3)]) hx hb dX0_tryAll_129 hl (k := 2) rfl (by rw [ev1824]; rfl) (by decide) rfl (fun ls hl => ?_)
                refine lv_goto (tgt := 51) hx hb dX0_tryAll_132 (by decide) ?_
                have tv1824 : v1824.toInt = (i1789 : Int32).toInt + (1 : Int32).toInt := add_i ev1824 (by omega) (by omega)
                exact ih_51 (i1789 := v1824) (i1790 := 0) (w1791 := r1813) (w1792 := v1821) (g1793 := (u1822.2.1 0)) (g1794 := g1820) (w1795 := (u1812.1 0)) (w1796 := (u1812.1 1)) (w1797 := (u1812.1 2)) (w1798 := (u1812.1 3)) (g1799 := (u1812.2.1 0)) (g1800 := (u1812.2.1 1)) (g1801 := (u1812.2.1 2)) (g1802 := (u1812.2.1 3)) (g1803 := (u1812.2.1 4)) (g1804 := (u1812.2.1 5)) (g1805 := (u1812.2.1 6)) (g1806 := (u1812.2.1 7)) (w1807 := (u1812.1 4)) (w1808 := (u1812.1 5)) (w1809 := (u1812.1 6)) (hi_51 := by omega) (H := H) (locs := locs) (ls := ls) (hn_51 := by omega) (hP := hP) (hD := hD) (hS := hS) (hl := lv_sub hl [0, 1, 3, 4, 5, 6, 7, 8] rfl)
              · refine lv_istore (lv' := [(6, .int 1), (8, .int r1813), (7, .int i1789), (5, .int v1763), (0, .ref w), (1, .ref v), (2, .ref x), (3, .ref y), (4, .int p3)]) hx hb dX0_tryAll_127 hl (by decide) rfl (fun ls hl => ?_)
                obtain ⟨v1825, ev1825⟩ : ∃ z : Int32, z = i1789 + 1 := ⟨_, rfl⟩
                refine lv_iinc (v := v1825) (lv' := [(7, .int v1825), (6, .int 1), (8, .int r1813), (5, .int v1763), (0, .ref w), (1, .ref v), (2, .ref x), (3, .ref y), (4, .int p3)]) hx hb dX0_tryAll_129 hl (k := 2) rfl (by rw [ev1825]; rfl) (by decide) rfl (fun ls hl => ?_)
                refine lv_goto (tgt := 51) hx hb dX0_tryAll_132 (by decide) ?_
                have tv1825 : v1825.toInt = (i1789 : Int32).toInt + (1 : Int32).toInt := add_i ev1825 (by omega) (by omega)
                exact ih_51 (i1789 := v1825) (i1790 := 1) (w1791 := r1813) (w1792 := v1821) (g1793 := (u1822.2.1 0)) (g1794 := g1820) (w1795 := (u1812.1 0)) (w1796 := (u1812.1 1)) (w1797 := (u1812.1 2)) (w1798 := (u1812.1 3)) (g1799 := (u1812.2.1 0)) (g1800 := (u1812.2.1 1)) (g1801 := (u1812.2.1 2)) (g1802 := (u1812.2.1 3)) (g1803 := (u1812.2.1 4)) (g1804 := (u1812.2.1 5)) (g1805 := (u1812.2.1 6)) (g1806 := (u1812.2.1 7)) (w1807 := (u1812.1 4)) (w1808 := (u1812.1 5)) (w1809 := (u1812.1 6)) (hi_51 := by omega) (H := H) (locs := locs) (ls := ls) (hn_51 := by omega) (hP := hP) (hD := hD) (hS := hS) (hl := lv_sub hl [0, 1, 3, 4, 5, 6, 7, 8] rfl)
    · replace c1770 := nle_i c1770
      refine lv_aload_n hx hb dX0_tryAll_19 rfl (lv_at hl 2 rfl) ?_
      refine va_get (D := D) (ci := 0) (v := .ref wa2) (C := RX0) (T := TX0) (N := 6) hx hb hts in_X0 hown hE.1 hP 0 rfl rfl 2 (by decide) (hts _ w_202) (fun _ h9 => h9) rfl dX0_tryAll_20 ?_
      refine lv_iload hx hb dX0_tryAll_23 (lv_at hl 0 rfl) ?_
      refine lv_iload hx hb dX0_tryAll_25 (lv_at hl 0 rfl) ?_
      refine sti hx hb hE.1 hP hD hS 1 1 rfl rfl (vp_in_iff.mpr (by omega)) dX0_tryAll_27 (fun g1826 eg1826 H locs hP hD hS => ?_)
      replace hP : va_P D vwCl [(w, .inr (0, [.ref wa0, .ref wa1, .ref wa2, .ref wa3, .int wn4, .int wn5])), (wa2, .inl (K 1, 5, .inl g1826)), (wa3, .inl (K 1, 5, .inl wf3)), (wa0, .inr (9, [.ref wa0a0, .ref wa0a1, .ref wa0a2, .ref wa0a3, .ref wa0a4, .ref wa0a5, .ref wa0a6, .ref wa0a7, .int wa0n8, .int wa0n9, .int wa0n10, .int wa0n11])), (wa0a0, .inl (K 1, 40, .inl wa0f0)), (wa0a1, .inl (K 1, 10, .inl wa0f1)), (wa0a2, .inl (K 1, 4, .inl wa0f2)), (wa0a3, .inl (K 1, 4, .inl wa0f3)), (wa0a4, .inl (K 1, 4, .inl wa0f4)), (wa0a5, .inl (K 1, 5, .inl wa0f5)), (wa0a6, .inl (K 1, 5, .inl wa0f6)), (wa0a7, .inl (K 1, 5, .inl wa0f7)), (wa1, .inr (8, [.int wa1n0, .int wa1n1, .int wa1n2])), (v, .inr (9, [.ref va0, .ref va1, .ref va2, .ref va3, .ref va4, .ref va5, .ref va6, .ref va7, .int vn8, .int vn9, .int vn10, .int vn11])), (va0, .inl (K 1, 40, .inl vf0)), (va1, .inl (K 1, 10, .inl vf1)), (va2, .inl (K 1, 4, .inl vf2)), (va3, .inl (K 1, 4, .inl vf3)), (va4, .inl (K 1, 4, .inl vf4)), (va5, .inl (K 1, 5, .inl vf5)), (va6, .inl (K 1, 5, .inl vf6)), (va7, .inl (K 1, 5, .inl vf7)), (x, .inr (8, [.int xn0, .int xn1, .int xn2])), (y, .inr (5, [.ref ya0, .ref ya1, .ref ya2])), (ya0, .inl (K 2, 240, .inr (.inl yf0))), (ya2, .inl (K 1, 4, .inl yf2))] H := hP
      replace hD : va_D A [(w, .inr (0, [.ref wa0, .ref wa1, .ref wa2, .ref wa3, .int wn4, .int wn5])), (wa2, .inl (K 1, 5, .inl g1826)), (wa3, .inl (K 1, 5, .inl wf3)), (wa0, .inr (9, [.ref wa0a0, .ref wa0a1, .ref wa0a2, .ref wa0a3, .ref wa0a4, .ref wa0a5, .ref wa0a6, .ref wa0a7, .int wa0n8, .int wa0n9, .int wa0n10, .int wa0n11])), (wa0a0, .inl (K 1, 40, .inl wa0f0)), (wa0a1, .inl (K 1, 10, .inl wa0f1)), (wa0a2, .inl (K 1, 4, .inl wa0f2)), (wa0a3, .inl (K 1, 4, .inl wa0f3)), (wa0a4, .inl (K 1, 4, .inl wa0f4)), (wa0a5, .inl (K 1, 5, .inl wa0f5)), (wa0a6, .inl (K 1, 5, .inl wa0f6)), (wa0a7, .inl (K 1, 5, .inl wa0f7)), (wa1, .inr (8, [.int wa1n0, .int wa1n1, .int wa1n2])), (v, .inr (9, [.ref va0, .ref va1, .ref va2, .ref va3, .ref va4, .ref va5, .ref va6, .ref va7, .int vn8, .int vn9, .int vn10, .int vn11])), (va0, .inl (K 1, 40, .inl vf0)), (va1, .inl (K 1, 10, .inl vf1)), (va2, .inl (K 1, 4, .inl vf2)), (va3, .inl (K 1, 4, .inl vf3)), (va4, .inl (K 1, 4, .inl vf4)), (va5, .inl (K 1, 5, .inl vf5)), (va6, .inl (K 1, 5, .inl vf6)), (va7, .inl (K 1, 5, .inl vf7)), (x, .inr (8, [.int xn0, .int xn1, .int xn2])), (y, .inr (5, [.ref ya0, .ref ya1, .ref ya2])), (ya0, .inl (K 2, 240, .inr (.inl yf0))), (ya2, .inl (K 1, 4, .inl yf2))] := hD
      obtain ⟨v1827, ev1827⟩ : ∃ z : Int32, z = i1768 + 1 := ⟨_, rfl⟩
      refine lv_iinc (v := v1827) (lv' := [(6, .int v1827), (5, .int v1763), (0, .ref w), (1, .ref v), (2, .ref x), (3, .ref y), (4, .int p3)]) hx hb dX0_tryAll_28 hl (k := 0) rfl (by rw [ev1827]; rfl) (by decide) rfl (fun ls hl => ?_)
      refine lv_goto (tgt := 13) hx hb dX0_tryAll_31 (by decide) ?_
      have tv1827 : v1827.toInt = (i1768 : Int32).toInt + (1 : Int32).toInt := add_i ev1827 (by omega) (by omega)
      exact ih_13 (i1768 := v1827) (g1769 := g1826) (hi_13 := by omega) (H := H) (locs := locs) (ls := ls) (hn_13 := by omega) (hP := hP) (hD := hD) (hS := hS) (hl := lv_sub hl [0, 1, 2, 3, 4, 5, 6] rfl)
set_option maxRecDepth 40000 in
set_option maxHeartbeats 4000000 in
theorem c_X6_meetState_1 (l : Launch) (D : va_G) (K : Nat → ClassId) (w : Nat) (wa0 : Nat) (wa1 : Nat) (wa2 : Nat) (wa6 : Nat) (wn3 : Int32) (wn4 : Int32) (wn5 : Int32) (wn7 : Int32) (wn8 : Int32) (wn9 : Int32) (wf0 : Nat → Int32) (wf1 : Nat → Int32) (wf2 : Nat → Int32) (p0 : Int32) (p1 : Int32) (hs : 0 ≤ wn4.toInt) : Cv (S := ((Nat → Int32) × (Nat → Nat → Int32) × (Nat → Nat → Int64))) l D K yX6_meetState cX6_meetState 3 0 0 0 0 [.ref w, .int p0, .int p1] [(w, .inr (1, [.ref wa0, .ref wa1, .ref wa2, .int wn3, .int wn4, .int wn5, .ref wa6, .int wn7, .int wn8, .int wn9])), (wa0, .inl (K 1, 10240, .inl wf0)), (wa1, .inl (K 1, 10240, .inl wf1)), (wa2, .inl (K 1, 10240, .inl wf2))] (fun u => (0 ≤ (u.1 0).toInt)) (fun u => [(w, .inr (1, [.ref wa0, .ref wa1, .ref wa2, .int wn3, .int (u.1 0), .int wn5, .ref wa6, .int wn7, .int wn8, .int wn9])), (wa0, .inl (K 1, 10240, .inl (u.2.1 0))), (wa1, .inl (K 1, 10240, .inl (u.2.1 1))), (wa2, .inl (K 1, 10240, .inl (u.2.1 2)))]) := by
  intro sz
  refine ch_of (y := yX6_meetState) (cc := cX6_meetState) (maxL := 3) (ret := none) (av := [.ref w, .int p0, .int p1]) (ws := [(w, .inr (1, [.ref wa0, .ref wa1, .ref wa2, .int wn3, .int wn4, .int wn5, .ref wa6, .int wn7, .int wn8, .int wn9])), (wa0, .inl (K 1, 10240, .inl wf0)), (wa1, .inl (K 1, 10240, .inl wf1)), (wa2, .inl (K 1, 10240, .inl wf2))]) (D := D) (K := K) (Qc := fun A => va_Qv (S := ((Nat → Int32) × (Nat → Nat → Int32) × (Nat → Nat → Int64))) (fun u => (0 ≤ (u.1 0).toInt)) (chB D A (fun u => [(w, .inr (1, [.ref wa0, .ref wa1, .ref wa2, .int wn3, .int (u.1 0), .int wn5, .ref wa6, .int wn7, .int wn8, .int wn9])), (wa0, .inl (K 1, 10240, .inl (u.2.1 0))), (wa1, .inl (K 1, 10240, .inl (u.2.1 1))), (wa2, .inl (K 1, 10240, .inl (u.2.1 2)))])) A) (by decide) (Nat.le_of_ble_eq_true rfl) ?_
  intro p e s m below meth c A hC hr hk hin hE hD hA H locs hP hS ls hl
  replace hC : CallFix p m c cX6_meetState 3 s [.ref w, .int p0, .int p1].toArray wl RX6 := hC
  have hx := hC.1
  have hb := hC.2.1
  have hml := hC.2.2.1
  have hown := hC.2.2.2.1
  have hts := hC.2.2.2.2
  replace hl : lv_has ls 3 [(0, .ref w), (1, .int p0), (2, .int p1)] := hl
  have kc_0 : (0 : Int32).toInt = 0 := by decide
  have kc_1 : (1 : Int32).toInt = 1 := by decide
  have kc_10240 : (10240 : Int32).toInt = 10240 := by decide
  refine lv_iload_n hx hb dX6_meetState_0 rfl (lv_at hl 1 rfl) ?_
  refine lv_if_lt (tgt := 38) hx hb dX6_meetState_1 (by decide) (fun c1837 => ?_) (fun c1837 => ?_)
  · replace c1837 := lt_i c1837
    refine W.widen (k := 0) (n := 0) (by decide) (by decide) ?_
    exact ch_vret hC hr hk hS dX6_meetState_38 ((fun k => [wn4].getD k 0, fun k => [wf0, wf1, wf2].getD k (fun _ => 0), fun k => [].getD k (fun _ => 0)) : ((Nat → Int32) × (Nat → Nat → Int32) × (Nat → Nat → Int64))) (show 0 ≤ (wn4 : Int32).toInt from by omega) (hP.sub [0, 1, 2, 3] rfl) (hD.sub [0, 1, 2, 3] (by decide) rfl)
  · replace c1837 := nlt_i c1837
    refine lv_iload_n hx hb dX6_meetState_4 rfl (lv_at hl 1 rfl) ?_
    refine lv_aload_n hx hb dX6_meetState_5 rfl (lv_at hl 0 rfl) ?_
    refine va_get (D := D) (ci := 1) (v := .ref wa0) (C := RX1) (T := TX1) (N := 10) hx hb hts in_X1 hown hE.1 hP 0 rfl rfl 0 (by decide) (hts _ w_274) (fun _ h9 => h9) rfl dX6_meetState_6 ?_
    refine va_alen (v := 10240) hx hb hE.1 hP 1 1 rfl rfl (show Int32.ofNat 10240 = 10240 by decide) dX6_meetState_9 ?_
    refine lv_icmp_ge (tgt := 38) hx hb dX6_meetState_10 (by decide) (fun c1838 => ?_) (fun c1838 => ?_)
    · replace c1838 := le_i c1838
      refine W.widen (k := 0) (n := 0) (by decide) (by decide) ?_
      exact ch_vret hC hr hk hS dX6_meetState_38 ((fun k => [wn4].getD k 0, fun k => [wf0, wf1, wf2].getD k (fun _ => 0), fun k => [].getD k (fun _ => 0)) : ((Nat → Int32) × (Nat → Nat → Int32) × (Nat → Nat → Int64))) (show 0 ≤ (wn4 : Int32).toInt from by omega) (hP.sub [0, 1, 2, 3] rfl) (hD.sub [0, 1, 2, 3] (by decide) rfl)
    · replace c1838 := nle_i c1838
      refine lv_aload_n hx hb dX6_meetState_13 rfl (lv_at hl 0 rfl) ?_
      refine va_get (D := D) (ci := 1) (v := .ref wa0) (C := RX1) (T := TX1) (N := 10) hx hb hts in_X1 hown hE.1 hP 0 rfl rfl 0 (by decide) (hts _ w_274) (fun _ h9 => h9) rfl dX6_meetState_14 ?_
      refine lv_iload_n hx hb dX6_meetState_17 rfl (lv_at hl 1 rfl) ?_
      refine va_iald hx hb hE.1 hP 1 1 rfl rfl (vp_in_iff.mpr (by omega)) dX6_meetState_18 ?_
      refine lv_topi (fun v1839 ev1839 => ?_)
      refine lv_aload_n hx hb dX6_meetState_19 rfl (lv_at hl 0 rfl) ?_
      refine va_get (D := D) (ci := 1) (v := .int wn3) (C := RX1) (T := TX1) (N := 10) hx hb hts in_X1 hown hE.1 hP 0 rfl rfl 3 (by decide) (hts _ w_275) (fun _ h9 => h9) rfl dX6_meetState_20 ?_
      refine lv_icmp_eq (tgt := 38) hx hb dX6_meetState_23 (by decide) (fun c1840 => ?_) (fun c1840 => ?_)
      · replace c1840 := eq_i c1840
        refine W.widen (k := 0) (n := 0) (by decide) (by decide) ?_
        exact ch_vret hC hr hk hS dX6_meetState_38 ((fun k => [wn4].getD k 0, fun k => [wf0, wf1, wf2].getD k (fun _ => 0), fun k => [].getD k (fun _ => 0)) : ((Nat → Int32) × (Nat → Nat → Int32) × (Nat → Nat → Int64))) (show 0 ≤ (wn4 : Int32).toInt from by omega) (hP.sub [0, 1, 2, 3] rfl) (hD.sub [0, 1, 2, 3] (by decide) rfl)
      · replace c1840 := ne_i c1840
        refine lv_aload_n hx hb dX6_meetState_26 rfl (lv_at hl 0 rfl) ?_
        refine va_get (D := D) (ci := 1) (v := .int wn4) (C := RX1) (T := TX1) (N := 10) hx hb hts in_X1 hown hE.1 hP 0 rfl rfl 4 (by decide) (hts _ w_276) (fun _ h9 => h9) rfl dX6_meetState_27 ?_
        refine lv_aload_n hx hb dX6_meetState_30 rfl (lv_at hl 0 rfl) ?_
        refine va_get (D := D) (ci := 1) (v := .ref wa1) (C := RX1) (T := TX1) (N := 10) hx hb hts in_X1 hown hE.1 hP 0 rfl rfl 1 (by decide) (hts _ w_277) (fun _ h9 => h9) rfl dX6_meetState_31 ?_
        refine va_alen (v := 10240) hx hb hE.1 hP 2 1 rfl rfl (show Int32.ofNat 10240 = 10240 by decide) dX6_meetState_34 ?_
        refine lv_icmp_lt (tgt := 39) hx hb dX6_meetState_35 (by decide) (fun c1841 => ?_) (fun c1841 => ?_)
        · replace c1841 := lt_i c1841
          refine lv_aload_n hx hb dX6_meetState_39 rfl (lv_at hl 0 rfl) ?_
          refine va_get (D := D) (ci := 1) (v := .ref wa0) (C := RX1) (T := TX1) (N := 10) hx hb hts in_X1 hown hE.1 hP 0 rfl rfl 0 (by decide) (hts _ w_274) (fun _ h9 => h9) rfl dX6_meetState_40 ?_
          refine lv_iload_n hx hb dX6_meetState_43 rfl (lv_at hl 1 rfl) ?_
          refine lv_aload_n hx hb dX6_meetState_44 rfl (lv_at hl 0 rfl) ?_
          refine va_get (D := D) (ci := 1) (v := .int wn3) (C := RX1) (T := TX1) (N := 10) hx hb hts in_X1 hown hE.1 hP 0 rfl rfl 3 (by decide) (hts _ w_275) (fun _ h9 => h9) rfl dX6_meetState_45 ?_
          refine sti hx hb hE.1 hP hD hS 1 1 rfl rfl (vp_in_iff.mpr (by omega)) dX6_meetState_48 (fun g1842 eg1842 H locs hP hD hS => ?_)
          replace hP : va_P D vwCl [(w, .inr (1, [.ref wa0, .ref wa1, .ref wa2, .int wn3, .int wn4, .int wn5, .ref wa6, .int wn7, .int wn8, .int wn9])), (wa0, .inl (K 1, 10240, .inl g1842)), (wa1, .inl (K 1, 10240, .inl wf1)), (wa2, .inl (K 1, 10240, .inl wf2))] H := hP
          replace hD : va_D A [(w, .inr (1, [.ref wa0, .ref wa1, .ref wa2, .int wn3, .int wn4, .int wn5, .ref wa6, .int wn7, .int wn8, .int wn9])), (wa0, .inl (K 1, 10240, .inl g1842)), (wa1, .inl (K 1, 10240, .inl wf1)), (wa2, .inl (K 1, 10240, .inl wf2))] := hD
          refine lv_aload_n hx hb dX6_meetState_49 rfl (lv_at hl 0 rfl) ?_
          refine va_get (D := D) (ci := 1) (v := .ref wa1) (C := RX1) (T := TX1) (N := 10) hx hb hts in_X1 hown hE.1 hP 0 rfl rfl 1 (by decide) (hts _ w_277) (fun _ h9 => h9) rfl dX6_meetState_50 ?_
          refine lv_aload_n hx hb dX6_meetState_53 rfl (lv_at hl 0 rfl) ?_
          refine va_get (D := D) (ci := 1) (v := .int wn4) (C := RX1) (T := TX1) (N := 10) hx hb hts in_X1 hown hE.1 hP 0 rfl rfl 4 (by decide) (hts _ w_276) (fun _ h9 => h9) rfl dX6_meetState_54 ?_
          refine lv_iload_n hx hb dX6_meetState_57 rfl (lv_at hl 1 rfl) ?_
          refine sti hx hb hE.1 hP hD hS 2 1 rfl rfl (vp_in_iff.mpr (by omega)) dX6_meetState_58 (fun g1843 eg1843 H locs hP hD hS => ?_)
          replace hP : va_P D vwCl [(w, .inr (1, [.ref wa0, .ref wa1, .ref wa2, .int wn3, .int wn4, .int wn5, .ref wa6, .int wn7, .int wn8, .int wn9])), (wa0, .inl (K 1, 10240, .inl g1842)), (wa1, .inl (K 1, 10240, .inl g1843)), (wa2, .inl (K 1, 10240, .inl wf2))] H := hP
          replace hD : va_D A [(w, .inr (1, [.ref wa0, .ref wa1, .ref wa2, .int wn3, .int wn4, .int wn5, .ref wa6, .int wn7, .int wn8, .int wn9])), (wa0, .inl (K 1, 10240, .inl g1842)), (wa1, .inl (K 1, 10240, .inl g1843)), (wa2, .inl (K 1, 10240, .inl wf2))] := hD
          refine lv_aload_n hx hb dX6_meetState_59 rfl (lv_at hl 0 rfl) ?_
          refine va_get (D := D) (ci := 1) (v := .ref wa2) (C := RX1) (T := TX1) (N := 10) hx hb hts in_X1 hown hE.1 hP 0 rfl rfl 2 (by decide) (hts _ w_278) (fun _ h9 => h9) rfl dX6_meetState_60 ?_
          refine lv_aload_n hx hb dX6_meetState_63 rfl (lv_at hl 0 rfl) ?_
          refine va_get (D := D) (ci := 1) (v := .int wn4) (C := RX1) (T := TX1) (N := 10) hx hb hts in_X1 hown hE.1 hP 0 rfl rfl 4 (by decide) (hts _ w_276) (fun _ h9 => h9) rfl dX6_meetState_64 ?_
          refine lv_iload_n hx hb dX6_meetState_67 rfl (lv_at hl 2 rfl) ?_
          refine sti hx hb hE.1 hP hD hS 3 1 rfl rfl (vp_in_iff.mpr (by omega)) dX6_meetState_68 (fun g1844 eg1844 H locs hP hD hS => ?_)
          replace hP : va_P D vwCl [(w, .inr (1, [.ref wa0, .ref wa1, .ref wa2, .int wn3, .int wn4, .int wn5, .ref wa6, .int wn7, .int wn8, .int wn9])), (wa0, .inl (K 1, 10240, .inl g1842)), (wa1, .inl (K 1, 10240, .inl g1843)), (wa2, .inl (K 1, 10240, .inl g1844))] H := hP
          replace hD : va_D A [(w, .inr (1, [.ref wa0, .ref wa1, .ref wa2, .int wn3, .int wn4, .int wn5, .ref wa6, .int wn7, .int wn8, .int wn9])), (wa0, .inl (K 1, 10240, .inl g1842)), (wa1, .inl (K 1, 10240, .inl g1843)), (wa2, .inl (K 1, 10240, .inl g1844))] := hD
          refine lv_aload_n hx hb dX6_meetState_69 rfl (lv_at hl 0 rfl) ?_
          refine lv_dup hx hb dX6_meetState_70 rfl ?_
          refine va_get (D := D) (ci := 1) (v := .int wn4) (C := RX1) (T := TX1) (N := 10) hx hb hts in_X1 hown hE.1 hP 0 rfl rfl 4 (by decide) (hts _ w_276) (fun _ h9 => h9) rfl dX6_meetState_71 ?_
          refine lv_iconst (v := 1) hx hb dX6_meetState_74 (by decide) ?_
          refine lv_iadd hx hb dX6_meetState_75 ?_
          refine lv_topi (fun v1845 ev1845 => ?_)
          refine va_put (D := D) (ci := 1) (v := .int v1845) (ty := .int) (C := RX1) (T := TX1) (N := 10) hx hb hts in_X1 tyX1 tyX1_ok nmX1 hown hE.1 hP hD hS 0 rfl rfl 4 (by decide) (hts _ w_276) (fun _ h9 => h9) rfl (by decide +kernel) rfl rfl (Nat.le_of_ble_eq_true rfl) dX6_meetState_76 (fun H locs hP hD hS => ?_)
          replace hP : va_P D vwCl [(w, .inr (1, [.ref wa0, .ref wa1, .ref wa2, .int wn3, .int v1845, .int wn5, .ref wa6, .int wn7, .int wn8, .int wn9])), (wa0, .inl (K 1, 10240, .inl g1842)), (wa1, .inl (K 1, 10240, .inl g1843)), (wa2, .inl (K 1, 10240, .inl g1844))] H := hP
          replace hD : va_D A [(w, .inr (1, [.ref wa0, .ref wa1, .ref wa2, .int wn3, .int v1845, .int wn5, .ref wa6, .int wn7, .int wn8, .int wn9])), (wa0, .inl (K 1, 10240, .inl g1842)), (wa1, .inl (K 1, 10240, .inl g1843)), (wa2, .inl (K 1, 10240, .inl g1844))] := hD
          refine W.widen (k := 0) (n := 0) (by decide) (by decide) ?_
          have tv1845 : v1845.toInt = (wn4 : Int32).toInt + (1 : Int32).toInt := add_i ev1845 (by omega) (by omega)
          exact ch_vret hC hr hk hS dX6_meetState_79 ((fun k => [v1845].getD k 0, fun k => [g1842, g1843, g1844].getD k (fun _ => 0), fun k => [].getD k (fun _ => 0)) : ((Nat → Int32) × (Nat → Nat → Int32) × (Nat → Nat → Int64))) (show 0 ≤ (v1845 : Int32).toInt from by omega) (hP.sub [0, 1, 2, 3] rfl) (hD.sub [0, 1, 2, 3] (by decide) rfl)
        · replace c1841 := nlt_i c1841
          refine W.widen (k := 0) (n := 0) (by decide) (by decide) ?_
          exact ch_vret hC hr hk hS dX6_meetState_38 ((fun k => [wn4].getD k 0, fun k => [wf0, wf1, wf2].getD k (fun _ => 0), fun k => [].getD k (fun _ => 0)) : ((Nat → Int32) × (Nat → Nat → Int32) × (Nat → Nat → Int64))) (show 0 ≤ (wn4 : Int32).toInt from by omega) (hP.sub [0, 1, 2, 3] rfl) (hD.sub [0, 1, 2, 3] (by decide) rfl)
set_option maxRecDepth 40000 in
set_option maxHeartbeats 4000000 in
theorem c_X6_lengthTo_1 (l : Launch) (D : va_G) (K : Nat → ClassId) (w : Nat) (wa0 : Nat) (wa1 : Nat) (wa2 : Nat) (wa6 : Nat) (wn3 : Int32) (wn4 : Int32) (wn5 : Int32) (wn7 : Int32) (wn8 : Int32) (wn9 : Int32) (wf2 : Nat → Int32) (p0 : Int32) : Ro l D K yX6_lengthTo cX6_lengthTo 5 (some .int) 0 0 [.ref w, .int p0] [(w, .inr (1, [.ref wa0, .ref wa1, .ref wa2, .int wn3, .int wn4, .int wn5, .ref wa6, .int wn7, .int wn8, .int wn9])), (wa2, .inl (K 1, 10240, .inl wf2))] (fun r => ((0 ≤ r.toInt) ∧ (r.toInt ≤ 10240))) := by
  refine ro_of (by decide) (Nat.le_of_ble_eq_true rfl) ?_
  intro p e s m below meth c hC hr hk hE hP ls hl
  replace hC : CallFix p m c cX6_lengthTo 5 s [.ref w, .int p0].toArray wl RX6 := hC
  have hx := hC.1
  have hb := hC.2.1
  have hml := hC.2.2.1
  have hown := hC.2.2.2.1
  have hts := hC.2.2.2.2
  replace hl : lv_has ls 5 [(0, .ref w), (1, .int p0)] := hl
  have kc_0 : (0 : Int32).toInt = 0 := by decide
  have kc_1 : (1 : Int32).toInt = 1 := by decide
  have kc_10240 : (10240 : Int32).toInt = 10240 := by decide
  refine lv_iconst (v := 0) hx hb dX6_lengthTo_0 (by decide) ?_
  refine lv_istore_n (lv' := [(2, .int 0), (0, .ref w), (1, .int p0)]) hx hb dX6_lengthTo_1 rfl hl (by decide) rfl (fun ls hl => ?_)
  refine lv_iload_n hx hb dX6_lengthTo_2 rfl (lv_at hl 2 rfl) ?_
  refine lv_istore_n (lv' := [(3, .int p0), (2, .int 0), (0, .ref w), (1, .int p0)]) hx hb dX6_lengthTo_3 rfl hl (by decide) rfl (fun ls hl => ?_)
  refine lv_iconst (v := 0) hx hb dX6_lengthTo_4 (by decide) ?_
  refine lv_istore (lv' := [(4, .int 0), (3, .int p0), (2, .int 0), (0, .ref w), (1, .int p0)]) hx hb dX6_lengthTo_5 hl (by decide) rfl (fun ls hl => ?_)
  have hl' := hl; clear hl
  obtain ⟨i1856, i1857, i1858, hi_7, hq_7, hr_7, hl⟩ : ∃ (i1856 : Int32) (i1857 : Int32) (i1858 : Int32), ((0 : Int) ≤ i1856.toInt) ∧ (i1858.toInt = i1856.toInt) ∧ (i1856.toInt ≤ 10240) ∧ lv_has ls 5 [(4, .int i1856), (3, .int i1857), (2, .int i1858), (0, .ref w), (1, .int p0)] := ⟨_, _, _, by omega, by omega, by omega, hl'⟩
  clear hl'
  obtain ⟨n_7, hn_7⟩ : ∃ n : Nat, (10240 - i1856.toInt).toNat < n := ⟨_, Nat.lt_succ_self _⟩
  induction n_7 generalizing i1856 i1857 i1858 ls with
  | zero => exact absurd hn_7 (Nat.not_lt_zero _)
  | succ n_7 ih_7 =>
    refine lv_iload hx hb dX6_lengthTo_7 (lv_at hl 0 rfl) ?_
    refine lv_aload_n hx hb dX6_lengthTo_9 rfl (lv_at hl 3 rfl) ?_
    refine va_get (D := D) (ci := 1) (v := .ref wa2) (C := RX1) (T := TX1) (N := 10) hx hb hts in_X1 hown hE.1 hP 0 rfl rfl 2 (by decide) (hts _ w_278) (fun _ h9 => h9) rfl dX6_lengthTo_10 ?_
    refine va_alen (v := 10240) hx hb hE.1 hP 1 1 rfl rfl (show Int32.ofNat 10240 = 10240 by decide) dX6_lengthTo_13 ?_
    refine lv_icmp_ge (tgt := 48) hx hb dX6_lengthTo_14 (by decide) (fun c1859 => ?_) (fun c1859 => ?_)
    · replace c1859 := le_i c1859
      refine lv_iload_n hx hb dX6_lengthTo_48 rfl (lv_at hl 2 rfl) ?_
      exact ro_ret hC hr hk dX6_lengthTo_49 ⟨(by omega), (by omega)⟩
    · replace c1859 := nle_i c1859
      refine lv_iload_n hx hb dX6_lengthTo_17 rfl (lv_at hl 1 rfl) ?_
      refine lv_if_le (tgt := 48) hx hb dX6_lengthTo_18 (by decide) (fun c1860 => ?_) (fun c1860 => ?_)
      · replace c1860 := le_i c1860
        refine lv_iload_n hx hb dX6_lengthTo_48 rfl (lv_at hl 2 rfl) ?_
        exact ro_ret hC hr hk dX6_lengthTo_49 ⟨(by omega), (by omega)⟩
      · replace c1860 := nle_i c1860
        refine lv_iload_n hx hb dX6_lengthTo_21 rfl (lv_at hl 1 rfl) ?_
        refine lv_aload_n hx hb dX6_lengthTo_22 rfl (lv_at hl 3 rfl) ?_
        refine va_get (D := D) (ci := 1) (v := .ref wa2) (C := RX1) (T := TX1) (N := 10) hx hb hts in_X1 hown hE.1 hP 0 rfl rfl 2 (by decide) (hts _ w_278) (fun _ h9 => h9) rfl dX6_lengthTo_23 ?_
        refine va_alen (v := 10240) hx hb hE.1 hP 1 1 rfl rfl (show Int32.ofNat 10240 = 10240 by decide) dX6_lengthTo_26 ?_
        refine lv_icmp_ge (tgt := 48) hx hb dX6_lengthTo_27 (by decide) (fun c1861 => ?_) (fun c1861 => ?_)
        · replace c1861 := le_i c1861
          refine lv_iload_n hx hb dX6_lengthTo_48 rfl (lv_at hl 2 rfl) ?_
          exact ro_ret hC hr hk dX6_lengthTo_49 ⟨(by omega), (by omega)⟩
        · replace c1861 := nle_i c1861
          refine lv_aload_n hx hb dX6_lengthTo_30 rfl (lv_at hl 3 rfl) ?_
          refine va_get (D := D) (ci := 1) (v := .ref wa2) (C := RX1) (T := TX1) (N := 10) hx hb hts in_X1 hown hE.1 hP 0 rfl rfl 2 (by decide) (hts _ w_278) (fun _ h9 => h9) rfl dX6_lengthTo_31 ?_
          refine lv_iload_n hx hb dX6_lengthTo_34 rfl (lv_at hl 1 rfl) ?_
          refine va_iald hx hb hE.1 hP 1 1 rfl rfl (vp_in_iff.mpr (by omega)) dX6_lengthTo_35 ?_
          refine lv_topi (fun v1862 ev1862 => ?_)
          refine lv_iconst (v := 4) hx hb dX6_lengthTo_36 (by decide) ?_
          refine lv_idiv hx hb dX6_lengthTo_37 (by decide) ?_
          refine lv_topi (fun v1863 ev1863 => ?_)
          refine lv_istore_n (lv' := [(3, .int v1863), (4, .int i1856), (2, .int i1858), (0, .ref w), (1, .int p0)]) hx hb dX6_lengthTo_38 rfl hl (by decide) rfl (fun ls hl => ?_)
          obtain ⟨v1864, ev1864⟩ : ∃ z : Int32, z = i1858 + 1 := ⟨_, rfl⟩
          refine lv_iinc (v := v1864) (lv' := [(2, .int v1864), (3, .int v1863), (4, .int i1856), (0, .ref w), (1, .int p0)]) hx hb dX6_lengthTo_39 hl (k := 2) rfl (by rw [ev1864]; rfl) (by decide) rfl (fun ls hl => ?_)
          obtain ⟨v1865, ev1865⟩ : ∃ z : Int32, z = i1856 + 1 := ⟨_, rfl⟩
          refine lv_iinc (v := v1865) (lv' := [(4, .int v1865), (2, .int v1864), (3, .int v1863), (0, .ref w), (1, .int p0)]) hx hb dX6_lengthTo_42 hl (k := 2) rfl (by rw [ev1865]; rfl) (by decide) rfl (fun ls hl => ?_)
          refine lv_goto (tgt := 7) hx hb dX6_lengthTo_45 (by decide) ?_
          have tv1865 : v1865.toInt = (i1856 : Int32).toInt + (1 : Int32).toInt := add_i ev1865 (by omega) (by omega)
          have tv1863 := div_i (n := 4) ev1863 (by decide) (by decide)
          have tv1864 : v1864.toInt = (i1858 : Int32).toInt + (1 : Int32).toInt := add_i ev1864 (by omega) (by omega)
          exact ih_7 (i1856 := v1865) (i1857 := v1863) (i1858 := v1864) (hi_7 := by omega) (hq_7 := by omega) (hr_7 := by omega) (ls := ls) (hn_7 := by omega) (hl := lv_sub hl [0, 2, 1, 3, 4] rfl)
set_option maxRecDepth 40000 in
set_option maxHeartbeats 4000000 in
theorem c_X6_goalLength_1 (l : Launch) (D : va_G) (K : Nat → ClassId) (w : Nat) (wa0 : Nat) (wa1 : Nat) (wa2 : Nat) (wa6 : Nat) (wn3 : Int32) (wn4 : Int32) (wn5 : Int32) (wn7 : Int32) (wn8 : Int32) (wn9 : Int32) (wf2 : Nat → Int32) : Ro l D K yX6_goalLength cX6_goalLength 1 (some .int) 1 24 [.ref w] [(w, .inr (1, [.ref wa0, .ref wa1, .ref wa2, .int wn3, .int wn4, .int wn5, .ref wa6, .int wn7, .int wn8, .int wn9])), (wa2, .inl (K 1, 10240, .inl wf2))] (fun r => (r = (-1)) ∨ ((0 ≤ r.toInt) ∧ (r.toInt ≤ 10240))) := by
  refine ro_of (by decide) (Nat.le_of_ble_eq_true rfl) ?_
  intro p e s m below meth c hC hr hk hE hP ls hl
  replace hC : CallFix p m c cX6_goalLength 1 s [.ref w].toArray wl RX6 := hC
  have hx := hC.1
  have hb := hC.2.1
  have hml := hC.2.2.1
  have hown := hC.2.2.2.1
  have hts := hC.2.2.2.2
  replace hl : lv_has ls 1 [(0, .ref w)] := hl
  have kc_m1 : (-1 : Int32).toInt = -1 := by decide
  refine lv_aload_n hx hb dX6_goalLength_0 rfl (lv_at hl 0 rfl) ?_
  refine va_get (D := D) (ci := 1) (v := .int wn5) (C := RX1) (T := TX1) (N := 10) hx hb hts in_X1 hown hE.1 hP 0 rfl rfl 5 (by decide) (hts _ w_279) (fun _ h9 => h9) rfl dX6_goalLength_1 ?_
  refine lv_iconst (v := (-1)) hx hb dX6_goalLength_4 (by decide) ?_
  refine lv_icmp_ne (tgt := 12) hx hb dX6_goalLength_5 (by decide) (fun c1866 => ?_) (fun c1866 => ?_)
  · replace c1866 := ne_i c1866
    refine lv_aload_n hx hb dX6_goalLength_12 rfl (lv_at hl 0 rfl) ?_
    refine lv_aload_n hx hb dX6_goalLength_13 rfl (lv_at hl 0 rfl) ?_
    refine va_get (D := D) (ci := 1) (v := .int wn5) (C := RX1) (T := TX1) (N := 10) hx hb hts in_X1 hown hE.1 hP 0 rfl rfl 5 (by decide) (hts _ w_279) (fun _ h9 => h9) rfl dX6_goalLength_14 ?_
    refine ro_U (As := [.int wn5]) (rest := []) hC hE kU_X6_49_X6_lengthTo (decl_of hC kU_X6_49_X6_lengthTo rfl) (c_X6_lengthTo_1 l D K w wa0 wa1 wa2 wa6 wn3 wn4 wn5 wn7 wn8 wn9 wf2 wn5) (hP.sub (ws' := [(w, .inr (1, [.ref wa0, .ref wa1, .ref wa2, .int wn3, .int wn4, .int wn5, .ref wa6, .int wn7, .int wn8, .int wn9])), (wa2, .inl (K 1, 10240, .inl wf2))]) [0, 1] rfl) 0 1 rfl rfl (hts _ w_285) rfl hl.1 rfl (Nat.le_of_ble_eq_true rfl) (by decide) (by decide) dX6_goalLength_17 (fun r1869 hq => ?_)
    obtain ⟨h1867, h1868⟩ := hq
    exact ro_ret hC hr hk dX6_goalLength_20 (Or.inr ⟨(by omega), (by omega)⟩)
  · replace c1866 := eq_i c1866
    refine lv_iconst (v := (-1)) hx hb dX6_goalLength_8 (by decide) ?_
    refine lv_goto (tgt := 20) hx hb dX6_goalLength_9 (by decide) ?_
    exact ro_ret hC hr hk dX6_goalLength_20 (Or.inl rfl)
set_option maxRecDepth 40000 in
set_option maxHeartbeats 4000000 in
theorem c_X6_goalWind_1 (l : Launch) (D : va_G) (K : Nat → ClassId) (w : Nat) (wa0 : Nat) (wa1 : Nat) (wa2 : Nat) (wa6 : Nat) (wn3 : Int32) (wn4 : Int32) (wn5 : Int32) (wn7 : Int32) (wn8 : Int32) (wn9 : Int32) (wf2 : Nat → Int32) (p0 : Int32) : Ro l D K yX6_goalWind cX6_goalWind 5 (some .int) 2 44 [.ref w, .int p0] [(w, .inr (1, [.ref wa0, .ref wa1, .ref wa2, .int wn3, .int wn4, .int wn5, .ref wa6, .int wn7, .int wn8, .int wn9])), (wa2, .inl (K 1, 10240, .inl wf2))] (fun _ => True) := by
  refine ro_of (by decide) (Nat.le_of_ble_eq_true rfl) ?_
  intro p e s m below meth c hC hr hk hE hP ls hl
  replace hC : CallFix p m c cX6_goalWind 5 s [.ref w, .int p0].toArray wl RX6 := hC
  have hx := hC.1
  have hb := hC.2.1
  have hml := hC.2.2.1
  have hown := hC.2.2.2.1
  have hts := hC.2.2.2.2
  replace hl : lv_has ls 5 [(0, .ref w), (1, .int p0)] := hl
  have kc_m2 : (-2 : Int32).toInt = -2 := by decide
  have kc_m1 : (-1 : Int32).toInt = -1 := by decide
  have kc_0 : (0 : Int32).toInt = 0 := by decide
  have kc_1 : (1 : Int32).toInt = 1 := by decide
  have kc_10240 : (10240 : Int32).toInt = 10240 := by decide
  refine lv_aload_n hx hb dX6_goalWind_0 rfl (lv_at hl 0 rfl) ?_
  refine ro_U (As := []) (rest := []) hC hE kU_X6_53_X6_goalLength (decl_of hC kU_X6_53_X6_goalLength rfl) (c_X6_goalLength_1 l D K w wa0 wa1 wa2 wa6 wn3 wn4 wn5 wn7 wn8 wn9 wf2) (hP.sub (ws' := [(w, .inr (1, [.ref wa0, .ref wa1, .ref wa2, .int wn3, .int wn4, .int wn5, .ref wa6, .int wn7, .int wn8, .int wn9])), (wa2, .inl (K 1, 10240, .inl wf2))]) [0, 1] rfl) 0 1 rfl rfl (hts _ w_290) rfl hl.1 rfl (Nat.le_of_ble_eq_true rfl) (by decide) (by decide) dX6_goalWind_1 (fun r1872 hq => ?_)
  rcases hq with rfl | ⟨h1870, h1871⟩
  · refine lv_istore_n (lv' := [(2, .int (-1)), (0, .ref w), (1, .int p0)]) hx hb dX6_goalWind_4 rfl hl (by decide) rfl (fun ls hl => ?_)
    refine lv_iload_n hx hb dX6_goalWind_5 rfl (lv_at hl 2 rfl) ?_
    refine lv_if_lt (tgt := 14) hx hb dX6_goalWind_6 (by decide) (fun c1873 => ?_) (fun c1873 => ?_)
    · replace c1873 := lt_i c1873
      refine lv_iconst (v := (-1)) hx hb dX6_goalWind_14 (by decide) ?_
      exact ro_ret hC hr hk dX6_goalWind_15 trivial
    · replace c1873 := nlt_i c1873
      refine lv_iload_n hx hb dX6_goalWind_9 rfl (lv_at hl 2 rfl) ?_
      refine lv_iload_n hx hb dX6_goalWind_10 rfl (lv_at hl 0 rfl) ?_
      refine lv_icmp_lt (tgt := 16) hx hb dX6_goalWind_11 (by decide) (fun c1874 => ?_) (fun c1874 => ?_)
      · replace c1874 := lt_i c1874
        refine lv_aload_n hx hb dX6_goalWind_16 rfl (lv_at hl 1 rfl) ?_
        refine va_get (D := D) (ci := 1) (v := .int wn5) (C := RX1) (T := TX1) (N := 10) hx hb hts in_X1 hown hE.1 hP 0 rfl rfl 5 (by decide) (hts _ w_279) (fun _ h9 => h9) rfl dX6_goalWind_17 ?_
        refine lv_istore_n (lv' := [(3, .int wn5), (2, .int (-1)), (0, .ref w), (1, .int p0)]) hx hb dX6_goalWind_20 rfl hl (by decide) rfl (fun ls hl => ?_)
        refine lv_iload_n hx hb dX6_goalWind_21 rfl (lv_at hl 1 rfl) ?_
        refine lv_iconst (v := 1) hx hb dX6_goalWind_22 (by decide) ?_
        refine lv_isub hx hb dX6_goalWind_23 ?_
        refine tc (y := (-2)) (by decide) ?_
        refine lv_istore (lv' := [(4, .int (-2)), (3, .int wn5), (2, .int (-1)), (0, .ref w), (1, .int p0)]) hx hb dX6_goalWind_24 hl (by decide) rfl (fun ls hl => ?_)
        have hl' := hl; clear hl
        obtain ⟨i1883, i1884, hw_26, hl⟩ : ∃ (i1883 : Int32) (i1884 : Int32), (i1883.toInt ≤ 10240) ∧ lv_has ls 5 [(4, .int i1883), (3, .int i1884), (2, .int (-1)), (0, .ref w), (1, .int p0)] := ⟨_, _, by omega, hl'⟩
        clear hl'
        obtain ⟨n_26, hn_26⟩ : ∃ n : Nat, (i1883.toInt - p0.toInt).toNat < n := ⟨_, Nat.lt_succ_self _⟩
        induction n_26 generalizing i1883 i1884 ls with
        | zero => exact absurd hn_26 (Nat.not_lt_zero _)
        | succ n_26 ih_26 =>
          refine lv_iload hx hb dX6_goalWind_26 (lv_at hl 0 rfl) ?_
          refine lv_iload_n hx hb dX6_goalWind_28 rfl (lv_at hl 4 rfl) ?_
          refine lv_icmp_le (tgt := 60) hx hb dX6_goalWind_29 (by decide) (fun c1885 => ?_) (fun c1885 => ?_)
          · replace c1885 := le_i c1885
            refine lv_iload_n hx hb dX6_goalWind_60 rfl (lv_at hl 1 rfl) ?_
            refine lv_if_le (tgt := 84) hx hb dX6_goalWind_61 (by decide) (fun c1886 => ?_) (fun c1886 => ?_)
            · replace c1886 := le_i c1886
              refine lv_iconst (v := (-1)) hx hb dX6_goalWind_84 (by decide) ?_
              exact ro_ret hC hr hk dX6_goalWind_85 trivial
            · replace c1886 := nle_i c1886
              refine lv_iload_n hx hb dX6_goalWind_64 rfl (lv_at hl 1 rfl) ?_
              refine lv_aload_n hx hb dX6_goalWind_65 rfl (lv_at hl 3 rfl) ?_
              refine va_get (D := D) (ci := 1) (v := .ref wa2) (C := RX1) (T := TX1) (N := 10) hx hb hts in_X1 hown hE.1 hP 0 rfl rfl 2 (by decide) (hts _ w_278) (fun _ h9 => h9) rfl dX6_goalWind_66 ?_
              refine va_alen (v := 10240) hx hb hE.1 hP 1 1 rfl rfl (show Int32.ofNat 10240 = 10240 by decide) dX6_goalWind_69 ?_
              refine lv_icmp_ge (tgt := 84) hx hb dX6_goalWind_70 (by decide) (fun c1887 => ?_) (fun c1887 => ?_)
              · replace c1887 := le_i c1887
                refine lv_iconst (v := (-1)) hx hb dX6_goalWind_84 (by decide) ?_
                exact ro_ret hC hr hk dX6_goalWind_85 trivial
              · replace c1887 := nle_i c1887
                refine lv_aload_n hx hb dX6_goalWind_73 rfl (lv_at hl 3 rfl) ?_
                refine va_get (D := D) (ci := 1) (v := .ref wa2) (C := RX1) (T := TX1) (N := 10) hx hb hts in_X1 hown hE.1 hP 0 rfl rfl 2 (by decide) (hts _ w_278) (fun _ h9 => h9) rfl dX6_goalWind_74 ?_
                refine lv_iload_n hx hb dX6_goalWind_77 rfl (lv_at hl 1 rfl) ?_
                refine va_iald hx hb hE.1 hP 1 1 rfl rfl (vp_in_iff.mpr (by omega)) dX6_goalWind_78 ?_
                refine lv_topi (fun v1888 ev1888 => ?_)
                refine lv_iconst (v := 4) hx hb dX6_goalWind_79 (by decide) ?_
                refine lv_irem hx hb dX6_goalWind_80 (by decide) ?_
                refine lv_topi (fun v1889 ev1889 => ?_)
                refine lv_goto (tgt := 85) hx hb dX6_goalWind_81 (by decide) ?_
                exact ro_ret hC hr hk dX6_goalWind_85 trivial
          · replace c1885 := nle_i c1885
            refine lv_iload_n hx hb dX6_goalWind_32 rfl (lv_at hl 1 rfl) ?_
            refine lv_if_le (tgt := 60) hx hb dX6_goalWind_33 (by decide) (fun c1890 => ?_) (fun c1890 => ?_)
            · replace c1890 := le_i c1890
              refine lv_iload_n hx hb dX6_goalWind_60 rfl (lv_at hl 1 rfl) ?_
              refine lv_if_le (tgt := 84) hx hb dX6_goalWind_61 (by decide) (fun c1891 => ?_) (fun c1891 => ?_)
              · replace c1891 := le_i c1891
                refine lv_iconst (v := (-1)) hx hb dX6_goalWind_84 (by decide) ?_
                exact ro_ret hC hr hk dX6_goalWind_85 trivial
              · replace c1891 := nle_i c1891
                refine lv_iload_n hx hb dX6_goalWind_64 rfl (lv_at hl 1 rfl) ?_
                refine lv_aload_n hx hb dX6_goalWind_65 rfl (lv_at hl 3 rfl) ?_
                refine va_get (D := D) (ci := 1) (v := .ref wa2) (C := RX1) (T := TX1) (N := 10) hx hb hts in_X1 hown hE.1 hP 0 rfl rfl 2 (by decide) (hts _ w_278) (fun _ h9 => h9) rfl dX6_goalWind_66 ?_
                refine va_alen (v := 10240) hx hb hE.1 hP 1 1 rfl rfl (show Int32.ofNat 10240 = 10240 by decide) dX6_goalWind_69 ?_
                refine lv_icmp_ge (tgt := 84) hx hb dX6_goalWind_70 (by decide) (fun c1892 => ?_) (fun c1892 => ?_)
                · replace c1892 := le_i c1892
                  refine lv_iconst (v := (-1)) hx hb dX6_goalWind_84 (by decide) ?_
                  exact ro_ret hC hr hk dX6_goalWind_85 trivial
                · replace c1892 := nle_i c1892
                  refine lv_aload_n hx hb dX6_goalWind_73 rfl (lv_at hl 3 rfl) ?_
                  refine va_get (D := D) (ci := 1) (v := .ref wa2) (C := RX1) (T := TX1) (N := 10) hx hb hts in_X1 hown hE.1 hP 0 rfl rfl 2 (by decide) (hts _ w_278) (fun _ h9 => h9) rfl dX6_goalWind_74 ?_
                  refine lv_iload_n hx hb dX6_goalWind_77 rfl (lv_at hl 1 rfl) ?_
                  refine va_iald hx hb hE.1 hP 1 1 rfl rfl (vp_in_iff.mpr (by omega)) dX6_goalWind_78 ?_
                  refine lv_topi (fun v1893 ev1893 => ?_)
                  refine lv_iconst (v := 4) hx hb dX6_goalWind_79 (by decide) ?_
                  refine lv_irem hx hb dX6_goalWind_80 (by decide) ?_
                  refine lv_topi (fun v1894 ev1894 => ?_)
                  refine lv_goto (tgt := 85) hx hb dX6_goalWind_81 (by decide) ?_
                  exact ro_ret hC hr hk dX6_goalWind_85 trivial
            · replace c1890 := nle_i c1890
              refine lv_iload_n hx hb dX6_goalWind_36 rfl (lv_at hl 1 rfl) ?_
              refine lv_aload_n hx hb dX6_goalWind_37 rfl (lv_at hl 3 rfl) ?_
              refine va_get (D := D) (ci := 1) (v := .ref wa2) (C := RX1) (T := TX1) (N := 10) hx hb hts in_X1 hown hE.1 hP 0 rfl rfl 2 (by decide) (hts _ w_278) (fun _ h9 => h9) rfl dX6_goalWind_38 ?_
              refine va_alen (v := 10240) hx hb hE.1 hP 1 1 rfl rfl (show Int32.ofNat 10240 = 10240 by decide) dX6_goalWind_41 ?_
              refine lv_icmp_ge (tgt := 60) hx hb dX6_goalWind_42 (by decide) (fun c1895 => ?_) (fun c1895 => ?_)
              · replace c1895 := le_i c1895
                refine lv_iload_n hx hb dX6_goalWind_60 rfl (lv_at hl 1 rfl) ?_
                refine lv_if_le (tgt := 84) hx hb dX6_goalWind_61 (by decide) (fun c1896 => ?_) (fun c1896 => ?_)
                · replace c1896 := le_i c1896
                  refine lv_iconst (v := (-1)) hx hb dX6_goalWind_84 (by decide) ?_
                  exact ro_ret hC hr hk dX6_goalWind_85 trivial
                · replace c1896 := nle_i c1896
                  refine lv_iload_n hx hb dX6_goalWind_64 rfl (lv_at hl 1 rfl) ?_
                  refine lv_aload_n hx hb dX6_goalWind_65 rfl (lv_at hl 3 rfl) ?_
                  refine va_get (D := D) (ci := 1) (v := .ref wa2) (C := RX1) (T := TX1) (N := 10) hx hb hts in_X1 hown hE.1 hP 0 rfl rfl 2 (by decide) (hts _ w_278) (fun _ h9 => h9) rfl dX6_goalWind_66 ?_
                  refine va_alen (v := 10240) hx hb hE.1 hP 1 1 rfl rfl (show Int32.ofNat 10240 = 10240 by decide) dX6_goalWind_69 ?_
                  refine lv_icmp_ge (tgt := 84) hx hb dX6_goalWind_70 (by decide) (fun c1897 => ?_) (fun c1897 => ?_)
                  · replace c1897 := le_i c1897
                    refine lv_iconst (v := (-1)) hx hb dX6_goalWind_84 (by decide) ?_
                    exact ro_ret hC hr hk dX6_goalWind_85 trivial
                  · replace c1897 := nle_i c1897
                    refine lv_aload_n hx hb dX6_goalWind_73 rfl (lv_at hl 3 rfl) ?_
                    refine va_get (D := D) (ci := 1) (v := .ref wa2) (C := RX1) (T := TX1) (N := 10) hx hb hts in_X1 hown hE.1 hP 0 rfl rfl 2 (by decide) (hts _ w_278) (fun _ h9 => h9) rfl dX6_goalWind_74 ?_
                    refine lv_iload_n hx hb dX6_goalWind_77 rfl (lv_at hl 1 rfl) ?_
                    refine va_iald hx hb hE.1 hP 1 1 rfl rfl (vp_in_iff.mpr (by omega)) dX6_goalWind_78 ?_
                    refine lv_topi (fun v1898 ev1898 => ?_)
                    refine lv_iconst (v := 4) hx hb dX6_goalWind_79 (by decide) ?_
                    refine lv_irem hx hb dX6_goalWind_80 (by decide) ?_
                    refine lv_topi (fun v1899 ev1899 => ?_)
                    refine lv_goto (tgt := 85) hx hb dX6_goalWind_81 (by decide) ?_
                    exact ro_ret hC hr hk dX6_goalWind_85 trivial
              · replace c1895 := nle_i c1895
                refine lv_aload_n hx hb dX6_goalWind_45 rfl (lv_at hl 3 rfl) ?_
                refine va_get (D := D) (ci := 1) (v := .ref wa2) (C := RX1) (T := TX1) (N := 10) hx hb hts in_X1 hown hE.1 hP 0 rfl rfl 2 (by decide) (hts _ w_278) (fun _ h9 => h9) rfl dX6_goalWind_46 ?_
                refine lv_iload_n hx hb dX6_goalWind_49 rfl (lv_at hl 1 rfl) ?_
                refine va_iald hx hb hE.1 hP 1 1 rfl rfl (vp_in_iff.mpr (by omega)) dX6_goalWind_50 ?_
                refine lv_topi (fun v1900 ev1900 => ?_)
                refine lv_iconst (v := 4) hx hb dX6_goalWind_51 (by decide) ?_
                refine lv_idiv hx hb dX6_goalWind_52 (by decide) ?_
                refine lv_topi (fun v1901 ev1901 => ?_)
                refine lv_istore_n (lv' := [(3, .int v1901), (4, .int i1883), (2, .int (-1)), (0, .ref w), (1, .int p0)]) hx hb dX6_goalWind_53 rfl hl (by decide) rfl (fun ls hl => ?_)
                obtain ⟨v1902, ev1902⟩ : ∃ z : Int32, z = i1883 + (-1) := ⟨_, rfl⟩
                refine lv_iinc (v := v1902) (lv' := [(4, .int v1902), (3, .int v1901), (2, .int (-1)), (0, .ref w), (1, .int p0)]) hx hb dX6_goalWind_54 hl (k := 1) rfl (by rw [ev1902]; rfl) (by decide) rfl (fun ls hl => ?_)
                refine lv_goto (tgt := 26) hx hb dX6_goalWind_57 (by decide) ?_
                have tv1902 : v1902.toInt = (i1883 : Int32).toInt + ((-1) : Int32).toInt := add_i ev1902 (by omega) (by omega)
                have tv1901 := div_i (n := 4) ev1901 (by decide) (by decide)
                exact ih_26 (i1883 := v1902) (i1884 := v1901) (hw_26 := by omega) (ls := ls) (hn_26 := by omega) (hl := lv_sub hl [0, 1, 2, 3, 4] rfl)
      · replace c1874 := nlt_i c1874
        refine lv_iconst (v := (-1)) hx hb dX6_goalWind_14 (by decide) ?_
        exact ro_ret hC hr hk dX6_goalWind_15 trivial
  · refine lv_istore_n (lv' := [(2, .int r1872), (0, .ref w), (1, .int p0)]) hx hb dX6_goalWind_4 rfl hl (by decide) rfl (fun ls hl => ?_)
    refine lv_iload_n hx hb dX6_goalWind_5 rfl (lv_at hl 2 rfl) ?_
    refine lv_if_lt (tgt := 14) hx hb dX6_goalWind_6 (by decide) (fun c1903 => ?_) (fun c1903 => ?_)
    · replace c1903 := lt_i c1903
      refine lv_iconst (v := (-1)) hx hb dX6_goalWind_14 (by decide) ?_
      exact ro_ret hC hr hk dX6_goalWind_15 trivial
    · replace c1903 := nlt_i c1903
      refine lv_iload_n hx hb dX6_goalWind_9 rfl (lv_at hl 2 rfl) ?_
      refine lv_iload_n hx hb dX6_goalWind_10 rfl (lv_at hl 0 rfl) ?_
      refine lv_icmp_lt (tgt := 16) hx hb dX6_goalWind_11 (by decide) (fun c1904 => ?_) (fun c1904 => ?_)
      · replace c1904 := lt_i c1904
        refine lv_aload_n hx hb dX6_goalWind_16 rfl (lv_at hl 1 rfl) ?_
        refine va_get (D := D) (ci := 1) (v := .int wn5) (C := RX1) (T := TX1) (N := 10) hx hb hts in_X1 hown hE.1 hP 0 rfl rfl 5 (by decide) (hts _ w_279) (fun _ h9 => h9) rfl dX6_goalWind_17 ?_
        refine lv_istore_n (lv' := [(3, .int wn5), (2, .int r1872), (0, .ref w), (1, .int p0)]) hx hb dX6_goalWind_20 rfl hl (by decide) rfl (fun ls hl => ?_)
        refine lv_iload_n hx hb dX6_goalWind_21 rfl (lv_at hl 1 rfl) ?_
        refine lv_iconst (v := 1) hx hb dX6_goalWind_22 (by decide) ?_
        refine lv_isub hx hb dX6_goalWind_23 ?_
        refine lv_topi (fun v1905 ev1905 => ?_)
        refine lv_istore (lv' := [(4, .int v1905), (3, .int wn5), (2, .int r1872), (0, .ref w), (1, .int p0)]) hx hb dX6_goalWind_24 hl (by decide) rfl (fun ls hl => ?_)
        have tv1905 : v1905.toInt = (r1872 : Int32).toInt - (1 : Int32).toInt := sub_i ev1905 (by omega) (by omega)
        have hl' := hl; clear hl
        obtain ⟨i1914, i1915, hw_26, hl⟩ : ∃ (i1914 : Int32) (i1915 : Int32), (i1914.toInt ≤ 10240) ∧ lv_has ls 5 [(4, .int i1914), (3, .int i1915), (2, .int r1872), (0, .ref w), (1, .int p0)] := ⟨_, _, by omega, hl'⟩
        clear hl'
        obtain ⟨n_26, hn_26⟩ : ∃ n : Nat, (i1914.toInt - p0.toInt).toNat < n := ⟨_, Nat.lt_succ_self _⟩
        induction n_26 generalizing i1914 i1915 ls with
        | zero => exact absurd hn_26 (Nat.not_lt_zero _)
        | succ n_26 ih_26 =>
          refine lv_iload hx hb dX6_goalWind_26 (lv_at hl 0 rfl) ?_
          refine lv_iload_n hx hb dX6_goalWind_28 rfl (lv_at hl 4 rfl) ?_
          refine lv_icmp_le (tgt := 60) hx hb dX6_goalWind_29 (by decide) (fun c1916 => ?_) (fun c1916 => ?_)
          · replace c1916 := le_i c1916
            refine lv_iload_n hx hb dX6_goalWind_60 rfl (lv_at hl 1 rfl) ?_
            refine lv_if_le (tgt := 84) hx hb dX6_goalWind_61 (by decide) (fun c1917 => ?_) (fun c1917 => ?_)
            · replace c1917 := le_i c1917
              refine lv_iconst (v := (-1)) hx hb dX6_goalWind_84 (by decide) ?_
              exact ro_ret hC hr hk dX6_goalWind_85 trivial
            · replace c1917 := nle_i c1917
              refine lv_iload_n hx hb dX6_goalWind_64 rfl (lv_at hl 1 rfl) ?_
              refine lv_aload_n hx hb dX6_goalWind_65 rfl (lv_at hl 3 rfl) ?_
              refine va_get (D := D) (ci := 1) (v := .ref wa2) (C := RX1) (T := TX1) (N := 10) hx hb hts in_X1 hown hE.1 hP 0 rfl rfl 2 (by decide) (hts _ w_278) (fun _ h9 => h9) rfl dX6_goalWind_66 ?_
              refine va_alen (v := 10240) hx hb hE.1 hP 1 1 rfl rfl (show Int32.ofNat 10240 = 10240 by decide) dX6_goalWind_69 ?_
              refine lv_icmp_ge (tgt := 84) hx hb dX6_goalWind_70 (by decide) (fun c1918 => ?_) (fun c1918 => ?_)
              · replace c1918 := le_i c1918
                refine lv_iconst (v := (-1)) hx hb dX6_goalWind_84 (by decide) ?_
                exact ro_ret hC hr hk dX6_goalWind_85 trivial
              · replace c1918 := nle_i c1918
                refine lv_aload_n hx hb dX6_goalWind_73 rfl (lv_at hl 3 rfl) ?_
                refine va_get (D := D) (ci := 1) (v := .ref wa2) (C := RX1) (T := TX1) (N := 10) hx hb hts in_X1 hown hE.1 hP 0 rfl rfl 2 (by decide) (hts _ w_278) (fun _ h9 => h9) rfl dX6_goalWind_74 ?_
                refine lv_iload_n hx hb dX6_goalWind_77 rfl (lv_at hl 1 rfl) ?_
                refine va_iald hx hb hE.1 hP 1 1 rfl rfl (vp_in_iff.mpr (by omega)) dX6_goalWind_78 ?_
                refine lv_topi (fun v1919 ev1919 => ?_)
                refine lv_iconst (v := 4) hx hb dX6_goalWind_79 (by decide) ?_
                refine lv_irem hx hb dX6_goalWind_80 (by decide) ?_
                refine lv_topi (fun v1920 ev1920 => ?_)
                refine lv_goto (tgt := 85) hx hb dX6_goalWind_81 (by decide) ?_
                exact ro_ret hC hr hk dX6_goalWind_85 trivial
          · replace c1916 := nle_i c1916
            refine lv_iload_n hx hb dX6_goalWind_32 rfl (lv_at hl 1 rfl) ?_
            refine lv_if_le (tgt := 60) hx hb dX6_goalWind_33 (by decide) (fun c1921 => ?_) (fun c1921 => ?_)
            · replace c1921 := le_i c1921
              refine lv_iload_n hx hb dX6_goalWind_60 rfl (lv_at hl 1 rfl) ?_
              refine lv_if_le (tgt := 84) hx hb dX6_goalWind_61 (by decide) (fun c1922 => ?_) (fun c1922 => ?_)
              · replace c1922 := le_i c1922
                refine lv_iconst (v := (-1)) hx hb dX6_goalWind_84 (by decide) ?_
                exact ro_ret hC hr hk dX6_goalWind_85 trivial
              · replace c1922 := nle_i c1922
                refine lv_iload_n hx hb dX6_goalWind_64 rfl (lv_at hl 1 rfl) ?_
                refine lv_aload_n hx hb dX6_goalWind_65 rfl (lv_at hl 3 rfl) ?_
                refine va_get (D := D) (ci := 1) (v := .ref wa2) (C := RX1) (T := TX1) (N := 10) hx hb hts in_X1 hown hE.1 hP 0 rfl rfl 2 (by decide) (hts _ w_278) (fun _ h9 => h9) rfl dX6_goalWind_66 ?_
                refine va_alen (v := 10240) hx hb hE.1 hP 1 1 rfl rfl (show Int32.ofNat 10240 = 10240 by decide) dX6_goalWind_69 ?_
                refine lv_icmp_ge (tgt := 84) hx hb dX6_goalWind_70 (by decide) (fun c1923 => ?_) (fun c1923 => ?_)
                · replace c1923 := le_i c1923
                  refine lv_iconst (v := (-1)) hx hb dX6_goalWind_84 (by decide) ?_
                  exact ro_ret hC hr hk dX6_goalWind_85 trivial
                · replace c1923 := nle_i c1923
                  refine lv_aload_n hx hb dX6_goalWind_73 rfl (lv_at hl 3 rfl) ?_
                  refine va_get (D := D) (ci := 1) (v := .ref wa2) (C := RX1) (T := TX1) (N := 10) hx hb hts in_X1 hown hE.1 hP 0 rfl rfl 2 (by decide) (hts _ w_278) (fun _ h9 => h9) rfl dX6_goalWind_74 ?_
                  refine lv_iload_n hx hb dX6_goalWind_77 rfl (lv_at hl 1 rfl) ?_
                  refine va_iald hx hb hE.1 hP 1 1 rfl rfl (vp_in_iff.mpr (by omega)) dX6_goalWind_78 ?_
                  refine lv_topi (fun v1924 ev1924 => ?_)
                  refine lv_iconst (v := 4) hx hb dX6_goalWind_79 (by decide) ?_
                  refine lv_irem hx hb dX6_goalWind_80 (by decide) ?_
                  refine lv_topi (fun v1925 ev1925 => ?_)
                  refine lv_goto (tgt := 85) hx hb dX6_goalWind_81 (by decide) ?_
                  exact ro_ret hC hr hk dX6_goalWind_85 trivial
            · replace c1921 := nle_i c1921
              refine lv_iload_n hx hb dX6_goalWind_36 rfl (lv_at hl 1 rfl) ?_
              refine lv_aload_n hx hb dX6_goalWind_37 rfl (lv_at hl 3 rfl) ?_
              refine va_get (D := D) (ci := 1) (v := .ref wa2) (C := RX1) (T := TX1) (N := 10) hx hb hts in_X1 hown hE.1 hP 0 rfl rfl 2 (by decide) (hts _ w_278) (fun _ h9 => h9) rfl dX6_goalWind_38 ?_
              refine va_alen (v := 10240) hx hb hE.1 hP 1 1 rfl rfl (show Int32.ofNat 10240 = 10240 by decide) dX6_goalWind_41 ?_
              refine lv_icmp_ge (tgt := 60) hx hb dX6_goalWind_42 (by decide) (fun c1926 => ?_) (fun c1926 => ?_)
              · replace c1926 := le_i c1926
                refine lv_iload_n hx hb dX6_goalWind_60 rfl (lv_at hl 1 rfl) ?_
                refine lv_if_le (tgt := 84) hx hb dX6_goalWind_61 (by decide) (fun c1927 => ?_) (fun c1927 => ?_)
                · replace c1927 := le_i c1927
                  refine lv_iconst (v := (-1)) hx hb dX6_goalWind_84 (by decide) ?_
                  exact ro_ret hC hr hk dX6_goalWind_85 trivial
                · replace c1927 := nle_i c1927
                  refine lv_iload_n hx hb dX6_goalWind_64 rfl (lv_at hl 1 rfl) ?_
                  refine lv_aload_n hx hb dX6_goalWind_65 rfl (lv_at hl 3 rfl) ?_
                  refine va_get (D := D) (ci := 1) (v := .ref wa2) (C := RX1) (T := TX1) (N := 10) hx hb hts in_X1 hown hE.1 hP 0 rfl rfl 2 (by decide) (hts _ w_278) (fun _ h9 => h9) rfl dX6_goalWind_66 ?_
                  refine va_alen (v := 10240) hx hb hE.1 hP 1 1 rfl rfl (show Int32.ofNat 10240 = 10240 by decide) dX6_goalWind_69 ?_
                  refine lv_icmp_ge (tgt := 84) hx hb dX6_goalWind_70 (by decide) (fun c1928 => ?_) (fun c1928 => ?_)
                  · replace c1928 := le_i c1928
                    refine lv_iconst (v := (-1)) hx hb dX6_goalWind_84 (by decide) ?_
                    exact ro_ret hC hr hk dX6_goalWind_85 trivial
                  · replace c1928 := nle_i c1928
                    refine lv_aload_n hx hb dX6_goalWind_73 rfl (lv_at hl 3 rfl) ?_
                    refine va_get (D := D) (ci := 1) (v := .ref wa2) (C := RX1) (T := TX1) (N := 10) hx hb hts in_X1 hown hE.1 hP 0 rfl rfl 2 (by decide) (hts _ w_278) (fun _ h9 => h9) rfl dX6_goalWind_74 ?_
                    refine lv_iload_n hx hb dX6_goalWind_77 rfl (lv_at hl 1 rfl) ?_
                    refine va_iald hx hb hE.1 hP 1 1 rfl rfl (vp_in_iff.mpr (by omega)) dX6_goalWind_78 ?_
                    refine lv_topi (fun v1929 ev1929 => ?_)
                    refine lv_iconst (v := 4) hx hb dX6_goalWind_79 (by decide) ?_
                    refine lv_irem hx hb dX6_goalWind_80 (by decide) ?_
                    refine lv_topi (fun v1930 ev1930 => ?_)
                    refine lv_goto (tgt := 85) hx hb dX6_goalWind_81 (by decide) ?_
                    exact ro_ret hC hr hk dX6_goalWind_85 trivial
              · replace c1926 := nle_i c1926
                refine lv_aload_n hx hb dX6_goalWind_45 rfl (lv_at hl 3 rfl) ?_
                refine va_get (D := D) (ci := 1) (v := .ref wa2) (C := RX1) (T := TX1) (N := 10) hx hb hts in_X1 hown hE.1 hP 0 rfl rfl 2 (by decide) (hts _ w_278) (fun _ h9 => h9) rfl dX6_goalWind_46 ?_
                refine lv_iload_n hx hb dX6_goalWind_49 rfl (lv_at hl 1 rfl) ?_
                refine va_iald hx hb hE.1 hP 1 1 rfl rfl (vp_in_iff.mpr (by omega)) dX6_goalWind_50 ?_
                refine lv_topi (fun v1931 ev1931 => ?_)
                refine lv_iconst (v := 4) hx hb dX6_goalWind_51 (by decide) ?_
                refine lv_idiv hx hb dX6_goalWind_52 (by decide) ?_
                refine lv_topi (fun v1932 ev1932 => ?_)
                refine lv_istore_n (lv' := [(3, .int v1932), (4, .int i1914), (2, .int r1872), (0, .ref w), (1, .int p0)]) hx hb dX6_goalWind_53 rfl hl (by decide) rfl (fun ls hl => ?_)
                obtain ⟨v1933, ev1933⟩ : ∃ z : Int32, z = i1914 + (-1) := ⟨_, rfl⟩
                refine lv_iinc (v := v1933) (lv' := [(4, .int v1933), (3, .int v1932), (2, .int r1872), (0, .ref w), (1, .int p0)]) hx hb dX6_goalWind_54 hl (k := 1) rfl (by rw [ev1933]; rfl) (by decide) rfl (fun ls hl => ?_)
                refine lv_goto (tgt := 26) hx hb dX6_goalWind_57 (by decide) ?_
                have tv1933 : v1933.toInt = (i1914 : Int32).toInt + ((-1) : Int32).toInt := add_i ev1933 (by omega) (by omega)
                have tv1932 := div_i (n := 4) ev1932 (by decide) (by decide)
                exact ih_26 (i1914 := v1933) (i1915 := v1932) (hw_26 := by omega) (ls := ls) (hn_26 := by omega) (hl := lv_sub hl [0, 1, 2, 3, 4] rfl)
      · replace c1904 := nlt_i c1904
        refine lv_iconst (v := (-1)) hx hb dX6_goalWind_14 (by decide) ?_
        exact ro_ret hC hr hk dX6_goalWind_15 trivial
set_option maxRecDepth 40000 in
set_option maxHeartbeats 4000000 in
theorem c_X6_meetState_7 (l : Launch) (D : va_G) (K : Nat → ClassId) (w : Nat) (wa0 : Nat) (wa1 : Nat) (wa2 : Nat) (wn3 : Int32) (wn4 : Int32) (wn5 : Int32) (wn6 : Int32) (wf0 : Nat → Int32) (wf1 : Nat → Int32) (wf2 : Nat → Int32) (p0 : Int32) (p1 : Int32) (hs : 0 ≤ wn4.toInt) : Cv (S := ((Nat → Int32) × (Nat → Nat → Int32) × (Nat → Nat → Int64))) l D K yX6_meetState cX6_meetState 3 0 0 0 0 [.ref w, .int p0, .int p1] [(w, .inr (6, [.ref wa0, .ref wa1, .ref wa2, .int wn3, .int wn4, .int wn5, .int wn6])), (wa0, .inl (K 1, 1024, .inl wf0)), (wa1, .inl (K 1, 1024, .inl wf1)), (wa2, .inl (K 1, 1024, .inl wf2))] (fun u => (0 ≤ (u.1 0).toInt)) (fun u => [(w, .inr (6, [.ref wa0, .ref wa1, .ref wa2, .int wn3, .int (u.1 0), .int wn5, .int wn6])), (wa0, .inl (K 1, 1024, .inl (u.2.1 0))), (wa1, .inl (K 1, 1024, .inl (u.2.1 1))), (wa2, .inl (K 1, 1024, .inl (u.2.1 2)))]) := by
  intro sz
  refine ch_of (y := yX6_meetState) (cc := cX6_meetState) (maxL := 3) (ret := none) (av := [.ref w, .int p0, .int p1]) (ws := [(w, .inr (6, [.ref wa0, .ref wa1, .ref wa2, .int wn3, .int wn4, .int wn5, .int wn6])), (wa0, .inl (K 1, 1024, .inl wf0)), (wa1, .inl (K 1, 1024, .inl wf1)), (wa2, .inl (K 1, 1024, .inl wf2))]) (D := D) (K := K) (Qc := fun A => va_Qv (S := ((Nat → Int32) × (Nat → Nat → Int32) × (Nat → Nat → Int64))) (fun u => (0 ≤ (u.1 0).toInt)) (chB D A (fun u => [(w, .inr (6, [.ref wa0, .ref wa1, .ref wa2, .int wn3, .int (u.1 0), .int wn5, .int wn6])), (wa0, .inl (K 1, 1024, .inl (u.2.1 0))), (wa1, .inl (K 1, 1024, .inl (u.2.1 1))), (wa2, .inl (K 1, 1024, .inl (u.2.1 2)))])) A) (by decide) (Nat.le_of_ble_eq_true rfl) ?_
  intro p e s m below meth c A hC hr hk hin hE hD hA H locs hP hS ls hl
  replace hC : CallFix p m c cX6_meetState 3 s [.ref w, .int p0, .int p1].toArray wl RX6 := hC
  have hx := hC.1
  have hb := hC.2.1
  have hml := hC.2.2.1
  have hown := hC.2.2.2.1
  have hts := hC.2.2.2.2
  replace hl : lv_has ls 3 [(0, .ref w), (1, .int p0), (2, .int p1)] := hl
  have kc_0 : (0 : Int32).toInt = 0 := by decide
  have kc_1 : (1 : Int32).toInt = 1 := by decide
  have kc_1024 : (1024 : Int32).toInt = 1024 := by decide
  refine lv_iload_n hx hb dX6_meetState_0 rfl (lv_at hl 1 rfl) ?_
  refine lv_if_lt (tgt := 38) hx hb dX6_meetState_1 (by decide) (fun c1943 => ?_) (fun c1943 => ?_)
  · replace c1943 := lt_i c1943
    refine W.widen (k := 0) (n := 0) (by decide) (by decide) ?_
    exact ch_vret hC hr hk hS dX6_meetState_38 ((fun k => [wn4].getD k 0, fun k => [wf0, wf1, wf2].getD k (fun _ => 0), fun k => [].getD k (fun _ => 0)) : ((Nat → Int32) × (Nat → Nat → Int32) × (Nat → Nat → Int64))) (show 0 ≤ (wn4 : Int32).toInt from by omega) (hP.sub [0, 1, 2, 3] rfl) (hD.sub [0, 1, 2, 3] (by decide) rfl)
  · replace c1943 := nlt_i c1943
    refine lv_iload_n hx hb dX6_meetState_4 rfl (lv_at hl 1 rfl) ?_
    refine lv_aload_n hx hb dX6_meetState_5 rfl (lv_at hl 0 rfl) ?_
    refine va_get (D := D) (ci := 6) (v := .ref wa0) (C := RX7) (T := TX7) (N := 7) hx hb hts in_X7 hown hE.1 hP 0 rfl rfl 0 (by decide) (hts _ w_274) (fun _ h9 => h9) rfl dX6_meetState_6 ?_
    refine va_alen (v := 1024) hx hb hE.1 hP 1 1 rfl rfl (show Int32.ofNat 1024 = 1024 by decide) dX6_meetState_9 ?_
    refine lv_icmp_ge (tgt := 38) hx hb dX6_meetState_10 (by decide) (fun c1944 => ?_) (fun c1944 => ?_)
    · replace c1944 := le_i c1944
      refine W.widen (k := 0) (n := 0) (by decide) (by decide) ?_
      exact ch_vret hC hr hk hS dX6_meetState_38 ((fun k => [wn4].getD k 0, fun k => [wf0, wf1, wf2].getD k (fun _ => 0), fun k => [].getD k (fun _ => 0)) : ((Nat → Int32) × (Nat → Nat → Int32) × (Nat → Nat → Int64))) (show 0 ≤ (wn4 : Int32).toInt from by omega) (hP.sub [0, 1, 2, 3] rfl) (hD.sub [0, 1, 2, 3] (by decide) rfl)
    · replace c1944 := nle_i c1944
      refine lv_aload_n hx hb dX6_meetState_13 rfl (lv_at hl 0 rfl) ?_
      refine va_get (D := D) (ci := 6) (v := .ref wa0) (C := RX7) (T := TX7) (N := 7) hx hb hts in_X7 hown hE.1 hP 0 rfl rfl 0 (by decide) (hts _ w_274) (fun _ h9 => h9) rfl dX6_meetState_14 ?_
      refine lv_iload_n hx hb dX6_meetState_17 rfl (lv_at hl 1 rfl) ?_
      refine va_iald hx hb hE.1 hP 1 1 rfl rfl (vp_in_iff.mpr (by omega)) dX6_meetState_18 ?_
      refine lv_topi (fun v1945 ev1945 => ?_)
      refine lv_aload_n hx hb dX6_meetState_19 rfl (lv_at hl 0 rfl) ?_
      refine va_get (D := D) (ci := 6) (v := .int wn3) (C := RX7) (T := TX7) (N := 7) hx hb hts in_X7 hown hE.1 hP 0 rfl rfl 3 (by decide) (hts _ w_275) (fun _ h9 => h9) rfl dX6_meetState_20 ?_
      refine lv_icmp_eq (tgt := 38) hx hb dX6_meetState_23 (by decide) (fun c1946 => ?_) (fun c1946 => ?_)
      · replace c1946 := eq_i c1946
        refine W.widen (k := 0) (n := 0) (by decide) (by decide) ?_
        exact ch_vret hC hr hk hS dX6_meetState_38 ((fun k => [wn4].getD k 0, fun k => [wf0, wf1, wf2].getD k (fun _ => 0), fun k => [].getD k (fun _ => 0)) : ((Nat → Int32) × (Nat → Nat → Int32) × (Nat → Nat → Int64))) (show 0 ≤ (wn4 : Int32).toInt from by omega) (hP.sub [0, 1, 2, 3] rfl) (hD.sub [0, 1, 2, 3] (by decide) rfl)
      · replace c1946 := ne_i c1946
        refine lv_aload_n hx hb dX6_meetState_26 rfl (lv_at hl 0 rfl) ?_
        refine va_get (D := D) (ci := 6) (v := .int wn4) (C := RX7) (T := TX7) (N := 7) hx hb hts in_X7 hown hE.1 hP 0 rfl rfl 4 (by decide) (hts _ w_276) (fun _ h9 => h9) rfl dX6_meetState_27 ?_
        refine lv_aload_n hx hb dX6_meetState_30 rfl (lv_at hl 0 rfl) ?_
        refine va_get (D := D) (ci := 6) (v := .ref wa1) (C := RX7) (T := TX7) (N := 7) hx hb hts in_X7 hown hE.1 hP 0 rfl rfl 1 (by decide) (hts _ w_277) (fun _ h9 => h9) rfl dX6_meetState_31 ?_
        refine va_alen (v := 1024) hx hb hE.1 hP 2 1 rfl rfl (show Int32.ofNat 1024 = 1024 by decide) dX6_meetState_34 ?_
        refine lv_icmp_lt (tgt := 39) hx hb dX6_meetState_35 (by decide) (fun c1947 => ?_) (fun c1947 => ?_)
        · replace c1947 := lt_i c1947
          refine lv_aload_n hx hb dX6_meetState_39 rfl (lv_at hl 0 rfl) ?_
          refine va_get (D := D) (ci := 6) (v := .ref wa0) (C := RX7) (T := TX7) (N := 7) hx hb hts in_X7 hown hE.1 hP 0 rfl rfl 0 (by decide) (hts _ w_274) (fun _ h9 => h9) rfl dX6_meetState_40 ?_
          refine lv_iload_n hx hb dX6_meetState_43 rfl (lv_at hl 1 rfl) ?_
          refine lv_aload_n hx hb dX6_meetState_44 rfl (lv_at hl 0 rfl) ?_
          refine va_get (D := D) (ci := 6) (v := .int wn3) (C := RX7) (T := TX7) (N := 7) hx hb hts in_X7 hown hE.1 hP 0 rfl rfl 3 (by decide) (hts _ w_275) (fun _ h9 => h9) rfl dX6_meetState_45 ?_
          refine sti hx hb hE.1 hP hD hS 1 1 rfl rfl (vp_in_iff.mpr (by omega)) dX6_meetState_48 (fun g1948 eg1948 H locs hP hD hS => ?_)
          replace hP : va_P D vwCl [(w, .inr (6, [.ref wa0, .ref wa1, .ref wa2, .int wn3, .int wn4, .int wn5, .int wn6])), (wa0, .inl (K 1, 1024, .inl g1948)), (wa1, .inl (K 1, 1024, .inl wf1)), (wa2, .inl (K 1, 1024, .inl wf2))] H := hP
          replace hD : va_D A [(w, .inr (6, [.ref wa0, .ref wa1, .ref wa2, .int wn3, .int wn4, .int wn5, .int wn6])), (wa0, .inl (K 1, 1024, .inl g1948)), (wa1, .inl (K 1, 1024, .inl wf1)), (wa2, .inl (K 1, 1024, .inl wf2))] := hD
          refine lv_aload_n hx hb dX6_meetState_49 rfl (lv_at hl 0 rfl) ?_
          refine va_get (D := D) (ci := 6) (v := .ref wa1) (C := RX7) (T := TX7) (N := 7) hx hb hts in_X7 hown hE.1 hP 0 rfl rfl 1 (by decide) (hts _ w_277) (fun _ h9 => h9) rfl dX6_meetState_50 ?_
          refine lv_aload_n hx hb dX6_meetState_53 rfl (lv_at hl 0 rfl) ?_
          refine va_get (D := D) (ci := 6) (v := .int wn4) (C := RX7) (T := TX7) (N := 7) hx hb hts in_X7 hown hE.1 hP 0 rfl rfl 4 (by decide) (hts _ w_276) (fun _ h9 => h9) rfl dX6_meetState_54 ?_
          refine lv_iload_n hx hb dX6_meetState_57 rfl (lv_at hl 1 rfl) ?_
          refine sti hx hb hE.1 hP hD hS 2 1 rfl rfl (vp_in_iff.mpr (by omega)) dX6_meetState_58 (fun g1949 eg1949 H locs hP hD hS => ?_)
          replace hP : va_P D vwCl [(w, .inr (6, [.ref wa0, .ref wa1, .ref wa2, .int wn3, .int wn4, .int wn5, .int wn6])), (wa0, .inl (K 1, 1024, .inl g1948)), (wa1, .inl (K 1, 1024, .inl g1949)), (wa2, .inl (K 1, 1024, .inl wf2))] H := hP
          replace hD : va_D A [(w, .inr (6, [.ref wa0, .ref wa1, .ref wa2, .int wn3, .int wn4, .int wn5, .int wn6])), (wa0, .inl (K 1, 1024, .inl g1948)), (wa1, .inl (K 1, 1024, .inl g1949)), (wa2, .inl (K 1, 1024, .inl wf2))] := hD
          refine lv_aload_n hx hb dX6_meetState_59 rfl (lv_at hl 0 rfl) ?_
          refine va_get (D := D) (ci := 6) (v := .ref wa2) (C := RX7) (T := TX7) (N := 7) hx hb hts in_X7 hown hE.1 hP 0 rfl rfl 2 (by decide) (hts _ w_278) (fun _ h9 => h9) rfl dX6_meetState_60 ?_
          refine lv_aload_n hx hb dX6_meetState_63 rfl (lv_at hl 0 rfl) ?_
          refine va_get (D := D) (ci := 6) (v := .int wn4) (C := RX7) (T := TX7) (N := 7) hx hb hts in_X7 hown hE.1 hP 0 rfl rfl 4 (by decide) (hts _ w_276) (fun _ h9 => h9) rfl dX6_meetState_64 ?_
          refine lv_iload_n hx hb dX6_meetState_67 rfl (lv_at hl 2 rfl) ?_
          refine sti hx hb hE.1 hP hD hS 3 1 rfl rfl (vp_in_iff.mpr (by omega)) dX6_meetState_68 (fun g1950 eg1950 H locs hP hD hS => ?_)
          replace hP : va_P D vwCl [(w, .inr (6, [.ref wa0, .ref wa1, .ref wa2, .int wn3, .int wn4, .int wn5, .int wn6])), (wa0, .inl (K 1, 1024, .inl g1948)), (wa1, .inl (K 1, 1024, .inl g1949)), (wa2, .inl (K 1, 1024, .inl g1950))] H := hP
          replace hD : va_D A [(w, .inr (6, [.ref wa0, .ref wa1, .ref wa2, .int wn3, .int wn4, .int wn5, .int wn6])), (wa0, .inl (K 1, 1024, .inl g1948)), (wa1, .inl (K 1, 1024, .inl g1949)), (wa2, .inl (K 1, 1024, .inl g1950))] := hD
          refine lv_aload_n hx hb dX6_meetState_69 rfl (lv_at hl 0 rfl) ?_
          refine lv_dup hx hb dX6_meetState_70 rfl ?_
          refine va_get (D := D) (ci := 6) (v := .int wn4) (C := RX7) (T := TX7) (N := 7) hx hb hts in_X7 hown hE.1 hP 0 rfl rfl 4 (by decide) (hts _ w_276) (fun _ h9 => h9) rfl dX6_meetState_71 ?_
          refine lv_iconst (v := 1) hx hb dX6_meetState_74 (by decide) ?_
          refine lv_iadd hx hb dX6_meetState_75 ?_
          refine lv_topi (fun v1951 ev1951 => ?_)
          refine va_put (D := D) (ci := 6) (v := .int v1951) (ty := .int) (C := RX7) (T := TX7) (N := 7) hx hb hts in_X7 tyX7 tyX7_ok nmX7 hown hE.1 hP hD hS 0 rfl rfl 4 (by decide) (hts _ w_276) (fun _ h9 => h9) rfl (by decide +kernel) rfl rfl (Nat.le_of_ble_eq_true rfl) dX6_meetState_76 (fun H locs hP hD hS => ?_)
          replace hP : va_P D vwCl [(w, .inr (6, [.ref wa0, .ref wa1, .ref wa2, .int wn3, .int v1951, .int wn5, .int wn6])), (wa0, .inl (K 1, 1024, .inl g1948)), (wa1, .inl (K 1, 1024, .inl g1949)), (wa2, .inl (K 1, 1024, .inl g1950))] H := hP
          replace hD : va_D A [(w, .inr (6, [.ref wa0, .ref wa1, .ref wa2, .int wn3, .int v1951, .int wn5, .int wn6])), (wa0, .inl (K 1, 1024, .inl g1948)), (wa1, .inl (K 1, 1024, .inl g1949)), (wa2, .inl (K 1, 1024, .inl g1950))] := hD
          refine W.widen (k := 0) (n := 0) (by decide) (by decide) ?_
          have tv1951 : v1951.toInt = (wn4 : Int32).toInt + (1 : Int32).toInt := add_i ev1951 (by omega) (by omega)
          exact ch_vret hC hr hk hS dX6_meetState_79 ((fun k => [v1951].getD k 0, fun k => [g1948, g1949, g1950].getD k (fun _ => 0), fun k => [].getD k (fun _ => 0)) : ((Nat → Int32) × (Nat → Nat → Int32) × (Nat → Nat → Int64))) (show 0 ≤ (v1951 : Int32).toInt from by omega) (hP.sub [0, 1, 2, 3] rfl) (hD.sub [0, 1, 2, 3] (by decide) rfl)
        · replace c1947 := nlt_i c1947
          refine W.widen (k := 0) (n := 0) (by decide) (by decide) ?_
          exact ch_vret hC hr hk hS dX6_meetState_38 ((fun k => [wn4].getD k 0, fun k => [wf0, wf1, wf2].getD k (fun _ => 0), fun k => [].getD k (fun _ => 0)) : ((Nat → Int32) × (Nat → Nat → Int32) × (Nat → Nat → Int64))) (show 0 ≤ (wn4 : Int32).toInt from by omega) (hP.sub [0, 1, 2, 3] rfl) (hD.sub [0, 1, 2, 3] (by decide) rfl)
set_option maxRecDepth 40000 in
set_option maxHeartbeats 4000000 in
theorem c_X6_lengthTo_7 (l : Launch) (D : va_G) (K : Nat → ClassId) (w : Nat) (wa0 : Nat) (wa1 : Nat) (wa2 : Nat) (wn3 : Int32) (wn4 : Int32) (wn5 : Int32) (wn6 : Int32) (wf2 : Nat → Int32) (p0 : Int32) : Ro l D K yX6_lengthTo cX6_lengthTo 5 (some .int) 0 0 [.ref w, .int p0] [(w, .inr (6, [.ref wa0, .ref wa1, .ref wa2, .int wn3, .int wn4, .int wn5, .int wn6])), (wa2, .inl (K 1, 1024, .inl wf2))] (fun r => ((0 ≤ r.toInt) ∧ (r.toInt ≤ 1024))) := by
  refine ro_of (by decide) (Nat.le_of_ble_eq_true rfl) ?_
  intro p e s m below meth c hC hr hk hE hP ls hl
  replace hC : CallFix p m c cX6_lengthTo 5 s [.ref w, .int p0].toArray wl RX6 := hC
  have hx := hC.1
  have hb := hC.2.1
  have hml := hC.2.2.1
  have hown := hC.2.2.2.1
  have hts := hC.2.2.2.2
  replace hl : lv_has ls 5 [(0, .ref w), (1, .int p0)] := hl
  have kc_0 : (0 : Int32).toInt = 0 := by decide
  have kc_1 : (1 : Int32).toInt = 1 := by decide
  have kc_1024 : (1024 : Int32).toInt = 1024 := by decide
  refine lv_iconst (v := 0) hx hb dX6_lengthTo_0 (by decide) ?_
  refine lv_istore_n (lv' := [(2, .int 0), (0, .ref w), (1, .int p0)]) hx hb dX6_lengthTo_1 rfl hl (by decide) rfl (fun ls hl => ?_)
  refine lv_iload_n hx hb dX6_lengthTo_2 rfl (lv_at hl 2 rfl) ?_
  refine lv_istore_n (lv' := [(3, .int p0), (2, .int 0), (0, .ref w), (1, .int p0)]) hx hb dX6_lengthTo_3 rfl hl (by decide) rfl (fun ls hl => ?_)
  refine lv_iconst (v := 0) hx hb dX6_lengthTo_4 (by decide) ?_
  refine lv_istore (lv' := [(4, .int 0), (3, .int p0), (2, .int 0), (0, .ref w), (1, .int p0)]) hx hb dX6_lengthTo_5 hl (by decide) rfl (fun ls hl => ?_)
  have hl' := hl; clear hl
  obtain ⟨i1962, i1963, i1964, hi_7, hq_7, hr_7, hl⟩ : ∃ (i1962 : Int32) (i1963 : Int32) (i1964 : Int32), ((0 : Int) ≤ i1962.toInt) ∧ (i1964.toInt = i1962.toInt) ∧ (i1962.toInt ≤ 1024) ∧ lv_has ls 5 [(4, .int i1962), (3, .int i1963), (2, .int i1964), (0, .ref w), (1, .int p0)] := ⟨_, _, _, by omega, by omega, by omega, hl'⟩
  clear hl'
  obtain ⟨n_7, hn_7⟩ : ∃ n : Nat, (1024 - i1962.toInt).toNat < n := ⟨_, Nat.lt_succ_self _⟩
  induction n_7 generalizing i1962 i1963 i1964 ls with
  | zero => exact absurd hn_7 (Nat.not_lt_zero _)
  | succ n_7 ih_7 =>
    refine lv_iload hx hb dX6_lengthTo_7 (lv_at hl 0 rfl) ?_
    refine lv_aload_n hx hb dX6_lengthTo_9 rfl (lv_at hl 3 rfl) ?_
    refine va_get (D := D) (ci := 6) (v := .ref wa2) (C := RX7) (T := TX7) (N := 7) hx hb hts in_X7 hown hE.1 hP 0 rfl rfl 2 (by decide) (hts _ w_278) (fun _ h9 => h9) rfl dX6_lengthTo_10 ?_
    refine va_alen (v := 1024) hx hb hE.1 hP 1 1 rfl rfl (show Int32.ofNat 1024 = 1024 by decide) dX6_lengthTo_13 ?_
    refine lv_icmp_ge (tgt := 48) hx hb dX6_lengthTo_14 (by decide) (fun c1965 => ?_) (fun c1965 => ?_)
    · replace c1965 := le_i c1965
      refine lv_iload_n hx hb dX6_lengthTo_48 rfl (lv_at hl 2 rfl) ?_
      exact ro_ret hC hr hk dX6_lengthTo_49 ⟨(by omega), (by omega)⟩
    · replace c1965 := nle_i c1965
      refine lv_iload_n hx hb dX6_lengthTo_17 rfl (lv_at hl 1 rfl) ?_
      refine lv_if_le (tgt := 48) hx hb dX6_lengthTo_18 (by decide) (fun c1966 => ?_) (fun c1966 => ?_)
      · replace c1966 := le_i c1966
        refine lv_iload_n hx hb dX6_lengthTo_48 rfl (lv_at hl 2 rfl) ?_
        exact ro_ret hC hr hk dX6_lengthTo_49 ⟨(by omega), (by omega)⟩
      · replace c1966 := nle_i c1966
        refine lv_iload_n hx hb dX6_lengthTo_21 rfl (lv_at hl 1 rfl) ?_
        refine lv_aload_n hx hb dX6_lengthTo_22 rfl (lv_at hl 3 rfl) ?_
        refine va_get (D := D) (ci := 6) (v := .ref wa2) (C := RX7) (T := TX7) (N := 7) hx hb hts in_X7 hown hE.1 hP 0 rfl rfl 2 (by decide) (hts _ w_278) (fun _ h9 => h9) rfl dX6_lengthTo_23 ?_
        refine va_alen (v := 1024) hx hb hE.1 hP 1 1 rfl rfl (show Int32.ofNat 1024 = 1024 by decide) dX6_lengthTo_26 ?_
        refine lv_icmp_ge (tgt := 48) hx hb dX6_lengthTo_27 (by decide) (fun c1967 => ?_) (fun c1967 => ?_)
        · replace c1967 := le_i c1967
          refine lv_iload_n hx hb dX6_lengthTo_48 rfl (lv_at hl 2 rfl) ?_
          exact ro_ret hC hr hk dX6_lengthTo_49 ⟨(by omega), (by omega)⟩
        · replace c1967 := nle_i c1967
          refine lv_aload_n hx hb dX6_lengthTo_30 rfl (lv_at hl 3 rfl) ?_
          refine va_get (D := D) (ci := 6) (v := .ref wa2) (C := RX7) (T := TX7) (N := 7) hx hb hts in_X7 hown hE.1 hP 0 rfl rfl 2 (by decide) (hts _ w_278) (fun _ h9 => h9) rfl dX6_lengthTo_31 ?_
          refine lv_iload_n hx hb dX6_lengthTo_34 rfl (lv_at hl 1 rfl) ?_
          refine va_iald hx hb hE.1 hP 1 1 rfl rfl (vp_in_iff.mpr (by omega)) dX6_lengthTo_35 ?_
          refine lv_topi (fun v1968 ev1968 => ?_)
          refine lv_iconst (v := 4) hx hb dX6_lengthTo_36 (by decide) ?_
          refine lv_idiv hx hb dX6_lengthTo_37 (by decide) ?_
          refine lv_topi (fun v1969 ev1969 => ?_)
          refine lv_istore_n (lv' := [(3, .int v1969), (4, .int i1962), (2, .int i1964), (0, .ref w), (1, .int p0)]) hx hb dX6_lengthTo_38 rfl hl (by decide) rfl (fun ls hl => ?_)
          obtain ⟨v1970, ev1970⟩ : ∃ z : Int32, z = i1964 + 1 := ⟨_, rfl⟩
          refine lv_iinc (v := v1970) (lv' := [(2, .int v1970), (3, .int v1969), (4, .int i1962), (0, .ref w), (1, .int p0)]) hx hb dX6_lengthTo_39 hl (k := 2) rfl (by rw [ev1970]; rfl) (by decide) rfl (fun ls hl => ?_)
          obtain ⟨v1971, ev1971⟩ : ∃ z : Int32, z = i1962 + 1 := ⟨_, rfl⟩
          refine lv_iinc (v := v1971) (lv' := [(4, .int v1971), (2, .int v1970), (3, .int v1969), (0, .ref w), (1, .int p0)]) hx hb dX6_lengthTo_42 hl (k := 2) rfl (by rw [ev1971]; rfl) (by decide) rfl (fun ls hl => ?_)
          refine lv_goto (tgt := 7) hx hb dX6_lengthTo_45 (by decide) ?_
          have tv1971 : v1971.toInt = (i1962 : Int32).toInt + (1 : Int32).toInt := add_i ev1971 (by omega) (by omega)
          have tv1969 := div_i (n := 4) ev1969 (by decide) (by decide)
          have tv1970 : v1970.toInt = (i1964 : Int32).toInt + (1 : Int32).toInt := add_i ev1970 (by omega) (by omega)
          exact ih_7 (i1962 := v1971) (i1963 := v1969) (i1964 := v1970) (hi_7 := by omega) (hq_7 := by omega) (hr_7 := by omega) (ls := ls) (hn_7 := by omega) (hl := lv_sub hl [0, 2, 1, 3, 4] rfl)
