set_option maxRecDepth 40000 in
set_option maxHeartbeats 4000000 in
theorem c_X3_prepare (l : Launch) (D : va_G) (K : Nat → ClassId) (w : Nat) (wa0 : Nat) (wa1 : Nat) (wa2 : Nat) (v : Nat) (va0 : Nat) (va1 : Nat) (va2 : Nat) (va3 : Nat) (va4 : Nat) (va5 : Nat) (va6 : Nat) (va7 : Nat) (wn3 : Int32) (wn4 : Int32) (vn8 : Int32) (vn9 : Int32) (vn10 : Int32) (vn11 : Int32) (wf0 : Nat → Int32) (wf1 : Nat → Int32) (wf2 : Nat → Int32) (vf0 : Nat → Int32) (vf1 : Nat → Int32) : Cv (S := ((Nat → Int32) × (Nat → Nat → Int32) × (Nat → Nat → Int64))) l D K yX3_prepare cX3_prepare 4 4 86 0 0 [.ref w, .ref v] [(w, .inr (3, [.ref wa0, .ref wa1, .ref wa2, .int wn3, .int wn4])), (wa0, .inl (K 1, 1024, .inl wf0)), (wa1, .inl (K 1, 4096, .inl wf1)), (wa2, .inl (K 1, 10, .inl wf2)), (v, .inr (9, [.ref va0, .ref va1, .ref va2, .ref va3, .ref va4, .ref va5, .ref va6, .ref va7, .int vn8, .int vn9, .int vn10, .int vn11])), (va0, .inl (K 1, 40, .inl vf0)), (va1, .inl (K 1, 10, .inl vf1))] (fun _ => True) (fun u => [(w, .inr (3, [.ref wa0, .ref wa1, .ref wa2, .int (u.1 0), .int (u.1 1)])), (wa0, .inl (K 1, 1024, .inl (u.2.1 0))), (wa1, .inl (K 1, 4096, .inl (u.2.1 1))), (wa2, .inl (K 1, 10, .inl (u.2.1 2))), (v, .inr (9, [.ref va0, .ref va1, .ref va2, .ref va3, .ref va4, .ref va5, .ref va6, .ref va7, .int vn8, .int vn9, .int vn10, .int vn11])), (va0, .inl (K 1, 40, .inl vf0)), (va1, .inl (K 1, 10, .inl vf1))]) := by
  intro sz
  refine ch_of (y := yX3_prepare) (cc := cX3_prepare) (maxL := 4) (ret := none) (av := [.ref w, .ref v]) (ws := [(w, .inr (3, [.ref wa0, .ref wa1, .ref wa2, .int wn3, .int wn4])), (wa0, .inl (K 1, 1024, .inl wf0)), (wa1, .inl (K 1, 4096, .inl wf1)), (wa2, .inl (K 1, 10, .inl wf2)), (v, .inr (9, [.ref va0, .ref va1, .ref va2, .ref va3, .ref va4, .ref va5, .ref va6, .ref va7, .int vn8, .int vn9, .int vn10, .int vn11])), (va0, .inl (K 1, 40, .inl vf0)), (va1, .inl (K 1, 10, .inl vf1))]) (D := D) (K := K) (Qc := fun A => va_Qv (S := ((Nat → Int32) × (Nat → Nat → Int32) × (Nat → Nat → Int64))) (fun _ => True) (chB D A (fun u => [(w, .inr (3, [.ref wa0, .ref wa1, .ref wa2, .int (u.1 0), .int (u.1 1)])), (wa0, .inl (K 1, 1024, .inl (u.2.1 0))), (wa1, .inl (K 1, 4096, .inl (u.2.1 1))), (wa2, .inl (K 1, 10, .inl (u.2.1 2))), (v, .inr (9, [.ref va0, .ref va1, .ref va2, .ref va3, .ref va4, .ref va5, .ref va6, .ref va7, .int vn8, .int vn9, .int vn10, .int vn11])), (va0, .inl (K 1, 40, .inl vf0)), (va1, .inl (K 1, 10, .inl vf1))])) A) (by decide) (Nat.le_of_ble_eq_true rfl) ?_
  intro p e s m below meth c A hC hr hk hin hE hD hA H locs hP hS ls hl
  replace hC : CallFix p m c cX3_prepare 4 s [.ref w, .ref v].toArray wl RX3 := hC
  have hx := hC.1
  have hb := hC.2.1
  have hml := hC.2.2.1
  have hown := hC.2.2.2.1
  have hts := hC.2.2.2.2
  replace hl : lv_has ls 4 [(0, .ref w), (1, .ref v)] := hl
  have kc_0 : (0 : Int32).toInt = 0 := by decide
  have kc_1 : (1 : Int32).toInt = 1 := by decide
  have kc_4 : (4 : Int32).toInt = 4 := by decide
  have kc_10 : (10 : Int32).toInt = 10 := by decide
  have kc_1023 : (1023 : Int32).toInt = 1023 := by decide
  have kc_1024 : (1024 : Int32).toInt = 1024 := by decide
  refine lv_aload_n hx hb dX3_prepare_0 rfl (lv_at hl 0 rfl) ?_
  refine va_get (D := D) (ci := 3) (v := .int wn4) (C := RX3) (T := TX3) (N := 5) hx hb hts in_X3 hown hE.1 hP 0 rfl rfl 4 (by decide) (hts _ w_185) (fun _ h9 => h9) rfl dX3_prepare_1 ?_
  refine lv_if_eq (tgt := 8) hx hb dX3_prepare_4 (by decide) (fun c1223 => ?_) (fun c1223 => ?_)
  · replace c1223 := eq_i c1223
    refine lv_aload_n hx hb dX3_prepare_8 rfl (lv_at hl 0 rfl) ?_
    refine lv_iconst (v := 1) hx hb dX3_prepare_9 (by decide) ?_
    refine va_put (D := D) (ci := 3) (v := .int 1) (ty := .boolean) (C := RX3) (T := TX3) (N := 5) hx hb hts in_X3 tyX3 tyX3_ok nmX3 hown hE.1 hP hD hS 0 rfl rfl 4 (by decide) (hts _ w_185) (fun _ h9 => h9) rfl (by decide +kernel) rfl rfl (Nat.le_of_ble_eq_true rfl) dX3_prepare_10 (fun H locs hP hD hS => ?_)
    replace hP : va_P D vwCl [(w, .inr (3, [.ref wa0, .ref wa1, .ref wa2, .int wn3, .int 1])), (wa0, .inl (K 1, 1024, .inl wf0)), (wa1, .inl (K 1, 4096, .inl wf1)), (wa2, .inl (K 1, 10, .inl wf2)), (v, .inr (9, [.ref va0, .ref va1, .ref va2, .ref va3, .ref va4, .ref va5, .ref va6, .ref va7, .int vn8, .int vn9, .int vn10, .int vn11])), (va0, .inl (K 1, 40, .inl vf0)), (va1, .inl (K 1, 10, .inl vf1))] H := hP
    replace hD : va_D A [(w, .inr (3, [.ref wa0, .ref wa1, .ref wa2, .int wn3, .int 1])), (wa0, .inl (K 1, 1024, .inl wf0)), (wa1, .inl (K 1, 4096, .inl wf1)), (wa2, .inl (K 1, 10, .inl wf2)), (v, .inr (9, [.ref va0, .ref va1, .ref va2, .ref va3, .ref va4, .ref va5, .ref va6, .ref va7, .int vn8, .int vn9, .int vn10, .int vn11])), (va0, .inl (K 1, 40, .inl vf0)), (va1, .inl (K 1, 10, .inl vf1))] := hD
    refine lv_aload_n hx hb dX3_prepare_13 rfl (lv_at hl 0 rfl) ?_
    refine lv_aload_n hx hb dX3_prepare_14 rfl (lv_at hl 1 rfl) ?_
    refine ro_V (As := []) (rest := [.ref w]) hC hE kV_X3_25 (c_X10_all l D K v va0 va1 va2 va3 va4 va5 va6 va7 vn8 vn9 vn10 vn11) (hP.sub (ws' := [(v, .inr (9, [.ref va0, .ref va1, .ref va2, .ref va3, .ref va4, .ref va5, .ref va6, .ref va7, .int vn8, .int vn9, .int vn10, .int vn11]))]) [4] rfl) 0 9 rfl rfl rfl hl.1 rfl (Nat.le_of_ble_eq_true rfl) (by decide) (by decide) dX3_prepare_15 (fun r1224 _ => ?_)
    refine lv_sipush (v := 1023) hx hb dX3_prepare_18 (by decide) ?_
    refine va_mmin hx hb (hml.trans hl.1.symm) hown (hts _ w_186) (hts _ w_142) (hts _ w_143) (hts _ w_144) (by decide) (Nat.le_of_ble_eq_true rfl) (by decide) (by decide) dX3_prepare_21 ?_
    refine lv_topi (fun v1225 ev1225 => ?_)
    have tv1225 := min_i ev1225
    refine va_put (D := D) (ci := 3) (v := .int v1225) (ty := .int) (C := RX3) (T := TX3) (N := 5) hx hb hts in_X3 tyX3 tyX3_ok nmX3 hown hE.1 hP hD hS 0 rfl rfl 3 (by decide) (hts _ w_166) (fun _ h9 => h9) rfl (by decide +kernel) rfl rfl (Nat.le_of_ble_eq_true rfl) dX3_prepare_24 (fun H locs hP hD hS => ?_)
    replace hP : va_P D vwCl [(w, .inr (3, [.ref wa0, .ref wa1, .ref wa2, .int v1225, .int 1])), (wa0, .inl (K 1, 1024, .inl wf0)), (wa1, .inl (K 1, 4096, .inl wf1)), (wa2, .inl (K 1, 10, .inl wf2)), (v, .inr (9, [.ref va0, .ref va1, .ref va2, .ref va3, .ref va4, .ref va5, .ref va6, .ref va7, .int vn8, .int vn9, .int vn10, .int vn11])), (va0, .inl (K 1, 40, .inl vf0)), (va1, .inl (K 1, 10, .inl vf1))] H := hP
    replace hD : va_D A [(w, .inr (3, [.ref wa0, .ref wa1, .ref wa2, .int v1225, .int 1])), (wa0, .inl (K 1, 1024, .inl wf0)), (wa1, .inl (K 1, 4096, .inl wf1)), (wa2, .inl (K 1, 10, .inl wf2)), (v, .inr (9, [.ref va0, .ref va1, .ref va2, .ref va3, .ref va4, .ref va5, .ref va6, .ref va7, .int vn8, .int vn9, .int vn10, .int vn11])), (va0, .inl (K 1, 40, .inl vf0)), (va1, .inl (K 1, 10, .inl vf1))] := hD
    refine lv_iconst (v := 0) hx hb dX3_prepare_27 (by decide) ?_
    refine lv_istore_n (lv' := [(2, .int 0), (0, .ref w), (1, .ref v)]) hx hb dX3_prepare_28 rfl hl (by decide) rfl (fun ls hl => ?_)
    have hl' := hl; have hP' := hP; have hD' := hD; clear hl hP hD
    obtain ⟨i1232, g1233, hi_29, hl, hP, hD⟩ : ∃ (i1232 : Int32) (g1233 : Nat → Int32), ((0 : Int) ≤ i1232.toInt) ∧ lv_has ls 4 [(2, .int i1232), (0, .ref w), (1, .ref v)] ∧ va_P D vwCl [(w, .inr (3, [.ref wa0, .ref wa1, .ref wa2, .int v1225, .int 1])), (wa0, .inl (K 1, 1024, .inl wf0)), (wa1, .inl (K 1, 4096, .inl wf1)), (wa2, .inl (K 1, 10, .inl g1233)), (v, .inr (9, [.ref va0, .ref va1, .ref va2, .ref va3, .ref va4, .ref va5, .ref va6, .ref va7, .int vn8, .int vn9, .int vn10, .int vn11])), (va0, .inl (K 1, 40, .inl vf0)), (va1, .inl (K 1, 10, .inl vf1))] H ∧ va_D A [(w, .inr (3, [.ref wa0, .ref wa1, .ref wa2, .int v1225, .int 1])), (wa0, .inl (K 1, 1024, .inl wf0)), (wa1, .inl (K 1, 4096, .inl wf1)), (wa2, .inl (K 1, 10, .inl g1233)), (v, .inr (9, [.ref va0, .ref va1, .ref va2, .ref va3, .ref va4, .ref va5, .ref va6, .ref va7, .int vn8, .int vn9, .int vn10, .int vn11])), (va0, .inl (K 1, 40, .inl vf0)), (va1, .inl (K 1, 10, .inl vf1))] := ⟨_, _, by omega, hl', hP', hD'⟩
    clear hl' hP' hD'
    obtain ⟨n_29, hn_29⟩ : ∃ n : Nat, (10 - i1232.toInt).toNat < n := ⟨_, Nat.lt_succ_self _⟩
    induction n_29 generalizing i1232 g1233 H locs ls with
    | zero => exact absurd hn_29 (Nat.not_lt_zero _)
    | succ n_29 ih_29 =>
      refine lv_iload_n hx hb dX3_prepare_29 rfl (lv_at hl 0 rfl) ?_
      refine lv_bipush (v := 10) hx hb dX3_prepare_30 (by decide) ?_
      refine lv_icmp_ge (tgt := 60) hx hb dX3_prepare_32 (by decide) (fun c1234 => ?_) (fun c1234 => ?_)
      · replace c1234 := le_i c1234
        refine lv_iconst (v := 0) hx hb dX3_prepare_60 (by decide) ?_
        refine lv_istore_n (lv' := [(2, .int 0), (0, .ref w), (1, .ref v)]) hx hb dX3_prepare_61 rfl hl (by decide) rfl (fun ls hl => ?_)
        have hl' := hl; have hP' := hP; have hD' := hD; clear hl hP hD
        obtain ⟨i1257, g1258, g1259, hi_62, hl, hP, hD⟩ : ∃ (i1257 : Int32) (g1258 : Nat → Int32) (g1259 : Nat → Int32), ((0 : Int) ≤ i1257.toInt) ∧ lv_has ls 4 [(2, .int i1257), (0, .ref w), (1, .ref v)] ∧ va_P D vwCl [(w, .inr (3, [.ref wa0, .ref wa1, .ref wa2, .int v1225, .int 1])), (wa0, .inl (K 1, 1024, .inl g1258)), (wa1, .inl (K 1, 4096, .inl g1259)), (wa2, .inl (K 1, 10, .inl g1233)), (v, .inr (9, [.ref va0, .ref va1, .ref va2, .ref va3, .ref va4, .ref va5, .ref va6, .ref va7, .int vn8, .int vn9, .int vn10, .int vn11])), (va0, .inl (K 1, 40, .inl vf0)), (va1, .inl (K 1, 10, .inl vf1))] H ∧ va_D A [(w, .inr (3, [.ref wa0, .ref wa1, .ref wa2, .int v1225, .int 1])), (wa0, .inl (K 1, 1024, .inl g1258)), (wa1, .inl (K 1, 4096, .inl g1259)), (wa2, .inl (K 1, 10, .inl g1233)), (v, .inr (9, [.ref va0, .ref va1, .ref va2, .ref va3, .ref va4, .ref va5, .ref va6, .ref va7, .int vn8, .int vn9, .int vn10, .int vn11])), (va0, .inl (K 1, 40, .inl vf0)), (va1, .inl (K 1, 10, .inl vf1))] := ⟨_, _, _, by omega, hl', hP', hD'⟩
        clear hl' hP' hD'
        obtain ⟨n_62, hn_62⟩ : ∃ n : Nat, (v1225.toInt + 1 - i1257.toInt).toNat < n := ⟨_, Nat.lt_succ_self _⟩
        induction n_62 generalizing i1257 g1258 g1259 H locs ls with
        | zero => exact absurd hn_62 (Nat.not_lt_zero _)
        | succ n_62 ih_62 =>
          refine lv_iload_n hx hb dX3_prepare_62 rfl (lv_at hl 0 rfl) ?_
          refine lv_aload_n hx hb dX3_prepare_63 rfl (lv_at hl 1 rfl) ?_
          refine va_get (D := D) (ci := 3) (v := .int v1225) (C := RX3) (T := TX3) (N := 5) hx hb hts in_X3 hown hE.1 hP 0 rfl rfl 3 (by decide) (hts _ w_166) (fun _ h9 => h9) rfl dX3_prepare_64 ?_
          refine lv_icmp_gt (tgt := 124) hx hb dX3_prepare_67 (by decide) (fun c1260 => ?_) (fun c1260 => ?_)
          · replace c1260 := lt_i c1260
            refine lv_iconst (v := 1) hx hb dX3_prepare_124 (by decide) ?_
            refine lv_istore_n (lv' := [(2, .int 1), (0, .ref w), (1, .ref v)]) hx hb dX3_prepare_125 rfl hl (by decide) rfl (fun ls hl => ?_)
            refine lv_iconst (v := 1) hx hb dX3_prepare_126 (by decide) ?_
            refine lv_istore_n (lv' := [(3, .int 1), (2, .int 1), (0, .ref w), (1, .ref v)]) hx hb dX3_prepare_127 rfl hl (by decide) rfl (fun ls hl => ?_)
            have hl' := hl; have hP' := hP; have hD' := hD; clear hl hP hD
            obtain ⟨i1269, i1270, g1271, hi_128, hl, hP, hD⟩ : ∃ (i1269 : Int32) (i1270 : Int32) (g1271 : Nat → Int32), ((0 : Int) ≤ i1269.toInt) ∧ lv_has ls 4 [(3, .int i1269), (2, .int i1270), (0, .ref w), (1, .ref v)] ∧ va_P D vwCl [(w, .inr (3, [.ref wa0, .ref wa1, .ref wa2, .int v1225, .int 1])), (wa0, .inl (K 1, 1024, .inl g1271)), (wa1, .inl (K 1, 4096, .inl g1259)), (wa2, .inl (K 1, 10, .inl g1233)), (v, .inr (9, [.ref va0, .ref va1, .ref va2, .ref va3, .ref va4, .ref va5, .ref va6, .ref va7, .int vn8, .int vn9, .int vn10, .int vn11])), (va0, .inl (K 1, 40, .inl vf0)), (va1, .inl (K 1, 10, .inl vf1))] H ∧ va_D A [(w, .inr (3, [.ref wa0, .ref wa1, .ref wa2, .int v1225, .int 1])), (wa0, .inl (K 1, 1024, .inl g1271)), (wa1, .inl (K 1, 4096, .inl g1259)), (wa2, .inl (K 1, 10, .inl g1233)), (v, .inr (9, [.ref va0, .ref va1, .ref va2, .ref va3, .ref va4, .ref va5, .ref va6, .ref va7, .int vn8, .int vn9, .int vn10, .int vn11])), (va0, .inl (K 1, 40, .inl vf0)), (va1, .inl (K 1, 10, .inl vf1))] := ⟨_, _, _, by omega, hl', hP', hD'⟩
            clear hl' hP' hD'
            obtain ⟨n_128, hn_128⟩ : ∃ n : Nat, (1025 - i1269.toInt).toNat < n := ⟨_, Nat.lt_succ_self _⟩
            induction n_128 generalizing i1269 i1270 g1271 H locs ls with
            | zero => exact absurd hn_128 (Nat.not_lt_zero _)
            | succ n_128 ih_128 =>
              refine lv_iload_n hx hb dX3_prepare_128 rfl (lv_at hl 0 rfl) ?_
              refine lv_sipush (v := 1024) hx hb dX3_prepare_129 (by decide) ?_
              refine lv_icmp_gt (tgt := 151) hx hb dX3_prepare_132 (by decide) (fun c1272 => ?_) (fun c1272 => ?_)
              · replace c1272 := lt_i c1272
                refine W.widen (k := 0) (n := 0) (by decide) (by decide) ?_
                exact ch_vret hC hr hk hS dX3_prepare_151 ((fun k => [v1225, 1].getD k 0, fun k => [g1271, g1259, g1233].getD k (fun _ => 0), fun k => [].getD k (fun _ => 0)) : ((Nat → Int32) × (Nat → Nat → Int32) × (Nat → Nat → Int64))) trivial (hP.sub [0, 1, 2, 3, 4, 5, 6] rfl) (hD.sub [0, 1, 2, 3, 4, 5, 6] (by decide) rfl)
              · replace c1272 := nlt_i c1272
                refine lv_iload_n hx hb dX3_prepare_135 rfl (lv_at hl 1 rfl) ?_
                refine lv_if_eq (tgt := 151) hx hb dX3_prepare_136 (by decide) (fun c1273 => ?_) (fun c1273 => ?_)
                · replace c1273 := eq_i c1273
                  refine W.widen (k := 0) (n := 0) (by decide) (by decide) ?_
                  exact ch_vret hC hr hk hS dX3_prepare_151 ((fun k => [v1225, 1].getD k 0, fun k => [g1271, g1259, g1233].getD k (fun _ => 0), fun k => [].getD k (fun _ => 0)) : ((Nat → Int32) × (Nat → Nat → Int32) × (Nat → Nat → Int64))) trivial (hP.sub [0, 1, 2, 3, 4, 5, 6] rfl) (hD.sub [0, 1, 2, 3, 4, 5, 6] (by decide) rfl)
                · replace c1273 := ne_i c1273
                  refine lv_aload_n hx hb dX3_prepare_139 rfl (lv_at hl 2 rfl) ?_
                  refine lv_iload_n hx hb dX3_prepare_140 rfl (lv_at hl 0 rfl) ?_
                  refine ci_V (As := [.int i1269]) (rest := []) (wc := [(w, .inr (3, [.ref wa0, .ref wa1, .ref wa2, .int v1225, .int 1])), (wa0, .inl (K 1, 1024, .inl g1271)), (wa1, .inl (K 1, 4096, .inl g1259)), (wa2, .inl (K 1, 10, .inl g1233))]) (wr := [(v, .inr (9, [.ref va0, .ref va1, .ref va2, .ref va3, .ref va4, .ref va5, .ref va6, .ref va7, .int vn8, .int vn9, .int vn10, .int vn11])), (va0, .inl (K 1, 40, .inl vf0)), (va1, .inl (K 1, 10, .inl vf1))]) hC hE kV_X3_55 (c_X3_settle l D K w wa0 wa1 wa2 v1225 1 g1271 g1259 g1233 i1269) hP hD hS hA [0, 1, 2, 3] [4, 5, 6] rfl rfl rfl (by decide) (by decide) (by decide) 0 3 rfl rfl rfl hl.1 rfl (Nat.le_of_ble_eq_true rfl) (by decide) (by decide) dX3_prepare_141 (fun r1275 u1274 H locs hw hP hD hS => ?_)
                  replace hP : va_P D vwCl [(v, .inr (9, [.ref va0, .ref va1, .ref va2, .ref va3, .ref va4, .ref va5, .ref va6, .ref va7, .int vn8, .int vn9, .int vn10, .int vn11])), (va0, .inl (K 1, 40, .inl vf0)), (va1, .inl (K 1, 10, .inl vf1)), (w, .inr (3, [.ref wa0, .ref wa1, .ref wa2, .int v1225, .int 1])), (wa0, .inl (K 1, 1024, .inl (u1274.2.1 0))), (wa1, .inl (K 1, 4096, .inl g1259)), (wa2, .inl (K 1, 10, .inl g1233))] H := hP
                  replace hD : va_D A [(v, .inr (9, [.ref va0, .ref va1, .ref va2, .ref va3, .ref va4, .ref va5, .ref va6, .ref va7, .int vn8, .int vn9, .int vn10, .int vn11])), (va0, .inl (K 1, 40, .inl vf0)), (va1, .inl (K 1, 10, .inl vf1)), (w, .inr (3, [.ref wa0, .ref wa1, .ref wa2, .int v1225, .int 1])), (wa0, .inl (K 1, 1024, .inl (u1274.2.1 0))), (wa1, .inl (K 1, 4096, .inl g1259)), (wa2, .inl (K 1, 10, .inl g1233))] := hD
                  replace hP : va_P D vwCl [(w, .inr (3, [.ref wa0, .ref wa1, .ref wa2, .int v1225, .int 1])), (wa0, .inl (K 1, 1024, .inl (u1274.2.1 0))), (wa1, .inl (K 1, 4096, .inl g1259)), (wa2, .inl (K 1, 10, .inl g1233)), (v, .inr (9, [.ref va0, .ref va1, .ref va2, .ref va3, .ref va4, .ref va5, .ref va6, .ref va7, .int vn8, .int vn9, .int vn10, .int vn11])), (va0, .inl (K 1, 40, .inl vf0)), (va1, .inl (K 1, 10, .inl vf1))] H := hP.sub [3, 4, 5, 6, 0, 1, 2] rfl
                  replace hD : va_D A [(w, .inr (3, [.ref wa0, .ref wa1, .ref wa2, .int v1225, .int 1])), (wa0, .inl (K 1, 1024, .inl (u1274.2.1 0))), (wa1, .inl (K 1, 4096, .inl g1259)), (wa2, .inl (K 1, 10, .inl g1233)), (v, .inr (9, [.ref va0, .ref va1, .ref va2, .ref va3, .ref va4, .ref va5, .ref va6, .ref va7, .int vn8, .int vn9, .int vn10, .int vn11])), (va0, .inl (K 1, 40, .inl vf0)), (va1, .inl (K 1, 10, .inl vf1))] := hD.sub [3, 4, 5, 6, 0, 1, 2] (by decide) rfl
                  refine W.widen (k := 0) (n := 0) (by decide) (by decide) ?_
                  rcases hw with rfl | rfl
                  · refine lv_istore_n (lv' := [(2, .int 0), (3, .int i1269), (0, .ref w), (1, .ref v)]) hx hb dX3_prepare_144 rfl hl (by decide) rfl (fun ls hl => ?_)
                    obtain ⟨v1276, ev1276⟩ : ∃ z : Int32, z = i1269 + 1 := ⟨_, rfl⟩
                    refine lv_iinc (v := v1276) (lv' := [(3, .int v1276), (2, .int 0), (0, .ref w), (1, .ref v)]) hx hb dX3_prepare_145 hl (k := 1) rfl (by rw [ev1276]; rfl) (by decide) rfl (fun ls hl => ?_)
                    refine lv_goto (tgt := 128) hx hb dX3_prepare_148 (by decide) ?_
                    have tv1276 : v1276.toInt = (i1269 : Int32).toInt + (1 : Int32).toInt := add_i ev1276 (by omega) (by omega)
                    exact ih_128 (i1269 := v1276) (i1270 := 0) (g1271 := (u1274.2.1 0)) (hi_128 := by omega) (H := H) (locs := locs) (ls := ls) (hn_128 := by omega) (hP := hP) (hD := hD) (hS := hS) (hl := lv_sub hl [0, 1, 2, 3] rfl)
                  · refine lv_istore_n (lv' := [(2, .int 1), (3, .int i1269), (0, .ref w), (1, .ref v)]) hx hb dX3_prepare_144 rfl hl (by decide) rfl (fun ls hl => ?_)
                    obtain ⟨v1277, ev1277⟩ : ∃ z : Int32, z = i1269 + 1 := ⟨_, rfl⟩
                    refine lv_iinc (v := v1277) (lv' := [(3, .int v1277), (2, .int 1), (0, .ref w), (1, .ref v)]) hx hb dX3_prepare_145 hl (k := 1) rfl (by rw [ev1277]; rfl) (by decide) rfl (fun ls hl => ?_)
                    refine lv_goto (tgt := 128) hx hb dX3_prepare_148 (by decide) ?_
                    have tv1277 : v1277.toInt = (i1269 : Int32).toInt + (1 : Int32).toInt := add_i ev1277 (by omega) (by omega)
                    exact ih_128 (i1269 := v1277) (i1270 := 1) (g1271 := (u1274.2.1 0)) (hi_128 := by omega) (H := H) (locs := locs) (ls := ls) (hn_128 := by omega) (hP := hP) (hD := hD) (hS := hS) (hl := lv_sub hl [0, 1, 2, 3] rfl)
          · replace c1260 := nlt_i c1260
            refine lv_aload_n hx hb dX3_prepare_70 rfl (lv_at hl 1 rfl) ?_
            refine va_get (D := D) (ci := 3) (v := .ref wa0) (C := RX3) (T := TX3) (N := 5) hx hb hts in_X3 hown hE.1 hP 0 rfl rfl 0 (by decide) (hts _ w_167) (fun _ h9 => h9) rfl dX3_prepare_71 ?_
            refine lv_iload_n hx hb dX3_prepare_74 rfl (lv_at hl 0 rfl) ?_
            refine lv_iload_n hx hb dX3_prepare_75 rfl (lv_at hl 0 rfl) ?_
            refine ro_S (As := [.int i1257]) (rest := [.int i1257, .ref wa0]) hC hE kS_X3_47 (c_J6_bitCount_0f7a4 l D K i1257) (hP.sub (ws' := []) [] rfl) rfl hl.1 rfl (Nat.le_of_ble_eq_true rfl) (by decide) (by decide) dX3_prepare_76 (fun r1278 _ => ?_)
            refine lv_iconst (v := 1) hx hb dX3_prepare_79 (by decide) ?_
            refine lv_icmp_ne (tgt := 87) hx hb dX3_prepare_80 (by decide) (fun c1279 => ?_) (fun c1279 => ?_)
            · replace c1279 := ne_i c1279
              refine lv_iconst (v := (-1)) hx hb dX3_prepare_87 (by decide) ?_
              refine sti hx hb hE.1 hP hD hS 1 1 rfl rfl (vp_in_iff.mpr (by omega)) dX3_prepare_88 (fun g1280 eg1280 H locs hP hD hS => ?_)
              replace hP : va_P D vwCl [(w, .inr (3, [.ref wa0, .ref wa1, .ref wa2, .int v1225, .int 1])), (wa0, .inl (K 1, 1024, .inl g1280)), (wa1, .inl (K 1, 4096, .inl g1259)), (wa2, .inl (K 1, 10, .inl g1233)), (v, .inr (9, [.ref va0, .ref va1, .ref va2, .ref va3, .ref va4, .ref va5, .ref va6, .ref va7, .int vn8, .int vn9, .int vn10, .int vn11])), (va0, .inl (K 1, 40, .inl vf0)), (va1, .inl (K 1, 10, .inl vf1))] H := hP
              replace hD : va_D A [(w, .inr (3, [.ref wa0, .ref wa1, .ref wa2, .int v1225, .int 1])), (wa0, .inl (K 1, 1024, .inl g1280)), (wa1, .inl (K 1, 4096, .inl g1259)), (wa2, .inl (K 1, 10, .inl g1233)), (v, .inr (9, [.ref va0, .ref va1, .ref va2, .ref va3, .ref va4, .ref va5, .ref va6, .ref va7, .int vn8, .int vn9, .int vn10, .int vn11])), (va0, .inl (K 1, 40, .inl vf0)), (va1, .inl (K 1, 10, .inl vf1))] := hD
              refine lv_iconst (v := 0) hx hb dX3_prepare_89 (by decide) ?_
              refine lv_istore_n (lv' := [(3, .int 0), (2, .int i1257), (0, .ref w), (1, .ref v)]) hx hb dX3_prepare_90 rfl hl (by decide) rfl (fun ls hl => ?_)
              have hl' := hl; have hP' := hP; have hD' := hD; clear hl hP hD
              obtain ⟨i1288, g1289, hi_91, hl, hP, hD⟩ : ∃ (i1288 : Int32) (g1289 : Nat → Int32), ((0 : Int) ≤ i1288.toInt) ∧ lv_has ls 4 [(3, .int i1288), (2, .int i1257), (0, .ref w), (1, .ref v)] ∧ va_P D vwCl [(w, .inr (3, [.ref wa0, .ref wa1, .ref wa2, .int v1225, .int 1])), (wa0, .inl (K 1, 1024, .inl g1280)), (wa1, .inl (K 1, 4096, .inl g1289)), (wa2, .inl (K 1, 10, .inl g1233)), (v, .inr (9, [.ref va0, .ref va1, .ref va2, .ref va3, .ref va4, .ref va5, .ref va6, .ref va7, .int vn8, .int vn9, .int vn10, .int vn11])), (va0, .inl (K 1, 40, .inl vf0)), (va1, .inl (K 1, 10, .inl vf1))] H ∧ va_D A [(w, .inr (3, [.ref wa0, .ref wa1, .ref wa2, .int v1225, .int 1])), (wa0, .inl (K 1, 1024, .inl g1280)), (wa1, .inl (K 1, 4096, .inl g1289)), (wa2, .inl (K 1, 10, .inl g1233)), (v, .inr (9, [.ref va0, .ref va1, .ref va2, .ref va3, .ref va4, .ref va5, .ref va6, .ref va7, .int vn8, .int vn9, .int vn10, .int vn11])), (va0, .inl (K 1, 40, .inl vf0)), (va1, .inl (K 1, 10, .inl vf1))] := ⟨_, _, by omega, hl', hP', hD'⟩
              clear hl' hP' hD'
              obtain ⟨n_91, hn_91⟩ : ∃ n : Nat, (4 - i1288.toInt).toNat < n := ⟨_, Nat.lt_succ_self _⟩
              induction n_91 generalizing i1288 g1289 H locs ls with
              | zero => exact absurd hn_91 (Nat.not_lt_zero _)
              | succ n_91 ih_91 =>
                refine lv_iload_n hx hb dX3_prepare_91 rfl (lv_at hl 0 rfl) ?_
                refine lv_iconst (v := 4) hx hb dX3_prepare_92 (by decide) ?_
                refine lv_icmp_ge (tgt := 118) hx hb dX3_prepare_93 (by decide) (fun c1290 => ?_) (fun c1290 => ?_)
                · replace c1290 := le_i c1290
                  obtain ⟨v1291, ev1291⟩ : ∃ z : Int32, z = i1257 + 1 := ⟨_, rfl⟩
                  refine lv_iinc (v := v1291) (lv' := [(2, .int v1291), (3, .int i1288), (0, .ref w), (1, .ref v)]) hx hb dX3_prepare_118 hl (k := 1) rfl (by rw [ev1291]; rfl) (by decide) rfl (fun ls hl => ?_)
                  refine lv_goto (tgt := 62) hx hb dX3_prepare_121 (by decide) ?_
                  have tv1291 : v1291.toInt = (i1257 : Int32).toInt + (1 : Int32).toInt := add_i ev1291 (by omega) (by omega)
                  exact ih_62 (i1257 := v1291) (g1258 := g1280) (g1259 := g1289) (hi_62 := by omega) (H := H) (locs := locs) (ls := ls) (hn_62 := by omega) (hP := hP) (hD := hD) (hS := hS) (hl := lv_sub hl [0, 2, 3] rfl)
                · replace c1290 := nle_i c1290
                  refine lv_aload_n hx hb dX3_prepare_96 rfl (lv_at hl 2 rfl) ?_
                  refine va_get (D := D) (ci := 3) (v := .ref wa1) (C := RX3) (T := TX3) (N := 5) hx hb hts in_X3 hown hE.1 hP 0 rfl rfl 1 (by decide) (hts _ w_171) (fun _ h9 => h9) rfl dX3_prepare_97 ?_
                  refine lv_iload_n hx hb dX3_prepare_100 rfl (lv_at hl 1 rfl) ?_
                  refine lv_iconst (v := 4) hx hb dX3_prepare_101 (by decide) ?_
                  refine lv_imul hx hb dX3_prepare_102 ?_
                  refine lv_topi (fun v1292 ev1292 => ?_)
                  refine lv_iload_n hx hb dX3_prepare_103 rfl (lv_at hl 0 rfl) ?_
                  refine lv_iadd hx hb dX3_prepare_104 ?_
                  refine lv_topi (fun v1293 ev1293 => ?_)
                  refine lv_aload_n hx hb dX3_prepare_105 rfl (lv_at hl 3 rfl) ?_
                  refine lv_iload_n hx hb dX3_prepare_106 rfl (lv_at hl 1 rfl) ?_
                  refine lv_iload_n hx hb dX3_prepare_107 rfl (lv_at hl 0 rfl) ?_
                  refine ro_V (As := [.int i1257, .int i1288]) (rest := [.int v1293, .ref wa1]) hC hE kV_X3_52 (c_X10_spread l D K v va0 va1 va2 va3 va4 va5 va6 va7 vn8 vn9 vn10 vn11 vf0 i1257 i1288) (hP.sub (ws' := [(v, .inr (9, [.ref va0, .ref va1, .ref va2, .ref va3, .ref va4, .ref va5, .ref va6, .ref va7, .int vn8, .int vn9, .int vn10, .int vn11])), (va0, .inl (K 1, 40, .inl vf0))]) [4, 5] rfl) 0 9 rfl rfl rfl hl.1 rfl (Nat.le_of_ble_eq_true rfl) (by decide) (by decide) dX3_prepare_108 (fun r1294 _ => ?_)
                  have tv1292 : v1292.toInt = i1257.toInt * 4 := mul_i ev1292 rfl (by decide) (by omega) (by omega)
                  have tv1293 : v1293.toInt = (v1292 : Int32).toInt + (i1288 : Int32).toInt := add_i ev1293 (by omega) (by omega)
                  refine sti hx hb hE.1 hP hD hS 2 1 rfl rfl (vp_in_iff.mpr (by omega)) dX3_prepare_111 (fun g1295 eg1295 H locs hP hD hS => ?_)
                  replace hP : va_P D vwCl [(w, .inr (3, [.ref wa0, .ref wa1, .ref wa2, .int v1225, .int 1])), (wa0, .inl (K 1, 1024, .inl g1280)), (wa1, .inl (K 1, 4096, .inl g1295)), (wa2, .inl (K 1, 10, .inl g1233)), (v, .inr (9, [.ref va0, .ref va1, .ref va2, .ref va3, .ref va4, .ref va5, .ref va6, .ref va7, .int vn8, .int vn9, .int vn10, .int vn11])), (va0, .inl (K 1, 40, .inl vf0)), (va1, .inl (K 1, 10, .inl vf1))] H := hP
                  replace hD : va_D A [(w, .inr (3, [.ref wa0, .ref wa1, .ref wa2, .int v1225, .int 1])), (wa0, .inl (K 1, 1024, .inl g1280)), (wa1, .inl (K 1, 4096, .inl g1295)), (wa2, .inl (K 1, 10, .inl g1233)), (v, .inr (9, [.ref va0, .ref va1, .ref va2, .ref va3, .ref va4, .ref va5, .ref va6, .ref va7, .int vn8, .int vn9, .int vn10, .int vn11])), (va0, .inl (K 1, 40, .inl vf0)), (va1, .inl (K 1, 10, .inl vf1))] := hD
                  obtain ⟨v1296, ev1296⟩ : ∃ z : Int32, z = i1288 + 1 := ⟨_, rfl⟩
                  refine lv_iinc (v := v1296) (lv' := [(3, .int v1296), (2, .int i1257), (0, .ref w), (1, .ref v)]) hx hb dX3_prepare_112 hl (k := 0) rfl (by rw [ev1296]; rfl) (by decide) rfl (fun ls hl => ?_)
                  refine lv_goto (tgt := 91) hx hb dX3_prepare_115 (by decide) ?_
                  have tv1296 : v1296.toInt = (i1288 : Int32).toInt + (1 : Int32).toInt := add_i ev1296 (by omega) (by omega)
                  exact ih_91 (i1288 := v1296) (g1289 := g1295) (hi_91 := by omega) (H := H) (locs := locs) (ls := ls) (hn_91 := by omega) (hP := hP) (hD := hD) (hS := hS) (hl := lv_sub hl [0, 1, 2, 3] rfl)
            · replace c1279 := eq_i c1279
              refine lv_iconst (v := 0) hx hb dX3_prepare_83 (by decide) ?_
              refine lv_goto (tgt := 88) hx hb dX3_prepare_84 (by decide) ?_
              refine sti hx hb hE.1 hP hD hS 1 1 rfl rfl (vp_in_iff.mpr (by omega)) dX3_prepare_88 (fun g1297 eg1297 H locs hP hD hS => ?_)
              replace hP : va_P D vwCl [(w, .inr (3, [.ref wa0, .ref wa1, .ref wa2, .int v1225, .int 1])), (wa0, .inl (K 1, 1024, .inl g1297)), (wa1, .inl (K 1, 4096, .inl g1259)), (wa2, .inl (K 1, 10, .inl g1233)), (v, .inr (9, [.ref va0, .ref va1, .ref va2, .ref va3, .ref va4, .ref va5, .ref va6, .ref va7, .int vn8, .int vn9, .int vn10, .int vn11])), (va0, .inl (K 1, 40, .inl vf0)), (va1, .inl (K 1, 10, .inl vf1))] H := hP
              replace hD : va_D A [(w, .inr (3, [.ref wa0, .ref wa1, .ref wa2, .int v1225, .int 1])), (wa0, .inl (K 1, 1024, .inl g1297)), (wa1, .inl (K 1, 4096, .inl g1259)), (wa2, .inl (K 1, 10, .inl g1233)), (v, .inr (9, [.ref va0, .ref va1, .ref va2, .ref va3, .ref va4, .ref va5, .ref va6, .ref va7, .int vn8, .int vn9, .int vn10, .int vn11])), (va0, .inl (K 1, 40, .inl vf0)), (va1, .inl (K 1, 10, .inl vf1))] := hD
              refine lv_iconst (v := 0) hx hb dX3_prepare_89 (by decide) ?_
              refine lv_istore_n (lv' := [(3, .int 0), (2, .int i1257), (0, .ref w), (1, .ref v)]) hx hb dX3_prepare_90 rfl hl (by decide) rfl (fun ls hl => ?_)
              have hl' := hl; have hP' := hP; have hD' := hD; clear hl hP hD
              obtain ⟨i1305, g1306, hi_91, hl, hP, hD⟩ : ∃ (i1305 : Int32) (g1306 : Nat → Int32), ((0 : Int) ≤ i1305.toInt) ∧ lv_has ls 4 [(3, .int i1305), (2, .int i1257), (0, .ref w), (1, .ref v)] ∧ va_P D vwCl [(w, .inr (3, [.ref wa0, .ref wa1, .ref wa2, .int v1225, .int 1])), (wa0, .inl (K 1, 1024, .inl g1297)), (wa1, .inl (K 1, 4096, .inl g1306)), (wa2, .inl (K 1, 10, .inl g1233)), (v, .inr (9, [.ref va0, .ref va1, .ref va2, .ref va3, .ref va4, .ref va5, .ref va6, .ref va7, .int vn8, .int vn9, .int vn10, .int vn11])), (va0, .inl (K 1, 40, .inl vf0)), (va1, .inl (K 1, 10, .inl vf1))] H ∧ va_D A [(w, .inr (3, [.ref wa0, .ref wa1, .ref wa2, .int v1225, .int 1])), (wa0, .inl (K 1, 1024, .inl g1297)), (wa1, .inl (K 1, 4096, .inl g1306)), (wa2, .inl (K 1, 10, .inl g1233)), (v, .inr (9, [.ref va0, .ref va1, .ref va2, .ref va3, .ref va4, .ref va5, .ref va6, .ref va7, .int vn8, .int vn9, .int vn10, .int vn11])), (va0, .inl (K 1, 40, .inl vf0)), (va1, .inl (K 1, 10, .inl vf1))] := ⟨_, _, by omega, hl', hP', hD'⟩
              clear hl' hP' hD'
              obtain ⟨n_91, hn_91⟩ : ∃ n : Nat, (4 - i1305.toInt).toNat < n := ⟨_, Nat.lt_succ_self _⟩
              induction n_91 generalizing i1305 g1306 H locs ls with
              | zero => exact absurd hn_91 (Nat.not_lt_zero _)
              | succ n_91 ih_91 =>
                refine lv_iload_n hx hb dX3_prepare_91 rfl (lv_at hl 0 rfl) ?_
                refine lv_iconst (v := 4) hx hb dX3_prepare_92 (by decide) ?_
                refine lv_icmp_ge (tgt := 118) hx hb dX3_prepare_93 (by decide) (fun c1307 => ?_) (fun c1307 => ?_)
                · replace c1307 := le_i c1307
                  obtain ⟨v1308, ev1308⟩ : ∃ z : Int32, z = i1257 + 1 := ⟨_, rfl⟩
                  refine lv_iinc (v := v1308) (lv' := [(2, .int v1308), (3, .int i1305), (0, .ref w), (1, .ref v)]) hx hb dX3_prepare_118 hl (k := 1) rfl (by rw [ev1308]; rfl) (by decide) rfl (fun ls hl => ?_)
                  refine lv_goto (tgt := 62) hx hb dX3_prepare_121 (by decide) ?_
                  have tv1308 : v1308.toInt = (i1257 : Int32).toInt + (1 : Int32).toInt := add_i ev1308 (by omega) (by omega)
                  exact ih_62 (i1257 := v1308) (g1258 := g1297) (g1259 := g1306) (hi_62 := by omega) (H := H) (locs := locs) (ls := ls) (hn_62 := by omega) (hP := hP) (hD := hD) (hS := hS) (hl := lv_sub hl [0, 2, 3] rfl)
                · replace c1307 := nle_i c1307
                  refine lv_aload_n hx hb dX3_prepare_96 rfl (lv_at hl 2 rfl) ?_
                  refine va_get (D := D) (ci := 3) (v := .ref wa1) (C := RX3) (T := TX3) (N := 5) hx hb hts in_X3 hown hE.1 hP 0 rfl rfl 1 (by decide) (hts _ w_171) (fun _ h9 => h9) rfl dX3_prepare_97 ?_
                  refine lv_iload_n hx hb dX3_prepare_100 rfl (lv_at hl 1 rfl) ?_
                  refine lv_iconst (v := 4) hx hb dX3_prepare_101 (by decide) ?_
                  refine lv_imul hx hb dX3_prepare_102 ?_
                  refine lv_topi (fun v1309 ev1309 => ?_)
                  refine lv_iload_n hx hb dX3_prepare_103 rfl (lv_at hl 0 rfl) ?_
                  refine lv_iadd hx hb dX3_prepare_104 ?_
                  refine lv_topi (fun v1310 ev1310 => ?_)
                  refine lv_aload_n hx hb dX3_prepare_105 rfl (lv_at hl 3 rfl) ?_
                  refine lv_iload_n hx hb dX3_prepare_106 rfl (lv_at hl 1 rfl) ?_
                  refine lv_iload_n hx hb dX3_prepare_107 rfl (lv_at hl 0 rfl) ?_
                  refine ro_V (As := [.int i1257, .int i1305]) (rest := [.int v1310, .ref wa1]) hC hE kV_X3_52 (c_X10_spread l D K v va0 va1 va2 va3 va4 va5 va6 va7 vn8 vn9 vn10 vn11 vf0 i1257 i1305) (hP.sub (ws' := [(v, .inr (9, [.ref va0, .ref va1, .ref va2, .ref va3, .ref va4, .ref va5, .ref va6, .ref va7, .int vn8, .int vn9, .int vn10, .int vn11])), (va0, .inl (K 1, 40, .inl vf0))]) [4, 5] rfl) 0 9 rfl rfl rfl hl.1 rfl (Nat.le_of_ble_eq_true rfl) (by decide) (by decide) dX3_prepare_108 (fun r1311 _ => ?_)
                  have tv1309 : v1309.toInt = i1257.toInt * 4 := mul_i ev1309 rfl (by decide) (by omega) (by omega)
                  have tv1310 : v1310.toInt = (v1309 : Int32).toInt + (i1305 : Int32).toInt := add_i ev1310 (by omega) (by omega)
                  refine sti hx hb hE.1 hP hD hS 2 1 rfl rfl (vp_in_iff.mpr (by omega)) dX3_prepare_111 (fun g1312 eg1312 H locs hP hD hS => ?_)
                  replace hP : va_P D vwCl [(w, .inr (3, [.ref wa0, .ref wa1, .ref wa2, .int v1225, .int 1])), (wa0, .inl (K 1, 1024, .inl g1297)), (wa1, .inl (K 1, 4096, .inl g1312)), (wa2, .inl (K 1, 10, .inl g1233)), (v, .inr (9, [.ref va0, .ref va1, .ref va2, .ref va3, .ref va4, .ref va5, .ref va6, .ref va7, .int vn8, .int vn9, .int vn10, .int vn11])), (va0, .inl (K 1, 40, .inl vf0)), (va1, .inl (K 1, 10, .inl vf1))] H := hP
                  replace hD : va_D A [(w, .inr (3, [.ref wa0, .ref wa1, .ref wa2, .int v1225, .int 1])), (wa0, .inl (K 1, 1024, .inl g1297)), (wa1, .inl (K 1, 4096, .inl g1312)), (wa2, .inl (K 1, 10, .inl g1233)), (v, .inr (9, [.ref va0, .ref va1, .ref va2, .ref va3, .ref va4, .ref va5, .ref va6, .ref va7, .int vn8, .int vn9, .int vn10, .int vn11])), (va0, .inl (K 1, 40, .inl vf0)), (va1, .inl (K 1, 10, .inl vf1))] := hD
                  obtain ⟨v1313, ev1313⟩ : ∃ z : Int32, z = i1305 + 1 := ⟨_, rfl⟩
                  refine lv_iinc (v := v1313) (lv' := [(3, .int v1313), (2, .int i1257), (0, .ref w), (1, .ref v)]) hx hb dX3_prepare_112 hl (k := 0) rfl (by rw [ev1313]; rfl) (by decide) rfl (fun ls hl => ?_)
                  refine lv_goto (tgt := 91) hx hb dX3_prepare_115 (by decide) ?_
                  have tv1313 : v1313.toInt = (i1305 : Int32).toInt + (1 : Int32).toInt := add_i ev1313 (by omega) (by omega)
                  exact ih_91 (i1305 := v1313) (g1306 := g1312) (hi_91 := by omega) (H := H) (locs := locs) (ls := ls) (hn_91 := by omega) (hP := hP) (hD := hD) (hS := hS) (hl := lv_sub hl [0, 1, 2, 3] rfl)
      · replace c1234 := nle_i c1234
        refine lv_aload_n hx hb dX3_prepare_35 rfl (lv_at hl 1 rfl) ?_
        refine va_get (D := D) (ci := 3) (v := .ref wa2) (C := RX3) (T := TX3) (N := 5) hx hb hts in_X3 hown hE.1 hP 0 rfl rfl 2 (by decide) (hts _ w_165) (fun _ h9 => h9) rfl dX3_prepare_36 ?_
        refine lv_iload_n hx hb dX3_prepare_39 rfl (lv_at hl 0 rfl) ?_
        refine lv_aload_n hx hb dX3_prepare_40 rfl (lv_at hl 2 rfl) ?_
        refine lv_aload_n hx hb dX3_prepare_41 rfl (lv_at hl 1 rfl) ?_
        refine va_get (D := D) (ci := 3) (v := .int v1225) (C := RX3) (T := TX3) (N := 5) hx hb hts in_X3 hown hE.1 hP 0 rfl rfl 3 (by decide) (hts _ w_166) (fun _ h9 => h9) rfl dX3_prepare_42 ?_
        refine lv_aload_n hx hb dX3_prepare_45 rfl (lv_at hl 2 rfl) ?_
        refine lv_iload_n hx hb dX3_prepare_46 rfl (lv_at hl 0 rfl) ?_
        refine ro_V (As := [.int i1232]) (rest := [.int v1225, .ref v, .int i1232, .ref wa2]) hC hE kV_X3_40 (c_X10_sign l D K v va0 va1 va2 va3 va4 va5 va6 va7 vn8 vn9 vn10 vn11 vf1 i1232) (hP.sub (ws' := [(v, .inr (9, [.ref va0, .ref va1, .ref va2, .ref va3, .ref va4, .ref va5, .ref va6, .ref va7, .int vn8, .int vn9, .int vn10, .int vn11])), (va1, .inl (K 1, 10, .inl vf1))]) [4, 6] rfl) 0 9 rfl rfl rfl hl.1 rfl (Nat.le_of_ble_eq_true rfl) (by decide) (by decide) dX3_prepare_47 (fun r1314 _ => ?_)
        refine ro_V (As := [.int v1225, .int r1314]) (rest := [.int i1232, .ref wa2]) hC hE kV_X3_44 (c_X10_showing l D K v va0 va1 va2 va3 va4 va5 va6 va7 vn8 vn9 vn10 vn11 vf1 v1225 r1314) (hP.sub (ws' := [(v, .inr (9, [.ref va0, .ref va1, .ref va2, .ref va3, .ref va4, .ref va5, .ref va6, .ref va7, .int vn8, .int vn9, .int vn10, .int vn11])), (va1, .inl (K 1, 10, .inl vf1))]) [4, 6] rfl) 0 9 rfl rfl rfl hl.1 rfl (Nat.le_of_ble_eq_true rfl) (by decide) (by decide) dX3_prepare_50 (fun r1315 _ => ?_)
        refine sti hx hb hE.1 hP hD hS 3 1 rfl rfl (vp_in_iff.mpr (by omega)) dX3_prepare_53 (fun g1316 eg1316 H locs hP hD hS => ?_)
        replace hP : va_P D vwCl [(w, .inr (3, [.ref wa0, .ref wa1, .ref wa2, .int v1225, .int 1])), (wa0, .inl (K 1, 1024, .inl wf0)), (wa1, .inl (K 1, 4096, .inl wf1)), (wa2, .inl (K 1, 10, .inl g1316)), (v, .inr (9, [.ref va0, .ref va1, .ref va2, .ref va3, .ref va4, .ref va5, .ref va6, .ref va7, .int vn8, .int vn9, .int vn10, .int vn11])), (va0, .inl (K 1, 40, .inl vf0)), (va1, .inl (K 1, 10, .inl vf1))] H := hP
        replace hD : va_D A [(w, .inr (3, [.ref wa0, .ref wa1, .ref wa2, .int v1225, .int 1])), (wa0, .inl (K 1, 1024, .inl wf0)), (wa1, .inl (K 1, 4096, .inl wf1)), (wa2, .inl (K 1, 10, .inl g1316)), (v, .inr (9, [.ref va0, .ref va1, .ref va2, .ref va3, .ref va4, .ref va5, .ref va6, .ref va7, .int vn8, .int vn9, .int vn10, .int vn11])), (va0, .inl (K 1, 40, .inl vf0)), (va1, .inl (K 1, 10, .inl vf1))] := hD
        obtain ⟨v1317, ev1317⟩ : ∃ z : Int32, z = i1232 + 1 := ⟨_, rfl⟩
        refine lv_iinc (v := v1317) (lv' := [(2, .int v1317), (0, .ref w), (1, .ref v)]) hx hb dX3_prepare_54 hl (k := 0) rfl (by rw [ev1317]; rfl) (by decide) rfl (fun ls hl => ?_)
        refine lv_goto (tgt := 29) hx hb dX3_prepare_57 (by decide) ?_
        have tv1317 : v1317.toInt = (i1232 : Int32).toInt + (1 : Int32).toInt := add_i ev1317 (by omega) (by omega)
        exact ih_29 (i1232 := v1317) (g1233 := g1316) (hi_29 := by omega) (H := H) (locs := locs) (ls := ls) (hn_29 := by omega) (hP := hP) (hD := hD) (hS := hS) (hl := lv_sub hl [0, 1, 2] rfl)
  · replace c1223 := ne_i c1223
    refine W.widen (k := 0) (n := 0) (by decide) (by decide) ?_
    exact ch_vret hC hr hk hS dX3_prepare_7 ((fun k => [wn3, wn4].getD k 0, fun k => [wf0, wf1, wf2].getD k (fun _ => 0), fun k => [].getD k (fun _ => 0)) : ((Nat → Int32) × (Nat → Nat → Int32) × (Nat → Nat → Int64))) trivial (hP.sub [0, 1, 2, 3, 4, 5, 6] rfl) (hD.sub [0, 1, 2, 3, 4, 5, 6] (by decide) rfl)
set_option maxRecDepth 40000 in
set_option maxHeartbeats 4000000 in
theorem c_X0_swap (l : Launch) (D : va_G) (K : Nat → ClassId) (w : Nat) (wa0 : Nat) (wa1 : Nat) (wa2 : Nat) (wa3 : Nat) (wn4 : Int32) (wn5 : Int32) (wf2 : Nat → Int32) (p0 : Int32) (p1 : Int32) : Cv (S := ((Nat → Int32) × (Nat → Nat → Int32) × (Nat → Nat → Int64))) l D K yX0_swap cX0_swap 4 0 0 0 0 [.ref w, .int p0, .int p1] [(w, .inr (0, [.ref wa0, .ref wa1, .ref wa2, .ref wa3, .int wn4, .int wn5])), (wa2, .inl (K 1, 5, .inl wf2))] (fun _ => True) (fun u => [(w, .inr (0, [.ref wa0, .ref wa1, .ref wa2, .ref wa3, .int wn4, .int wn5])), (wa2, .inl (K 1, 5, .inl (u.2.1 0)))]) := by
  intro sz
  refine ch_of (y := yX0_swap) (cc := cX0_swap) (maxL := 4) (ret := none) (av := [.ref w, .int p0, .int p1]) (ws := [(w, .inr (0, [.ref wa0, .ref wa1, .ref wa2, .ref wa3, .int wn4, .int wn5])), (wa2, .inl (K 1, 5, .inl wf2))]) (D := D) (K := K) (Qc := fun A => va_Qv (S := ((Nat → Int32) × (Nat → Nat → Int32) × (Nat → Nat → Int64))) (fun _ => True) (chB D A (fun u => [(w, .inr (0, [.ref wa0, .ref wa1, .ref wa2, .ref wa3, .int wn4, .int wn5])), (wa2, .inl (K 1, 5, .inl (u.2.1 0)))])) A) (by decide) (Nat.le_of_ble_eq_true rfl) ?_
  intro p e s m below meth c A hC hr hk hin hE hD hA H locs hP hS ls hl
  replace hC : CallFix p m c cX0_swap 4 s [.ref w, .int p0, .int p1].toArray wl RX0 := hC
  have hx := hC.1
  have hb := hC.2.1
  have hml := hC.2.2.1
  have hown := hC.2.2.2.1
  have hts := hC.2.2.2.2
  replace hl : lv_has ls 4 [(0, .ref w), (1, .int p0), (2, .int p1)] := hl
  have kc_0 : (0 : Int32).toInt = 0 := by decide
  have kc_5 : (5 : Int32).toInt = 5 := by decide
  refine lv_iload_n hx hb dX0_swap_0 rfl (lv_at hl 1 rfl) ?_
  refine lv_if_lt (tgt := 18) hx hb dX0_swap_1 (by decide) (fun c1326 => ?_) (fun c1326 => ?_)
  · replace c1326 := lt_i c1326
    refine W.widen (k := 0) (n := 0) (by decide) (by decide) ?_
    exact ch_vret hC hr hk hS dX0_swap_18 ((fun k => [].getD k 0, fun k => [wf2].getD k (fun _ => 0), fun k => [].getD k (fun _ => 0)) : ((Nat → Int32) × (Nat → Nat → Int32) × (Nat → Nat → Int64))) trivial (hP.sub [0, 1] rfl) (hD.sub [0, 1] (by decide) rfl)
  · replace c1326 := nlt_i c1326
    refine lv_iload_n hx hb dX0_swap_4 rfl (lv_at hl 2 rfl) ?_
    refine lv_if_lt (tgt := 18) hx hb dX0_swap_5 (by decide) (fun c1327 => ?_) (fun c1327 => ?_)
    · replace c1327 := lt_i c1327
      refine W.widen (k := 0) (n := 0) (by decide) (by decide) ?_
      exact ch_vret hC hr hk hS dX0_swap_18 ((fun k => [].getD k 0, fun k => [wf2].getD k (fun _ => 0), fun k => [].getD k (fun _ => 0)) : ((Nat → Int32) × (Nat → Nat → Int32) × (Nat → Nat → Int64))) trivial (hP.sub [0, 1] rfl) (hD.sub [0, 1] (by decide) rfl)
    · replace c1327 := nlt_i c1327
      refine lv_iload_n hx hb dX0_swap_8 rfl (lv_at hl 1 rfl) ?_
      refine lv_iconst (v := 5) hx hb dX0_swap_9 (by decide) ?_
      refine lv_icmp_ge (tgt := 18) hx hb dX0_swap_10 (by decide) (fun c1328 => ?_) (fun c1328 => ?_)
      · replace c1328 := le_i c1328
        refine W.widen (k := 0) (n := 0) (by decide) (by decide) ?_
        exact ch_vret hC hr hk hS dX0_swap_18 ((fun k => [].getD k 0, fun k => [wf2].getD k (fun _ => 0), fun k => [].getD k (fun _ => 0)) : ((Nat → Int32) × (Nat → Nat → Int32) × (Nat → Nat → Int64))) trivial (hP.sub [0, 1] rfl) (hD.sub [0, 1] (by decide) rfl)
      · replace c1328 := nle_i c1328
        refine lv_iload_n hx hb dX0_swap_13 rfl (lv_at hl 2 rfl) ?_
        refine lv_iconst (v := 5) hx hb dX0_swap_14 (by decide) ?_
        refine lv_icmp_lt (tgt := 19) hx hb dX0_swap_15 (by decide) (fun c1329 => ?_) (fun c1329 => ?_)
        · replace c1329 := lt_i c1329
          refine lv_aload_n hx hb dX0_swap_19 rfl (lv_at hl 0 rfl) ?_
          refine va_get (D := D) (ci := 0) (v := .ref wa2) (C := RX0) (T := TX0) (N := 6) hx hb hts in_X0 hown hE.1 hP 0 rfl rfl 2 (by decide) (hts _ w_202) (fun _ h9 => h9) rfl dX0_swap_20 ?_
          refine lv_iload_n hx hb dX0_swap_23 rfl (lv_at hl 1 rfl) ?_
          refine va_iald hx hb hE.1 hP 1 1 rfl rfl (vp_in_iff.mpr (by omega)) dX0_swap_24 ?_
          refine lv_topi (fun v1330 ev1330 => ?_)
          refine lv_istore_n (lv' := [(3, .int v1330), (0, .ref w), (1, .int p0), (2, .int p1)]) hx hb dX0_swap_25 rfl hl (by decide) rfl (fun ls hl => ?_)
          refine lv_aload_n hx hb dX0_swap_26 rfl (lv_at hl 1 rfl) ?_
          refine va_get (D := D) (ci := 0) (v := .ref wa2) (C := RX0) (T := TX0) (N := 6) hx hb hts in_X0 hown hE.1 hP 0 rfl rfl 2 (by decide) (hts _ w_202) (fun _ h9 => h9) rfl dX0_swap_27 ?_
          refine lv_iload_n hx hb dX0_swap_30 rfl (lv_at hl 2 rfl) ?_
          refine lv_aload_n hx hb dX0_swap_31 rfl (lv_at hl 1 rfl) ?_
          refine va_get (D := D) (ci := 0) (v := .ref wa2) (C := RX0) (T := TX0) (N := 6) hx hb hts in_X0 hown hE.1 hP 0 rfl rfl 2 (by decide) (hts _ w_202) (fun _ h9 => h9) rfl dX0_swap_32 ?_
          refine lv_iload_n hx hb dX0_swap_35 rfl (lv_at hl 3 rfl) ?_
          refine va_iald hx hb hE.1 hP 1 1 rfl rfl (vp_in_iff.mpr (by omega)) dX0_swap_36 ?_
          refine lv_topi (fun v1331 ev1331 => ?_)
          refine sti hx hb hE.1 hP hD hS 1 1 rfl rfl (vp_in_iff.mpr (by omega)) dX0_swap_37 (fun g1332 eg1332 H locs hP hD hS => ?_)
          replace hP : va_P D vwCl [(w, .inr (0, [.ref wa0, .ref wa1, .ref wa2, .ref wa3, .int wn4, .int wn5])), (wa2, .inl (K 1, 5, .inl g1332))] H := hP
          replace hD : va_D A [(w, .inr (0, [.ref wa0, .ref wa1, .ref wa2, .ref wa3, .int wn4, .int wn5])), (wa2, .inl (K 1, 5, .inl g1332))] := hD
          refine lv_aload_n hx hb dX0_swap_38 rfl (lv_at hl 1 rfl) ?_
          refine va_get (D := D) (ci := 0) (v := .ref wa2) (C := RX0) (T := TX0) (N := 6) hx hb hts in_X0 hown hE.1 hP 0 rfl rfl 2 (by decide) (hts _ w_202) (fun _ h9 => h9) rfl dX0_swap_39 ?_
          refine lv_iload_n hx hb dX0_swap_42 rfl (lv_at hl 3 rfl) ?_
          refine lv_iload_n hx hb dX0_swap_43 rfl (lv_at hl 0 rfl) ?_
          refine sti hx hb hE.1 hP hD hS 1 1 rfl rfl (vp_in_iff.mpr (by omega)) dX0_swap_44 (fun g1333 eg1333 H locs hP hD hS => ?_)
          replace hP : va_P D vwCl [(w, .inr (0, [.ref wa0, .ref wa1, .ref wa2, .ref wa3, .int wn4, .int wn5])), (wa2, .inl (K 1, 5, .inl g1333))] H := hP
          replace hD : va_D A [(w, .inr (0, [.ref wa0, .ref wa1, .ref wa2, .ref wa3, .int wn4, .int wn5])), (wa2, .inl (K 1, 5, .inl g1333))] := hD
          refine W.widen (k := 0) (n := 0) (by decide) (by decide) ?_
          exact ch_vret hC hr hk hS dX0_swap_45 ((fun k => [].getD k 0, fun k => [g1333].getD k (fun _ => 0), fun k => [].getD k (fun _ => 0)) : ((Nat → Int32) × (Nat → Nat → Int32) × (Nat → Nat → Int64))) trivial (hP.sub [0, 1] rfl) (hD.sub [0, 1] (by decide) rfl)
        · replace c1329 := nlt_i c1329
          refine W.widen (k := 0) (n := 0) (by decide) (by decide) ?_
          exact ch_vret hC hr hk hS dX0_swap_18 ((fun k => [].getD k 0, fun k => [wf2].getD k (fun _ => 0), fun k => [].getD k (fun _ => 0)) : ((Nat → Int32) × (Nat → Nat → Int32) × (Nat → Nat → Int64))) trivial (hP.sub [0, 1] rfl) (hD.sub [0, 1] (by decide) rfl)
set_option maxRecDepth 40000 in
set_option maxHeartbeats 4000000 in
theorem c_X0_nextOrder (l : Launch) (D : va_G) (K : Nat → ClassId) (w : Nat) (wa0 : Nat) (wa1 : Nat) (wa2 : Nat) (wa3 : Nat) (wn4 : Int32) (wn5 : Int32) (wf2 : Nat → Int32) (p0 : Int32) (h1 : p0.toInt ≤ 5) (h0 : 0 ≤ p0.toInt) : Ci (S := ((Nat → Int32) × (Nat → Nat → Int32) × (Nat → Nat → Int64))) l D K yX0_nextOrder cX0_nextOrder 6 (some .boolean) 1 23 0 0 [.ref w, .int p0] [(w, .inr (0, [.ref wa0, .ref wa1, .ref wa2, .ref wa3, .int wn4, .int wn5])), (wa2, .inl (K 1, 5, .inl wf2))] (fun r u => ((r = 0) ∨ (r = 1))) (fun u => [(w, .inr (0, [.ref wa0, .ref wa1, .ref wa2, .ref wa3, .int wn4, .int wn5])), (wa2, .inl (K 1, 5, .inl (u.2.1 0)))]) := by
  intro sz
  refine ch_of (y := yX0_nextOrder) (cc := cX0_nextOrder) (maxL := 6) (ret := (some .boolean)) (av := [.ref w, .int p0]) (ws := [(w, .inr (0, [.ref wa0, .ref wa1, .ref wa2, .ref wa3, .int wn4, .int wn5])), (wa2, .inl (K 1, 5, .inl wf2))]) (D := D) (K := K) (Qc := fun A => va_Qi (S := ((Nat → Int32) × (Nat → Nat → Int32) × (Nat → Nat → Int64))) (fun r u => ((r = 0) ∨ (r = 1))) (chB D A (fun u => [(w, .inr (0, [.ref wa0, .ref wa1, .ref wa2, .ref wa3, .int wn4, .int wn5])), (wa2, .inl (K 1, 5, .inl (u.2.1 0)))])) A) (by decide) (Nat.le_of_ble_eq_true rfl) ?_
  intro p e s m below meth c A hC hr hk hin hE hD hA H locs hP hS ls hl
  replace hC : CallFix p m c cX0_nextOrder 6 s [.ref w, .int p0].toArray wl RX0 := hC
  have hx := hC.1
  have hb := hC.2.1
  have hml := hC.2.2.1
  have hown := hC.2.2.2.1
  have hts := hC.2.2.2.2
  replace hl : lv_has ls 6 [(0, .ref w), (1, .int p0)] := hl
  have kc_m1 : (-1 : Int32).toInt = -1 := by decide
  have kc_0 : (0 : Int32).toInt = 0 := by decide
  have kc_1 : (1 : Int32).toInt = 1 := by decide
  have kc_2 : (2 : Int32).toInt = 2 := by decide
  refine lv_iload_n hx hb dX0_nextOrder_0 rfl (lv_at hl 1 rfl) ?_
  refine lv_iconst (v := 2) hx hb dX0_nextOrder_1 (by decide) ?_
  refine lv_isub hx hb dX0_nextOrder_2 ?_
  refine lv_topi (fun v1402 ev1402 => ?_)
  refine lv_istore_n (lv' := [(2, .int v1402), (0, .ref w), (1, .int p0)]) hx hb dX0_nextOrder_3 rfl hl (by decide) rfl (fun ls hl => ?_)
  have tv1402 : v1402.toInt = (p0 : Int32).toInt - (2 : Int32).toInt := sub_i ev1402 (by omega) (by omega)
  have hl' := hl; have hP' := hP; have hD' := hD; clear hl hP hD
  obtain ⟨i1410, hv_4, hw_4, hl, hP, hD⟩ : ∃ (i1410 : Int32), (i1410.toInt ≤ 3) ∧ (-2147483648 ≤ i1410.toInt) ∧ lv_has ls 6 [(2, .int i1410), (0, .ref w), (1, .int p0)] ∧ va_P D vwCl [(w, .inr (0, [.ref wa0, .ref wa1, .ref wa2, .ref wa3, .int wn4, .int wn5])), (wa2, .inl (K 1, 5, .inl wf2))] H ∧ va_D A [(w, .inr (0, [.ref wa0, .ref wa1, .ref wa2, .ref wa3, .int wn4, .int wn5])), (wa2, .inl (K 1, 5, .inl wf2))] := ⟨_, by omega, by omega, hl', hP', hD'⟩
  clear hl' hP' hD'
  obtain ⟨n_4, hn_4⟩ : ∃ n : Nat, (i1410.toInt + 1).toNat < n := ⟨_, Nat.lt_succ_self _⟩
  induction n_4 generalizing i1410 H locs ls with
  | zero => exact absurd hn_4 (Nat.not_lt_zero _)
  | succ n_4 ih_4 =>
    refine lv_iload_n hx hb dX0_nextOrder_4 rfl (lv_at hl 0 rfl) ?_
    refine lv_if_lt (tgt := 31) hx hb dX0_nextOrder_5 (by decide) (fun c1411 => ?_) (fun c1411 => ?_)
    · replace c1411 := lt_i c1411
      refine lv_iload_n hx hb dX0_nextOrder_31 rfl (lv_at hl 0 rfl) ?_
      refine lv_if_ge (tgt := 37) hx hb dX0_nextOrder_32 (by decide) (fun c1412 => ?_) (fun c1412 => ?_)
      · replace c1412 := le_i c1412
        refine lv_iload_n hx hb dX0_nextOrder_37 rfl (lv_at hl 2 rfl) ?_
        refine lv_iconst (v := 1) hx hb dX0_nextOrder_38 (by decide) ?_
        refine lv_isub hx hb dX0_nextOrder_39 ?_
        refine lv_topi (fun v1413 ev1413 => ?_)
        refine lv_istore_n (lv' := [(3, .int v1413), (2, .int i1410), (0, .ref w), (1, .int p0)]) hx hb dX0_nextOrder_40 rfl hl (by decide) rfl (fun ls hl => ?_)
        have tv1413 : v1413.toInt = (p0 : Int32).toInt - (1 : Int32).toInt := sub_i ev1413 (by omega) (by omega)
        have hl' := hl; have hP' := hP; have hD' := hD; clear hl hP hD
        obtain ⟨i1420, hv_41, hl, hP, hD⟩ : ∃ (i1420 : Int32), (i1420.toInt ≤ 4) ∧ lv_has ls 6 [(3, .int i1420), (2, .int i1410), (0, .ref w), (1, .int p0)] ∧ va_P D vwCl [(w, .inr (0, [.ref wa0, .ref wa1, .ref wa2, .ref wa3, .int wn4, .int wn5])), (wa2, .inl (K 1, 5, .inl wf2))] H ∧ va_D A [(w, .inr (0, [.ref wa0, .ref wa1, .ref wa2, .ref wa3, .int wn4, .int wn5])), (wa2, .inl (K 1, 5, .inl wf2))] := ⟨_, by omega, hl', hP', hD'⟩
        clear hl' hP' hD'
        obtain ⟨n_41, hn_41⟩ : ∃ n : Nat, (i1420.toInt - i1410.toInt).toNat < n := ⟨_, Nat.lt_succ_self _⟩
        induction n_41 generalizing i1420 H locs ls with
        | zero => exact absurd hn_41 (Nat.not_lt_zero _)
        | succ n_41 ih_41 =>
          refine lv_iload_n hx hb dX0_nextOrder_41 rfl (lv_at hl 0 rfl) ?_
          refine lv_iload_n hx hb dX0_nextOrder_42 rfl (lv_at hl 1 rfl) ?_
          refine lv_icmp_le (tgt := 67) hx hb dX0_nextOrder_43 (by decide) (fun c1421 => ?_) (fun c1421 => ?_)
          · replace c1421 := le_i c1421
            refine lv_aload_n hx hb dX0_nextOrder_67 rfl (lv_at hl 2 rfl) ?_
            refine lv_iload_n hx hb dX0_nextOrder_68 rfl (lv_at hl 1 rfl) ?_
            refine lv_iload_n hx hb dX0_nextOrder_69 rfl (lv_at hl 0 rfl) ?_
            refine cv_V (As := [.int i1410, .int i1420]) (rest := []) (wc := [(w, .inr (0, [.ref wa0, .ref wa1, .ref wa2, .ref wa3, .int wn4, .int wn5])), (wa2, .inl (K 1, 5, .inl wf2))]) (wr := []) hC hE kV_X0_116 (c_X0_swap l D K w wa0 wa1 wa2 wa3 wn4 wn5 wf2 i1410 i1420) hP hD hS hA [0, 1] [] rfl rfl rfl (by decide) (by decide) (by decide) 0 0 rfl rfl rfl hl.1 rfl (Nat.le_of_ble_eq_true rfl) (by decide) (by decide) dX0_nextOrder_70 (fun u1422 H locs hw hP hD hS => ?_)
            replace hP : va_P D vwCl [(w, .inr (0, [.ref wa0, .ref wa1, .ref wa2, .ref wa3, .int wn4, .int wn5])), (wa2, .inl (K 1, 5, .inl (u1422.2.1 0)))] H := hP
            replace hD : va_D A [(w, .inr (0, [.ref wa0, .ref wa1, .ref wa2, .ref wa3, .int wn4, .int wn5])), (wa2, .inl (K 1, 5, .inl (u1422.2.1 0)))] := hD
            replace hP : va_P D vwCl [(w, .inr (0, [.ref wa0, .ref wa1, .ref wa2, .ref wa3, .int wn4, .int wn5])), (wa2, .inl (K 1, 5, .inl (u1422.2.1 0)))] H := hP.sub [0, 1] rfl
            replace hD : va_D A [(w, .inr (0, [.ref wa0, .ref wa1, .ref wa2, .ref wa3, .int wn4, .int wn5])), (wa2, .inl (K 1, 5, .inl (u1422.2.1 0)))] := hD.sub [0, 1] (by decide) rfl
            refine W.widen (k := 0) (n := 0) (by decide) (by decide) ?_
            refine lv_iload_n hx hb dX0_nextOrder_73 rfl (lv_at hl 1 rfl) ?_
            refine lv_iconst (v := 1) hx hb dX0_nextOrder_74 (by decide) ?_
            refine lv_iadd hx hb dX0_nextOrder_75 ?_
            refine lv_topi (fun v1424 ev1424 => ?_)
            refine lv_istore (lv' := [(4, .int v1424), (3, .int i1420), (2, .int i1410), (0, .ref w), (1, .int p0)]) hx hb dX0_nextOrder_76 hl (by decide) rfl (fun ls hl => ?_)
            refine lv_iload_n hx hb dX0_nextOrder_78 rfl (lv_at hl 4 rfl) ?_
            refine lv_iconst (v := 1) hx hb dX0_nextOrder_79 (by decide) ?_
            refine lv_isub hx hb dX0_nextOrder_80 ?_
            refine lv_topi (fun v1425 ev1425 => ?_)
            refine lv_istore (lv' := [(5, .int v1425), (4, .int v1424), (3, .int i1420), (2, .int i1410), (0, .ref w), (1, .int p0)]) hx hb dX0_nextOrder_81 hl (by decide) rfl (fun ls hl => ?_)
            have tv1425 : v1425.toInt = (p0 : Int32).toInt - (1 : Int32).toInt := sub_i ev1425 (by omega) (by omega)
            have tv1424 : v1424.toInt = (i1410 : Int32).toInt + (1 : Int32).toInt := add_i ev1424 (by omega) (by omega)
            have hl' := hl; have hP' := hP; have hD' := hD; clear hl hP hD
            obtain ⟨i1433, i1434, g1435, hi_83, hv_83, hl, hP, hD⟩ : ∃ (i1433 : Int32) (i1434 : Int32) (g1435 : Nat → Int32), ((0 : Int) ≤ i1434.toInt) ∧ (i1433.toInt ≤ 4) ∧ lv_has ls 6 [(5, .int i1433), (4, .int i1434), (3, .int i1420), (2, .int i1410), (0, .ref w), (1, .int p0)] ∧ va_P D vwCl [(w, .inr (0, [.ref wa0, .ref wa1, .ref wa2, .ref wa3, .int wn4, .int wn5])), (wa2, .inl (K 1, 5, .inl g1435))] H ∧ va_D A [(w, .inr (0, [.ref wa0, .ref wa1, .ref wa2, .ref wa3, .int wn4, .int wn5])), (wa2, .inl (K 1, 5, .inl g1435))] := ⟨_, _, _, by omega, by omega, hl', hP', hD'⟩
            clear hl' hP' hD'
            obtain ⟨n_83, hn_83⟩ : ∃ n : Nat, (i1433.toInt - i1434.toInt).toNat < n := ⟨_, Nat.lt_succ_self _⟩
            induction n_83 generalizing i1433 i1434 g1435 H locs ls with
            | zero => exact absurd hn_83 (Nat.not_lt_zero _)
            | succ n_83 ih_83 =>
              refine lv_iload hx hb dX0_nextOrder_83 (lv_at hl 1 rfl) ?_
              refine lv_iload hx hb dX0_nextOrder_85 (lv_at hl 0 rfl) ?_
              refine lv_icmp_ge (tgt := 107) hx hb dX0_nextOrder_87 (by decide) (fun c1436 => ?_) (fun c1436 => ?_)
              · replace c1436 := le_i c1436
                refine lv_iconst (v := 1) hx hb dX0_nextOrder_107 (by decide) ?_
                refine W.widen (k := 0) (n := 0) (by decide) (by decide) ?_
                exact ch_zret hC hr hk hS dX0_nextOrder_108 rfl ((fun k => [].getD k 0, fun k => [g1435].getD k (fun _ => 0), fun k => [].getD k (fun _ => 0)) : ((Nat → Int32) × (Nat → Nat → Int32) × (Nat → Nat → Int64))) (Or.inr rfl) (hP.sub [0, 1] rfl) (hD.sub [0, 1] (by decide) rfl)
              · replace c1436 := nle_i c1436
                refine lv_aload_n hx hb dX0_nextOrder_90 rfl (lv_at hl 4 rfl) ?_
                refine lv_iload hx hb dX0_nextOrder_91 (lv_at hl 1 rfl) ?_
                refine lv_iload hx hb dX0_nextOrder_93 (lv_at hl 0 rfl) ?_
                refine cv_V (As := [.int i1434, .int i1433]) (rest := []) (wc := [(w, .inr (0, [.ref wa0, .ref wa1, .ref wa2, .ref wa3, .int wn4, .int wn5])), (wa2, .inl (K 1, 5, .inl g1435))]) (wr := []) hC hE kV_X0_116 (c_X0_swap l D K w wa0 wa1 wa2 wa3 wn4 wn5 g1435 i1434 i1433) hP hD hS hA [0, 1] [] rfl rfl rfl (by decide) (by decide) (by decide) 0 0 rfl rfl rfl hl.1 rfl (Nat.le_of_ble_eq_true rfl) (by decide) (by decide) dX0_nextOrder_95 (fun u1437 H locs hw hP hD hS => ?_)
                replace hP : va_P D vwCl [(w, .inr (0, [.ref wa0, .ref wa1, .ref wa2, .ref wa3, .int wn4, .int wn5])), (wa2, .inl (K 1, 5, .inl (u1437.2.1 0)))] H := hP
                replace hD : va_D A [(w, .inr (0, [.ref wa0, .ref wa1, .ref wa2, .ref wa3, .int wn4, .int wn5])), (wa2, .inl (K 1, 5, .inl (u1437.2.1 0)))] := hD
                replace hP : va_P D vwCl [(w, .inr (0, [.ref wa0, .ref wa1, .ref wa2, .ref wa3, .int wn4, .int wn5])), (wa2, .inl (K 1, 5, .inl (u1437.2.1 0)))] H := hP.sub [0, 1] rfl
                replace hD : va_D A [(w, .inr (0, [.ref wa0, .ref wa1, .ref wa2, .ref wa3, .int wn4, .int wn5])), (wa2, .inl (K 1, 5, .inl (u1437.2.1 0)))] := hD.sub [0, 1] (by decide) rfl
                refine W.widen (k := 0) (n := 0) (by decide) (by decide) ?_
                obtain ⟨v1439, ev1439⟩ : ∃ z : Int32, z = i1434 + 1 := ⟨_, rfl⟩
                refine lv_iinc (v := v1439) (lv' := [(4, .int v1439), (5, .int i1433), (3, .int i1420), (2, .int i1410), (0, .ref w), (1, .int p0)]) hx hb dX0_nextOrder_98 hl (k := 1) rfl (by rw [ev1439]; rfl) (by decide) rfl (fun ls hl => ?_)
                obtain ⟨v1440, ev1440⟩ : ∃ z : Int32, z = i1433 + (-1) := ⟨_, rfl⟩
                refine lv_iinc (v := v1440) (lv' := [(5, .int v1440), (4, .int v1439), (3, .int i1420), (2, .int i1410), (0, .ref w), (1, .int p0)]) hx hb dX0_nextOrder_101 hl (k := 1) rfl (by rw [ev1440]; rfl) (by decide) rfl (fun ls hl => ?_)
                refine lv_goto (tgt := 83) hx hb dX0_nextOrder_104 (by decide) ?_
                have tv1440 : v1440.toInt = (i1433 : Int32).toInt + ((-1) : Int32).toInt := add_i ev1440 (by omega) (by omega)
                have tv1439 : v1439.toInt = (i1434 : Int32).toInt + (1 : Int32).toInt := add_i ev1439 (by omega) (by omega)
                exact ih_83 (i1433 := v1440) (i1434 := v1439) (g1435 := (u1437.2.1 0)) (hi_83 := by omega) (hv_83 := by omega) (H := H) (locs := locs) (ls := ls) (hn_83 := by omega) (hP := hP) (hD := hD) (hS := hS) (hl := lv_sub hl [0, 1, 2, 3, 4, 5] rfl)
          · replace c1421 := nle_i c1421
            refine lv_aload_n hx hb dX0_nextOrder_46 rfl (lv_at hl 2 rfl) ?_
            refine va_get (D := D) (ci := 0) (v := .ref wa2) (C := RX0) (T := TX0) (N := 6) hx hb hts in_X0 hown hE.1 hP 0 rfl rfl 2 (by decide) (hts _ w_202) (fun _ h9 => h9) rfl dX0_nextOrder_47 ?_
            refine lv_iload_n hx hb dX0_nextOrder_50 rfl (lv_at hl 0 rfl) ?_
            refine va_iald hx hb hE.1 hP 1 1 rfl rfl (vp_in_iff.mpr (by omega)) dX0_nextOrder_51 ?_
            refine lv_topi (fun v1441 ev1441 => ?_)
            refine lv_aload_n hx hb dX0_nextOrder_52 rfl (lv_at hl 2 rfl) ?_
            refine va_get (D := D) (ci := 0) (v := .ref wa2) (C := RX0) (T := TX0) (N := 6) hx hb hts in_X0 hown hE.1 hP 0 rfl rfl 2 (by decide) (hts _ w_202) (fun _ h9 => h9) rfl dX0_nextOrder_53 ?_
            refine lv_iload_n hx hb dX0_nextOrder_56 rfl (lv_at hl 1 rfl) ?_
            refine va_iald hx hb hE.1 hP 1 1 rfl rfl (vp_in_iff.mpr (by omega)) dX0_nextOrder_57 ?_
            refine lv_topi (fun v1442 ev1442 => ?_)
            refine lv_icmp_ge (tgt := 67) hx hb dX0_nextOrder_58 (by decide) (fun c1443 => ?_) (fun c1443 => ?_)
            · replace c1443 := le_i c1443
              refine lv_aload_n hx hb dX0_nextOrder_67 rfl (lv_at hl 2 rfl) ?_
              refine lv_iload_n hx hb dX0_nextOrder_68 rfl (lv_at hl 1 rfl) ?_
              refine lv_iload_n hx hb dX0_nextOrder_69 rfl (lv_at hl 0 rfl) ?_
              refine cv_V (As := [.int i1410, .int i1420]) (rest := []) (wc := [(w, .inr (0, [.ref wa0, .ref wa1, .ref wa2, .ref wa3, .int wn4, .int wn5])), (wa2, .inl (K 1, 5, .inl wf2))]) (wr := []) hC hE kV_X0_116 (c_X0_swap l D K w wa0 wa1 wa2 wa3 wn4 wn5 wf2 i1410 i1420) hP hD hS hA [0, 1] [] rfl rfl rfl (by decide) (by decide) (by decide) 0 0 rfl rfl rfl hl.1 rfl (Nat.le_of_ble_eq_true rfl) (by decide) (by decide) dX0_nextOrder_70 (fun u1444 H locs hw hP hD hS => ?_)
              replace hP : va_P D vwCl [(w, .inr (0, [.ref wa0, .ref wa1, .ref wa2, .ref wa3, .int wn4, .int wn5])), (wa2, .inl (K 1, 5, .inl (u1444.2.1 0)))] H := hP
              replace hD : va_D A [(w, .inr (0, [.ref wa0, .ref wa1, .ref wa2, .ref wa3, .int wn4, .int wn5])), (wa2, .inl (K 1, 5, .inl (u1444.2.1 0)))] := hD
              replace hP : va_P D vwCl [(w, .inr (0, [.ref wa0, .ref wa1, .ref wa2, .ref wa3, .int wn4, .int wn5])), (wa2, .inl (K 1, 5, .inl (u1444.2.1 0)))] H := hP.sub [0, 1] rfl
              replace hD : va_D A [(w, .inr (0, [.ref wa0, .ref wa1, .ref wa2, .ref wa3, .int wn4, .int wn5])), (wa2, .inl (K 1, 5, .inl (u1444.2.1 0)))] := hD.sub [0, 1] (by decide) rfl
              refine W.widen (k := 0) (n := 0) (by decide) (by decide) ?_
              refine lv_iload_n hx hb dX0_nextOrder_73 rfl (lv_at hl 1 rfl) ?_
              refine lv_iconst (v := 1) hx hb dX0_nextOrder_74 (by decide) ?_
              refine lv_iadd hx hb dX0_nextOrder_75 ?_
              refine lv_topi (fun v1446 ev1446 => ?_)
              refine lv_istore (lv' := [(4, .int v1446), (3, .int i1420), (2, .int i1410), (0, .ref w), (1, .int p0)]) hx hb dX0_nextOrder_76 hl (by decide) rfl (fun ls hl => ?_)
              refine lv_iload_n hx hb dX0_nextOrder_78 rfl (lv_at hl 4 rfl) ?_
              refine lv_iconst (v := 1) hx hb dX0_nextOrder_79 (by decide) ?_
              refine lv_isub hx hb dX0_nextOrder_80 ?_
              refine lv_topi (fun v1447 ev1447 => ?_)
              refine lv_istore (lv' := [(5, .int v1447), (4, .int v1446), (3, .int i1420), (2, .int i1410), (0, .ref w), (1, .int p0)]) hx hb dX0_nextOrder_81 hl (by decide) rfl (fun ls hl => ?_)
              have tv1447 : v1447.toInt = (p0 : Int32).toInt - (1 : Int32).toInt := sub_i ev1447 (by omega) (by omega)
              have tv1446 : v1446.toInt = (i1410 : Int32).toInt + (1 : Int32).toInt := add_i ev1446 (by omega) (by omega)
              have hl' := hl; have hP' := hP; have hD' := hD; clear hl hP hD
              obtain ⟨i1455, i1456, g1457, hi_83, hv_83, hl, hP, hD⟩ : ∃ (i1455 : Int32) (i1456 : Int32) (g1457 : Nat → Int32), ((0 : Int) ≤ i1456.toInt) ∧ (i1455.toInt ≤ 4) ∧ lv_has ls 6 [(5, .int i1455), (4, .int i1456), (3, .int i1420), (2, .int i1410), (0, .ref w), (1, .int p0)] ∧ va_P D vwCl [(w, .inr (0, [.ref wa0, .ref wa1, .ref wa2, .ref wa3, .int wn4, .int wn5])), (wa2, .inl (K 1, 5, .inl g1457))] H ∧ va_D A [(w, .inr (0, [.ref wa0, .ref wa1, .ref wa2, .ref wa3, .int wn4, .int wn5])), (wa2, .inl (K 1, 5, .inl g1457))] := ⟨_, _, _, by omega, by omega, hl', hP', hD'⟩
              clear hl' hP' hD'
              obtain ⟨n_83, hn_83⟩ : ∃ n : Nat, (i1455.toInt - i1456.toInt).toNat < n := ⟨_, Nat.lt_succ_self _⟩
              induction n_83 generalizing i1455 i1456 g1457 H locs ls with
              | zero => exact absurd hn_83 (Nat.not_lt_zero _)
              | succ n_83 ih_83 =>
                refine lv_iload hx hb dX0_nextOrder_83 (lv_at hl 1 rfl) ?_
                refine lv_iload hx hb dX0_nextOrder_85 (lv_at hl 0 rfl) ?_
                refine lv_icmp_ge (tgt := 107) hx hb dX0_nextOrder_87 (by decide) (fun c1458 => ?_) (fun c1458 => ?_)
                · replace c1458 := le_i c1458
                  refine lv_iconst (v := 1) hx hb dX0_nextOrder_107 (by decide) ?_
                  refine W.widen (k := 0) (n := 0) (by decide) (by decide) ?_
                  exact ch_zret hC hr hk hS dX0_nextOrder_108 rfl ((fun k => [].getD k 0, fun k => [g1457].getD k (fun _ => 0), fun k => [].getD k (fun _ => 0)) : ((Nat → Int32) × (Nat → Nat → Int32) × (Nat → Nat → Int64))) (Or.inr rfl) (hP.sub [0, 1] rfl) (hD.sub [0, 1] (by decide) rfl)
                · replace c1458 := nle_i c1458
                  refine lv_aload_n hx hb dX0_nextOrder_90 rfl (lv_at hl 4 rfl) ?_
                  refine lv_iload hx hb dX0_nextOrder_91 (lv_at hl 1 rfl) ?_
                  refine lv_iload hx hb dX0_nextOrder_93 (lv_at hl 0 rfl) ?_
                  refine cv_V (As := [.int i1456, .int i1455]) (rest := []) (wc := [(w, .inr (0, [.ref wa0, .ref wa1, .ref wa2, .ref wa3, .int wn4, .int wn5])), (wa2, .inl (K 1, 5, .inl g1457))]) (wr := []) hC hE kV_X0_116 (c_X0_swap l D K w wa0 wa1 wa2 wa3 wn4 wn5 g1457 i1456 i1455) hP hD hS hA [0, 1] [] rfl rfl rfl (by decide) (by decide) (by decide) 0 0 rfl rfl rfl hl.1 rfl (Nat.le_of_ble_eq_true rfl) (by decide) (by decide) dX0_nextOrder_95 (fun u1459 H locs hw hP hD hS => ?_)
                  replace hP : va_P D vwCl [(w, .inr (0, [.ref wa0, .ref wa1, .ref wa2, .ref wa3, .int wn4, .int wn5])), (wa2, .inl (K 1, 5, .inl (u1459.2.1 0)))] H := hP
                  replace hD : va_D A [(w, .inr (0, [.ref wa0, .ref wa1, .ref wa2, .ref wa3, .int wn4, .int wn5])), (wa2, .inl (K 1, 5, .inl (u1459.2.1 0)))] := hD
                  replace hP : va_P D vwCl [(w, .inr (0, [.ref wa0, .ref wa1, .ref wa2, .ref wa3, .int wn4, .int wn5])), (wa2, .inl (K 1, 5, .inl (u1459.2.1 0)))] H := hP.sub [0, 1] rfl
                  replace hD : va_D A [(w, .inr (0, [.ref wa0, .ref wa1, .ref wa2, .ref wa3, .int wn4, .int wn5])), (wa2, .inl (K 1, 5, .inl (u1459.2.1 0)))] := hD.sub [0, 1] (by decide) rfl
                  refine W.widen (k := 0) (n := 0) (by decide) (by decide) ?_
                  obtain ⟨v1461, ev1461⟩ : ∃ z : Int32, z = i1456 + 1 := ⟨_, rfl⟩
                  refine lv_iinc (v := v1461) (lv' := [(4, .int v1461), (5, .int i1455), (3, .int i1420), (2, .int i1410), (0, .ref w), (1, .int p0)]) hx hb dX0_nextOrder_98 hl (k := 1) rfl (by rw [ev1461]; rfl) (by decide) rfl (fun ls hl => ?_)
                  obtain ⟨v1462, ev1462⟩ : ∃ z : Int32, z = i1455 + (-1) := ⟨_, rfl⟩
                  refine lv_iinc (v := v1462) (lv' := [(5, .int v1462), (4, .int v1461), (3, .int i1420), (2, .int i1410), (0, .ref w), (1, .int p0)]) hx hb dX0_nextOrder_101 hl (k := 1) rfl (by rw [ev1462]; rfl) (by decide) rfl (fun ls hl => ?_)
                  refine lv_goto (tgt := 83) hx hb dX0_nextOrder_104 (by decide) ?_
                  have tv1462 : v1462.toInt = (i1455 : Int32).toInt + ((-1) : Int32).toInt := add_i ev1462 (by omega) (by omega)
                  have tv1461 : v1461.toInt = (i1456 : Int32).toInt + (1 : Int32).toInt := add_i ev1461 (by omega) (by omega)
                  exact ih_83 (i1455 := v1462) (i1456 := v1461) (g1457 := (u1459.2.1 0)) (hi_83 := by omega) (hv_83 := by omega) (H := H) (locs := locs) (ls := ls) (hn_83 := by omega) (hP := hP) (hD := hD) (hS := hS) (hl := lv_sub hl [0, 1, 2, 3, 4, 5] rfl)
            · replace c1443 := nle_i c1443
              obtain ⟨v1463, ev1463⟩ : ∃ z : Int32, z = i1420 + (-1) := ⟨_, rfl⟩
              refine lv_iinc (v := v1463) (lv' := [(3, .int v1463), (2, .int i1410), (0, .ref w), (1, .int p0)]) hx hb dX0_nextOrder_61 hl (k := 0) rfl (by rw [ev1463]; rfl) (by decide) rfl (fun ls hl => ?_)
              refine lv_goto (tgt := 41) hx hb dX0_nextOrder_64 (by decide) ?_
              have tv1463 : v1463.toInt = (i1420 : Int32).toInt + ((-1) : Int32).toInt := add_i ev1463 (by omega) (by omega)
              exact ih_41 (i1420 := v1463) (hv_41 := by omega) (H := H) (locs := locs) (ls := ls) (hn_41 := by omega) (hP := hP) (hS := hS) (hl := lv_sub hl [0, 1, 2, 3] rfl)
      · replace c1412 := nle_i c1412
        refine lv_iconst (v := 0) hx hb dX0_nextOrder_35 (by decide) ?_
        refine W.widen (k := 0) (n := 0) (by decide) (by decide) ?_
        exact ch_zret hC hr hk hS dX0_nextOrder_36 rfl ((fun k => [].getD k 0, fun k => [wf2].getD k (fun _ => 0), fun k => [].getD k (fun _ => 0)) : ((Nat → Int32) × (Nat → Nat → Int32) × (Nat → Nat → Int64))) (Or.inl rfl) (hP.sub [0, 1] rfl) (hD.sub [0, 1] (by decide) rfl)
    · replace c1411 := nlt_i c1411
      refine lv_aload_n hx hb dX0_nextOrder_8 rfl (lv_at hl 1 rfl) ?_
      refine va_get (D := D) (ci := 0) (v := .ref wa2) (C := RX0) (T := TX0) (N := 6) hx hb hts in_X0 hown hE.1 hP 0 rfl rfl 2 (by decide) (hts _ w_202) (fun _ h9 => h9) rfl dX0_nextOrder_9 ?_
      refine lv_iload_n hx hb dX0_nextOrder_12 rfl (lv_at hl 0 rfl) ?_
      refine va_iald hx hb hE.1 hP 1 1 rfl rfl (vp_in_iff.mpr (by omega)) dX0_nextOrder_13 ?_
      refine lv_topi (fun v1464 ev1464 => ?_)
      refine lv_aload_n hx hb dX0_nextOrder_14 rfl (lv_at hl 1 rfl) ?_
      refine va_get (D := D) (ci := 0) (v := .ref wa2) (C := RX0) (T := TX0) (N := 6) hx hb hts in_X0 hown hE.1 hP 0 rfl rfl 2 (by decide) (hts _ w_202) (fun _ h9 => h9) rfl dX0_nextOrder_15 ?_
      refine lv_iload_n hx hb dX0_nextOrder_18 rfl (lv_at hl 0 rfl) ?_
      refine lv_iconst (v := 1) hx hb dX0_nextOrder_19 (by decide) ?_
      refine lv_iadd hx hb dX0_nextOrder_20 ?_
      refine lv_topi (fun v1465 ev1465 => ?_)
      have tv1465 : v1465.toInt = (i1410 : Int32).toInt + (1 : Int32).toInt := add_i ev1465 (by omega) (by omega)
      refine va_iald hx hb hE.1 hP 1 1 rfl rfl (vp_in_iff.mpr (by omega)) dX0_nextOrder_21 ?_
      refine lv_topi (fun v1466 ev1466 => ?_)
      refine lv_icmp_le (tgt := 31) hx hb dX0_nextOrder_22 (by decide) (fun c1467 => ?_) (fun c1467 => ?_)
      · replace c1467 := le_i c1467
        refine lv_iload_n hx hb dX0_nextOrder_31 rfl (lv_at hl 0 rfl) ?_
        refine lv_if_ge (tgt := 37) hx hb dX0_nextOrder_32 (by decide) (fun c1468 => ?_) (fun c1468 => ?_)
        · replace c1468 := le_i c1468
          refine lv_iload_n hx hb dX0_nextOrder_37 rfl (lv_at hl 2 rfl) ?_
          refine lv_iconst (v := 1) hx hb dX0_nextOrder_38 (by decide) ?_
          refine lv_isub hx hb dX0_nextOrder_39 ?_
          refine lv_topi (fun v1469 ev1469 => ?_)
          refine lv_istore_n (lv' := [(3, .int v1469), (2, .int i1410), (0, .ref w), (1, .int p0)]) hx hb dX0_nextOrder_40 rfl hl (by decide) rfl (fun ls hl => ?_)
          have tv1469 : v1469.toInt = (p0 : Int32).toInt - (1 : Int32).toInt := sub_i ev1469 (by omega) (by omega)
          have hl' := hl; have hP' := hP; have hD' := hD; clear hl hP hD
          obtain ⟨i1476, hv_41, hl, hP, hD⟩ : ∃ (i1476 : Int32), (i1476.toInt ≤ 4) ∧ lv_has ls 6 [(3, .int i1476), (2, .int i1410), (0, .ref w), (1, .int p0)] ∧ va_P D vwCl [(w, .inr (0, [.ref wa0, .ref wa1, .ref wa2, .ref wa3, .int wn4, .int wn5])), (wa2, .inl (K 1, 5, .inl wf2))] H ∧ va_D A [(w, .inr (0, [.ref wa0, .ref wa1, .ref wa2, .ref wa3, .int wn4, .int wn5])), (wa2, .inl (K 1, 5, .inl wf2))] := ⟨_, by omega, hl', hP', hD'⟩
          clear hl' hP' hD'
          obtain ⟨n_41, hn_41⟩ : ∃ n : Nat, (i1476.toInt - i1410.toInt).toNat < n := ⟨_, Nat.lt_succ_self _⟩
          induction n_41 generalizing i1476 H locs ls with
          | zero => exact absurd hn_41 (Nat.not_lt_zero _)
          | succ n_41 ih_41 =>
            refine lv_iload_n hx hb dX0_nextOrder_41 rfl (lv_at hl 0 rfl) ?_
            refine lv_iload_n hx hb dX0_nextOrder_42 rfl (lv_at hl 1 rfl) ?_
            refine lv_icmp_le (tgt := 67) hx hb dX0_nextOrder_43 (by decide) (fun c1477 => ?_) (fun c1477 => ?_)
            · replace c1477 := le_i c1477
              refine lv_aload_n hx hb dX0_nextOrder_67 rfl (lv_at hl 2 rfl) ?_
              refine lv_iload_n hx hb dX0_nextOrder_68 rfl (lv_at hl 1 rfl) ?_
              refine lv_iload_n hx hb dX0_nextOrder_69 rfl (lv_at hl 0 rfl) ?_
              refine cv_V (As := [.int i1410, .int i1476]) (rest := []) (wc := [(w, .inr (0, [.ref wa0, .ref wa1, .ref wa2, .ref wa3, .int wn4, .int wn5])), (wa2, .inl (K 1, 5, .inl wf2))]) (wr := []) hC hE kV_X0_116 (c_X0_swap l D K w wa0 wa1 wa2 wa3 wn4 wn5 wf2 i1410 i1476) hP hD hS hA [0, 1] [] rfl rfl rfl (by decide) (by decide) (by decide) 0 0 rfl rfl rfl hl.1 rfl (Nat.le_of_ble_eq_true rfl) (by decide) (by decide) dX0_nextOrder_70 (fun u1478 H locs hw hP hD hS => ?_)
              replace hP : va_P D vwCl [(w, .inr (0, [.ref wa0, .ref wa1, .ref wa2, .ref wa3, .int wn4, .int wn5])), (wa2, .inl (K 1, 5, .inl (u1478.2.1 0)))] H := hP
              replace hD : va_D A [(w, .inr (0, [.ref wa0, .ref wa1, .ref wa2, .ref wa3, .int wn4, .int wn5])), (wa2, .inl (K 1, 5, .inl (u1478.2.1 0)))] := hD
              replace hP : va_P D vwCl [(w, .inr (0, [.ref wa0, .ref wa1, .ref wa2, .ref wa3, .int wn4, .int wn5])), (wa2, .inl (K 1, 5, .inl (u1478.2.1 0)))] H := hP.sub [0, 1] rfl
              replace hD : va_D A [(w, .inr (0, [.ref wa0, .ref wa1, .ref wa2, .ref wa3, .int wn4, .int wn5])), (wa2, .inl (K 1, 5, .inl (u1478.2.1 0)))] := hD.sub [0, 1] (by decide) rfl
              refine W.widen (k := 0) (n := 0) (by decide) (by decide) ?_
              refine lv_iload_n hx hb dX0_nextOrder_73 rfl (lv_at hl 1 rfl) ?_
              refine lv_iconst (v := 1) hx hb dX0_nextOrder_74 (by decide) ?_
              refine lv_iadd hx hb dX0_nextOrder_75 ?_
              refine lv_topi (fun v1480 ev1480 => ?_)
              refine lv_istore (lv' := [(4, .int v1480), (3, .int i1476), (2, .int i1410), (0, .ref w), (1, .int p0)]) hx hb dX0_nextOrder_76 hl (by decide) rfl (fun ls hl => ?_)
              refine lv_iload_n hx hb dX0_nextOrder_78 rfl (lv_at hl 4 rfl) ?_
              refine lv_iconst (v := 1) hx hb dX0_nextOrder_79 (by decide) ?_
              refine lv_isub hx hb dX0_nextOrder_80 ?_
              refine lv_topi (fun v1481 ev1481 => ?_)
              refine lv_istore (lv' := [(5, .int v1481), (4, .int v1480), (3, .int i1476), (2, .int i1410), (0, .ref w), (1, .int p0)]) hx hb dX0_nextOrder_81 hl (by decide) rfl (fun ls hl => ?_)
              have tv1481 : v1481.toInt = (p0 : Int32).toInt - (1 : Int32).toInt := sub_i ev1481 (by omega) (by omega)
              have tv1480 : v1480.toInt = (i1410 : Int32).toInt + (1 : Int32).toInt := add_i ev1480 (by omega) (by omega)
              have hl' := hl; have hP' := hP; have hD' := hD; clear hl hP hD
              obtain ⟨i1489, i1490, g1491, hi_83, hv_83, hl, hP, hD⟩ : ∃ (i1489 : Int32) (i1490 : Int32) (g1491 : Nat → Int32), ((0 : Int) ≤ i1490.toInt) ∧ (i1489.toInt ≤ 4) ∧ lv_has ls 6 [(5, .int i1489), (4, .int i1490), (3, .int i1476), (2, .int i1410), (0, .ref w), (1, .int p0)] ∧ va_P D vwCl [(w, .inr (0, [.ref wa0, .ref wa1, .ref wa2, .ref wa3, .int wn4, .int wn5])), (wa2, .inl (K 1, 5, .inl g1491))] H ∧ va_D A [(w, .inr (0, [.ref wa0, .ref wa1, .ref wa2, .ref wa3, .int wn4, .int wn5])), (wa2, .inl (K 1, 5, .inl g1491))] := ⟨_, _, _, by omega, by omega, hl', hP', hD'⟩
              clear hl' hP' hD'
              obtain ⟨n_83, hn_83⟩ : ∃ n : Nat, (i1489.toInt - i1490.toInt).toNat < n := ⟨_, Nat.lt_succ_self _⟩
              induction n_83 generalizing i1489 i1490 g1491 H locs ls with
              | zero => exact absurd hn_83 (Nat.not_lt_zero _)
              | succ n_83 ih_83 =>
                refine lv_iload hx hb dX0_nextOrder_83 (lv_at hl 1 rfl) ?_
                refine lv_iload hx hb dX0_nextOrder_85 (lv_at hl 0 rfl) ?_
                refine lv_icmp_ge (tgt := 107) hx hb dX0_nextOrder_87 (by decide) (fun c1492 => ?_) (fun c1492 => ?_)
                · replace c1492 := le_i c1492
                  refine lv_iconst (v := 1) hx hb dX0_nextOrder_107 (by decide) ?_
                  refine W.widen (k := 0) (n := 0) (by decide) (by decide) ?_
                  exact ch_zret hC hr hk hS dX0_nextOrder_108 rfl ((fun k => [].getD k 0, fun k => [g1491].getD k (fun _ => 0), fun k => [].getD k (fun _ => 0)) : ((Nat → Int32) × (Nat → Nat → Int32) × (Nat → Nat → Int64))) (Or.inr rfl) (hP.sub [0, 1] rfl) (hD.sub [0, 1] (by decide) rfl)
                · replace c1492 := nle_i c1492
                  refine lv_aload_n hx hb dX0_nextOrder_90 rfl (lv_at hl 4 rfl) ?_
                  refine lv_iload hx hb dX0_nextOrder_91 (lv_at hl 1 rfl) ?_
                  refine lv_iload hx hb dX0_nextOrder_93 (lv_at hl 0 rfl) ?_
                  refine cv_V (As := [.int i1490, .int i1489]) (rest := []) (wc := [(w, .inr (0, [.ref wa0, .ref wa1, .ref wa2, .ref wa3, .int wn4, .int wn5])), (wa2, .inl (K 1, 5, .inl g1491))]) (wr := []) hC hE kV_X0_116 (c_X0_swap l D K w wa0 wa1 wa2 wa3 wn4 wn5 g1491 i1490 i1489) hP hD hS hA [0, 1] [] rfl rfl rfl (by decide) (by decide) (by decide) 0 0 rfl rfl rfl hl.1 rfl (Nat.le_of_ble_eq_true rfl) (by decide) (by decide) dX0_nextOrder_95 (fun u1493 H locs hw hP hD hS => ?_)
                  replace hP : va_P D vwCl [(w, .inr (0, [.ref wa0, .ref wa1, .ref wa2, .ref wa3, .int wn4, .int wn5])), (wa2, .inl (K 1, 5, .inl (u1493.2.1 0)))] H := hP
                  replace hD : va_D A [(w, .inr (0, [.ref wa0, .ref wa1, .ref wa2, .ref wa3, .int wn4, .int wn5])), (wa2, .inl (K 1, 5, .inl (u1493.2.1 0)))] := hD
                  replace hP : va_P D vwCl [(w, .inr (0, [.ref wa0, .ref wa1, .ref wa2, .ref wa3, .int wn4, .int wn5])), (wa2, .inl (K 1, 5, .inl (u1493.2.1 0)))] H := hP.sub [0, 1] rfl
                  replace hD : va_D A [(w, .inr (0, [.ref wa0, .ref wa1, .ref wa2, .ref wa3, .int wn4, .int wn5])), (wa2, .inl (K 1, 5, .inl (u1493.2.1 0)))] := hD.sub [0, 1] (by decide) rfl
                  refine W.widen (k := 0) (n := 0) (by decide) (by decide) ?_
                  obtain ⟨v1495, ev1495⟩ : ∃ z : Int32, z = i1490 + 1 := ⟨_, rfl⟩
                  refine lv_iinc (v := v1495) (lv' := [(4, .int v1495), (5, .int i1489), (3, .int i1476), (2, .int i1410), (0, .ref w), (1, .int p0)]) hx hb dX0_nextOrder_98 hl (k := 1) rfl (by rw [ev1495]; rfl) (by decide) rfl (fun ls hl => ?_)
                  obtain ⟨v1496, ev1496⟩ : ∃ z : Int32, z = i1489 + (-1) := ⟨_, rfl⟩
                  refine lv_iinc (v := v1496) (lv' := [(5, .int v1496), (4, .int v1495), (3, .int i1476), (2, .int i1410), (0, .ref w), (1, .int p0)]) hx hb dX0_nextOrder_101 hl (k := 1) rfl (by rw [ev1496]; rfl) (by decide) rfl (fun ls hl => ?_)
                  refine lv_goto (tgt := 83) hx hb dX0_nextOrder_104 (by decide) ?_
                  have tv1496 : v1496.toInt = (i1489 : Int32).toInt + ((-1) : Int32).toInt := add_i ev1496 (by omega) (by omega)
                  have tv1495 : v1495.toInt = (i1490 : Int32).toInt + (1 : Int32).toInt := add_i ev1495 (by omega) (by omega)
                  exact ih_83 (i1489 := v1496) (i1490 := v1495) (g1491 := (u1493.2.1 0)) (hi_83 := by omega) (hv_83 := by omega) (H := H) (locs := locs) (ls := ls) (hn_83 := by omega) (hP := hP) (hD := hD) (hS := hS) (hl := lv_sub hl [0, 1, 2, 3, 4, 5] rfl)
            · replace c1477 := nle_i c1477
              refine lv_aload_n hx hb dX0_nextOrder_46 rfl (lv_at hl 2 rfl) ?_
              refine va_get (D := D) (ci := 0) (v := .ref wa2) (C := RX0) (T := TX0) (N := 6) hx hb hts in_X0 hown hE.1 hP 0 rfl rfl 2 (by decide) (hts _ w_202) (fun _ h9 => h9) rfl dX0_nextOrder_47 ?_
              refine lv_iload_n hx hb dX0_nextOrder_50 rfl (lv_at hl 0 rfl) ?_
              refine va_iald hx hb hE.1 hP 1 1 rfl rfl (vp_in_iff.mpr (by omega)) dX0_nextOrder_51 ?_
              refine lv_topi (fun v1497 ev1497 => ?_)
              refine lv_aload_n hx hb dX0_nextOrder_52 rfl (lv_at hl 2 rfl) ?_
              refine va_get (D := D) (ci := 0) (v := .ref wa2) (C := RX0) (T := TX0) (N := 6) hx hb hts in_X0 hown hE.1 hP 0 rfl rfl 2 (by decide) (hts _ w_202) (fun _ h9 => h9) rfl dX0_nextOrder_53 ?_
              refine lv_iload_n hx hb dX0_nextOrder_56 rfl (lv_at hl 1 rfl) ?_
              refine va_iald hx hb hE.1 hP 1 1 rfl rfl (vp_in_iff.mpr (by omega)) dX0_nextOrder_57 ?_
              refine lv_topi (fun v1498 ev1498 => ?_)
              refine lv_icmp_ge (tgt := 67) hx hb dX0_nextOrder_58 (by decide) (fun c1499 => ?_) (fun c1499 => ?_)
              · replace c1499 := le_i c1499
                refine lv_aload_n hx hb dX0_nextOrder_67 rfl (lv_at hl 2 rfl) ?_
                refine lv_iload_n hx hb dX0_nextOrder_68 rfl (lv_at hl 1 rfl) ?_
                refine lv_iload_n hx hb dX0_nextOrder_69 rfl (lv_at hl 0 rfl) ?_
                refine cv_V (As := [.int i1410, .int i1476]) (rest := []) (wc := [(w, .inr (0, [.ref wa0, .ref wa1, .ref wa2, .ref wa3, .int wn4, .int wn5])), (wa2, .inl (K 1, 5, .inl wf2))]) (wr := []) hC hE kV_X0_116 (c_X0_swap l D K w wa0 wa1 wa2 wa3 wn4 wn5 wf2 i1410 i1476) hP hD hS hA [0, 1] [] rfl rfl rfl (by decide) (by decide) (by decide) 0 0 rfl rfl rfl hl.1 rfl (Nat.le_of_ble_eq_true rfl) (by decide) (by decide) dX0_nextOrder_70 (fun u1500 H locs hw hP hD hS => ?_)
                replace hP : va_P D vwCl [(w, .inr (0, [.ref wa0, .ref wa1, .ref wa2, .ref wa3, .int wn4, .int wn5])), (wa2, .inl (K 1, 5, .inl (u1500.2.1 0)))] H := hP
                replace hD : va_D A [(w, .inr (0, [.ref wa0, .ref wa1, .ref wa2, .ref wa3, .int wn4, .int wn5])), (wa2, .inl (K 1, 5, .inl (u1500.2.1 0)))] := hD
                replace hP : va_P D vwCl [(w, .inr (0, [.ref wa0, .ref wa1, .ref wa2, .ref wa3, .int wn4, .int wn5])), (wa2, .inl (K 1, 5, .inl (u1500.2.1 0)))] H := hP.sub [0, 1] rfl
                replace hD : va_D A [(w, .inr (0, [.ref wa0, .ref wa1, .ref wa2, .ref wa3, .int wn4, .int wn5])), (wa2, .inl (K 1, 5, .inl (u1500.2.1 0)))] := hD.sub [0, 1] (by decide) rfl
                refine W.widen (k := 0) (n := 0) (by decide) (by decide) ?_
                refine lv_iload_n hx hb dX0_nextOrder_73 rfl (lv_at hl 1 rfl) ?_
                refine lv_iconst (v := 1) hx hb dX0_nextOrder_74 (by decide) ?_
                refine lv_iadd hx hb dX0_nextOrder_75 ?_
                refine lv_topi (fun v1502 ev1502 => ?_)
                refine lv_istore (lv' := [(4, .int v1502), (3, .int i1476), (2, .int i1410), (0, .ref w), (1, .int p0)]) hx hb dX0_nextOrder_76 hl (by decide) rfl (fun ls hl => ?_)
                refine lv_iload_n hx hb dX0_nextOrder_78 rfl (lv_at hl 4 rfl) ?_
                refine lv_iconst (v := 1) hx hb dX0_nextOrder_79 (by decide) ?_
                refine lv_isub hx hb dX0_nextOrder_80 ?_
                refine lv_topi (fun v1503 ev1503 => ?_)
                refine lv_istore (lv' := [(5, .int v1503), (4, .int v1502), (3, .int i1476), (2, .int i1410), (0, .ref w), (1, .int p0)]) hx hb dX0_nextOrder_81 hl (by decide) rfl (fun ls hl => ?_)
                have tv1503 : v1503.toInt = (p0 : Int32).toInt - (1 : Int32).toInt := sub_i ev1503 (by omega) (by omega)
                have tv1502 : v1502.toInt = (i1410 : Int32).toInt + (1 : Int32).toInt := add_i ev1502 (by omega) (by omega)
                have hl' := hl; have hP' := hP; have hD' := hD; clear hl hP hD
                obtain ⟨i1511, i1512, g1513, hi_83, hv_83, hl, hP, hD⟩ : ∃ (i1511 : Int32) (i1512 : Int32) (g1513 : Nat → Int32), ((0 : Int) ≤ i1512.toInt) ∧ (i1511.toInt ≤ 4) ∧ lv_has ls 6 [(5, .int i1511), (4, .int i1512), (3, .int i1476), (2, .int i1410), (0, .ref w), (1, .int p0)] ∧ va_P D vwCl [(w, .inr (0, [.ref wa0, .ref wa1, .ref wa2, .ref wa3, .int wn4, .int wn5])), (wa2, .inl (K 1, 5, .inl g1513))] H ∧ va_D A [(w, .inr (0, [.ref wa0, .ref wa1, .ref wa2, .ref wa3, .int wn4, .int wn5])), (wa2, .inl (K 1, 5, .inl g1513))] := ⟨_, _, _, by omega, by omega, hl', hP', hD'⟩
                clear hl' hP' hD'
                obtain ⟨n_83, hn_83⟩ : ∃ n : Nat, (i1511.toInt - i1512.toInt).toNat < n := ⟨_, Nat.lt_succ_self _⟩
                induction n_83 generalizing i1511 i1512 g1513 H locs ls with
                | zero => exact absurd hn_83 (Nat.not_lt_zero _)
                | succ n_83 ih_83 =>
                  refine lv_iload hx hb dX0_nextOrder_83 (lv_at hl 1 rfl) ?_
                  refine lv_iload hx hb dX0_nextOrder_85 (lv_at hl 0 rfl) ?_
                  refine lv_icmp_ge (tgt := 107) hx hb dX0_nextOrder_87 (by decide) (fun c1514 => ?_) (fun c1514 => ?_)
                  · replace c1514 := le_i c1514
                    refine lv_iconst (v := 1) hx hb dX0_nextOrder_107 (by decide) ?_
                    refine W.widen (k := 0) (n := 0) (by decide) (by decide) ?_
                    exact ch_zret hC hr hk hS dX0_nextOrder_108 rfl ((fun k => [].getD k 0, fun k => [g1513].getD k (fun _ => 0), fun k => [].getD k (fun _ => 0)) : ((Nat → Int32) × (Nat → Nat → Int32) × (Nat → Nat → Int64))) (Or.inr rfl) (hP.sub [0, 1] rfl) (hD.sub [0, 1] (by decide) rfl)
                  · replace c1514 := nle_i c1514
                    refine lv_aload_n hx hb dX0_nextOrder_90 rfl (lv_at hl 4 rfl) ?_
                    refine lv_iload hx hb dX0_nextOrder_91 (lv_at hl 1 rfl) ?_
                    refine lv_iload hx hb dX0_nextOrder_93 (lv_at hl 0 rfl) ?_
                    refine cv_V (As := [.int i1512, .int i1511]) (rest := []) (wc := [(w, .inr (0, [.ref wa0, .ref wa1, .ref wa2, .ref wa3, .int wn4, .int wn5])), (wa2, .inl (K 1, 5, .inl g1513))]) (wr := []) hC hE kV_X0_116 (c_X0_swap l D K w wa0 wa1 wa2 wa3 wn4 wn5 g1513 i1512 i1511) hP hD hS hA [0, 1] [] rfl rfl rfl (by decide) (by decide) (by decide) 0 0 rfl rfl rfl hl.1 rfl (Nat.le_of_ble_eq_true rfl) (by decide) (by decide) dX0_nextOrder_95 (fun u1515 H locs hw hP hD hS => ?_)
                    replace hP : va_P D vwCl [(w, .inr (0, [.ref wa0, .ref wa1, .ref wa2, .ref wa3, .int wn4, .int wn5])), (wa2, .inl (K 1, 5, .inl (u1515.2.1 0)))] H := hP
                    replace hD : va_D A [(w, .inr (0, [.ref wa0, .ref wa1, .ref wa2, .ref wa3, .int wn4, .int wn5])), (wa2, .inl (K 1, 5, .inl (u1515.2.1 0)))] := hD
                    replace hP : va_P D vwCl [(w, .inr (0, [.ref wa0, .ref wa1, .ref wa2, .ref wa3, .int wn4, .int wn5])), (wa2, .inl (K 1, 5, .inl (u1515.2.1 0)))] H := hP.sub [0, 1] rfl
                    replace hD : va_D A [(w, .inr (0, [.ref wa0, .ref wa1, .ref wa2, .ref wa3, .int wn4, .int wn5])), (wa2, .inl (K 1, 5, .inl (u1515.2.1 0)))] := hD.sub [0, 1] (by decide) rfl
                    refine W.widen (k := 0) (n := 0) (by decide) (by decide) ?_
                    obtain ⟨v1517, ev1517⟩ : ∃ z : Int32, z = i1512 + 1 := ⟨_, rfl⟩
                    refine lv_iinc (v := v1517) (lv' := [(4, .int v1517), (5, .int i1511), (3, .int i1476), (2, .int i1410), (0, .ref w), (1, .int p0)]) hx hb dX0_nextOrder_98 hl (k := 1) rfl (by rw [ev1517]; rfl) (by decide) rfl (fun ls hl => ?_)
                    obtain ⟨v1518, ev1518⟩ : ∃ z : Int32, z = i1511 + (-1) := ⟨_, rfl⟩
                    refine lv_iinc (v := v1518) (lv' := [(5, .int v1518), (4, .int v1517), (3, .int i1476), (2, .int i1410), (0, .ref w), (1, .int p0)]) hx hb dX0_nextOrder_101 hl (k := 1) rfl (by rw [ev1518]; rfl) (by decide) rfl (fun ls hl => ?_)
                    refine lv_goto (tgt := 83) hx hb dX0_nextOrder_104 (by decide) ?_
                    have tv1518 : v1518.toInt = (i1511 : Int32).toInt + ((-1) : Int32).toInt := add_i ev1518 (by omega) (by omega)
                    have tv1517 : v1517.toInt = (i1512 : Int32).toInt + (1 : Int32).toInt := add_i ev1517 (by omega) (by omega)
                    exact ih_83 (i1511 := v1518) (i1512 := v1517) (g1513 := (u1515.2.1 0)) (hi_83 := by omega) (hv_83 := by omega) (H := H) (locs := locs) (ls := ls) (hn_83 := by omega) (hP := hP) (hD := hD) (hS := hS) (hl := lv_sub hl [0, 1, 2, 3, 4, 5] rfl)
              · replace c1499 := nle_i c1499
                obtain ⟨v1519, ev1519⟩ : ∃ z : Int32, z = i1476 + (-1) := ⟨_, rfl⟩
                refine lv_iinc (v := v1519) (lv' := [(3, .int v1519), (2, .int i1410), (0, .ref w), (1, .int p0)]) hx hb dX0_nextOrder_61 hl (k := 0) rfl (by rw [ev1519]; rfl) (by decide) rfl (fun ls hl => ?_)
                refine lv_goto (tgt := 41) hx hb dX0_nextOrder_64 (by decide) ?_
                have tv1519 : v1519.toInt = (i1476 : Int32).toInt + ((-1) : Int32).toInt := add_i ev1519 (by omega) (by omega)
                exact ih_41 (i1476 := v1519) (hv_41 := by omega) (H := H) (locs := locs) (ls := ls) (hn_41 := by omega) (hP := hP) (hS := hS) (hl := lv_sub hl [0, 1, 2, 3] rfl)
        · replace c1468 := nle_i c1468
          refine lv_iconst (v := 0) hx hb dX0_nextOrder_35 (by decide) ?_
          refine W.widen (k := 0) (n := 0) (by decide) (by decide) ?_
          exact ch_zret hC hr hk hS dX0_nextOrder_36 rfl ((fun k => [].getD k 0, fun k => [wf2].getD k (fun _ => 0), fun k => [].getD k (fun _ => 0)) : ((Nat → Int32) × (Nat → Nat → Int32) × (Nat → Nat → Int64))) (Or.inl rfl) (hP.sub [0, 1] rfl) (hD.sub [0, 1] (by decide) rfl)
      · replace c1467 := nle_i c1467
        obtain ⟨v1520, ev1520⟩ : ∃ z : Int32, z = i1410 + (-1) := ⟨_, rfl⟩
        refine lv_iinc (v := v1520) (lv' := [(2, .int v1520), (0, .ref w), (1, .int p0)]) hx hb dX0_nextOrder_25 hl (k := 0) rfl (by rw [ev1520]; rfl) (by decide) rfl (fun ls hl => ?_)
        refine lv_goto (tgt := 4) hx hb dX0_nextOrder_28 (by decide) ?_
        have tv1520 : v1520.toInt = (i1410 : Int32).toInt + ((-1) : Int32).toInt := add_i ev1520 (by omega) (by omega)
        exact ih_4 (i1410 := v1520) (hv_4 := by omega) (hw_4 := by omega) (H := H) (locs := locs) (ls := ls) (hn_4 := by omega) (hP := hP) (hS := hS) (hl := lv_sub hl [0, 1, 2] rfl)
set_option maxRecDepth 40000 in
set_option maxHeartbeats 4000000 in
theorem c_X0_teach (l : Launch) (D : va_G) (K : Nat → ClassId) (w : Nat) (wa0 : Nat) (wa1 : Nat) (wa2 : Nat) (wa3 : Nat) (wa0a0 : Nat) (wa0a1 : Nat) (wa0a2 : Nat) (wa0a3 : Nat) (wa0a4 : Nat) (wa0a5 : Nat) (wa0a6 : Nat) (wa0a7 : Nat) (wn4 : Int32) (wn5 : Int32) (wa0n8 : Int32) (wa0n9 : Int32) (wa0n10 : Int32) (wa0n11 : Int32) (wa1n0 : Int32) (wa1n1 : Int32) (wa1n2 : Int32) (wa0f0 : Nat → Int32) (wa0f1 : Nat → Int32) (wa0f2 : Nat → Int32) (wa0f3 : Nat → Int32) (wa0f4 : Nat → Int32) (wa0f5 : Nat → Int32) (wa0f6 : Nat → Int32) (wa0f7 : Nat → Int32) (p0 : Int32) : Cv (S := ((Nat → Int32) × (Nat → Nat → Int32) × (Nat → Nat → Int64))) l D K yX0_teach cX0_teach 3 2 44 0 0 [.ref w, .int p0] [(w, .inr (0, [.ref wa0, .ref wa1, .ref wa2, .ref wa3, .int wn4, .int wn5])), (wa0, .inr (9, [.ref wa0a0, .ref wa0a1, .ref wa0a2, .ref wa0a3, .ref wa0a4, .ref wa0a5, .ref wa0a6, .ref wa0a7, .int wa0n8, .int wa0n9, .int wa0n10, .int wa0n11])), (wa0a0, .inl (K 1, 40, .inl wa0f0)), (wa0a1, .inl (K 1, 10, .inl wa0f1)), (wa0a2, .inl (K 1, 4, .inl wa0f2)), (wa0a3, .inl (K 1, 4, .inl wa0f3)), (wa0a4, .inl (K 1, 4, .inl wa0f4)), (wa0a5, .inl (K 1, 5, .inl wa0f5)), (wa0a6, .inl (K 1, 5, .inl wa0f6)), (wa0a7, .inl (K 1, 5, .inl wa0f7)), (wa1, .inr (8, [.int wa1n0, .int wa1n1, .int wa1n2]))] (fun _ => True) (fun u => [(w, .inr (0, [.ref wa0, .ref wa1, .ref wa2, .ref wa3, .int wn4, .int wn5])), (wa0, .inr (9, [.ref wa0a0, .ref wa0a1, .ref wa0a2, .ref wa0a3, .ref wa0a4, .ref wa0a5, .ref wa0a6, .ref wa0a7, .int wa0n8, .int wa0n9, .int wa0n10, .int wa0n11])), (wa0a0, .inl (K 1, 40, .inl (u.2.1 0))), (wa0a1, .inl (K 1, 10, .inl (u.2.1 1))), (wa0a2, .inl (K 1, 4, .inl wa0f2)), (wa0a3, .inl (K 1, 4, .inl wa0f3)), (wa0a4, .inl (K 1, 4, .inl wa0f4)), (wa0a5, .inl (K 1, 5, .inl wa0f5)), (wa0a6, .inl (K 1, 5, .inl wa0f6)), (wa0a7, .inl (K 1, 5, .inl wa0f7)), (wa1, .inr (8, [.int wa1n0, .int wa1n1, .int (u.1 0)]))]) := by
  intro sz
  refine ch_of (y := yX0_teach) (cc := cX0_teach) (maxL := 3) (ret := none) (av := [.ref w, .int p0]) (ws := [(w, .inr (0, [.ref wa0, .ref wa1, .ref wa2, .ref wa3, .int wn4, .int wn5])), (wa0, .inr (9, [.ref wa0a0, .ref wa0a1, .ref wa0a2, .ref wa0a3, .ref wa0a4, .ref wa0a5, .ref wa0a6, .ref wa0a7, .int wa0n8, .int wa0n9, .int wa0n10, .int wa0n11])), (wa0a0, .inl (K 1, 40, .inl wa0f0)), (wa0a1, .inl (K 1, 10, .inl wa0f1)), (wa0a2, .inl (K 1, 4, .inl wa0f2)), (wa0a3, .inl (K 1, 4, .inl wa0f3)), (wa0a4, .inl (K 1, 4, .inl wa0f4)), (wa0a5, .inl (K 1, 5, .inl wa0f5)), (wa0a6, .inl (K 1, 5, .inl wa0f6)), (wa0a7, .inl (K 1, 5, .inl wa0f7)), (wa1, .inr (8, [.int wa1n0, .int wa1n1, .int wa1n2]))]) (D := D) (K := K) (Qc := fun A => va_Qv (S := ((Nat → Int32) × (Nat → Nat → Int32) × (Nat → Nat → Int64))) (fun _ => True) (chB D A (fun u => [(w, .inr (0, [.ref wa0, .ref wa1, .ref wa2, .ref wa3, .int wn4, .int wn5])), (wa0, .inr (9, [.ref wa0a0, .ref wa0a1, .ref wa0a2, .ref wa0a3, .ref wa0a4, .ref wa0a5, .ref wa0a6, .ref wa0a7, .int wa0n8, .int wa0n9, .int wa0n10, .int wa0n11])), (wa0a0, .inl (K 1, 40, .inl (u.2.1 0))), (wa0a1, .inl (K 1, 10, .inl (u.2.1 1))), (wa0a2, .inl (K 1, 4, .inl wa0f2)), (wa0a3, .inl (K 1, 4, .inl wa0f3)), (wa0a4, .inl (K 1, 4, .inl wa0f4)), (wa0a5, .inl (K 1, 5, .inl wa0f5)), (wa0a6, .inl (K 1, 5, .inl wa0f6)), (wa0a7, .inl (K 1, 5, .inl wa0f7)), (wa1, .inr (8, [.int wa1n0, .int wa1n1, .int (u.1 0)]))])) A) (by decide) (Nat.le_of_ble_eq_true rfl) ?_
  intro p e s m below meth c A hC hr hk hin hE hD hA H locs hP hS ls hl
  replace hC : CallFix p m c cX0_teach 3 s [.ref w, .int p0].toArray wl RX0 := hC
  have hx := hC.1
  have hb := hC.2.1
  have hml := hC.2.2.1
  have hown := hC.2.2.2.1
  have hts := hC.2.2.2.2
  replace hl : lv_has ls 3 [(0, .ref w), (1, .int p0)] := hl
  have kc_0 : (0 : Int32).toInt = 0 := by decide
  have kc_5 : (5 : Int32).toInt = 5 := by decide
  refine lv_iload_n hx hb dX0_teach_0 rfl (lv_at hl 1 rfl) ?_
  refine lv_if_lt (tgt := 9) hx hb dX0_teach_1 (by decide) (fun c1534 => ?_) (fun c1534 => ?_)
  · replace c1534 := lt_i c1534
    refine W.widen (k := 0) (n := 0) (by decide) (by decide) ?_
    exact ch_vret hC hr hk hS dX0_teach_9 ((fun k => [wa1n2].getD k 0, fun k => [wa0f0, wa0f1].getD k (fun _ => 0), fun k => [].getD k (fun _ => 0)) : ((Nat → Int32) × (Nat → Nat → Int32) × (Nat → Nat → Int64))) trivial (hP.sub [0, 1, 2, 3, 4, 5, 6, 7, 8, 9, 10] rfl) (hD.sub [0, 1, 2, 3, 4, 5, 6, 7, 8, 9, 10] (by decide) rfl)
  · replace c1534 := nlt_i c1534
    refine lv_iload_n hx hb dX0_teach_4 rfl (lv_at hl 1 rfl) ?_
    refine lv_iconst (v := 5) hx hb dX0_teach_5 (by decide) ?_
    refine lv_icmp_lt (tgt := 10) hx hb dX0_teach_6 (by decide) (fun c1535 => ?_) (fun c1535 => ?_)
    · replace c1535 := lt_i c1535
      refine lv_aload_n hx hb dX0_teach_10 rfl (lv_at hl 0 rfl) ?_
      refine va_get (D := D) (ci := 0) (v := .ref wa0) (C := RX0) (T := TX0) (N := 6) hx hb hts in_X0 hown hE.1 hP 0 rfl rfl 0 (by decide) (hts _ w_208) (fun _ h9 => h9) rfl dX0_teach_11 ?_
      refine va_get (D := D) (ci := 9) (v := .ref wa0a6) (C := RX10) (T := TX10) (N := 12) hx hb hts in_X10 hown hE.1 hP 1 rfl rfl 6 (by decide) (hts _ w_209) (fun _ h9 => h9) rfl dX0_teach_14 ?_
      refine lv_iload_n hx hb dX0_teach_17 rfl (lv_at hl 1 rfl) ?_
      refine va_iald hx hb hE.1 hP 8 1 rfl rfl (vp_in_iff.mpr (by omega)) dX0_teach_18 ?_
      refine lv_topi (fun v1536 ev1536 => ?_)
      refine lv_istore_n (lv' := [(2, .int v1536), (0, .ref w), (1, .int p0)]) hx hb dX0_teach_19 rfl hl (by decide) rfl (fun ls hl => ?_)
      refine lv_aload_n hx hb dX0_teach_20 rfl (lv_at hl 1 rfl) ?_
      refine va_get (D := D) (ci := 0) (v := .ref wa0) (C := RX0) (T := TX0) (N := 6) hx hb hts in_X0 hown hE.1 hP 0 rfl rfl 0 (by decide) (hts _ w_208) (fun _ h9 => h9) rfl dX0_teach_21 ?_
      refine va_get (D := D) (ci := 9) (v := .ref wa0a5) (C := RX10) (T := TX10) (N := 12) hx hb hts in_X10 hown hE.1 hP 1 rfl rfl 5 (by decide) (hts _ w_210) (fun _ h9 => h9) rfl dX0_teach_24 ?_
      refine lv_iload_n hx hb dX0_teach_27 rfl (lv_at hl 2 rfl) ?_
      refine va_iald hx hb hE.1 hP 7 1 rfl rfl (vp_in_iff.mpr (by omega)) dX0_teach_28 ?_
      refine lv_topi (fun v1537 ev1537 => ?_)
      by_cases c1538 : v1537 = 0
      · refine tc (y := 0) c1538 ?_
        refine lv_lookup (off := 27) (tgt := 56) hx hb dX0_teach_29 (by decide) (by decide) (by decide) ?_
        refine lv_aload_n hx hb dX0_teach_56 rfl (lv_at hl 1 rfl) ?_
        refine va_get (D := D) (ci := 0) (v := .ref wa0) (C := RX0) (T := TX0) (N := 6) hx hb hts in_X0 hown hE.1 hP 0 rfl rfl 0 (by decide) (hts _ w_208) (fun _ h9 => h9) rfl dX0_teach_57 ?_
        refine lv_iload_n hx hb dX0_teach_60 rfl (lv_at hl 0 rfl) ?_
        refine lv_iconst (v := 0) hx hb dX0_teach_61 (by decide) ?_
        refine cv_V (As := [.int v1536, .int 0]) (rest := []) (wc := [(wa0, .inr (9, [.ref wa0a0, .ref wa0a1, .ref wa0a2, .ref wa0a3, .ref wa0a4, .ref wa0a5, .ref wa0a6, .ref wa0a7, .int wa0n8, .int wa0n9, .int wa0n10, .int wa0n11])), (wa0a1, .inl (K 1, 10, .inl wa0f1))]) (wr := [(w, .inr (0, [.ref wa0, .ref wa1, .ref wa2, .ref wa3, .int wn4, .int wn5])), (wa0a0, .inl (K 1, 40, .inl wa0f0)), (wa0a2, .inl (K 1, 4, .inl wa0f2)), (wa0a3, .inl (K 1, 4, .inl wa0f3)), (wa0a4, .inl (K 1, 4, .inl wa0f4)), (wa0a5, .inl (K 1, 5, .inl wa0f5)), (wa0a6, .inl (K 1, 5, .inl wa0f6)), (wa0a7, .inl (K 1, 5, .inl wa0f7)), (wa1, .inr (8, [.int wa1n0, .int wa1n1, .int wa1n2]))]) hC hE kV_X0_106 (c_X10_setSign l D K wa0 wa0a0 wa0a1 wa0a2 wa0a3 wa0a4 wa0a5 wa0a6 wa0a7 wa0n8 wa0n9 wa0n10 wa0n11 wa0f1 v1536 0) hP hD hS hA [1, 3] [0, 2, 4, 5, 6, 7, 8, 9, 10] rfl rfl rfl (by decide) (by decide) (by decide) 0 9 rfl rfl rfl hl.1 rfl (Nat.le_of_ble_eq_true rfl) (by decide) (by decide) dX0_teach_62 (fun u1539 H locs hw hP hD hS => ?_)
        replace hP : va_P D vwCl [(w, .inr (0, [.ref wa0, .ref wa1, .ref wa2, .ref wa3, .int wn4, .int wn5])), (wa0a0, .inl (K 1, 40, .inl wa0f0)), (wa0a2, .inl (K 1, 4, .inl wa0f2)), (wa0a3, .inl (K 1, 4, .inl wa0f3)), (wa0a4, .inl (K 1, 4, .inl wa0f4)), (wa0a5, .inl (K 1, 5, .inl wa0f5)), (wa0a6, .inl (K 1, 5, .inl wa0f6)), (wa0a7, .inl (K 1, 5, .inl wa0f7)), (wa1, .inr (8, [.int wa1n0, .int wa1n1, .int wa1n2])), (wa0, .inr (9, [.ref wa0a0, .ref wa0a1, .ref wa0a2, .ref wa0a3, .ref wa0a4, .ref wa0a5, .ref wa0a6, .ref wa0a7, .int wa0n8, .int wa0n9, .int wa0n10, .int wa0n11])), (wa0a1, .inl (K 1, 10, .inl (u1539.2.1 0)))] H := hP
        replace hD : va_D A [(w, .inr (0, [.ref wa0, .ref wa1, .ref wa2, .ref wa3, .int wn4, .int wn5])), (wa0a0, .inl (K 1, 40, .inl wa0f0)), (wa0a2, .inl (K 1, 4, .inl wa0f2)), (wa0a3, .inl (K 1, 4, .inl wa0f3)), (wa0a4, .inl (K 1, 4, .inl wa0f4)), (wa0a5, .inl (K 1, 5, .inl wa0f5)), (wa0a6, .inl (K 1, 5, .inl wa0f6)), (wa0a7, .inl (K 1, 5, .inl wa0f7)), (wa1, .inr (8, [.int wa1n0, .int wa1n1, .int wa1n2])), (wa0, .inr (9, [.ref wa0a0, .ref wa0a1, .ref wa0a2, .ref wa0a3, .ref wa0a4, .ref wa0a5, .ref wa0a6, .ref wa0a7, .int wa0n8, .int wa0n9, .int wa0n10, .int wa0n11])), (wa0a1, .inl (K 1, 10, .inl (u1539.2.1 0)))] := hD
        replace hP : va_P D vwCl [(w, .inr (0, [.ref wa0, .ref wa1, .ref wa2, .ref wa3, .int wn4, .int wn5])), (wa0, .inr (9, [.ref wa0a0, .ref wa0a1, .ref wa0a2, .ref wa0a3, .ref wa0a4, .ref wa0a5, .ref wa0a6, .ref wa0a7, .int wa0n8, .int wa0n9, .int wa0n10, .int wa0n11])), (wa0a0, .inl (K 1, 40, .inl wa0f0)), (wa0a1, .inl (K 1, 10, .inl (u1539.2.1 0))), (wa0a2, .inl (K 1, 4, .inl wa0f2)), (wa0a3, .inl (K 1, 4, .inl wa0f3)), (wa0a4, .inl (K 1, 4, .inl wa0f4)), (wa0a5, .inl (K 1, 5, .inl wa0f5)), (wa0a6, .inl (K 1, 5, .inl wa0f6)), (wa0a7, .inl (K 1, 5, .inl wa0f7)), (wa1, .inr (8, [.int wa1n0, .int wa1n1, .int wa1n2]))] H := hP.sub [0, 9, 1, 10, 2, 3, 4, 5, 6, 7, 8] rfl
        replace hD : va_D A [(w, .inr (0, [.ref wa0, .ref wa1, .ref wa2, .ref wa3, .int wn4, .int wn5])), (wa0, .inr (9, [.ref wa0a0, .ref wa0a1, .ref wa0a2, .ref wa0a3, .ref wa0a4, .ref wa0a5, .ref wa0a6, .ref wa0a7, .int wa0n8, .int wa0n9, .int wa0n10, .int wa0n11])), (wa0a0, .inl (K 1, 40, .inl wa0f0)), (wa0a1, .inl (K 1, 10, .inl (u1539.2.1 0))), (wa0a2, .inl (K 1, 4, .inl wa0f2)), (wa0a3, .inl (K 1, 4, .inl wa0f3)), (wa0a4, .inl (K 1, 4, .inl wa0f4)), (wa0a5, .inl (K 1, 5, .inl wa0f5)), (wa0a6, .inl (K 1, 5, .inl wa0f6)), (wa0a7, .inl (K 1, 5, .inl wa0f7)), (wa1, .inr (8, [.int wa1n0, .int wa1n1, .int wa1n2]))] := hD.sub [0, 9, 1, 10, 2, 3, 4, 5, 6, 7, 8] (by decide) rfl
        refine W.widen (k := 0) (n := 0) (by decide) (by decide) ?_
        refine lv_goto (tgt := 107) hx hb dX0_teach_65 (by decide) ?_
        refine W.widen (k := 0) (n := 0) (by decide) (by decide) ?_
        exact ch_vret hC hr hk hS dX0_teach_107 ((fun k => [wa1n2].getD k 0, fun k => [wa0f0, (u1539.2.1 0)].getD k (fun _ => 0), fun k => [].getD k (fun _ => 0)) : ((Nat → Int32) × (Nat → Nat → Int32) × (Nat → Nat → Int64))) trivial (hP.sub [0, 1, 2, 3, 4, 5, 6, 7, 8, 9, 10] rfl) (hD.sub [0, 1, 2, 3, 4, 5, 6, 7, 8, 9, 10] (by decide) rfl)
      · have c1538n := ne_i c1538
        by_cases c1541 : v1537 = 1
        · refine tc (y := 1) c1541 ?_
          refine lv_lookup (off := 39) (tgt := 68) hx hb dX0_teach_29 (by decide) (by decide) (by decide) ?_
          refine lv_aload_n hx hb dX0_teach_68 rfl (lv_at hl 1 rfl) ?_
          refine va_get (D := D) (ci := 0) (v := .ref wa1) (C := RX0) (T := TX0) (N := 6) hx hb hts in_X0 hown hE.1 hP 0 rfl rfl 1 (by decide) (hts _ w_211) (fun _ h9 => h9) rfl dX0_teach_69 ?_
          refine lv_aload_n hx hb dX0_teach_72 rfl (lv_at hl 1 rfl) ?_
          refine va_get (D := D) (ci := 0) (v := .ref wa1) (C := RX0) (T := TX0) (N := 6) hx hb hts in_X0 hown hE.1 hP 0 rfl rfl 1 (by decide) (hts _ w_211) (fun _ h9 => h9) rfl dX0_teach_73 ?_
          refine va_get (D := D) (ci := 8) (v := .int wa1n2) (C := RX9) (T := TX9) (N := 3) hx hb hts in_X9 hown hE.1 hP 10 rfl rfl 2 (by decide) (hts _ w_212) (fun _ h9 => h9) rfl dX0_teach_76 ?_
          refine lv_iload_n hx hb dX0_teach_79 rfl (lv_at hl 0 rfl) ?_
          refine lv_iadd hx hb dX0_teach_80 ?_
          refine lv_topi (fun v1542 ev1542 => ?_)
          refine lv_iconst (v := 4) hx hb dX0_teach_81 (by decide) ?_
          refine lv_irem hx hb dX0_teach_82 (by decide) ?_
          refine lv_topi (fun v1543 ev1543 => ?_)
          refine va_put (D := D) (ci := 8) (v := .int v1543) (ty := .int) (C := RX9) (T := TX9) (N := 3) hx hb hts in_X9 tyX9 tyX9_ok nmX9 hown hE.1 hP hD hS 10 rfl rfl 2 (by decide) (hts _ w_212) (fun _ h9 => h9) rfl (by decide +kernel) rfl rfl (Nat.le_of_ble_eq_true rfl) dX0_teach_83 (fun H locs hP hD hS => ?_)
          replace hP : va_P D vwCl [(w, .inr (0, [.ref wa0, .ref wa1, .ref wa2, .ref wa3, .int wn4, .int wn5])), (wa0, .inr (9, [.ref wa0a0, .ref wa0a1, .ref wa0a2, .ref wa0a3, .ref wa0a4, .ref wa0a5, .ref wa0a6, .ref wa0a7, .int wa0n8, .int wa0n9, .int wa0n10, .int wa0n11])), (wa0a0, .inl (K 1, 40, .inl wa0f0)), (wa0a1, .inl (K 1, 10, .inl wa0f1)), (wa0a2, .inl (K 1, 4, .inl wa0f2)), (wa0a3, .inl (K 1, 4, .inl wa0f3)), (wa0a4, .inl (K 1, 4, .inl wa0f4)), (wa0a5, .inl (K 1, 5, .inl wa0f5)), (wa0a6, .inl (K 1, 5, .inl wa0f6)), (wa0a7, .inl (K 1, 5, .inl wa0f7)), (wa1, .inr (8, [.int wa1n0, .int wa1n1, .int v1543]))] H := hP
          replace hD : va_D A [(w, .inr (0, [.ref wa0, .ref wa1, .ref wa2, .ref wa3, .int wn4, .int wn5])), (wa0, .inr (9, [.ref wa0a0, .ref wa0a1, .ref wa0a2, .ref wa0a3, .ref wa0a4, .ref wa0a5, .ref wa0a6, .ref wa0a7, .int wa0n8, .int wa0n9, .int wa0n10, .int wa0n11])), (wa0a0, .inl (K 1, 40, .inl wa0f0)), (wa0a1, .inl (K 1, 10, .inl wa0f1)), (wa0a2, .inl (K 1, 4, .inl wa0f2)), (wa0a3, .inl (K 1, 4, .inl wa0f3)), (wa0a4, .inl (K 1, 4, .inl wa0f4)), (wa0a5, .inl (K 1, 5, .inl wa0f5)), (wa0a6, .inl (K 1, 5, .inl wa0f6)), (wa0a7, .inl (K 1, 5, .inl wa0f7)), (wa1, .inr (8, [.int wa1n0, .int wa1n1, .int v1543]))] := hD
          refine lv_goto (tgt := 107) hx hb dX0_teach_86 (by decide) ?_
          refine W.widen (k := 0) (n := 0) (by decide) (by decide) ?_
          exact ch_vret hC hr hk hS dX0_teach_107 ((fun k => [v1543].getD k 0, fun k => [wa0f0, wa0f1].getD k (fun _ => 0), fun k => [].getD k (fun _ => 0)) : ((Nat → Int32) × (Nat → Nat → Int32) × (Nat → Nat → Int64))) trivial (hP.sub [0, 1, 2, 3, 4, 5, 6, 7, 8, 9, 10] rfl) (hD.sub [0, 1, 2, 3, 4, 5, 6, 7, 8, 9, 10] (by decide) rfl)
        · have c1541n := ne_i c1541
          refine lv_lookup (off := 60) (tgt := 89) hx hb dX0_teach_29 (by decide) (by rw [lv_osw c1538 (by decide), lv_osw c1541 (by decide)]; rfl) (by decide) ?_
          refine lv_aload_n hx hb dX0_teach_89 rfl (lv_at hl 1 rfl) ?_
          refine va_get (D := D) (ci := 0) (v := .ref wa0) (C := RX0) (T := TX0) (N := 6) hx hb hts in_X0 hown hE.1 hP 0 rfl rfl 0 (by decide) (hts _ w_208) (fun _ h9 => h9) rfl dX0_teach_90 ?_
          refine lv_iload_n hx hb dX0_teach_93 rfl (lv_at hl 0 rfl) ?_
          refine lv_aload_n hx hb dX0_teach_94 rfl (lv_at hl 1 rfl) ?_
          refine va_get (D := D) (ci := 0) (v := .ref wa0) (C := RX0) (T := TX0) (N := 6) hx hb hts in_X0 hown hE.1 hP 0 rfl rfl 0 (by decide) (hts _ w_208) (fun _ h9 => h9) rfl dX0_teach_95 ?_
          refine va_get (D := D) (ci := 9) (v := .ref wa0a7) (C := RX10) (T := TX10) (N := 12) hx hb hts in_X10 hown hE.1 hP 1 rfl rfl 7 (by decide) (hts _ w_213) (fun _ h9 => h9) rfl dX0_teach_98 ?_
          refine lv_iload_n hx hb dX0_teach_101 rfl (lv_at hl 2 rfl) ?_
          refine va_iald hx hb hE.1 hP 9 1 rfl rfl (vp_in_iff.mpr (by omega)) dX0_teach_102 ?_
          refine lv_topi (fun v1544 ev1544 => ?_)
          refine lv_iload_n hx hb dX0_teach_103 rfl (lv_at hl 0 rfl) ?_
          refine cv_V (As := [.int v1536, .int v1544, .int v1536]) (rest := []) (wc := [(wa0, .inr (9, [.ref wa0a0, .ref wa0a1, .ref wa0a2, .ref wa0a3, .ref wa0a4, .ref wa0a5, .ref wa0a6, .ref wa0a7, .int wa0n8, .int wa0n9, .int wa0n10, .int wa0n11])), (wa0a0, .inl (K 1, 40, .inl wa0f0))]) (wr := [(w, .inr (0, [.ref wa0, .ref wa1, .ref wa2, .ref wa3, .int wn4, .int wn5])), (wa0a1, .inl (K 1, 10, .inl wa0f1)), (wa0a2, .inl (K 1, 4, .inl wa0f2)), (wa0a3, .inl (K 1, 4, .inl wa0f3)), (wa0a4, .inl (K 1, 4, .inl wa0f4)), (wa0a5, .inl (K 1, 5, .inl wa0f5)), (wa0a6, .inl (K 1, 5, .inl wa0f6)), (wa0a7, .inl (K 1, 5, .inl wa0f7)), (wa1, .inr (8, [.int wa1n0, .int wa1n1, .int wa1n2]))]) hC hE kV_X0_113 (c_X10_setWay l D K wa0 wa0a0 wa0a1 wa0a2 wa0a3 wa0a4 wa0a5 wa0a6 wa0a7 wa0n8 wa0n9 wa0n10 wa0n11 wa0f0 v1536 v1544 v1536) hP hD hS hA [1, 2] [0, 3, 4, 5, 6, 7, 8, 9, 10] rfl rfl rfl (by decide) (by decide) (by decide) 0 9 rfl rfl rfl hl.1 rfl (Nat.le_of_ble_eq_true rfl) (by decide) (by decide) dX0_teach_104 (fun u1545 H locs hw hP hD hS => ?_)
          replace hP : va_P D vwCl [(w, .inr (0, [.ref wa0, .ref wa1, .ref wa2, .ref wa3, .int wn4, .int wn5])), (wa0a1, .inl (K 1, 10, .inl wa0f1)), (wa0a2, .inl (K 1, 4, .inl wa0f2)), (wa0a3, .inl (K 1, 4, .inl wa0f3)), (wa0a4, .inl (K 1, 4, .inl wa0f4)), (wa0a5, .inl (K 1, 5, .inl wa0f5)), (wa0a6, .inl (K 1, 5, .inl wa0f6)), (wa0a7, .inl (K 1, 5, .inl wa0f7)), (wa1, .inr (8, [.int wa1n0, .int wa1n1, .int wa1n2])), (wa0, .inr (9, [.ref wa0a0, .ref wa0a1, .ref wa0a2, .ref wa0a3, .ref wa0a4, .ref wa0a5, .ref wa0a6, .ref wa0a7, .int wa0n8, .int wa0n9, .int wa0n10, .int wa0n11])), (wa0a0, .inl (K 1, 40, .inl (u1545.2.1 0)))] H := hP
          replace hD : va_D A [(w, .inr (0, [.ref wa0, .ref wa1, .ref wa2, .ref wa3, .int wn4, .int wn5])), (wa0a1, .inl (K 1, 10, .inl wa0f1)), (wa0a2, .inl (K 1, 4, .inl wa0f2)), (wa0a3, .inl (K 1, 4, .inl wa0f3)), (wa0a4, .inl (K 1, 4, .inl wa0f4)), (wa0a5, .inl (K 1, 5, .inl wa0f5)), (wa0a6, .inl (K 1, 5, .inl wa0f6)), (wa0a7, .inl (K 1, 5, .inl wa0f7)), (wa1, .inr (8, [.int wa1n0, .int wa1n1, .int wa1n2])), (wa0, .inr (9, [.ref wa0a0, .ref wa0a1, .ref wa0a2, .ref wa0a3, .ref wa0a4, .ref wa0a5, .ref wa0a6, .ref wa0a7, .int wa0n8, .int wa0n9, .int wa0n10, .int wa0n11])), (wa0a0, .inl (K 1, 40, .inl (u1545.2.1 0)))] := hD
          replace hP : va_P D vwCl [(w, .inr (0, [.ref wa0, .ref wa1, .ref wa2, .ref wa3, .int wn4, .int wn5])), (wa0, .inr (9, [.ref wa0a0, .ref wa0a1, .ref wa0a2, .ref wa0a3, .ref wa0a4, .ref wa0a5, .ref wa0a6, .ref wa0a7, .int wa0n8, .int wa0n9, .int wa0n10, .int wa0n11])), (wa0a0, .inl (K 1, 40, .inl (u1545.2.1 0))), (wa0a1, .inl (K 1, 10, .inl wa0f1)), (wa0a2, .inl (K 1, 4, .inl wa0f2)), (wa0a3, .inl (K 1, 4, .inl wa0f3)), (wa0a4, .inl (K 1, 4, .inl wa0f4)), (wa0a5, .inl (K 1, 5, .inl wa0f5)), (wa0a6, .inl (K 1, 5, .inl wa0f6)), (wa0a7, .inl (K 1, 5, .inl wa0f7)), (wa1, .inr (8, [.int wa1n0, .int wa1n1, .int wa1n2]))] H := hP.sub [0, 9, 10, 1, 2, 3, 4, 5, 6, 7, 8] rfl
          replace hD : va_D A [(w, .inr (0, [.ref wa0, .ref wa1, .ref wa2, .ref wa3, .int wn4, .int wn5])), (wa0, .inr (9, [.ref wa0a0, .ref wa0a1, .ref wa0a2, .ref wa0a3, .ref wa0a4, .ref wa0a5, .ref wa0a6, .ref wa0a7, .int wa0n8, .int wa0n9, .int wa0n10, .int wa0n11])), (wa0a0, .inl (K 1, 40, .inl (u1545.2.1 0))), (wa0a1, .inl (K 1, 10, .inl wa0f1)), (wa0a2, .inl (K 1, 4, .inl wa0f2)), (wa0a3, .inl (K 1, 4, .inl wa0f3)), (wa0a4, .inl (K 1, 4, .inl wa0f4)), (wa0a5, .inl (K 1, 5, .inl wa0f5)), (wa0a6, .inl (K 1, 5, .inl wa0f6)), (wa0a7, .inl (K 1, 5, .inl wa0f7)), (wa1, .inr (8, [.int wa1n0, .int wa1n1, .int wa1n2]))] := hD.sub [0, 9, 10, 1, 2, 3, 4, 5, 6, 7, 8] (by decide) rfl
          refine W.widen (k := 0) (n := 0) (by decide) (by decide) ?_
          refine W.widen (k := 0) (n := 0) (by decide) (by decide) ?_
          exact ch_vret hC hr hk hS dX0_teach_107 ((fun k => [wa1n2].getD k 0, fun k => [(u1545.2.1 0), wa0f1].getD k (fun _ => 0), fun k => [].getD k (fun _ => 0)) : ((Nat → Int32) × (Nat → Nat → Int32) × (Nat → Nat → Int64))) trivial (hP.sub [0, 1, 2, 3, 4, 5, 6, 7, 8, 9, 10] rfl) (hD.sub [0, 1, 2, 3, 4, 5, 6, 7, 8, 9, 10] (by decide) rfl)
    · replace c1535 := nlt_i c1535
      refine W.widen (k := 0) (n := 0) (by decide) (by decide) ?_
      exact ch_vret hC hr hk hS dX0_teach_9 ((fun k => [wa1n2].getD k 0, fun k => [wa0f0, wa0f1].getD k (fun _ => 0), fun k => [].getD k (fun _ => 0)) : ((Nat → Int32) × (Nat → Nat → Int32) × (Nat → Nat → Int64))) trivial (hP.sub [0, 1, 2, 3, 4, 5, 6, 7, 8, 9, 10] rfl) (hD.sub [0, 1, 2, 3, 4, 5, 6, 7, 8, 9, 10] (by decide) rfl)
set_option maxRecDepth 40000 in
set_option maxHeartbeats 4000000 in
theorem c_X0_tryOrder (l : Launch) (D : va_G) (K : Nat → ClassId) (w : Nat) (wa0 : Nat) (wa1 : Nat) (wa2 : Nat) (wa3 : Nat) (wa0a0 : Nat) (wa0a1 : Nat) (wa0a2 : Nat) (wa0a3 : Nat) (wa0a4 : Nat) (wa0a5 : Nat) (wa0a6 : Nat) (wa0a7 : Nat) (v : Nat) (va0 : Nat) (va1 : Nat) (va2 : Nat) (va3 : Nat) (va4 : Nat) (va5 : Nat) (va6 : Nat) (va7 : Nat) (x : Nat) (y : Nat) (ya0 : Nat) (ya1 : Nat) (ya2 : Nat) (wn4 : Int32) (wn5 : Int32) (wa0n8 : Int32) (wa0n9 : Int32) (wa0n10 : Int32) (wa0n11 : Int32) (wa1n0 : Int32) (wa1n1 : Int32) (wa1n2 : Int32) (vn8 : Int32) (vn9 : Int32) (vn10 : Int32) (vn11 : Int32) (xn0 : Int32) (xn1 : Int32) (xn2 : Int32) (wf2 : Nat → Int32) (wa0f0 : Nat → Int32) (wa0f1 : Nat → Int32) (wa0f2 : Nat → Int32) (wa0f3 : Nat → Int32) (wa0f4 : Nat → Int32) (wa0f5 : Nat → Int32) (wa0f6 : Nat → Int32) (wa0f7 : Nat → Int32) (vf0 : Nat → Int32) (vf1 : Nat → Int32) (vf2 : Nat → Int32) (vf3 : Nat → Int32) (vf4 : Nat → Int32) (vf5 : Nat → Int32) (vf6 : Nat → Int32) (vf7 : Nat → Int32) (yf0 : Nat → Int64) (yf2 : Nat → Int32) (p3 : Int32) (hsz : ∀ j, j < 4 → -1 ≤ (yf2 j).toInt ∧ (yf2 j).toInt ≤ 60) : Ci (S := ((Nat → Int32) × (Nat → Nat → Int32) × (Nat → Nat → Int64))) l D K yX0_tryOrder cX0_tryOrder 7 (some .int) 4 84 0 0 [.ref w, .ref v, .ref x, .ref y, .int p3] [(w, .inr (0, [.ref wa0, .ref wa1, .ref wa2, .ref wa3, .int wn4, .int wn5])), (wa2, .inl (K 1, 5, .inl wf2)), (wa0, .inr (9, [.ref wa0a0, .ref wa0a1, .ref wa0a2, .ref wa0a3, .ref wa0a4, .ref wa0a5, .ref wa0a6, .ref wa0a7, .int wa0n8, .int wa0n9, .int wa0n10, .int wa0n11])), (wa0a0, .inl (K 1, 40, .inl wa0f0)), (wa0a1, .inl (K 1, 10, .inl wa0f1)), (wa0a2, .inl (K 1, 4, .inl wa0f2)), (wa0a3, .inl (K 1, 4, .inl wa0f3)), (wa0a4, .inl (K 1, 4, .inl wa0f4)), (wa0a5, .inl (K 1, 5, .inl wa0f5)), (wa0a6, .inl (K 1, 5, .inl wa0f6)), (wa0a7, .inl (K 1, 5, .inl wa0f7)), (wa1, .inr (8, [.int wa1n0, .int wa1n1, .int wa1n2])), (v, .inr (9, [.ref va0, .ref va1, .ref va2, .ref va3, .ref va4, .ref va5, .ref va6, .ref va7, .int vn8, .int vn9, .int vn10, .int vn11])), (va0, .inl (K 1, 40, .inl vf0)), (va1, .inl (K 1, 10, .inl vf1)), (va2, .inl (K 1, 4, .inl vf2)), (va3, .inl (K 1, 4, .inl vf3)), (va4, .inl (K 1, 4, .inl vf4)), (va5, .inl (K 1, 5, .inl vf5)), (va6, .inl (K 1, 5, .inl vf6)), (va7, .inl (K 1, 5, .inl vf7)), (x, .inr (8, [.int xn0, .int xn1, .int xn2])), (y, .inr (5, [.ref ya0, .ref ya1, .ref ya2])), (ya0, .inl (K 2, 240, .inr (.inl yf0))), (ya2, .inl (K 1, 4, .inl yf2))] (fun _ _ => True) (fun u => [(w, .inr (0, [.ref wa0, .ref wa1, .ref wa2, .ref wa3, .int wn4, .int wn5])), (wa2, .inl (K 1, 5, .inl wf2)), (wa0, .inr (9, [.ref wa0a0, .ref wa0a1, .ref wa0a2, .ref wa0a3, .ref wa0a4, .ref wa0a5, .ref wa0a6, .ref wa0a7, .int (u.1 0), .int (u.1 1), .int (u.1 2), .int (u.1 3)])), (wa0a0, .inl (K 1, 40, .inl (u.2.1 0))), (wa0a1, .inl (K 1, 10, .inl (u.2.1 1))), (wa0a2, .inl (K 1, 4, .inl (u.2.1 2))), (wa0a3, .inl (K 1, 4, .inl (u.2.1 3))), (wa0a4, .inl (K 1, 4, .inl (u.2.1 4))), (wa0a5, .inl (K 1, 5, .inl (u.2.1 5))), (wa0a6, .inl (K 1, 5, .inl (u.2.1 6))), (wa0a7, .inl (K 1, 5, .inl (u.2.1 7))), (wa1, .inr (8, [.int (u.1 4), .int (u.1 5), .int (u.1 6)])), (v, .inr (9, [.ref va0, .ref va1, .ref va2, .ref va3, .ref va4, .ref va5, .ref va6, .ref va7, .int vn8, .int vn9, .int vn10, .int vn11])), (va0, .inl (K 1, 40, .inl vf0)), (va1, .inl (K 1, 10, .inl vf1)), (va2, .inl (K 1, 4, .inl vf2)), (va3, .inl (K 1, 4, .inl vf3)), (va4, .inl (K 1, 4, .inl vf4)), (va5, .inl (K 1, 5, .inl vf5)), (va6, .inl (K 1, 5, .inl vf6)), (va7, .inl (K 1, 5, .inl vf7)), (x, .inr (8, [.int xn0, .int xn1, .int xn2])), (y, .inr (5, [.ref ya0, .ref ya1, .ref ya2])), (ya0, .inl (K 2, 240, .inr (.inl yf0))), (ya2, .inl (K 1, 4, .inl yf2))]) := by
  intro sz
  refine ch_of (y := yX0_tryOrder) (cc := cX0_tryOrder) (maxL := 7) (ret := (some .int)) (av := [.ref w, .ref v, .ref x, .ref y, .int p3]) (ws := [(w, .inr (0, [.ref wa0, .ref wa1, .ref wa2, .ref wa3, .int wn4, .int wn5])), (wa2, .inl (K 1, 5, .inl wf2)), (wa0, .inr (9, [.ref wa0a0, .ref wa0a1, .ref wa0a2, .ref wa0a3, .ref wa0a4, .ref wa0a5, .ref wa0a6, .ref wa0a7, .int wa0n8, .int wa0n9, .int wa0n10, .int wa0n11])), (wa0a0, .inl (K 1, 40, .inl wa0f0)), (wa0a1, .inl (K 1, 10, .inl wa0f1)), (wa0a2, .inl (K 1, 4, .inl wa0f2)), (wa0a3, .inl (K 1, 4, .inl wa0f3)), (wa0a4, .inl (K 1, 4, .inl wa0f4)), (wa0a5, .inl (K 1, 5, .inl wa0f5)), (wa0a6, .inl (K 1, 5, .inl wa0f6)), (wa0a7, .inl (K 1, 5, .inl wa0f7)), (wa1, .inr (8, [.int wa1n0, .int wa1n1, .int wa1n2])), (v, .inr (9, [.ref va0, .ref va1, .ref va2, .ref va3, .ref va4, .ref va5, .ref va6, .ref va7, .int vn8, .int vn9, .int vn10, .int vn11])), (va0, .inl (K 1, 40, .inl vf0)), (va1, .inl (K 1, 10, .inl vf1)), (va2, .inl (K 1, 4, .inl vf2)), (va3, .inl (K 1, 4, .inl vf3)), (va4, .inl (K 1, 4, .inl vf4)), (va5, .inl (K 1, 5, .inl vf5)), (va6, .inl (K 1, 5, .inl vf6)), (va7, .inl (K 1, 5, .inl vf7)), (x, .inr (8, [.int xn0, .int xn1, .int xn2])), (y, .inr (5, [.ref ya0, .ref ya1, .ref ya2])), (ya0, .inl (K 2, 240, .inr (.inl yf0))), (ya2, .inl (K 1, 4, .inl yf2))]) (D := D) (K := K) (Qc := fun A => va_Qi (S := ((Nat → Int32) × (Nat → Nat → Int32) × (Nat → Nat → Int64))) (fun _ _ => True) (chB D A (fun u => [(w, .inr (0, [.ref wa0, .ref wa1, .ref wa2, .ref wa3, .int wn4, .int wn5])), (wa2, .inl (K 1, 5, .inl wf2)), (wa0, .inr (9, [.ref wa0a0, .ref wa0a1, .ref wa0a2, .ref wa0a3, .ref wa0a4, .ref wa0a5, .ref wa0a6, .ref wa0a7, .int (u.1 0), .int (u.1 1), .int (u.1 2), .int (u.1 3)])), (wa0a0, .inl (K 1, 40, .inl (u.2.1 0))), (wa0a1, .inl (K 1, 10, .inl (u.2.1 1))), (wa0a2, .inl (K 1, 4, .inl (u.2.1 2))), (wa0a3, .inl (K 1, 4, .inl (u.2.1 3))), (wa0a4, .inl (K 1, 4, .inl (u.2.1 4))), (wa0a5, .inl (K 1, 5, .inl (u.2.1 5))), (wa0a6, .inl (K 1, 5, .inl (u.2.1 6))), (wa0a7, .inl (K 1, 5, .inl (u.2.1 7))), (wa1, .inr (8, [.int (u.1 4), .int (u.1 5), .int (u.1 6)])), (v, .inr (9, [.ref va0, .ref va1, .ref va2, .ref va3, .ref va4, .ref va5, .ref va6, .ref va7, .int vn8, .int vn9, .int vn10, .int vn11])), (va0, .inl (K 1, 40, .inl vf0)), (va1, .inl (K 1, 10, .inl vf1)), (va2, .inl (K 1, 4, .inl vf2)), (va3, .inl (K 1, 4, .inl vf3)), (va4, .inl (K 1, 4, .inl vf4)), (va5, .inl (K 1, 5, .inl vf5)), (va6, .inl (K 1, 5, .inl vf6)), (va7, .inl (K 1, 5, .inl vf7)), (x, .inr (8, [.int xn0, .int xn1, .int xn2])), (y, .inr (5, [.ref ya0, .ref ya1, .ref ya2])), (ya0, .inl (K 2, 240, .inr (.inl yf0))), (ya2, .inl (K 1, 4, .inl yf2))])) A) (by decide) (Nat.le_of_ble_eq_true rfl) ?_
  intro p e s m below meth c A hC hr hk hin hE hD hA H locs hP hS ls hl
  replace hC : CallFix p m c cX0_tryOrder 7 s [.ref w, .ref v, .ref x, .ref y, .int p3].toArray wl RX0 := hC
  have hx := hC.1
  have hb := hC.2.1
  have hml := hC.2.2.1
  have hown := hC.2.2.2.1
  have hts := hC.2.2.2.2
  replace hl : lv_has ls 7 [(0, .ref w), (1, .ref v), (2, .ref x), (3, .ref y), (4, .int p3)] := hl
  have kc_0 : (0 : Int32).toInt = 0 := by decide
  have kc_1 : (1 : Int32).toInt = 1 := by decide
  have kc_5 : (5 : Int32).toInt = 5 := by decide
  have kc_60 : (60 : Int32).toInt = 60 := by decide
  refine lv_aload_n hx hb dX0_tryOrder_0 rfl (lv_at hl 0 rfl) ?_
  refine va_get (D := D) (ci := 0) (v := .ref wa0) (C := RX0) (T := TX0) (N := 6) hx hb hts in_X0 hown hE.1 hP 0 rfl rfl 0 (by decide) (hts _ w_208) (fun _ h9 => h9) rfl dX0_tryOrder_1 ?_
  refine lv_aload_n hx hb dX0_tryOrder_4 rfl (lv_at hl 1 rfl) ?_
  refine cv_V (As := [.ref v]) (rest := []) (wc := [(wa0, .inr (9, [.ref wa0a0, .ref wa0a1, .ref wa0a2, .ref wa0a3, .ref wa0a4, .ref wa0a5, .ref wa0a6, .ref wa0a7, .int wa0n8, .int wa0n9, .int wa0n10, .int wa0n11])), (wa0a0, .inl (K 1, 40, .inl wa0f0)), (wa0a1, .inl (K 1, 10, .inl wa0f1)), (wa0a2, .inl (K 1, 4, .inl wa0f2)), (wa0a3, .inl (K 1, 4, .inl wa0f3)), (wa0a4, .inl (K 1, 4, .inl wa0f4)), (wa0a5, .inl (K 1, 5, .inl wa0f5)), (wa0a6, .inl (K 1, 5, .inl wa0f6)), (wa0a7, .inl (K 1, 5, .inl wa0f7)), (v, .inr (9, [.ref va0, .ref va1, .ref va2, .ref va3, .ref va4, .ref va5, .ref va6, .ref va7, .int vn8, .int vn9, .int vn10, .int vn11])), (va0, .inl (K 1, 40, .inl vf0)), (va1, .inl (K 1, 10, .inl vf1)), (va2, .inl (K 1, 4, .inl vf2)), (va3, .inl (K 1, 4, .inl vf3)), (va4, .inl (K 1, 4, .inl vf4)), (va5, .inl (K 1, 5, .inl vf5)), (va6, .inl (K 1, 5, .inl vf6)), (va7, .inl (K 1, 5, .inl vf7))]) (wr := [(w, .inr (0, [.ref wa0, .ref wa1, .ref wa2, .ref wa3, .int wn4, .int wn5])), (wa2, .inl (K 1, 5, .inl wf2)), (wa1, .inr (8, [.int wa1n0, .int wa1n1, .int wa1n2])), (x, .inr (8, [.int xn0, .int xn1, .int xn2])), (y, .inr (5, [.ref ya0, .ref ya1, .ref ya2])), (ya0, .inl (K 2, 240, .inr (.inl yf0))), (ya2, .inl (K 1, 4, .inl yf2))]) hC hE kV_X0_62 (c_X10_copyFrom l D K wa0 wa0a0 wa0a1 wa0a2 wa0a3 wa0a4 wa0a5 wa0a6 wa0a7 v va0 va1 va2 va3 va4 va5 va6 va7 wa0n8 wa0n9 wa0n10 wa0n11 vn8 vn9 vn10 vn11 wa0f0 wa0f1 wa0f2 wa0f3 wa0f4 wa0f5 wa0f6 wa0f7 vf0 vf1 vf2 vf3 vf4 vf5 vf6 vf7) hP hD hS hA [2, 3, 4, 5, 6, 7, 8, 9, 10, 12, 13, 14, 15, 16, 17, 18, 19, 20] [0, 1, 11, 21, 22, 23, 24] rfl rfl rfl (by decide) (by decide) (by decide) 0 9 rfl rfl rfl hl.1 rfl (Nat.le_of_ble_eq_true rfl) (by decide) (by decide) dX0_tryOrder_5 (fun u1581 H locs hw hP hD hS => ?_)
  replace hP : va_P D vwCl [(w, .inr (0, [.ref wa0, .ref wa1, .ref wa2, .ref wa3, .int wn4, .int wn5])), (wa2, .inl (K 1, 5, .inl wf2)), (wa1, .inr (8, [.int wa1n0, .int wa1n1, .int wa1n2])), (x, .inr (8, [.int xn0, .int xn1, .int xn2])), (y, .inr (5, [.ref ya0, .ref ya1, .ref ya2])), (ya0, .inl (K 2, 240, .inr (.inl yf0))), (ya2, .inl (K 1, 4, .inl yf2)), (wa0, .inr (9, [.ref wa0a0, .ref wa0a1, .ref wa0a2, .ref wa0a3, .ref wa0a4, .ref wa0a5, .ref wa0a6, .ref wa0a7, .int (u1581.1 0), .int (u1581.1 1), .int (u1581.1 2), .int (u1581.1 3)])), (wa0a0, .inl (K 1, 40, .inl (u1581.2.1 0))), (wa0a1, .inl (K 1, 10, .inl (u1581.2.1 1))), (wa0a2, .inl (K 1, 4, .inl (u1581.2.1 2))), (wa0a3, .inl (K 1, 4, .inl (u1581.2.1 3))), (wa0a4, .inl (K 1, 4, .inl (u1581.2.1 4))), (wa0a5, .inl (K 1, 5, .inl (u1581.2.1 5))), (wa0a6, .inl (K 1, 5, .inl (u1581.2.1 6))), (wa0a7, .inl (K 1, 5, .inl (u1581.2.1 7))), (v, .inr (9, [.ref va0, .ref va1, .ref va2, .ref va3, .ref va4, .ref va5, .ref va6, .ref va7, .int vn8, .int vn9, .int vn10, .int vn11])), (va0, .inl (K 1, 40, .inl vf0)), (va1, .inl (K 1, 10, .inl vf1)), (va2, .inl (K 1, 4, .inl vf2)), (va3, .inl (K 1, 4, .inl vf3)), (va4, .inl (K 1, 4, .inl vf4)), (va5, .inl (K 1, 5, .inl vf5)), (va6, .inl (K 1, 5, .inl vf6)), (va7, .inl (K 1, 5, .inl vf7))] H := hP
  replace hD : va_D A [(w, .inr (0, [.ref wa0, .ref wa1, .ref wa2, .ref wa3, .int wn4, .int wn5])), (wa2, .inl (K 1, 5, .inl wf2)), (wa1, .inr (8, [.int wa1n0, .int wa1n1, .int wa1n2])), (x, .inr (8, [.int xn0, .int xn1, .int xn2])), (y, .inr (5, [.ref ya0, .ref ya1, .ref ya2])), (ya0, .inl (K 2, 240, .inr (.inl yf0))), (ya2, .inl (K 1, 4, .inl yf2)), (wa0, .inr (9, [.ref wa0a0, .ref wa0a1, .ref wa0a2, .ref wa0a3, .ref wa0a4, .ref wa0a5, .ref wa0a6, .ref wa0a7, .int (u1581.1 0), .int (u1581.1 1), .int (u1581.1 2), .int (u1581.1 3)])), (wa0a0, .inl (K 1, 40, .inl (u1581.2.1 0))), (wa0a1, .inl (K 1, 10, .inl (u1581.2.1 1))), (wa0a2, .inl (K 1, 4, .inl (u1581.2.1 2))), (wa0a3, .inl (K 1, 4, .inl (u1581.2.1 3))), (wa0a4, .inl (K 1, 4, .inl (u1581.2.1 4))), (wa0a5, .inl (K 1, 5, .inl (u1581.2.1 5))), (wa0a6, .inl (K 1, 5, .inl (u1581.2.1 6))), (wa0a7, .inl (K 1, 5, .inl (u1581.2.1 7))), (v, .inr (9, [.ref va0, .ref va1, .ref va2, .ref va3, .ref va4, .ref va5, .ref va6, .ref va7, .int vn8, .int vn9, .int vn10, .int vn11])), (va0, .inl (K 1, 40, .inl vf0)), (va1, .inl (K 1, 10, .inl vf1)), (va2, .inl (K 1, 4, .inl vf2)), (va3, .inl (K 1, 4, .inl vf3)), (va4, .inl (K 1, 4, .inl vf4)), (va5, .inl (K 1, 5, .inl vf5)), (va6, .inl (K 1, 5, .inl vf6)), (va7, .inl (K 1, 5, .inl vf7))] := hD
  replace hP : va_P D vwCl [(w, .inr (0, [.ref wa0, .ref wa1, .ref wa2, .ref wa3, .int wn4, .int wn5])), (wa2, .inl (K 1, 5, .inl wf2)), (wa0, .inr (9, [.ref wa0a0, .ref wa0a1, .ref wa0a2, .ref wa0a3, .ref wa0a4, .ref wa0a5, .ref wa0a6, .ref wa0a7, .int (u1581.1 0), .int (u1581.1 1), .int (u1581.1 2), .int (u1581.1 3)])), (wa0a0, .inl (K 1, 40, .inl (u1581.2.1 0))), (wa0a1, .inl (K 1, 10, .inl (u1581.2.1 1))), (wa0a2, .inl (K 1, 4, .inl (u1581.2.1 2))), (wa0a3, .inl (K 1, 4, .inl (u1581.2.1 3))), (wa0a4, .inl (K 1, 4, .inl (u1581.2.1 4))), (wa0a5, .inl (K 1, 5, .inl (u1581.2.1 5))), (wa0a6, .inl (K 1, 5, .inl (u1581.2.1 6))), (wa0a7, .inl (K 1, 5, .inl (u1581.2.1 7))), (wa1, .inr (8, [.int wa1n0, .int wa1n1, .int wa1n2])), (v, .inr (9, [.ref va0, .ref va1, .ref va2, .ref va3, .ref va4, .ref va5, .ref va6, .ref va7, .int vn8, .int vn9, .int vn10, .int vn11])), (va0, .inl (K 1, 40, .inl vf0)), (va1, .inl (K 1, 10, .inl vf1)), (va2, .inl (K 1, 4, .inl vf2)), (va3, .inl (K 1, 4, .inl vf3)), (va4, .inl (K 1, 4, .inl vf4)), (va5, .inl (K 1, 5, .inl vf5)), (va6, .inl (K 1, 5, .inl vf6)), (va7, .inl (K 1, 5, .inl vf7)), (x, .inr (8, [.int xn0, .int xn1, .int xn2])), (y, .inr (5, [.ref ya0, .ref ya1, .ref ya2])), (ya0, .inl (K 2, 240, .inr (.inl yf0))), (ya2, .inl (K 1, 4, .inl yf2))] H := hP.sub [0, 1, 7, 8, 9, 10, 11, 12, 13, 14, 15, 2, 16, 17, 18, 19, 20, 21, 22, 23, 24, 3, 4, 5, 6] rfl
  replace hD : va_D A [(w, .inr (0, [.ref wa0, .ref wa1, .ref wa2, .ref wa3, .int wn4, .int wn5])), (wa2, .inl (K 1, 5, .inl wf2)), (wa0, .inr (9, [.ref wa0a0, .ref wa0a1, .ref wa0a2, .ref wa0a3, .ref wa0a4, .ref wa0a5, .ref wa0a6, .ref wa0a7, .int (u1581.1 0), .int (u1581.1 1), .int (u1581.1 2), .int (u1581.1 3)])), (wa0a0, .inl (K 1, 40, .inl (u1581.2.1 0))), (wa0a1, .inl (K 1, 10, .inl (u1581.2.1 1))), (wa0a2, .inl (K 1, 4, .inl (u1581.2.1 2))), (wa0a3, .inl (K 1, 4, .inl (u1581.2.1 3))), (wa0a4, .inl (K 1, 4, .inl (u1581.2.1 4))), (wa0a5, .inl (K 1, 5, .inl (u1581.2.1 5))), (wa0a6, .inl (K 1, 5, .inl (u1581.2.1 6))), (wa0a7, .inl (K 1, 5, .inl (u1581.2.1 7))), (wa1, .inr (8, [.int wa1n0, .int wa1n1, .int wa1n2])), (v, .inr (9, [.ref va0, .ref va1, .ref va2, .ref va3, .ref va4, .ref va5, .ref va6, .ref va7, .int vn8, .int vn9, .int vn10, .int vn11])), (va0, .inl (K 1, 40, .inl vf0)), (va1, .inl (K 1, 10, .inl vf1)), (va2, .inl (K 1, 4, .inl vf2)), (va3, .inl (K 1, 4, .inl vf3)), (va4, .inl (K 1, 4, .inl vf4)), (va5, .inl (K 1, 5, .inl vf5)), (va6, .inl (K 1, 5, .inl vf6)), (va7, .inl (K 1, 5, .inl vf7)), (x, .inr (8, [.int xn0, .int xn1, .int xn2])), (y, .inr (5, [.ref ya0, .ref ya1, .ref ya2])), (ya0, .inl (K 2, 240, .inr (.inl yf0))), (ya2, .inl (K 1, 4, .inl yf2))] := hD.sub [0, 1, 7, 8, 9, 10, 11, 12, 13, 14, 15, 2, 16, 17, 18, 19, 20, 21, 22, 23, 24, 3, 4, 5, 6] (by decide) rfl
  refine W.widen (k := 0) (n := 0) (by decide) (by decide) ?_
  refine lv_aload_n hx hb dX0_tryOrder_8 rfl (lv_at hl 0 rfl) ?_
  refine va_get (D := D) (ci := 0) (v := .ref wa1) (C := RX0) (T := TX0) (N := 6) hx hb hts in_X0 hown hE.1 hP 0 rfl rfl 1 (by decide) (hts _ w_211) (fun _ h9 => h9) rfl dX0_tryOrder_9 ?_
  refine lv_aload_n hx hb dX0_tryOrder_12 rfl (lv_at hl 2 rfl) ?_
  refine va_get (D := D) (ci := 8) (v := .int xn0) (C := RX9) (T := TX9) (N := 3) hx hb hts in_X9 hown hE.1 hP 21 rfl rfl 0 (by decide) (hts _ w_222) (fun _ h9 => h9) rfl dX0_tryOrder_13 ?_
  refine lv_aload_n hx hb dX0_tryOrder_16 rfl (lv_at hl 2 rfl) ?_
  refine va_get (D := D) (ci := 8) (v := .int xn1) (C := RX9) (T := TX9) (N := 3) hx hb hts in_X9 hown hE.1 hP 21 rfl rfl 1 (by decide) (hts _ w_223) (fun _ h9 => h9) rfl dX0_tryOrder_17 ?_
  refine lv_aload_n hx hb dX0_tryOrder_20 rfl (lv_at hl 2 rfl) ?_
  refine va_get (D := D) (ci := 8) (v := .int xn2) (C := RX9) (T := TX9) (N := 3) hx hb hts in_X9 hown hE.1 hP 21 rfl rfl 2 (by decide) (hts _ w_212) (fun _ h9 => h9) rfl dX0_tryOrder_21 ?_
  refine cv_V (As := [.int xn0, .int xn1, .int xn2]) (rest := []) (wc := [(wa1, .inr (8, [.int wa1n0, .int wa1n1, .int wa1n2]))]) (wr := [(w, .inr (0, [.ref wa0, .ref wa1, .ref wa2, .ref wa3, .int wn4, .int wn5])), (wa2, .inl (K 1, 5, .inl wf2)), (wa0, .inr (9, [.ref wa0a0, .ref wa0a1, .ref wa0a2, .ref wa0a3, .ref wa0a4, .ref wa0a5, .ref wa0a6, .ref wa0a7, .int (u1581.1 0), .int (u1581.1 1), .int (u1581.1 2), .int (u1581.1 3)])), (wa0a0, .inl (K 1, 40, .inl (u1581.2.1 0))), (wa0a1, .inl (K 1, 10, .inl (u1581.2.1 1))), (wa0a2, .inl (K 1, 4, .inl (u1581.2.1 2))), (wa0a3, .inl (K 1, 4, .inl (u1581.2.1 3))), (wa0a4, .inl (K 1, 4, .inl (u1581.2.1 4))), (wa0a5, .inl (K 1, 5, .inl (u1581.2.1 5))), (wa0a6, .inl (K 1, 5, .inl (u1581.2.1 6))), (wa0a7, .inl (K 1, 5, .inl (u1581.2.1 7))), (v, .inr (9, [.ref va0, .ref va1, .ref va2, .ref va3, .ref va4, .ref va5, .ref va6, .ref va7, .int vn8, .int vn9, .int vn10, .int vn11])), (va0, .inl (K 1, 40, .inl vf0)), (va1, .inl (K 1, 10, .inl vf1)), (va2, .inl (K 1, 4, .inl vf2)), (va3, .inl (K 1, 4, .inl vf3)), (va4, .inl (K 1, 4, .inl vf4)), (va5, .inl (K 1, 5, .inl vf5)), (va6, .inl (K 1, 5, .inl vf6)), (va7, .inl (K 1, 5, .inl vf7)), (x, .inr (8, [.int xn0, .int xn1, .int xn2])), (y, .inr (5, [.ref ya0, .ref ya1, .ref ya2])), (ya0, .inl (K 2, 240, .inr (.inl yf0))), (ya2, .inl (K 1, 4, .inl yf2))]) hC hE kV_X0_75 (c_X9_place l D K wa1 wa1n0 wa1n1 wa1n2 xn0 xn1 xn2) hP hD hS hA [11] [0, 1, 2, 3, 4, 5, 6, 7, 8, 9, 10, 12, 13, 14, 15, 16, 17, 18, 19, 20, 21, 22, 23, 24] rfl rfl rfl (by decide) (by decide) (by decide) 0 8 rfl rfl rfl hl.1 rfl (Nat.le_of_ble_eq_true rfl) (by decide) (by decide) dX0_tryOrder_24 (fun u1583 H locs hw hP hD hS => ?_)
  replace hP : va_P D vwCl [(w, .inr (0, [.ref wa0, .ref wa1, .ref wa2, .ref wa3, .int wn4, .int wn5])), (wa2, .inl (K 1, 5, .inl wf2)), (wa0, .inr (9, [.ref wa0a0, .ref wa0a1, .ref wa0a2, .ref wa0a3, .ref wa0a4, .ref wa0a5, .ref wa0a6, .ref wa0a7, .int (u1581.1 0), .int (u1581.1 1), .int (u1581.1 2), .int (u1581.1 3)])), (wa0a0, .inl (K 1, 40, .inl (u1581.2.1 0))), (wa0a1, .inl (K 1, 10, .inl (u1581.2.1 1))), (wa0a2, .inl (K 1, 4, .inl (u1581.2.1 2))), (wa0a3, .inl (K 1, 4, .inl (u1581.2.1 3))), (wa0a4, .inl (K 1, 4, .inl (u1581.2.1 4))), (wa0a5, .inl (K 1, 5, .inl (u1581.2.1 5))), (wa0a6, .inl (K 1, 5, .inl (u1581.2.1 6))), (wa0a7, .inl (K 1, 5, .inl (u1581.2.1 7))), (v, .inr (9, [.ref va0, .ref va1, .ref va2, .ref va3, .ref va4, .ref va5, .ref va6, .ref va7, .int vn8, .int vn9, .int vn10, .int vn11])), (va0, .inl (K 1, 40, .inl vf0)), (va1, .inl (K 1, 10, .inl vf1)), (va2, .inl (K 1, 4, .inl vf2)), (va3, .inl (K 1, 4, .inl vf3)), (va4, .inl (K 1, 4, .inl vf4)), (va5, .inl (K 1, 5, .inl vf5)), (va6, .inl (K 1, 5, .inl vf6)), (va7, .inl (K 1, 5, .inl vf7)), (x, .inr (8, [.int xn0, .int xn1, .int xn2])), (y, .inr (5, [.ref ya0, .ref ya1, .ref ya2])), (ya0, .inl (K 2, 240, .inr (.inl yf0))), (ya2, .inl (K 1, 4, .inl yf2)), (wa1, .inr (8, [.int (u1583.1 0), .int (u1583.1 1), .int (u1583.1 2)]))] H := hP
  replace hD : va_D A [(w, .inr (0, [.ref wa0, .ref wa1, .ref wa2, .ref wa3, .int wn4, .int wn5])), (wa2, .inl (K 1, 5, .inl wf2)), (wa0, .inr (9, [.ref wa0a0, .ref wa0a1, .ref wa0a2, .ref wa0a3, .ref wa0a4, .ref wa0a5, .ref wa0a6, .ref wa0a7, .int (u1581.1 0), .int (u1581.1 1), .int (u1581.1 2), .int (u1581.1 3)])), (wa0a0, .inl (K 1, 40, .inl (u1581.2.1 0))), (wa0a1, .inl (K 1, 10, .inl (u1581.2.1 1))), (wa0a2, .inl (K 1, 4, .inl (u1581.2.1 2))), (wa0a3, .inl (K 1, 4, .inl (u1581.2.1 3))), (wa0a4, .inl (K 1, 4, .inl (u1581.2.1 4))), (wa0a5, .inl (K 1, 5, .inl (u1581.2.1 5))), (wa0a6, .inl (K 1, 5, .inl (u1581.2.1 6))), (wa0a7, .inl (K 1, 5, .inl (u1581.2.1 7))), (v, .inr (9, [.ref va0, .ref va1, .ref va2, .ref va3, .ref va4, .ref va5, .ref va6, .ref va7, .int vn8, .int vn9, .int vn10, .int vn11])), (va0, .inl (K 1, 40, .inl vf0)), (va1, .inl (K 1, 10, .inl vf1)), (va2, .inl (K 1, 4, .inl vf2)), (va3, .inl (K 1, 4, .inl vf3)), (va4, .inl (K 1, 4, .inl vf4)), (va5, .inl (K 1, 5, .inl vf5)), (va6, .inl (K 1, 5, .inl vf6)), (va7, .inl (K 1, 5, .inl vf7)), (x, .inr (8, [.int xn0, .int xn1, .int xn2])), (y, .inr (5, [.ref ya0, .ref ya1, .ref ya2])), (ya0, .inl (K 2, 240, .inr (.inl yf0))), (ya2, .inl (K 1, 4, .inl yf2)), (wa1, .inr (8, [.int (u1583.1 0), .int (u1583.1 1), .int (u1583.1 2)]))] := hD
  replace hP : va_P D vwCl [(w, .inr (0, [.ref wa0, .ref wa1, .ref wa2, .ref wa3, .int wn4, .int wn5])), (wa2, .inl (K 1, 5, .inl wf2)), (wa0, .inr (9, [.ref wa0a0, .ref wa0a1, .ref wa0a2, .ref wa0a3, .ref wa0a4, .ref wa0a5, .ref wa0a6, .ref wa0a7, .int (u1581.1 0), .int (u1581.1 1), .int (u1581.1 2), .int (u1581.1 3)])), (wa0a0, .inl (K 1, 40, .inl (u1581.2.1 0))), (wa0a1, .inl (K 1, 10, .inl (u1581.2.1 1))), (wa0a2, .inl (K 1, 4, .inl (u1581.2.1 2))), (wa0a3, .inl (K 1, 4, .inl (u1581.2.1 3))), (wa0a4, .inl (K 1, 4, .inl (u1581.2.1 4))), (wa0a5, .inl (K 1, 5, .inl (u1581.2.1 5))), (wa0a6, .inl (K 1, 5, .inl (u1581.2.1 6))), (wa0a7, .inl (K 1, 5, .inl (u1581.2.1 7))), (wa1, .inr (8, [.int (u1583.1 0), .int (u1583.1 1), .int (u1583.1 2)])), (v, .inr (9, [.ref va0, .ref va1, .ref va2, .ref va3, .ref va4, .ref va5, .ref va6, .ref va7, .int vn8, .int vn9, .int vn10, .int vn11])), (va0, .inl (K 1, 40, .inl vf0)), (va1, .inl (K 1, 10, .inl vf1)), (va2, .inl (K 1, 4, .inl vf2)), (va3, .inl (K 1, 4, .inl vf3)), (va4, .inl (K 1, 4, .inl vf4)), (va5, .inl (K 1, 5, .inl vf5)), (va6, .inl (K 1, 5, .inl vf6)), (va7, .inl (K 1, 5, .inl vf7)), (x, .inr (8, [.int xn0, .int xn1, .int xn2])), (y, .inr (5, [.ref ya0, .ref ya1, .ref ya2])), (ya0, .inl (K 2, 240, .inr (.inl yf0))), (ya2, .inl (K 1, 4, .inl yf2))] H := hP.sub [0, 1, 2, 3, 4, 5, 6, 7, 8, 9, 10, 24, 11, 12, 13, 14, 15, 16, 17, 18, 19, 20, 21, 22, 23] rfl
  replace hD : va_D A [(w, .inr (0, [.ref wa0, .ref wa1, .ref wa2, .ref wa3, .int wn4, .int wn5])), (wa2, .inl (K 1, 5, .inl wf2)), (wa0, .inr (9, [.ref wa0a0, .ref wa0a1, .ref wa0a2, .ref wa0a3, .ref wa0a4, .ref wa0a5, .ref wa0a6, .ref wa0a7, .int (u1581.1 0), .int (u1581.1 1), .int (u1581.1 2), .int (u1581.1 3)])), (wa0a0, .inl (K 1, 40, .inl (u1581.2.1 0))), (wa0a1, .inl (K 1, 10, .inl (u1581.2.1 1))), (wa0a2, .inl (K 1, 4, .inl (u1581.2.1 2))), (wa0a3, .inl (K 1, 4, .inl (u1581.2.1 3))), (wa0a4, .inl (K 1, 4, .inl (u1581.2.1 4))), (wa0a5, .inl (K 1, 5, .inl (u1581.2.1 5))), (wa0a6, .inl (K 1, 5, .inl (u1581.2.1 6))), (wa0a7, .inl (K 1, 5, .inl (u1581.2.1 7))), (wa1, .inr (8, [.int (u1583.1 0), .int (u1583.1 1), .int (u1583.1 2)])), (v, .inr (9, [.ref va0, .ref va1, .ref va2, .ref va3, .ref va4, .ref va5, .ref va6, .ref va7, .int vn8, .int vn9, .int vn10, .int vn11])), (va0, .inl (K 1, 40, .inl vf0)), (va1, .inl (K 1, 10, .inl vf1)), (va2, .inl (K 1, 4, .inl vf2)), (va3, .inl (K 1, 4, .inl vf3)), (va4, .inl (K 1, 4, .inl vf4)), (va5, .inl (K 1, 5, .inl vf5)), (va6, .inl (K 1, 5, .inl vf6)), (va7, .inl (K 1, 5, .inl vf7)), (x, .inr (8, [.int xn0, .int xn1, .int xn2])), (y, .inr (5, [.ref ya0, .ref ya1, .ref ya2])), (ya0, .inl (K 2, 240, .inr (.inl yf0))), (ya2, .inl (K 1, 4, .inl yf2))] := hD.sub [0, 1, 2, 3, 4, 5, 6, 7, 8, 9, 10, 24, 11, 12, 13, 14, 15, 16, 17, 18, 19, 20, 21, 22, 23] (by decide) rfl
  refine W.widen (k := 0) (n := 0) (by decide) (by decide) ?_
  refine lv_iconst (v := 0) hx hb dX0_tryOrder_27 (by decide) ?_
  refine lv_istore (lv' := [(5, .int 0), (0, .ref w), (1, .ref v), (2, .ref x), (3, .ref y), (4, .int p3)]) hx hb dX0_tryOrder_28 hl (by decide) rfl (fun ls hl => ?_)
  have hl' := hl; have hP' := hP; have hD' := hD; clear hl hP hD
  obtain ⟨i1613, g1614, g1615, w1616, w1617, w1618, hi_30, hl, hP, hD⟩ : ∃ (i1613 : Int32) (g1614 : Nat → Int32) (g1615 : Nat → Int32) (w1616 : Int32) (w1617 : Int32) (w1618 : Int32), ((0 : Int) ≤ i1613.toInt) ∧ lv_has ls 7 [(5, .int i1613), (0, .ref w), (1, .ref v), (2, .ref x), (3, .ref y), (4, .int p3)] ∧ va_P D vwCl [(w, .inr (0, [.ref wa0, .ref wa1, .ref wa2, .ref wa3, .int wn4, .int wn5])), (wa2, .inl (K 1, 5, .inl wf2)), (wa0, .inr (9, [.ref wa0a0, .ref wa0a1, .ref wa0a2, .ref wa0a3, .ref wa0a4, .ref wa0a5, .ref wa0a6, .ref wa0a7, .int (u1581.1 0), .int (u1581.1 1), .int (u1581.1 2), .int (u1581.1 3)])), (wa0a0, .inl (K 1, 40, .inl g1614)), (wa0a1, .inl (K 1, 10, .inl g1615)), (wa0a2, .inl (K 1, 4, .inl (u1581.2.1 2))), (wa0a3, .inl (K 1, 4, .inl (u1581.2.1 3))), (wa0a4, .inl (K 1, 4, .inl (u1581.2.1 4))), (wa0a5, .inl (K 1, 5, .inl (u1581.2.1 5))), (wa0a6, .inl (K 1, 5, .inl (u1581.2.1 6))), (wa0a7, .inl (K 1, 5, .inl (u1581.2.1 7))), (wa1, .inr (8, [.int w1616, .int w1617, .int w1618])), (v, .inr (9, [.ref va0, .ref va1, .ref va2, .ref va3, .ref va4, .ref va5, .ref va6, .ref va7, .int vn8, .int vn9, .int vn10, .int vn11])), (va0, .inl (K 1, 40, .inl vf0)), (va1, .inl (K 1, 10, .inl vf1)), (va2, .inl (K 1, 4, .inl vf2)), (va3, .inl (K 1, 4, .inl vf3)), (va4, .inl (K 1, 4, .inl vf4)), (va5, .inl (K 1, 5, .inl vf5)), (va6, .inl (K 1, 5, .inl vf6)), (va7, .inl (K 1, 5, .inl vf7)), (x, .inr (8, [.int xn0, .int xn1, .int xn2])), (y, .inr (5, [.ref ya0, .ref ya1, .ref ya2])), (ya0, .inl (K 2, 240, .inr (.inl yf0))), (ya2, .inl (K 1, 4, .inl yf2))] H ∧ va_D A [(w, .inr (0, [.ref wa0, .ref wa1, .ref wa2, .ref wa3, .int wn4, .int wn5])), (wa2, .inl (K 1, 5, .inl wf2)), (wa0, .inr (9, [.ref wa0a0, .ref wa0a1, .ref wa0a2, .ref wa0a3, .ref wa0a4, .ref wa0a5, .ref wa0a6, .ref wa0a7, .int (u1581.1 0), .int (u1581.1 1), .int (u1581.1 2), .int (u1581.1 3)])), (wa0a0, .inl (K 1, 40, .inl g1614)), (wa0a1, .inl (K 1, 10, .inl g1615)), (wa0a2, .inl (K 1, 4, .inl (u1581.2.1 2))), (wa0a3, .inl (K 1, 4, .inl (u1581.2.1 3))), (wa0a4, .inl (K 1, 4, .inl (u1581.2.1 4))), (wa0a5, .inl (K 1, 5, .inl (u1581.2.1 5))), (wa0a6, .inl (K 1, 5, .inl (u1581.2.1 6))), (wa0a7, .inl (K 1, 5, .inl (u1581.2.1 7))), (wa1, .inr (8, [.int w1616, .int w1617, .int w1618])), (v, .inr (9, [.ref va0, .ref va1, .ref va2, .ref va3, .ref va4, .ref va5, .ref va6, .ref va7, .int vn8, .int vn9, .int vn10, .int vn11])), (va0, .inl (K 1, 40, .inl vf0)), (va1, .inl (K 1, 10, .inl vf1)), (va2, .inl (K 1, 4, .inl vf2)), (va3, .inl (K 1, 4, .inl vf3)), (va4, .inl (K 1, 4, .inl vf4)), (va5, .inl (K 1, 5, .inl vf5)), (va6, .inl (K 1, 5, .inl vf6)), (va7, .inl (K 1, 5, .inl vf7)), (x, .inr (8, [.int xn0, .int xn1, .int xn2])), (y, .inr (5, [.ref ya0, .ref ya1, .ref ya2])), (ya0, .inl (K 2, 240, .inr (.inl yf0))), (ya2, .inl (K 1, 4, .inl yf2))] := ⟨_, _, _, _, _, _, by omega, hl', hP', hD'⟩
  clear hl' hP' hD'
  obtain ⟨n_30, hn_30⟩ : ∃ n : Nat, (5 - i1613.toInt).toNat < n := ⟨_, Nat.lt_succ_self _⟩
  induction n_30 generalizing i1613 g1614 g1615 w1616 w1617 w1618 H locs ls with
  | zero => exact absurd hn_30 (Nat.not_lt_zero _)
  | succ n_30 ih_30 =>
    refine lv_iload hx hb dX0_tryOrder_30 (lv_at hl 0 rfl) ?_
    refine lv_aload_n hx hb dX0_tryOrder_32 rfl (lv_at hl 1 rfl) ?_
    refine va_get (D := D) (ci := 0) (v := .ref wa0) (C := RX0) (T := TX0) (N := 6) hx hb hts in_X0 hown hE.1 hP 0 rfl rfl 0 (by decide) (hts _ w_208) (fun _ h9 => h9) rfl dX0_tryOrder_33 ?_
    refine va_get (D := D) (ci := 9) (v := .int (u1581.1 2)) (C := RX10) (T := TX10) (N := 12) hx hb hts in_X10 hown hE.1 hP 2 rfl rfl 10 (by decide) (hts _ w_224) (fun _ h9 => h9) rfl dX0_tryOrder_36 ?_
    refine lv_icmp_ge (tgt := 111) hx hb dX0_tryOrder_39 (by decide) (fun c1619 => ?_) (fun c1619 => ?_)
    · replace c1619 := le_i c1619
      refine lv_aload_n hx hb dX0_tryOrder_111 rfl (lv_at hl 1 rfl) ?_
      refine va_get (D := D) (ci := 0) (v := .ref wa1) (C := RX0) (T := TX0) (N := 6) hx hb hts in_X0 hown hE.1 hP 0 rfl rfl 1 (by decide) (hts _ w_211) (fun _ h9 => h9) rfl dX0_tryOrder_112 ?_
      refine ro_V (As := []) (rest := []) hC hE kV_X0_96 (c_X9_doubt l D K wa1 w1616 w1617 w1618) (hP.sub (ws' := [(wa1, .inr (8, [.int w1616, .int w1617, .int w1618]))]) [11] rfl) 0 8 rfl rfl rfl hl.1 rfl (Nat.le_of_ble_eq_true rfl) (by decide) (by decide) dX0_tryOrder_115 (fun r1620 _ => ?_)
      refine W.widen (k := 0) (n := 0) (by decide) (by decide) ?_
      exact ch_iret hC hr hk hS dX0_tryOrder_118 ((fun k => [(u1581.1 0), (u1581.1 1), (u1581.1 2), (u1581.1 3), w1616, w1617, w1618].getD k 0, fun k => [g1614, g1615, (u1581.2.1 2), (u1581.2.1 3), (u1581.2.1 4), (u1581.2.1 5), (u1581.2.1 6), (u1581.2.1 7)].getD k (fun _ => 0), fun k => [].getD k (fun _ => 0)) : ((Nat → Int32) × (Nat → Nat → Int32) × (Nat → Nat → Int64))) trivial (hP.sub [0, 1, 2, 3, 4, 5, 6, 7, 8, 9, 10, 11, 12, 13, 14, 15, 16, 17, 18, 19, 20, 21, 22, 23, 24] rfl) (hD.sub [0, 1, 2, 3, 4, 5, 6, 7, 8, 9, 10, 11, 12, 13, 14, 15, 16, 17, 18, 19, 20, 21, 22, 23, 24] (by decide) rfl)
    · replace c1619 := nle_i c1619
      refine lv_iload hx hb dX0_tryOrder_42 (lv_at hl 0 rfl) ?_
      refine lv_iconst (v := 5) hx hb dX0_tryOrder_44 (by decide) ?_
      refine lv_icmp_ge (tgt := 111) hx hb dX0_tryOrder_45 (by decide) (fun c1621 => ?_) (fun c1621 => ?_)
      · replace c1621 := le_i c1621
        refine lv_aload_n hx hb dX0_tryOrder_111 rfl (lv_at hl 1 rfl) ?_
        refine va_get (D := D) (ci := 0) (v := .ref wa1) (C := RX0) (T := TX0) (N := 6) hx hb hts in_X0 hown hE.1 hP 0 rfl rfl 1 (by decide) (hts _ w_211) (fun _ h9 => h9) rfl dX0_tryOrder_112 ?_
        refine ro_V (As := []) (rest := []) hC hE kV_X0_96 (c_X9_doubt l D K wa1 w1616 w1617 w1618) (hP.sub (ws' := [(wa1, .inr (8, [.int w1616, .int w1617, .int w1618]))]) [11] rfl) 0 8 rfl rfl rfl hl.1 rfl (Nat.le_of_ble_eq_true rfl) (by decide) (by decide) dX0_tryOrder_115 (fun r1622 _ => ?_)
        refine W.widen (k := 0) (n := 0) (by decide) (by decide) ?_
        exact ch_iret hC hr hk hS dX0_tryOrder_118 ((fun k => [(u1581.1 0), (u1581.1 1), (u1581.1 2), (u1581.1 3), w1616, w1617, w1618].getD k 0, fun k => [g1614, g1615, (u1581.2.1 2), (u1581.2.1 3), (u1581.2.1 4), (u1581.2.1 5), (u1581.2.1 6), (u1581.2.1 7)].getD k (fun _ => 0), fun k => [].getD k (fun _ => 0)) : ((Nat → Int32) × (Nat → Nat → Int32) × (Nat → Nat → Int64))) trivial (hP.sub [0, 1, 2, 3, 4, 5, 6, 7, 8, 9, 10, 11, 12, 13, 14, 15, 16, 17, 18, 19, 20, 21, 22, 23, 24] rfl) (hD.sub [0, 1, 2, 3, 4, 5, 6, 7, 8, 9, 10, 11, 12, 13, 14, 15, 16, 17, 18, 19, 20, 21, 22, 23, 24] (by decide) rfl)
      · replace c1621 := nle_i c1621
        refine lv_aload_n hx hb dX0_tryOrder_48 rfl (lv_at hl 1 rfl) ?_
        refine lv_aload_n hx hb dX0_tryOrder_49 rfl (lv_at hl 1 rfl) ?_
        refine va_get (D := D) (ci := 0) (v := .ref wa2) (C := RX0) (T := TX0) (N := 6) hx hb hts in_X0 hown hE.1 hP 0 rfl rfl 2 (by decide) (hts _ w_202) (fun _ h9 => h9) rfl dX0_tryOrder_50 ?_
        refine lv_iload hx hb dX0_tryOrder_53 (lv_at hl 0 rfl) ?_
        refine va_iald hx hb hE.1 hP 1 1 rfl rfl (vp_in_iff.mpr (by omega)) dX0_tryOrder_55 ?_
        refine lv_topi (fun v1623 ev1623 => ?_)
        refine cv_V (As := [.int v1623]) (rest := []) (wc := [(w, .inr (0, [.ref wa0, .ref wa1, .ref wa2, .ref wa3, .int wn4, .int wn5])), (wa0, .inr (9, [.ref wa0a0, .ref wa0a1, .ref wa0a2, .ref wa0a3, .ref wa0a4, .ref wa0a5, .ref wa0a6, .ref wa0a7, .int (u1581.1 0), .int (u1581.1 1), .int (u1581.1 2), .int (u1581.1 3)])), (wa0a0, .inl (K 1, 40, .inl g1614)), (wa0a1, .inl (K 1, 10, .inl g1615)), (wa0a2, .inl (K 1, 4, .inl (u1581.2.1 2))), (wa0a3, .inl (K 1, 4, .inl (u1581.2.1 3))), (wa0a4, .inl (K 1, 4, .inl (u1581.2.1 4))), (wa0a5, .inl (K 1, 5, .inl (u1581.2.1 5))), (wa0a6, .inl (K 1, 5, .inl (u1581.2.1 6))), (wa0a7, .inl (K 1, 5, .inl (u1581.2.1 7))), (wa1, .inr (8, [.int w1616, .int w1617, .int w1618]))]) (wr := [(wa2, .inl (K 1, 5, .inl wf2)), (v, .inr (9, [.ref va0, .ref va1, .ref va2, .ref va3, .ref va4, .ref va5, .ref va6, .ref va7, .int vn8, .int vn9, .int vn10, .int vn11])), (va0, .inl (K 1, 40, .inl vf0)), (va1, .inl (K 1, 10, .inl vf1)), (va2, .inl (K 1, 4, .inl vf2)), (va3, .inl (K 1, 4, .inl vf3)), (va4, .inl (K 1, 4, .inl vf4)), (va5, .inl (K 1, 5, .inl vf5)), (va6, .inl (K 1, 5, .inl vf6)), (va7, .inl (K 1, 5, .inl vf7)), (x, .inr (8, [.int xn0, .int xn1, .int xn2])), (y, .inr (5, [.ref ya0, .ref ya1, .ref ya2])), (ya0, .inl (K 2, 240, .inr (.inl yf0))), (ya2, .inl (K 1, 4, .inl yf2))]) hC hE kV_X0_79 (c_X0_teach l D K w wa0 wa1 wa2 wa3 wa0a0 wa0a1 wa0a2 wa0a3 wa0a4 wa0a5 wa0a6 wa0a7 wn4 wn5 (u1581.1 0) (u1581.1 1) (u1581.1 2) (u1581.1 3) w1616 w1617 w1618 g1614 g1615 (u1581.2.1 2) (u1581.2.1 3) (u1581.2.1 4) (u1581.2.1 5) (u1581.2.1 6) (u1581.2.1 7) v1623) hP hD hS hA [0, 2, 3, 4, 5, 6, 7, 8, 9, 10, 11] [1, 12, 13, 14, 15, 16, 17, 18, 19, 20, 21, 22, 23, 24] rfl rfl rfl (by decide) (by decide) (by decide) 0 0 rfl rfl rfl hl.1 rfl (Nat.le_of_ble_eq_true rfl) (by decide) (by decide) dX0_tryOrder_56 (fun u1624 H locs hw hP hD hS => ?_)
        replace hP : va_P D vwCl [(wa2, .inl (K 1, 5, .inl wf2)), (v, .inr (9, [.ref va0, .ref va1, .ref va2, .ref va3, .ref va4, .ref va5, .ref va6, .ref va7, .int vn8, .int vn9, .int vn10, .int vn11])), (va0, .inl (K 1, 40, .inl vf0)), (va1, .inl (K 1, 10, .inl vf1)), (va2, .inl (K 1, 4, .inl vf2)), (va3, .inl (K 1, 4, .inl vf3)), (va4, .inl (K 1, 4, .inl vf4)), (va5, .inl (K 1, 5, .inl vf5)), (va6, .inl (K 1, 5, .inl vf6)), (va7, .inl (K 1, 5, .inl vf7)), (x, .inr (8, [.int xn0, .int xn1, .int xn2])), (y, .inr (5, [.ref ya0, .ref ya1, .ref ya2])), (ya0, .inl (K 2, 240, .inr (.inl yf0))), (ya2, .inl (K 1, 4, .inl yf2)), (w, .inr (0, [.ref wa0, .ref wa1, .ref wa2, .ref wa3, .int wn4, .int wn5])), (wa0, .inr (9, [.ref wa0a0, .ref wa0a1, .ref wa0a2, .ref wa0a3, .ref wa0a4, .ref wa0a5, .ref wa0a6, .ref wa0a7, .int (u1581.1 0), .int (u1581.1 1), .int (u1581.1 2), .int (u1581.1 3)])), (wa0a0, .inl (K 1, 40, .inl (u1624.2.1 0))), (wa0a1, .inl (K 1, 10, .inl (u1624.2.1 1))), (wa0a2, .inl (K 1, 4, .inl (u1581.2.1 2))), (wa0a3, .inl (K 1, 4, .inl (u1581.2.1 3))), (wa0a4, .inl (K 1, 4, .inl (u1581.2.1 4))), (wa0a5, .inl (K 1, 5, .inl (u1581.2.1 5))), (wa0a6, .inl (K 1, 5, .inl (u1581.2.1 6))), (wa0a7, .inl (K 1, 5, .inl (u1581.2.1 7))), (wa1, .inr (8, [.int w1616, .int w1617, .int (u1624.1 0)]))] H := hP
        replace hD : va_D A [(wa2, .inl (K 1, 5, .inl wf2)), (v, .inr (9, [.ref va0, .ref va1, .ref va2, .ref va3, .ref va4, .ref va5, .ref va6, .ref va7, .int vn8, .int vn9, .int vn10, .int vn11])), (va0, .inl (K 1, 40, .inl vf0)), (va1, .inl (K 1, 10, .inl vf1)), (va2, .inl (K 1, 4, .inl vf2)), (va3, .inl (K 1, 4, .inl vf3)), (va4, .inl (K 1, 4, .inl vf4)), (va5, .inl (K 1, 5, .inl vf5)), (va6, .inl (K 1, 5, .inl vf6)), (va7, .inl (K 1, 5, .inl vf7)), (x, .inr (8, [.int xn0, .int xn1, .int xn2])), (y, .inr (5, [.ref ya0, .ref ya1, .ref ya2])), (ya0, .inl (K 2, 240, .inr (.inl yf0))), (ya2, .inl (K 1, 4, .inl yf2)), (w, .inr (0, [.ref wa0, .ref wa1, .ref wa2, .ref wa3, .int wn4, .int wn5])), (wa0, .inr (9, [.ref wa0a0, .ref wa0a1, .ref wa0a2, .ref wa0a3, .ref wa0a4, .ref wa0a5, .ref wa0a6, .ref wa0a7, .int (u1581.1 0), .int (u1581.1 1), .int (u1581.1 2), .int (u1581.1 3)])), (wa0a0, .inl (K 1, 40, .inl (u1624.2.1 0))), (wa0a1, .inl (K 1, 10, .inl (u1624.2.1 1))), (wa0a2, .inl (K 1, 4, .inl (u1581.2.1 2))), (wa0a3, .inl (K 1, 4, .inl (u1581.2.1 3))), (wa0a4, .inl (K 1, 4, .inl (u1581.2.1 4))), (wa0a5, .inl (K 1, 5, .inl (u1581.2.1 5))), (wa0a6, .inl (K 1, 5, .inl (u1581.2.1 6))), (wa0a7, .inl (K 1, 5, .inl (u1581.2.1 7))), (wa1, .inr (8, [.int w1616, .int w1617, .int (u1624.1 0)]))] := hD
        replace hP : va_P D vwCl [(w, .inr (0, [.ref wa0, .ref wa1, .ref wa2, .ref wa3, .int wn4, .int wn5])), (wa2, .inl (K 1, 5, .inl wf2)), (wa0, .inr (9, [.ref wa0a0, .ref wa0a1, .ref wa0a2, .ref wa0a3, .ref wa0a4, .ref wa0a5, .ref wa0a6, .ref wa0a7, .int (u1581.1 0), .int (u1581.1 1), .int (u1581.1 2), .int (u1581.1 3)])), (wa0a0, .inl (K 1, 40, .inl (u1624.2.1 0))), (wa0a1, .inl (K 1, 10, .inl (u1624.2.1 1))), (wa0a2, .inl (K 1, 4, .inl (u1581.2.1 2))), (wa0a3, .inl (K 1, 4, .inl (u1581.2.1 3))), (wa0a4, .inl (K 1, 4, .inl (u1581.2.1 4))), (wa0a5, .inl (K 1, 5, .inl (u1581.2.1 5))), (wa0a6, .inl (K 1, 5, .inl (u1581.2.1 6))), (wa0a7, .inl (K 1, 5, .inl (u1581.2.1 7))), (wa1, .inr (8, [.int w1616, .int w1617, .int (u1624.1 0)])), (v, .inr (9, [.ref va0, .ref va1, .ref va2, .ref va3, .ref va4, .ref va5, .ref va6, .ref va7, .int vn8, .int vn9, .int vn10, .int vn11])), (va0, .inl (K 1, 40, .inl vf0)), (va1, .inl (K 1, 10, .inl vf1)), (va2, .inl (K 1, 4, .inl vf2)), (va3, .inl (K 1, 4, .inl vf3)), (va4, .inl (K 1, 4, .inl vf4)), (va5, .inl (K 1, 5, .inl vf5)), (va6, .inl (K 1, 5, .inl vf6)), (va7, .inl (K 1, 5, .inl vf7)), (x, .inr (8, [.int xn0, .int xn1, .int xn2])), (y, .inr (5, [.ref ya0, .ref ya1, .ref ya2])), (ya0, .inl (K 2, 240, .inr (.inl yf0))), (ya2, .inl (K 1, 4, .inl yf2))] H := hP.sub [14, 0, 15, 16, 17, 18, 19, 20, 21, 22, 23, 24, 1, 2, 3, 4, 5, 6, 7, 8, 9, 10, 11, 12, 13] rfl
        replace hD : va_D A [(w, .inr (0, [.ref wa0, .ref wa1, .ref wa2, .ref wa3, .int wn4, .int wn5])), (wa2, .inl (K 1, 5, .inl wf2)), (wa0, .inr (9, [.ref wa0a0, .ref wa0a1, .ref wa0a2, .ref wa0a3, .ref wa0a4, .ref wa0a5, .ref wa0a6, .ref wa0a7, .int (u1581.1 0), .int (u1581.1 1), .int (u1581.1 2), .int (u1581.1 3)])), (wa0a0, .inl (K 1, 40, .inl (u1624.2.1 0))), (wa0a1, .inl (K 1, 10, .inl (u1624.2.1 1))), (wa0a2, .inl (K 1, 4, .inl (u1581.2.1 2))), (wa0a3, .inl (K 1, 4, .inl (u1581.2.1 3))), (wa0a4, .inl (K 1, 4, .inl (u1581.2.1 4))), (wa0a5, .inl (K 1, 5, .inl (u1581.2.1 5))), (wa0a6, .inl (K 1, 5, .inl (u1581.2.1 6))), (wa0a7, .inl (K 1, 5, .inl (u1581.2.1 7))), (wa1, .inr (8, [.int w1616, .int w1617, .int (u1624.1 0)])), (v, .inr (9, [.ref va0, .ref va1, .ref va2, .ref va3, .ref va4, .ref va5, .ref va6, .ref va7, .int vn8, .int vn9, .int vn10, .int vn11])), (va0, .inl (K 1, 40, .inl vf0)), (va1, .inl (K 1, 10, .inl vf1)), (va2, .inl (K 1, 4, .inl vf2)), (va3, .inl (K 1, 4, .inl vf3)), (va4, .inl (K 1, 4, .inl vf4)), (va5, .inl (K 1, 5, .inl vf5)), (va6, .inl (K 1, 5, .inl vf6)), (va7, .inl (K 1, 5, .inl vf7)), (x, .inr (8, [.int xn0, .int xn1, .int xn2])), (y, .inr (5, [.ref ya0, .ref ya1, .ref ya2])), (ya0, .inl (K 2, 240, .inr (.inl yf0))), (ya2, .inl (K 1, 4, .inl yf2))] := hD.sub [14, 0, 15, 16, 17, 18, 19, 20, 21, 22, 23, 24, 1, 2, 3, 4, 5, 6, 7, 8, 9, 10, 11, 12, 13] (by decide) rfl
        refine W.widen (k := 0) (n := 0) (by decide) (by decide) ?_
        refine lv_iconst (v := 0) hx hb dX0_tryOrder_59 (by decide) ?_
        refine lv_istore (lv' := [(6, .int 0), (5, .int i1613), (0, .ref w), (1, .ref v), (2, .ref x), (3, .ref y), (4, .int p3)]) hx hb dX0_tryOrder_60 hl (by decide) rfl (fun ls hl => ?_)
        have hl' := hl; have hP' := hP; have hD' := hD; clear hl hP hD
        obtain ⟨i1644, w1645, w1646, hi_62, hl, hP, hD⟩ : ∃ (i1644 : Int32) (w1645 : Int32) (w1646 : Int32), ((0 : Int) ≤ i1644.toInt) ∧ lv_has ls 7 [(6, .int i1644), (5, .int i1613), (0, .ref w), (1, .ref v), (2, .ref x), (3, .ref y), (4, .int p3)] ∧ va_P D vwCl [(w, .inr (0, [.ref wa0, .ref wa1, .ref wa2, .ref wa3, .int wn4, .int wn5])), (wa2, .inl (K 1, 5, .inl wf2)), (wa0, .inr (9, [.ref wa0a0, .ref wa0a1, .ref wa0a2, .ref wa0a3, .ref wa0a4, .ref wa0a5, .ref wa0a6, .ref wa0a7, .int (u1581.1 0), .int (u1581.1 1), .int (u1581.1 2), .int (u1581.1 3)])), (wa0a0, .inl (K 1, 40, .inl (u1624.2.1 0))), (wa0a1, .inl (K 1, 10, .inl (u1624.2.1 1))), (wa0a2, .inl (K 1, 4, .inl (u1581.2.1 2))), (wa0a3, .inl (K 1, 4, .inl (u1581.2.1 3))), (wa0a4, .inl (K 1, 4, .inl (u1581.2.1 4))), (wa0a5, .inl (K 1, 5, .inl (u1581.2.1 5))), (wa0a6, .inl (K 1, 5, .inl (u1581.2.1 6))), (wa0a7, .inl (K 1, 5, .inl (u1581.2.1 7))), (wa1, .inr (8, [.int w1645, .int w1646, .int (u1624.1 0)])), (v, .inr (9, [.ref va0, .ref va1, .ref va2, .ref va3, .ref va4, .ref va5, .ref va6, .ref va7, .int vn8, .int vn9, .int vn10, .int vn11])), (va0, .inl (K 1, 40, .inl vf0)), (va1, .inl (K 1, 10, .inl vf1)), (va2, .inl (K 1, 4, .inl vf2)), (va3, .inl (K 1, 4, .inl vf3)), (va4, .inl (K 1, 4, .inl vf4)), (va5, .inl (K 1, 5, .inl vf5)), (va6, .inl (K 1, 5, .inl vf6)), (va7, .inl (K 1, 5, .inl vf7)), (x, .inr (8, [.int xn0, .int xn1, .int xn2])), (y, .inr (5, [.ref ya0, .ref ya1, .ref ya2])), (ya0, .inl (K 2, 240, .inr (.inl yf0))), (ya2, .inl (K 1, 4, .inl yf2))] H ∧ va_D A [(w, .inr (0, [.ref wa0, .ref wa1, .ref wa2, .ref wa3, .int wn4, .int wn5])), (wa2, .inl (K 1, 5, .inl wf2)), (wa0, .inr (9, [.ref wa0a0, .ref wa0a1, .ref wa0a2, .ref wa0a3, .ref wa0a4, .ref wa0a5, .ref wa0a6, .ref wa0a7, .int (u1581.1 0), .int (u1581.1 1), .int (u1581.1 2), .int (u1581.1 3)])), (wa0a0, .inl (K 1, 40, .inl (u1624.2.1 0))), (wa0a1, .inl (K 1, 10, .inl (u1624.2.1 1))), (wa0a2, .inl (K 1, 4, .inl (u1581.2.1 2))), (wa0a3, .inl (K 1, 4, .inl (u1581.2.1 3))), (wa0a4, .inl (K 1, 4, .inl (u1581.2.1 4))), (wa0a5, .inl (K 1, 5, .inl (u1581.2.1 5))), (wa0a6, .inl (K 1, 5, .inl (u1581.2.1 6))), (wa0a7, .inl (K 1, 5, .inl (u1581.2.1 7))), (wa1, .inr (8, [.int w1645, .int w1646, .int (u1624.1 0)])), (v, .inr (9, [.ref va0, .ref va1, .ref va2, .ref va3, .ref va4, .ref va5, .ref va6, .ref va7, .int vn8, .int vn9, .int vn10, .int vn11])), (va0, .inl (K 1, 40, .inl vf0)), (va1, .inl (K 1, 10, .inl vf1)), (va2, .inl (K 1, 4, .inl vf2)), (va3, .inl (K 1, 4, .inl vf3)), (va4, .inl (K 1, 4, .inl vf4)), (va5, .inl (K 1, 5, .inl vf5)), (va6, .inl (K 1, 5, .inl vf6)), (va7, .inl (K 1, 5, .inl vf7)), (x, .inr (8, [.int xn0, .int xn1, .int xn2])), (y, .inr (5, [.ref ya0, .ref ya1, .ref ya2])), (ya0, .inl (K 2, 240, .inr (.inl yf0))), (ya2, .inl (K 1, 4, .inl yf2))] := ⟨_, _, _, by omega, hl', hP', hD'⟩
        clear hl' hP' hD'
        obtain ⟨n_62, hn_62⟩ : ∃ n : Nat, (60 - i1644.toInt).toNat < n := ⟨_, Nat.lt_succ_self _⟩
        induction n_62 generalizing i1644 w1645 w1646 H locs ls with
        | zero => exact absurd hn_62 (Nat.not_lt_zero _)
        | succ n_62 ih_62 =>
          refine lv_iload hx hb dX0_tryOrder_62 (lv_at hl 0 rfl) ?_
          refine lv_aload_n hx hb dX0_tryOrder_64 rfl (lv_at hl 5 rfl) ?_
          refine lv_iload hx hb dX0_tryOrder_65 (lv_at hl 6 rfl) ?_
          refine ro_V (As := [.int p3]) (rest := [.int i1644]) hC hE kV_X0_83 (c_X5_size l D K y ya0 ya1 ya2 yf2 p3 hsz) (hP.sub (ws' := [(y, .inr (5, [.ref ya0, .ref ya1, .ref ya2])), (ya2, .inl (K 1, 4, .inl yf2))]) [22, 24] rfl) 0 5 rfl rfl rfl hl.1 rfl (Nat.le_of_ble_eq_true rfl) (by decide) (by decide) dX0_tryOrder_67 (fun r1651 hq => ?_)
          rcases hq with rfl | ⟨h1647, h1648, h1649, h1650⟩
          · refine lv_icmp_ge (tgt := 105) hx hb dX0_tryOrder_70 (by decide) (fun c1652 => ?_) (fun c1652 => ?_)
            · replace c1652 := le_i c1652
              obtain ⟨v1653, ev1653⟩ : ∃ z : Int32, z = i1613 + 1 := ⟨_, rfl⟩
              refine lv_iinc (v := v1653) (lv' := [(5, .int v1653), (6, .int i1644), (0, .ref w), (1, .ref v), (2, .ref x), (3, .ref y), (4, .int p3)]) hx hb dX0_tryOrder_105 hl (k := 1) rfl (by rw [ev1653]; rfl) (by decide) rfl (fun ls hl => ?_)
              refine lv_goto (tgt := 30) hx hb dX0_tryOrder_108 (by decide) ?_
              have tv1653 : v1653.toInt = (i1613 : Int32).toInt + (1 : Int32).toInt := add_i ev1653 (by omega) (by omega)
              exact ih_30 (i1613 := v1653) (g1614 := (u1624.2.1 0)) (g1615 := (u1624.2.1 1)) (w1616 := w1645) (w1617 := w1646) (w1618 := (u1624.1 0)) (hi_30 := by omega) (H := H) (locs := locs) (ls := ls) (hn_30 := by omega) (hP := hP) (hD := hD) (hS := hS) (hl := lv_sub hl [0, 2, 3, 4, 5, 6] rfl)
            · replace c1652 := nle_i c1652
              refine lv_iload hx hb dX0_tryOrder_73 (lv_at hl 0 rfl) ?_
              refine lv_bipush (v := 60) hx hb dX0_tryOrder_75 (by decide) ?_
              refine lv_icmp_ge (tgt := 105) hx hb dX0_tryOrder_77 (by decide) (fun c1654 => ?_) (fun c1654 => ?_)
              · replace c1654 := le_i c1654
                obtain ⟨v1655, ev1655⟩ : ∃ z : Int32, z = i1613 + 1 := ⟨_, rfl⟩
                refine lv_iinc (v := v1655) (lv' := [(5, .int v1655), (6, .int i1644), (0, .ref w), (1, .ref v), (2, .ref x), (3, .ref y), (4, .int p3)]) hx hb dX0_tryOrder_105 hl (k := 1) rfl (by rw [ev1655]; rfl) (by decide) rfl (fun ls hl => ?_)
                refine lv_goto (tgt := 30) hx hb dX0_tryOrder_108 (by decide) ?_
                have tv1655 : v1655.toInt = (i1613 : Int32).toInt + (1 : Int32).toInt := add_i ev1655 (by omega) (by omega)
                exact ih_30 (i1613 := v1655) (g1614 := (u1624.2.1 0)) (g1615 := (u1624.2.1 1)) (w1616 := w1645) (w1617 := w1646) (w1618 := (u1624.1 0)) (hi_30 := by omega) (H := H) (locs := locs) (ls := ls) (hn_30 := by omega) (hP := hP) (hD := hD) (hS := hS) (hl := lv_sub hl [0, 2, 3, 4, 5, 6] rfl)
              · replace c1654 := nle_i c1654
                refine lv_aload_n hx hb dX0_tryOrder_80 rfl (lv_at hl 2 rfl) ?_
                refine va_get (D := D) (ci := 0) (v := .ref wa1) (C := RX0) (T := TX0) (N := 6) hx hb hts in_X0 hown hE.1 hP 0 rfl rfl 1 (by decide) (hts _ w_211) (fun _ h9 => h9) rfl dX0_tryOrder_81 ?_
                refine lv_aload_n hx hb dX0_tryOrder_84 rfl (lv_at hl 2 rfl) ?_
                refine va_get (D := D) (ci := 0) (v := .ref wa0) (C := RX0) (T := TX0) (N := 6) hx hb hts in_X0 hown hE.1 hP 0 rfl rfl 0 (by decide) (hts _ w_208) (fun _ h9 => h9) rfl dX0_tryOrder_85 ?_
                refine lv_aload_n hx hb dX0_tryOrder_88 rfl (lv_at hl 5 rfl) ?_
                refine lv_iload hx hb dX0_tryOrder_89 (lv_at hl 6 rfl) ?_
                refine lv_iload hx hb dX0_tryOrder_91 (lv_at hl 0 rfl) ?_
                refine ro_V (As := [.int p3, .int i1644]) (rest := [.ref wa0, .ref wa1]) hC hE kV_X0_89 (c_X5_small l D K y ya0 ya1 ya2 yf0 yf2 p3 i1644 hsz) (hP.sub (ws' := [(y, .inr (5, [.ref ya0, .ref ya1, .ref ya2])), (ya0, .inl (K 2, 240, .inr (.inl yf0))), (ya2, .inl (K 1, 4, .inl yf2))]) [22, 23, 24] rfl) 0 5 rfl rfl rfl hl.1 rfl (Nat.le_of_ble_eq_true rfl) (by decide) (by decide) dX0_tryOrder_93 (fun r1656 _ => ?_)
                refine cv_V (As := [.ref wa0, .int r1656]) (rest := []) (wc := [(wa1, .inr (8, [.int w1645, .int w1646, .int (u1624.1 0)])), (wa0, .inr (9, [.ref wa0a0, .ref wa0a1, .ref wa0a2, .ref wa0a3, .ref wa0a4, .ref wa0a5, .ref wa0a6, .ref wa0a7, .int (u1581.1 0), .int (u1581.1 1), .int (u1581.1 2), .int (u1581.1 3)])), (wa0a0, .inl (K 1, 40, .inl (u1624.2.1 0))), (wa0a1, .inl (K 1, 10, .inl (u1624.2.1 1)))]) (wr := [(w, .inr (0, [.ref wa0, .ref wa1, .ref wa2, .ref wa3, .int wn4, .int wn5])), (wa2, .inl (K 1, 5, .inl wf2)), (wa0a2, .inl (K 1, 4, .inl (u1581.2.1 2))), (wa0a3, .inl (K 1, 4, .inl (u1581.2.1 3))), (wa0a4, .inl (K 1, 4, .inl (u1581.2.1 4))), (wa0a5, .inl (K 1, 5, .inl (u1581.2.1 5))), (wa0a6, .inl (K 1, 5, .inl (u1581.2.1 6))), (wa0a7, .inl (K 1, 5, .inl (u1581.2.1 7))), (v, .inr (9, [.ref va0, .ref va1, .ref va2, .ref va3, .ref va4, .ref va5, .ref va6, .ref va7, .int vn8, .int vn9, .int vn10, .int vn11])), (va0, .inl (K 1, 40, .inl vf0)), (va1, .inl (K 1, 10, .inl vf1)), (va2, .inl (K 1, 4, .inl vf2)), (va3, .inl (K 1, 4, .inl vf3)), (va4, .inl (K 1, 4, .inl vf4)), (va5, .inl (K 1, 5, .inl vf5)), (va6, .inl (K 1, 5, .inl vf6)), (va7, .inl (K 1, 5, .inl vf7)), (x, .inr (8, [.int xn0, .int xn1, .int xn2])), (y, .inr (5, [.ref ya0, .ref ya1, .ref ya2])), (ya0, .inl (K 2, 240, .inr (.inl yf0))), (ya2, .inl (K 1, 4, .inl yf2))]) hC hE kV_X0_92 (c_X9_step l D K wa1 wa0 wa0a0 wa0a1 wa0a2 wa0a3 wa0a4 wa0a5 wa0a6 wa0a7 w1645 w1646 (u1624.1 0) (u1581.1 0) (u1581.1 1) (u1581.1 2) (u1581.1 3) (u1624.2.1 0) (u1624.2.1 1) r1656) hP hD hS hA [11, 2, 3, 4] [0, 1, 5, 6, 7, 8, 9, 10, 12, 13, 14, 15, 16, 17, 18, 19, 20, 21, 22, 23, 24] rfl rfl rfl (by decide) (by decide) (by decide) 0 8 rfl rfl rfl hl.1 rfl (Nat.le_of_ble_eq_true rfl) (by decide) (by decide) dX0_tryOrder_96 (fun u1657 H locs hw hP hD hS => ?_)
                replace hP : va_P D vwCl [(w, .inr (0, [.ref wa0, .ref wa1, .ref wa2, .ref wa3, .int wn4, .int wn5])), (wa2, .inl (K 1, 5, .inl wf2)), (wa0a2, .inl (K 1, 4, .inl (u1581.2.1 2))), (wa0a3, .inl (K 1, 4, .inl (u1581.2.1 3))), (wa0a4, .inl (K 1, 4, .inl (u1581.2.1 4))), (wa0a5, .inl (K 1, 5, .inl (u1581.2.1 5))), (wa0a6, .inl (K 1, 5, .inl (u1581.2.1 6))), (wa0a7, .inl (K 1, 5, .inl (u1581.2.1 7))), (v, .inr (9, [.ref va0, .ref va1, .ref va2, .ref va3, .ref va4, .ref va5, .ref va6, .ref va7, .int vn8, .int vn9, .int vn10, .int vn11])), (va0, .inl (K 1, 40, .inl vf0)), (va1, .inl (K 1, 10, .inl vf1)), (va2, .inl (K 1, 4, .inl vf2)), (va3, .inl (K 1, 4, .inl vf3)), (va4, .inl (K 1, 4, .inl vf4)), (va5, .inl (K 1, 5, .inl vf5)), (va6, .inl (K 1, 5, .inl vf6)), (va7, .inl (K 1, 5, .inl vf7)), (x, .inr (8, [.int xn0, .int xn1, .int xn2])), (y, .inr (5, [.ref ya0, .ref ya1, .ref ya2])), (ya0, .inl (K 2, 240, .inr (.inl yf0))), (ya2, .inl (K 1, 4, .inl yf2)), (wa1, .inr (8, [.int (u1657.1 0), .int (u1657.1 1), .int (u1624.1 0)])), (wa0, .inr (9, [.ref wa0a0, .ref wa0a1, .ref wa0a2, .ref wa0a3, .ref wa0a4, .ref wa0a5, .ref wa0a6, .ref wa0a7, .int (u1581.1 0), .int (u1581.1 1), .int (u1581.1 2), .int (u1581.1 3)])), (wa0a0, .inl (K 1, 40, .inl (u1624.2.1 0))), (wa0a1, .inl (K 1, 10, .inl (u1624.2.1 1)))] H := hP
                replace hD : va_D A [(w, .inr (0, [.ref wa0, .ref wa1, .ref wa2, .ref wa3, .int wn4, .int wn5])), (wa2, .inl (K 1, 5, .inl wf2)), (wa0a2, .inl (K 1, 4, .inl (u1581.2.1 2))), (wa0a3, .inl (K 1, 4, .inl (u1581.2.1 3))), (wa0a4, .inl (K 1, 4, .inl (u1581.2.1 4))), (wa0a5, .inl (K 1, 5, .inl (u1581.2.1 5))), (wa0a6, .inl (K 1, 5, .inl (u1581.2.1 6))), (wa0a7, .inl (K 1, 5, .inl (u1581.2.1 7))), (v, .inr (9, [.ref va0, .ref va1, .ref va2, .ref va3, .ref va4, .ref va5, .ref va6, .ref va7, .int vn8, .int vn9, .int vn10, .int vn11])), (va0, .inl (K 1, 40, .inl vf0)), (va1, .inl (K 1, 10, .inl vf1)), (va2, .inl (K 1, 4, .inl vf2)), (va3, .inl (K 1, 4, .inl vf3)), (va4, .inl (K 1, 4, .inl vf4)), (va5, .inl (K 1, 5, .inl vf5)), (va6, .inl (K 1, 5, .inl vf6)), (va7, .inl (K 1, 5, .inl vf7)), (x, .inr (8, [.int xn0, .int xn1, .int xn2])), (y, .inr (5, [.ref ya0, .ref ya1, .ref ya2])), (ya0, .inl (K 2, 240, .inr (.inl yf0))), (ya2, .inl (K 1, 4, .inl yf2)), (wa1, .inr (8, [.int (u1657.1 0), .int (u1657.1 1), .int (u1624.1 0)])), (wa0, .inr (9, [.ref wa0a0, .ref wa0a1, .ref wa0a2, .ref wa0a3, .ref wa0a4, .ref wa0a5, .ref wa0a6, .ref wa0a7, .int (u1581.1 0), .int (u1581.1 1), .int (u1581.1 2), .int (u1581.1 3)])), (wa0a0, .inl (K 1, 40, .inl (u1624.2.1 0))), (wa0a1, .inl (K 1, 10, .inl (u1624.2.1 1)))] := hD
                replace hP : va_P D vwCl [(w, .inr (0, [.ref wa0, .ref wa1, .ref wa2, .ref wa3, .int wn4, .int wn5])), (wa2, .inl (K 1, 5, .inl wf2)), (wa0, .inr (9, [.ref wa0a0, .ref wa0a1, .ref wa0a2, .ref wa0a3, .ref wa0a4, .ref wa0a5, .ref wa0a6, .ref wa0a7, .int (u1581.1 0), .int (u1581.1 1), .int (u1581.1 2), .int (u1581.1 3)])), (wa0a0, .inl (K 1, 40, .inl (u1624.2.1 0))), (wa0a1, .inl (K 1, 10, .inl (u1624.2.1 1))), (wa0a2, .inl (K 1, 4, .inl (u1581.2.1 2))), (wa0a3, .inl (K 1, 4, .inl (u1581.2.1 3))), (wa0a4, .inl (K 1, 4, .inl (u1581.2.1 4))), (wa0a5, .inl (K 1, 5, .inl (u1581.2.1 5))), (wa0a6, .inl (K 1, 5, .inl (u1581.2.1 6))), (wa0a7, .inl (K 1, 5, .inl (u1581.2.1 7))), (wa1, .inr (8, [.int (u1657.1 0), .int (u1657.1 1), .int (u1624.1 0)])), (v, .inr (9, [.ref va0, .ref va1, .ref va2, .ref va3, .ref va4, .ref va5, .ref va6, .ref va7, .int vn8, .int vn9, .int vn10, .int vn11])), (va0, .inl (K 1, 40, .inl vf0)), (va1, .inl (K 1, 10, .inl vf1)), (va2, .inl (K 1, 4, .inl vf2)), (va3, .inl (K 1, 4, .inl vf3)), (va4, .inl (K 1, 4, .inl vf4)), (va5, .inl (K 1, 5, .inl vf5)), (va6, .inl (K 1, 5, .inl vf6)), (va7, .inl (K 1, 5, .inl vf7)), (x, .inr (8, [.int xn0, .int xn1, .int xn2])), (y, .inr (5, [.ref ya0, .ref ya1, .ref ya2])), (ya0, .inl (K 2, 240, .inr (.inl yf0))), (ya2, .inl (K 1, 4, .inl yf2))] H := hP.sub [0, 1, 22, 23, 24, 2, 3, 4, 5, 6, 7, 21, 8, 9, 10, 11, 12, 13, 14, 15, 16, 17, 18, 19, 20] rfl
                replace hD : va_D A [(w, .inr (0, [.ref wa0, .ref wa1, .ref wa2, .ref wa3, .int wn4, .int wn5])), (wa2, .inl (K 1, 5, .inl wf2)), (wa0, .inr (9, [.ref wa0a0, .ref wa0a1, .ref wa0a2, .ref wa0a3, .ref wa0a4, .ref wa0a5, .ref wa0a6, .ref wa0a7, .int (u1581.1 0), .int (u1581.1 1), .int (u1581.1 2), .int (u1581.1 3)])), (wa0a0, .inl (K 1, 40, .inl (u1624.2.1 0))), (wa0a1, .inl (K 1, 10, .inl (u1624.2.1 1))), (wa0a2, .inl (K 1, 4, .inl (u1581.2.1 2))), (wa0a3, .inl (K 1, 4, .inl (u1581.2.1 3))), (wa0a4, .inl (K 1, 4, .inl (u1581.2.1 4))), (wa0a5, .inl (K 1, 5, .inl (u1581.2.1 5))), (wa0a6, .inl (K 1, 5, .inl (u1581.2.1 6))), (wa0a7, .inl (K 1, 5, .inl (u1581.2.1 7))), (wa1, .inr (8, [.int (u1657.1 0), .int (u1657.1 1), .int (u1624.1 0)])), (v, .inr (9, [.ref va0, .ref va1, .ref va2, .ref va3, .ref va4, .ref va5, .ref va6, .ref va7, .int vn8, .int vn9, .int vn10, .int vn11])), (va0, .inl (K 1, 40, .inl vf0)), (va1, .inl (K 1, 10, .inl vf1)), (va2, .inl (K 1, 4, .inl vf2)), (va3, .inl (K 1, 4, .inl vf3)), (va4, .inl (K 1, 4, .inl vf4)), (va5, .inl (K 1, 5, .inl vf5)), (va6, .inl (K 1, 5, .inl vf6)), (va7, .inl (K 1, 5, .inl vf7)), (x, .inr (8, [.int xn0, .int xn1, .int xn2])), (y, .inr (5, [.ref ya0, .ref ya1, .ref ya2])), (ya0, .inl (K 2, 240, .inr (.inl yf0))), (ya2, .inl (K 1, 4, .inl yf2))] := hD.sub [0, 1, 22, 23, 24, 2, 3, 4, 5, 6, 7, 21, 8, 9, 10, 11, 12, 13, 14, 15, 16, 17, 18, 19, 20] (by decide) rfl
                refine W.widen (k := 0) (n := 0) (by decide) (by decide) ?_
                obtain ⟨v1659, ev1659⟩ : ∃ z : Int32, z = i1644 + 1 := ⟨_, rfl⟩
                refine lv_iinc (v := v1659) (lv' := [(6, .int v1659), (5, .int i1613), (0, .ref w), (1, .ref v), (2, .ref x), (3, .ref y), (4, .int p3)]) hx hb dX0_tryOrder_99 hl (k := 0) rfl (by rw [ev1659]; rfl) (by decide) rfl (fun ls hl => ?_)
                refine lv_goto (tgt := 62) hx hb dX0_tryOrder_102 (by decide) ?_
                have tv1659 : v1659.toInt = (i1644 : Int32).toInt + (1 : Int32).toInt := add_i ev1659 (by omega) (by omega)
                exact ih_62 (i1644 := v1659) (w1645 := (u1657.1 0)) (w1646 := (u1657.1 1)) (hi_62 := by omega) (H := H) (locs := locs) (ls := ls) (hn_62 := by omega) (hP := hP) (hD := hD) (hS := hS) (hl := lv_sub hl [0, 1, 2, 3, 4, 5, 6] rfl)
          · refine lv_icmp_ge (tgt := 105) hx hb dX0_tryOrder_70 (by decide) (fun c1660 => ?_) (fun c1660 => ?_)
            · replace c1660 := le_i c1660
              obtain ⟨v1661, ev1661⟩ : ∃ z : Int32, z = i1613 + 1 := ⟨_, rfl⟩
              refine lv_iinc (v := v1661) (lv' := [(5, .int v1661), (6, .int i1644), (0, .ref w), (1, .ref v), (2, .ref x), (3, .ref y), (4, .int p3)]) hx hb dX0_tryOrder_105 hl (k := 1) rfl (by rw [ev1661]; rfl) (by decide) rfl (fun ls hl => ?_)
              refine lv_goto (tgt := 30) hx hb dX0_tryOrder_108 (by decide) ?_
              have tv1661 : v1661.toInt = (i1613 : Int32).toInt + (1 : Int32).toInt := add_i ev1661 (by omega) (by omega)
              exact ih_30 (i1613 := v1661) (g1614 := (u1624.2.1 0)) (g1615 := (u1624.2.1 1)) (w1616 := w1645) (w1617 := w1646) (w1618 := (u1624.1 0)) (hi_30 := by omega) (H := H) (locs := locs) (ls := ls) (hn_30 := by omega) (hP := hP) (hD := hD) (hS := hS) (hl := lv_sub hl [0, 2, 3, 4, 5, 6] rfl)
            · replace c1660 := nle_i c1660
              refine lv_iload hx hb dX0_tryOrder_73 (lv_at hl 0 rfl) ?_
              refine lv_bipush (v := 60) hx hb dX0_tryOrder_75 (by decide) ?_
              refine lv_icmp_ge (tgt := 105) hx hb dX0_tryOrder_77 (by decide) (fun c1662 => ?_) (fun c1662 => ?_)
              · replace c1662 := le_i c1662
                obtain ⟨v1663, ev1663⟩ : ∃ z : Int32, z = i1613 + 1 := ⟨_, rfl⟩
                refine lv_iinc (v := v1663) (lv' := [(5, .int v1663), (6, .int i1644), (0, .ref w), (1, .ref v), (2, .ref x), (3, .ref y), (4, .int p3)]) hx hb dX0_tryOrder_105 hl (k := 1) rfl (by rw [ev1663]; rfl) (by decide) rfl (fun ls hl => ?_)
                refine lv_goto (tgt := 30) hx hb dX0_tryOrder_108 (by decide) ?_
                have tv1663 : v1663.toInt = (i1613 : Int32).toInt + (1 : Int32).toInt := add_i ev1663 (by omega) (by omega)
                exact ih_30 (i1613 := v1663) (g1614 := (u1624.2.1 0)) (g1615 := (u1624.2.1 1)) (w1616 := w1645) (w1617 := w1646) (w1618 := (u1624.1 0)) (hi_30 := by omega) (H := H) (locs := locs) (ls := ls) (hn_30 := by omega) (hP := hP) (hD := hD) (hS := hS) (hl := lv_sub hl [0, 2, 3, 4, 5, 6] rfl)
              · replace c1662 := nle_i c1662
                refine lv_aload_n hx hb dX0_tryOrder_80 rfl (lv_at hl 2 rfl) ?_
                refine va_get (D := D) (ci := 0) (v := .ref wa1) (C := RX0) (T := TX0) (N := 6) hx hb hts in_X0 hown hE.1 hP 0 rfl rfl 1 (by decide) (hts _ w_211) (fun _ h9 => h9) rfl dX0_tryOrder_81 ?_
                refine lv_aload_n hx hb dX0_tryOrder_84 rfl (lv_at hl 2 rfl) ?_
                refine va_get (D := D) (ci := 0) (v := .ref wa0) (C := RX0) (T := TX0) (N := 6) hx hb hts in_X0 hown hE.1 hP 0 rfl rfl 0 (by decide) (hts _ w_208) (fun _ h9 => h9) rfl dX0_tryOrder_85 ?_
                refine lv_aload_n hx hb dX0_tryOrder_88 rfl (lv_at hl 5 rfl) ?_
                refine lv_iload hx hb dX0_tryOrder_89 (lv_at hl 6 rfl) ?_
                refine lv_iload hx hb dX0_tryOrder_91 (lv_at hl 0 rfl) ?_
                refine ro_V (As := [.int p3, .int i1644]) (rest := [.ref wa0, .ref wa1]) hC hE kV_X0_89 (c_X5_small l D K y ya0 ya1 ya2 yf0 yf2 p3 i1644 hsz) (hP.sub (ws' := [(y, .inr (5, [.ref ya0, .ref ya1, .ref ya2])), (ya0, .inl (K 2, 240, .inr (.inl yf0))), (ya2, .inl (K 1, 4, .inl yf2))]) [22, 23, 24] rfl) 0 5 rfl rfl rfl hl.1 rfl (Nat.le_of_ble_eq_true rfl) (by decide) (by decide) dX0_tryOrder_93 (fun r1664 _ => ?_)
                refine cv_V (As := [.ref wa0, .int r1664]) (rest := []) (wc := [(wa1, .inr (8, [.int w1645, .int w1646, .int (u1624.1 0)])), (wa0, .inr (9, [.ref wa0a0, .ref wa0a1, .ref wa0a2, .ref wa0a3, .ref wa0a4, .ref wa0a5, .ref wa0a6, .ref wa0a7, .int (u1581.1 0), .int (u1581.1 1), .int (u1581.1 2), .int (u1581.1 3)])), (wa0a0, .inl (K 1, 40, .inl (u1624.2.1 0))), (wa0a1, .inl (K 1, 10, .inl (u1624.2.1 1)))]) (wr := [(w, .inr (0, [.ref wa0, .ref wa1, .ref wa2, .ref wa3, .int wn4, .int wn5])), (wa2, .inl (K 1, 5, .inl wf2)), (wa0a2, .inl (K 1, 4, .inl (u1581.2.1 2))), (wa0a3, .inl (K 1, 4, .inl (u1581.2.1 3))), (wa0a4, .inl (K 1, 4, .inl (u1581.2.1 4))), (wa0a5, .inl (K 1, 5, .inl (u1581.2.1 5))), (wa0a6, .inl (K 1, 5, .inl (u1581.2.1 6))), (wa0a7, .inl (K 1, 5, .inl (u1581.2.1 7))), (v, .inr (9, [.ref va0, .ref va1, .ref va2, .ref va3, .ref va4, .ref va5, .ref va6, .ref va7, .int vn8, .int vn9, .int vn10, .int vn11])), (va0, .inl (K 1, 40, .inl vf0)), (va1, .inl (K 1, 10, .inl vf1)), (va2, .inl (K 1, 4, .inl vf2)), (va3, .inl (K 1, 4, .inl vf3)), (va4, .inl (K 1, 4, .inl vf4)), (va5, .inl (K 1, 5, .inl vf5)), (va6, .inl (K 1, 5, .inl vf6)), (va7, .inl (K 1, 5, .inl vf7)), (x, .inr (8, [.int xn0, .int xn1, .int xn2])), (y, .inr (5, [.ref ya0, .ref ya1, .ref ya2])), (ya0, .inl (K 2, 240, .inr (.inl yf0))), (ya2, .inl (K 1, 4, .inl yf2))]) hC hE kV_X0_92 (c_X9_step l D K wa1 wa0 wa0a0 wa0a1 wa0a2 wa0a3 wa0a4 wa0a5 wa0a6 wa0a7 w1645 w1646 (u1624.1 0) (u1581.1 0) (u1581.1 1) (u1581.1 2) (u1581.1 3) (u1624.2.1 0) (u1624.2.1 1) r1664) hP hD hS hA [11, 2, 3, 4] [0, 1, 5, 6, 7, 8, 9, 10, 12, 13, 14, 15, 16, 17, 18, 19, 20, 21, 22, 23, 24] rfl rfl rfl (by decide) (by decide) (by decide) 0 8 rfl rfl rfl hl.1 rfl (Nat.le_of_ble_eq_true rfl) (by decide) (by decide) dX0_tryOrder_96 (fun u1665 H locs hw hP hD hS => ?_)
                replace hP : va_P D vwCl [(w, .inr (0, [.ref wa0, .ref wa1, .ref wa2, .ref wa3, .int wn4, .int wn5])), (wa2, .inl (K 1, 5, .inl wf2)), (wa0a2, .inl (K 1, 4, .inl (u1581.2.1 2))), (wa0a3, .inl (K 1, 4, .inl (u1581.2.1 3))), (wa0a4, .inl (K 1, 4, .inl (u1581.2.1 4))), (wa0a5, .inl (K 1, 5, .inl (u1581.2.1 5))), (wa0a6, .inl (K 1, 5, .inl (u1581.2.1 6))), (wa0a7, .inl (K 1, 5, .inl (u1581.2.1 7))), (v, .inr (9, [.ref va0, .ref va1, .ref va2, .ref va3, .ref va4, .ref va5, .ref va6, .ref va7, .int vn8, .int vn9, .int vn10, .int vn11])), (va0, .inl (K 1, 40, .inl vf0)), (va1, .inl (K 1, 10, .inl vf1)), (va2, .inl (K 1, 4, .inl vf2)), (va3, .inl (K 1, 4, .inl vf3)), (va4, .inl (K 1, 4, .inl vf4)), (va5, .inl (K 1, 5, .inl vf5)), (va6, .inl (K 1, 5, .inl vf6)), (va7, .inl (K 1, 5, .inl vf7)), (x, .inr (8, [.int xn0, .int xn1, .int xn2])), (y, .inr (5, [.ref ya0, .ref ya1, .ref ya2])), (ya0, .inl (K 2, 240, .inr (.inl yf0))), (ya2, .inl (K 1, 4, .inl yf2)), (wa1, .inr (8, [.int (u1665.1 0), .int (u1665.1 1), .int (u1624.1 0)])), (wa0, .inr (9, [.ref wa0a0, .ref wa0a1, .ref wa0a2, .ref wa0a3, .ref wa0a4, .ref wa0a5, .ref wa0a6, .ref wa0a7, .int (u1581.1 0), .int (u1581.1 1), .int (u1581.1 2), .int (u1581.1 3)])), (wa0a0, .inl (K 1, 40, .inl (u1624.2.1 0))), (wa0a1, .inl (K 1, 10, .inl (u1624.2.1 1)))] H := hP
                replace hD : va_D A [(w, .inr (0, [.ref wa0, .ref wa1, .ref wa2, .ref wa3, .int wn4, .int wn5])), (wa2, .inl (K 1, 5, .inl wf2)), (wa0a2, .inl (K 1, 4, .inl (u1581.2.1 2))), (wa0a3, .inl (K 1, 4, .inl (u1581.2.1 3))), (wa0a4, .inl (K 1, 4, .inl (u1581.2.1 4))), (wa0a5, .inl (K 1, 5, .inl (u1581.2.1 5))), (wa0a6, .inl (K 1, 5, .inl (u1581.2.1 6))), (wa0a7, .inl (K 1, 5, .inl (u1581.2.1 7))), (v, .inr (9, [.ref va0, .ref va1, .ref va2, .ref va3, .ref va4, .ref va5, .ref va6, .ref va7, .int vn8, .int vn9, .int vn10, .int vn11])), (va0, .inl (K 1, 40, .inl vf0)), (va1, .inl (K 1, 10, .inl vf1)), (va2, .inl (K 1, 4, .inl vf2)), (va3, .inl (K 1, 4, .inl vf3)), (va4, .inl (K 1, 4, .inl vf4)), (va5, .inl (K 1, 5, .inl vf5)), (va6, .inl (K 1, 5, .inl vf6)), (va7, .inl (K 1, 5, .inl vf7)), (x, .inr (8, [.int xn0, .int xn1, .int xn2])), (y, .inr (5, [.ref ya0, .ref ya1, .ref ya2])), (ya0, .inl (K 2, 240, .inr (.inl yf0))), (ya2, .inl (K 1, 4, .inl yf2)), (wa1, .inr (8, [.int (u1665.1 0), .int (u1665.1 1), .int (u1624.1 0)])), (wa0, .inr (9, [.ref wa0a0, .ref wa0a1, .ref wa0a2, .ref wa0a3, .ref wa0a4, .ref wa0a5, .ref wa0a6, .ref wa0a7, .int (u1581.1 0), .int (u1581.1 1), .int (u1581.1 2), .int (u1581.1 3)])), (wa0a0, .inl (K 1, 40, .inl (u1624.2.1 0))), (wa0a1, .inl (K 1, 10, .inl (u1624.2.1 1)))] := hD
                replace hP : va_P D vwCl [(w, .inr (0, [.ref wa0, .ref wa1, .ref wa2, .ref wa3, .int wn4, .int wn5])), (wa2, .inl (K 1, 5, .inl wf2)), (wa0, .inr (9, [.ref wa0a0, .ref wa0a1, .ref wa0a2, .ref wa0a3, .ref wa0a4, .ref wa0a5, .ref wa0a6, .ref wa0a7, .int (u1581.1 0), .int (u1581.1 1), .int (u1581.1 2), .int (u1581.1 3)])), (wa0a0, .inl (K 1, 40, .inl (u1624.2.1 0))), (wa0a1, .inl (K 1, 10, .inl (u1624.2.1 1))), (wa0a2, .inl (K 1, 4, .inl (u1581.2.1 2))), (wa0a3, .inl (K 1, 4, .inl (u1581.2.1 3))), (wa0a4, .inl (K 1, 4, .inl (u1581.2.1 4))), (wa0a5, .inl (K 1, 5, .inl (u1581.2.1 5))), (wa0a6, .inl (K 1, 5, .inl (u1581.2.1 6))), (wa0a7, .inl (K 1, 5, .inl (u1581.2.1 7))), (wa1, .inr (8, [.int (u1665.1 0), .int (u1665.1 1), .int (u1624.1 0)])), (v, .inr (9, [.ref va0, .ref va1, .ref va2, .ref va3, .ref va4, .ref va5, .ref va6, .ref va7, .int vn8, .int vn9, .int vn10, .int vn11])), (va0, .inl (K 1, 40, .inl vf0)), (va1, .inl (K 1, 10, .inl vf1)), (va2, .inl (K 1, 4, .inl vf2)), (va3, .inl (K 1, 4, .inl vf3)), (va4, .inl (K 1, 4, .inl vf4)), (va5, .inl (K 1, 5, .inl vf5)), (va6, .inl (K 1, 5, .inl vf6)), (va7, .inl (K 1, 5, .inl vf7)), (x, .inr (8, [.int xn0, .int xn1, .int xn2])), (y, .inr (5, [.ref ya0, .ref ya1, .ref ya2])), (ya0, .inl (K 2, 240, .inr (.inl yf0))), (ya2, .inl (K 1, 4, .inl yf2))] H := hP.sub [0, 1, 22, 23, 24, 2, 3, 4, 5, 6, 7, 21, 8, 9, 10, 11, 12, 13, 14, 15, 16, 17, 18, 19, 20] rfl
                replace hD : va_D A [(w, .inr (0, [.ref wa0, .ref wa1, .ref wa2, .ref wa3, .int wn4, .int wn5])), (wa2, .inl (K 1, 5, .inl wf2)), (wa0, .inr (9, [.ref wa0a0, .ref wa0a1, .ref wa0a2, .ref wa0a3, .ref wa0a4, .ref wa0a5, .ref wa0a6, .ref wa0a7, .int (u1581.1 0), .int (u1581.1 1), .int (u1581.1 2), .int (u1581.1 3)])), (wa0a0, .inl (K 1, 40, .inl (u1624.2.1 0))), (wa0a1, .inl (K 1, 10, .inl (u1624.2.1 1))), (wa0a2, .inl (K 1, 4, .inl (u1581.2.1 2))), (wa0a3, .inl (K 1, 4, .inl (u1581.2.1 3))), (wa0a4, .inl (K 1, 4, .inl (u1581.2.1 4))), (wa0a5, .inl (K 1, 5, .inl (u1581.2.1 5))), (wa0a6, .inl (K 1, 5, .inl (u1581.2.1 6))), (wa0a7, .inl (K 1, 5, .inl (u1581.2.1 7))), (wa1, .inr (8, [.int (u1665.1 0), .int (u1665.1 1), .int (u1624.1 0)])), (v, .inr (9, [.ref va0, .ref va1, .ref va2, .ref va3, .ref va4, .ref va5, .ref va6, .ref va7, .int vn8, .int vn9, .int vn10, .int vn11])), (va0, .inl (K 1, 40, .inl vf0)), (va1, .inl (K 1, 10, .inl vf1)), (va2, .inl (K 1, 4, .inl vf2)), (va3, .inl (K 1, 4, .inl vf3)), (va4, .inl (K 1, 4, .inl vf4)), (va5, .inl (K 1, 5, .inl vf5)), (va6, .inl (K 1, 5, .inl vf6)), (va7, .inl (K 1, 5, .inl vf7)), (x, .inr (8, [.int xn0, .int xn1, .int xn2])), (y, .inr (5, [.ref ya0, .ref ya1, .ref ya2])), (ya0, .inl (K 2, 240, .inr (.inl yf0))), (ya2, .inl (K 1, 4, .inl yf2))] := hD.sub [0, 1, 22, 23, 24, 2, 3, 4, 5, 6, 7, 21, 8, 9, 10, 11, 12, 13, 14, 15, 16, 17, 18, 19, 20] (by decide) rfl
                refine W.widen (k := 0) (n := 0) (by decide) (by decide) ?_
                obtain ⟨v1667, ev1667⟩ : ∃ z : Int32, z = i1644 + 1 := ⟨_, rfl⟩
                refine lv_iinc (v := v1667) (lv' := [(6, .int v1667), (5, .int i1613), (0, .ref w), (1, .ref v), (2, .ref x), (3, .ref y), (4, .int p3)]) hx hb dX0_tryOrder_99 hl (k := 0) rfl (by rw [ev1667]; rfl) (by decide) rfl (fun ls hl => ?_)
                refine lv_goto (tgt := 62) hx hb dX0_tryOrder_102 (by decide) ?_
                have tv1667 : v1667.toInt = (i1644 : Int32).toInt + (1 : Int32).toInt := add_i ev1667 (by omega) (by omega)
                exact ih_62 (i1644 := v1667) (w1645 := (u1665.1 0)) (w1646 := (u1665.1 1)) (hi_62 := by omega) (H := H) (locs := locs) (ls := ls) (hn_62 := by omega) (hP := hP) (hD := hD) (hS := hS) (hl := lv_sub hl [0, 1, 2, 3, 4, 5, 6] rfl)
set_option maxRecDepth 40000 in
set_option maxHeartbeats 4000000 in
theorem c_X0_tryAll (l : Launch) (D : va_G) (K : Nat → ClassId) (w : Nat) (wa0 : Nat) (wa1 : Nat) (wa2 : Nat) (wa3 : Nat) (wa0a0 : Nat) (wa0a1 : Nat) (wa0a2 : Nat) (wa0a3 : Nat) (wa0a4 : Nat) (wa0a5 : Nat) (wa0a6 : Nat) (wa0a7 : Nat) (v : Nat) (va0 : Nat) (va1 : Nat) (va2 : Nat) (va3 : Nat) (va4 : Nat) (va5 : Nat) (va6 : Nat) (va7 : Nat) (x : Nat) (y : Nat) (ya0 : Nat) (ya1 : Nat) (ya2 : Nat) (wn4 : Int32) (wn5 : Int32) (wa0n8 : Int32) (wa0n9 : Int32) (wa0n10 : Int32) (wa0n11 : Int32) (wa1n0 : Int32) (wa1n1 : Int32) (wa1n2 : Int32) (vn8 : Int32) (vn9 : Int32) (vn10 : Int32) (vn11 : Int32) (xn0 : Int32) (xn1 : Int32) (xn2 : Int32) (wf2 : Nat → Int32) (wf3 : Nat → Int32) (wa0f0 : Nat → Int32) (wa0f1 : Nat → Int32) (wa0f2 : Nat → Int32) (wa0f3 : Nat → Int32) (wa0f4 : Nat → Int32) (wa0f5 : Nat → Int32) (wa0f6 : Nat → Int32) (wa0f7 : Nat → Int32) (vf0 : Nat → Int32) (vf1 : Nat → Int32) (vf2 : Nat → Int32) (vf3 : Nat → Int32) (vf4 : Nat → Int32) (vf5 : Nat → Int32) (vf6 : Nat → Int32) (vf7 : Nat → Int32) (yf0 : Nat → Int64) (yf2 : Nat → Int32) (p3 : Int32) (hsz : ∀ j, j < 4 → -1 ≤ (yf2 j).toInt ∧ (yf2 j).toInt ≤ 60) (hl10 : 0 ≤ vn10.toInt) : Cv (S := ((Nat → Int32) × (Nat → Nat → Int32) × (Nat → Nat → Int64))) l D K yX0_tryAll cX0_tryAll 9 5 110 0 0 [.ref w, .ref v, .ref x, .ref y, .int p3] [(w, .inr (0, [.ref wa0, .ref wa1, .ref wa2, .ref wa3, .int wn4, .int wn5])), (wa2, .inl (K 1, 5, .inl wf2)), (wa3, .inl (K 1, 5, .inl wf3)), (wa0, .inr (9, [.ref wa0a0, .ref wa0a1, .ref wa0a2, .ref wa0a3, .ref wa0a4, .ref wa0a5, .ref wa0a6, .ref wa0a7, .int wa0n8, .int wa0n9, .int wa0n10, .int wa0n11])), (wa0a0, .inl (K 1, 40, .inl wa0f0)), (wa0a1, .inl (K 1, 10, .inl wa0f1)), (wa0a2, .inl (K 1, 4, .inl wa0f2)), (wa0a3, .inl (K 1, 4, .inl wa0f3)), (wa0a4, .inl (K 1, 4, .inl wa0f4)), (wa0a5, .inl (K 1, 5, .inl wa0f5)), (wa0a6, .inl (K 1, 5, .inl wa0f6)), (wa0a7, .inl (K 1, 5, .inl wa0f7)), (wa1, .inr (8, [.int wa1n0, .int wa1n1, .int wa1n2])), (v, .inr (9, [.ref va0, .ref va1, .ref va2, .ref va3, .ref va4, .ref va5, .ref va6, .ref va7, .int vn8, .int vn9, .int vn10, .int vn11])), (va0, .inl (K 1, 40, .inl vf0)), (va1, .inl (K 1, 10, .inl vf1)), (va2, .inl (K 1, 4, .inl vf2)), (va3, .inl (K 1, 4, .inl vf3)), (va4, .inl (K 1, 4, .inl vf4)), (va5, .inl (K 1, 5, .inl vf5)), (va6, .inl (K 1, 5, .inl vf6)), (va7, .inl (K 1, 5, .inl vf7)), (x, .inr (8, [.int xn0, .int xn1, .int xn2])), (y, .inr (5, [.ref ya0, .ref ya1, .ref ya2])), (ya0, .inl (K 2, 240, .inr (.inl yf0))), (ya2, .inl (K 1, 4, .inl yf2))] (fun _ => True) (fun u => [(w, .inr (0, [.ref wa0, .ref wa1, .ref wa2, .ref wa3, .int (u.1 0), .int (u.1 1)])), (wa2, .inl (K 1, 5, .inl (u.2.1 0))), (wa3, .inl (K 1, 5, .inl (u.2.1 1))), (wa0, .inr (9, [.ref wa0a0, .ref wa0a1, .ref wa0a2, .ref wa0a3, .ref wa0a4, .ref wa0a5, .ref wa0a6, .ref wa0a7, .int (u.1 2), .int (u.1 3), .int (u.1 4), .int (u.1 5)])), (wa0a0, .inl (K 1, 40, .inl (u.2.1 2))), (wa0a1, .inl (K 1, 10, .inl (u.2.1 3))), (wa0a2, .inl (K 1, 4, .inl (u.2.1 4))), (wa0a3, .inl (K 1, 4, .inl (u.2.1 5))), (wa0a4, .inl (K 1, 4, .inl (u.2.1 6))), (wa0a5, .inl (K 1, 5, .inl (u.2.1 7))), (wa0a6, .inl (K 1, 5, .inl (u.2.1 8))), (wa0a7, .inl (K 1, 5, .inl (u.2.1 9))), (wa1, .inr (8, [.int (u.1 6), .int (u.1 7), .int (u.1 8)])), (v, .inr (9, [.ref va0, .ref va1, .ref va2, .ref va3, .ref va4, .ref va5, .ref va6, .ref va7, .int vn8, .int vn9, .int vn10, .int vn11])), (va0, .inl (K 1, 40, .inl vf0)), (va1, .inl (K 1, 10, .inl vf1)), (va2, .inl (K 1, 4, .inl vf2)), (va3, .inl (K 1, 4, .inl vf3)), (va4, .inl (K 1, 4, .inl vf4)), (va5, .inl (K 1, 5, .inl vf5)), (va6, .inl (K 1, 5, .inl vf6)), (va7, .inl (K 1, 5, .inl vf7)), (x, .inr (8, [.int xn0, .int xn1, .int xn2])), (y, .inr (5, [.ref ya0, .ref ya1, .ref ya2])), (ya0, .inl (K 2, 240, .inr (.inl yf0))), (ya2, .inl (K 1, 4, .inl yf2))]) := by
  intro sz
  refine ch_of (y := yX0_tryAll) (cc := cX0_tryAll) (maxL := 9) (ret := none) (av := [.ref w, .ref v, .ref x, .ref y, .int p3]) (ws := [(w, .inr (0, [.ref wa0, .ref wa1, .ref wa2, .ref wa3, .int wn4, .int wn5])), (wa2, .inl (K 1, 5, .inl wf2)), (wa3, .inl (K 1, 5, .inl wf3)), (wa0, .inr (9, [.ref wa0a0, .ref wa0a1, .ref wa0a2, .ref wa0a3, .ref wa0a4, .ref wa0a5, .ref wa0a6, .ref wa0a7, .int wa0n8, .int wa0n9, .int wa0n10, .int wa0n11])), (wa0a0, .inl (K 1, 40, .inl wa0f0)), (wa0a1, .inl (K 1, 10, .inl wa0f1)), (wa0a2, .inl (K 1, 4, .inl wa0f2)), (wa0a3, .inl (K 1, 4, .inl wa0f3)), (wa0a4, .inl (K 1, 4, .inl wa0f4)), (wa0a5, .inl (K 1, 5, .inl wa0f5)), (wa0a6, .inl (K 1, 5, .inl wa0f6)), (wa0a7, .inl (K 1, 5, .inl wa0f7)), (wa1, .inr (8, [.int wa1n0, .int wa1n1, .int wa1n2])), (v, .inr (9, [.ref va0, .ref va1, .ref va2, .ref va3, .ref va4, .ref va5, .ref va6, .ref va7, .int vn8, .int vn9, .int vn10, .int vn11])), (va0, .inl (K 1, 40, .inl vf0)), (va1, .inl (K 1, 10, .inl vf1)), (va2, .inl (K 1, 4, .inl vf2)), (va3, .inl (K 1, 4, .inl vf3)), (va4, .inl (K 1, 4, .inl vf4)), (va5, .inl (K 1, 5, .inl vf5)), (va6, .inl (K 1, 5, .inl vf6)), (va7, .inl (K 1, 5, .inl vf7)), (x, .inr (8, [.int xn0, .int xn1, .int xn2])), (y, .inr (5, [.ref ya0, .ref ya1, .ref ya2])), (ya0, .inl (K 2, 240, .inr (.inl yf0))), (ya2, .inl (K 1, 4, .inl yf2))]) (D := D) (K := K) (Qc := fun A => va_Qv (S := ((Nat → Int32) × (Nat → Nat → Int32) × (Nat → Nat → Int64))) (fun _ => True) (chB D A (fun u => [(w, .inr (0, [.ref wa0, .ref wa1, .ref wa2, .ref wa3, .int (u.1 0), .int (u.1 1)])), (wa2, .inl (K 1, 5, .inl (u.2.1 0))), (wa3, .inl (K 1, 5, .inl (u.2.1 1))), (wa0, .inr (9, [.ref wa0a0, .ref wa0a1, .ref wa0a2, .ref wa0a3, .ref wa0a4, .ref wa0a5, .ref wa0a6, .ref wa0a7, .int (u.1 2), .int (u.1 3), .int (u.1 4), .int (u.1 5)])), (wa0a0, .inl (K 1, 40, .inl (u.2.1 2))), (wa0a1, .inl (K 1, 10, .inl (u.2.1 3))), (wa0a2, .inl (K 1, 4, .inl (u.2.1 4))), (wa0a3, .inl (K 1, 4, .inl (u.2.1 5))), (wa0a4, .inl (K 1, 4, .inl (u.2.1 6))), (wa0a5, .inl (K 1, 5, .inl (u.2.1 7))), (wa0a6, .inl (K 1, 5, .inl (u.2.1 8))), (wa0a7, .inl (K 1, 5, .inl (u.2.1 9))), (wa1, .inr (8, [.int (u.1 6), .int (u.1 7), .int (u.1 8)])), (v, .inr (9, [.ref va0, .ref va1, .ref va2, .ref va3, .ref va4, .ref va5, .ref va6, .ref va7, .int vn8, .int vn9, .int vn10, .int vn11])), (va0, .inl (K 1, 40, .inl vf0)), (va1, .inl (K 1, 10, .inl vf1)), (va2, .inl (K 1, 4, .inl vf2)), (va3, .inl (K 1, 4, .inl vf3)), (va4, .inl (K 1, 4, .inl vf4)), (va5, .inl (K 1, 5, .inl vf5)), (va6, .inl (K 1, 5, .inl vf6)), (va7, .inl (K 1, 5, .inl vf7)), (x, .inr (8, [.int xn0, .int xn1, .int xn2])), (y, .inr (5, [.ref ya0, .ref ya1, .ref ya2])), (ya0, .inl (K 2, 240, .inr (.inl yf0))), (ya2, .inl (K 1, 4, .inl yf2))])) A) (by decide) (Nat.le_of_ble_eq_true rfl) ?_
  intro p e s m below meth c A hC hr hk hin hE hD hA H locs hP hS ls hl
  replace hC : CallFix p m c cX0_tryAll 9 s [.ref w, .ref v, .ref x, .ref y, .int p3].toArray wl RX0 := hC
  have hx := hC.1
  have hb := hC.2.1
  have hml := hC.2.2.1
  have hown := hC.2.2.2.1
  have hts := hC.2.2.2.2
  replace hl : lv_has ls 9 [(0, .ref w), (1, .ref v), (2, .ref x), (3, .ref y), (4, .int p3)] := hl
  have kc_0 : (0 : Int32).toInt = 0 := by decide
  have kc_1 : (1 : Int32).toInt = 1 := by decide
  have kc_5 : (5 : Int32).toInt = 5 := by decide
  have kc_10 : (10 : Int32).toInt = 10 := by decide
  have kc_200 : (200 : Int32).toInt = 200 := by decide
  refine lv_aload_n hx hb dX0_tryAll_0 rfl (lv_at hl 1 rfl) ?_
  refine va_get (D := D) (ci := 9) (v := .int vn10) (C := RX10) (T := TX10) (N := 12) hx hb hts in_X10 hown hE.1 hP 13 rfl rfl 10 (by decide) (hts _ w_224) (fun _ h9 => h9) rfl dX0_tryAll_1 ?_
  refine lv_iconst (v := 5) hx hb dX0_tryAll_4 (by decide) ?_
  refine va_mmin hx hb (hml.trans hl.1.symm) hown (hts _ w_251) (hts _ w_142) (hts _ w_143) (hts _ w_144) (by decide) (Nat.le_of_ble_eq_true rfl) (by decide) (by decide) dX0_tryAll_5 ?_
  refine lv_topi (fun v1691 ev1691 => ?_)
  have tv1691 := min_i ev1691
  refine lv_istore (lv' := [(5, .int v1691), (0, .ref w), (1, .ref v), (2, .ref x), (3, .ref y), (4, .int p3)]) hx hb dX0_tryAll_8 hl (by decide) rfl (fun ls hl => ?_)
  refine lv_iconst (v := 0) hx hb dX0_tryAll_10 (by decide) ?_
  refine lv_istore (lv' := [(6, .int 0), (5, .int v1691), (0, .ref w), (1, .ref v), (2, .ref x), (3, .ref y), (4, .int p3)]) hx hb dX0_tryAll_11 hl (by decide) rfl (fun ls hl => ?_)
  have hl' := hl; have hP' := hP; have hD' := hD; clear hl hP hD
  obtain ⟨i1696, g1697, hi_13, hl, hP, hD⟩ : ∃ (i1696 : Int32) (g1697 : Nat → Int32), ((0 : Int) ≤ i1696.toInt) ∧ lv_has ls 9 [(6, .int i1696), (5, .int v1691), (0, .ref w), (1, .ref v), (2, .ref x), (3, .ref y), (4, .int p3)] ∧ va_P D vwCl [(w, .inr (0, [.ref wa0, .ref wa1, .ref wa2, .ref wa3, .int wn4, .int wn5])), (wa2, .inl (K 1, 5, .inl g1697)), (wa3, .inl (K 1, 5, .inl wf3)), (wa0, .inr (9, [.ref wa0a0, .ref wa0a1, .ref wa0a2, .ref wa0a3, .ref wa0a4, .ref wa0a5, .ref wa0a6, .ref wa0a7, .int wa0n8, .int wa0n9, .int wa0n10, .int wa0n11])), (wa0a0, .inl (K 1, 40, .inl wa0f0)), (wa0a1, .inl (K 1, 10, .inl wa0f1)), (wa0a2, .inl (K 1, 4, .inl wa0f2)), (wa0a3, .inl (K 1, 4, .inl wa0f3)), (wa0a4, .inl (K 1, 4, .inl wa0f4)), (wa0a5, .inl (K 1, 5, .inl wa0f5)), (wa0a6, .inl (K 1, 5, .inl wa0f6)), (wa0a7, .inl (K 1, 5, .inl wa0f7)), (wa1, .inr (8, [.int wa1n0, .int wa1n1, .int wa1n2])), (v, .inr (9, [.ref va0, .ref va1, .ref va2, .ref va3, .ref va4, .ref va5, .ref va6, .ref va7, .int vn8, .int vn9, .int vn10, .int vn11])), (va0, .inl (K 1, 40, .inl vf0)), (va1, .inl (K 1, 10, .inl vf1)), (va2, .inl (K 1, 4, .inl vf2)), (va3, .inl (K 1, 4, .inl vf3)), (va4, .inl (K 1, 4, .inl vf4)), (va5, .inl (K 1, 5, .inl vf5)), (va6, .inl (K 1, 5, .inl vf6)), (va7, .inl (K 1, 5, .inl vf7)), (x, .inr (8, [.int xn0, .int xn1, .int xn2])), (y, .inr (5, [.ref ya0, .ref ya1, .ref ya2])), (ya0, .inl (K 2, 240, .inr (.inl yf0))), (ya2, .inl (K 1, 4, .inl yf2))] H ∧ va_D A [(w, .inr (0, [.ref wa0, .ref wa1, .ref wa2, .ref wa3, .int wn4, .int wn5])), (wa2, .inl (K 1, 5, .inl g1697)), (wa3, .inl (K 1, 5, .inl wf3)), (wa0, .inr (9, [.ref wa0a0, .ref wa0a1, .ref wa0a2, .ref wa0a3, .ref wa0a4, .ref wa0a5, .ref wa0a6, .ref wa0a7, .int wa0n8, .int wa0n9, .int wa0n10, .int wa0n11])), (wa0a0, .inl (K 1, 40, .inl wa0f0)), (wa0a1, .inl (K 1, 10, .inl wa0f1)), (wa0a2, .inl (K 1, 4, .inl wa0f2)), (wa0a3, .inl (K 1, 4, .inl wa0f3)), (wa0a4, .inl (K 1, 4, .inl wa0f4)), (wa0a5, .inl (K 1, 5, .inl wa0f5)), (wa0a6, .inl (K 1, 5, .inl wa0f6)), (wa0a7, .inl (K 1, 5, .inl wa0f7)), (wa1, .inr (8, [.int wa1n0, .int wa1n1, .int wa1n2])), (v, .inr (9, [.ref va0, .ref va1, .ref va2, .ref va3, .ref va4, .ref va5, .ref va6, .ref va7, .int vn8, .int vn9, .int vn10, .int vn11])), (va0, .inl (K 1, 40, .inl vf0)), (va1, .inl (K 1, 10, .inl vf1)), (va2, .inl (K 1, 4, .inl vf2)), (va3, .inl (K 1, 4, .inl vf3)), (va4, .inl (K 1, 4, .inl vf4)), (va5, .inl (K 1, 5, .inl vf5)), (va6, .inl (K 1, 5, .inl vf6)), (va7, .inl (K 1, 5, .inl vf7)), (x, .inr (8, [.int xn0, .int xn1, .int xn2])), (y, .inr (5, [.ref ya0, .ref ya1, .ref ya2])), (ya0, .inl (K 2, 240, .inr (.inl yf0))), (ya2, .inl (K 1, 4, .inl yf2))] := ⟨_, _, by omega, hl', hP', hD'⟩
  clear hl' hP' hD'
  obtain ⟨n_13, hn_13⟩ : ∃ n : Nat, (5 - i1696.toInt).toNat < n := ⟨_, Nat.lt_succ_self _⟩
  induction n_13 generalizing i1696 g1697 H locs ls with
  | zero => exact absurd hn_13 (Nat.not_lt_zero _)
  | succ n_13 ih_13 =>
    refine lv_iload hx hb dX0_tryAll_13 (lv_at hl 0 rfl) ?_
    refine lv_iconst (v := 5) hx hb dX0_tryAll_15 (by decide) ?_
    refine lv_icmp_ge (tgt := 34) hx hb dX0_tryAll_16 (by decide) (fun c1698 => ?_) (fun c1698 => ?_)
    · replace c1698 := le_i c1698
      refine lv_aload_n hx hb dX0_tryAll_34 rfl (lv_at hl 2 rfl) ?_
      refine lv_iconst (v := (-1)) hx hb dX0_tryAll_35 (by decide) ?_
      refine va_put (D := D) (ci := 0) (v := .int (-1)) (ty := .int) (C := RX0) (T := TX0) (N := 6) hx hb hts in_X0 tyX0 tyX0_ok nmX0 hown hE.1 hP hD hS 0 rfl rfl 4 (by decide) (hts _ w_252) (fun _ h9 => h9) rfl (by decide +kernel) rfl rfl (Nat.le_of_ble_eq_true rfl) dX0_tryAll_36 (fun H locs hP hD hS => ?_)
      replace hP : va_P D vwCl [(w, .inr (0, [.ref wa0, .ref wa1, .ref wa2, .ref wa3, .int (-1), .int wn5])), (wa2, .inl (K 1, 5, .inl g1697)), (wa3, .inl (K 1, 5, .inl wf3)), (wa0, .inr (9, [.ref wa0a0, .ref wa0a1, .ref wa0a2, .ref wa0a3, .ref wa0a4, .ref wa0a5, .ref wa0a6, .ref wa0a7, .int wa0n8, .int wa0n9, .int wa0n10, .int wa0n11])), (wa0a0, .inl (K 1, 40, .inl wa0f0)), (wa0a1, .inl (K 1, 10, .inl wa0f1)), (wa0a2, .inl (K 1, 4, .inl wa0f2)), (wa0a3, .inl (K 1, 4, .inl wa0f3)), (wa0a4, .inl (K 1, 4, .inl wa0f4)), (wa0a5, .inl (K 1, 5, .inl wa0f5)), (wa0a6, .inl (K 1, 5, .inl wa0f6)), (wa0a7, .inl (K 1, 5, .inl wa0f7)), (wa1, .inr (8, [.int wa1n0, .int wa1n1, .int wa1n2])), (v, .inr (9, [.ref va0, .ref va1, .ref va2, .ref va3, .ref va4, .ref va5, .ref va6, .ref va7, .int vn8, .int vn9, .int vn10, .int vn11])), (va0, .inl (K 1, 40, .inl vf0)), (va1, .inl (K 1, 10, .inl vf1)), (va2, .inl (K 1, 4, .inl vf2)), (va3, .inl (K 1, 4, .inl vf3)), (va4, .inl (K 1, 4, .inl vf4)), (va5, .inl (K 1, 5, .inl vf5)), (va6, .inl (K 1, 5, .inl vf6)), (va7, .inl (K 1, 5, .inl vf7)), (x, .inr (8, [.int xn0, .int xn1, .int xn2])), (y, .inr (5, [.ref ya0, .ref ya1, .ref ya2])), (ya0, .inl (K 2, 240, .inr (.inl yf0))), (ya2, .inl (K 1, 4, .inl yf2))] H := hP
      replace hD : va_D A [(w, .inr (0, [.ref wa0, .ref wa1, .ref wa2, .ref wa3, .int (-1), .int wn5])), (wa2, .inl (K 1, 5, .inl g1697)), (wa3, .inl (K 1, 5, .inl wf3)), (wa0, .inr (9, [.ref wa0a0, .ref wa0a1, .ref wa0a2, .ref wa0a3, .ref wa0a4, .ref wa0a5, .ref wa0a6, .ref wa0a7, .int wa0n8, .int wa0n9, .int wa0n10, .int wa0n11])), (wa0a0, .inl (K 1, 40, .inl wa0f0)), (wa0a1, .inl (K 1, 10, .inl wa0f1)), (wa0a2, .inl (K 1, 4, .inl wa0f2)), (wa0a3, .inl (K 1, 4, .inl wa0f3)), (wa0a4, .inl (K 1, 4, .inl wa0f4)), (wa0a5, .inl (K 1, 5, .inl wa0f5)), (wa0a6, .inl (K 1, 5, .inl wa0f6)), (wa0a7, .inl (K 1, 5, .inl wa0f7)), (wa1, .inr (8, [.int wa1n0, .int wa1n1, .int wa1n2])), (v, .inr (9, [.ref va0, .ref va1, .ref va2, .ref va3, .ref va4, .ref va5, .ref va6, .ref va7, .int vn8, .int vn9, .int vn10, .int vn11])), (va0, .inl (K 1, 40, .inl vf0)), (va1, .inl (K 1, 10, .inl vf1)), (va2, .inl (K 1, 4, .inl vf2)), (va3, .inl (K 1, 4, .inl vf3)), (va4, .inl (K 1, 4, .inl vf4)), (va5, .inl (K 1, 5, .inl vf5)), (va6, .inl (K 1, 5, .inl vf6)), (va7, .inl (K 1, 5, .inl vf7)), (x, .inr (8, [.int xn0, .int xn1, .int xn2])), (y, .inr (5, [.ref ya0, .ref ya1, .ref ya2])), (ya0, .inl (K 2, 240, .inr (.inl yf0))), (ya2, .inl (K 1, 4, .inl yf2))] := hD
      refine lv_aload_n hx hb dX0_tryAll_39 rfl (lv_at hl 2 rfl) ?_
      refine lv_bipush (v := 10) hx hb dX0_tryAll_40 (by decide) ?_
      refine va_put (D := D) (ci := 0) (v := .int 10) (ty := .int) (C := RX0) (T := TX0) (N := 6) hx hb hts in_X0 tyX0 tyX0_ok nmX0 hown hE.1 hP hD hS 0 rfl rfl 5 (by decide) (hts _ w_253) (fun _ h9 => h9) rfl (by decide +kernel) rfl rfl (Nat.le_of_ble_eq_true rfl) dX0_tryAll_42 (fun H locs hP hD hS => ?_)
      replace hP : va_P D vwCl [(w, .inr (0, [.ref wa0, .ref wa1, .ref wa2, .ref wa3, .int (-1), .int 10])), (wa2, .inl (K 1, 5, .inl g1697)), (wa3, .inl (K 1, 5, .inl wf3)), (wa0, .inr (9, [.ref wa0a0, .ref wa0a1, .ref wa0a2, .ref wa0a3, .ref wa0a4, .ref wa0a5, .ref wa0a6, .ref wa0a7, .int wa0n8, .int wa0n9, .int wa0n10, .int wa0n11])), (wa0a0, .inl (K 1, 40, .inl wa0f0)), (wa0a1, .inl (K 1, 10, .inl wa0f1)), (wa0a2, .inl (K 1, 4, .inl wa0f2)), (wa0a3, .inl (K 1, 4, .inl wa0f3)), (wa0a4, .inl (K 1, 4, .inl wa0f4)), (wa0a5, .inl (K 1, 5, .inl wa0f5)), (wa0a6, .inl (K 1, 5, .inl wa0f6)), (wa0a7, .inl (K 1, 5, .inl wa0f7)), (wa1, .inr (8, [.int wa1n0, .int wa1n1, .int wa1n2])), (v, .inr (9, [.ref va0, .ref va1, .ref va2, .ref va3, .ref va4, .ref va5, .ref va6, .ref va7, .int vn8, .int vn9, .int vn10, .int vn11])), (va0, .inl (K 1, 40, .inl vf0)), (va1, .inl (K 1, 10, .inl vf1)), (va2, .inl (K 1, 4, .inl vf2)), (va3, .inl (K 1, 4, .inl vf3)), (va4, .inl (K 1, 4, .inl vf4)), (va5, .inl (K 1, 5, .inl vf5)), (va6, .inl (K 1, 5, .inl vf6)), (va7, .inl (K 1, 5, .inl vf7)), (x, .inr (8, [.int xn0, .int xn1, .int xn2])), (y, .inr (5, [.ref ya0, .ref ya1, .ref ya2])), (ya0, .inl (K 2, 240, .inr (.inl yf0))), (ya2, .inl (K 1, 4, .inl yf2))] H := hP
      replace hD : va_D A [(w, .inr (0, [.ref wa0, .ref wa1, .ref wa2, .ref wa3, .int (-1), .int 10])), (wa2, .inl (K 1, 5, .inl g1697)), (wa3, .inl (K 1, 5, .inl wf3)), (wa0, .inr (9, [.ref wa0a0, .ref wa0a1, .ref wa0a2, .ref wa0a3, .ref wa0a4, .ref wa0a5, .ref wa0a6, .ref wa0a7, .int wa0n8, .int wa0n9, .int wa0n10, .int wa0n11])), (wa0a0, .inl (K 1, 40, .inl wa0f0)), (wa0a1, .inl (K 1, 10, .inl wa0f1)), (wa0a2, .inl (K 1, 4, .inl wa0f2)), (wa0a3, .inl (K 1, 4, .inl wa0f3)), (wa0a4, .inl (K 1, 4, .inl wa0f4)), (wa0a5, .inl (K 1, 5, .inl wa0f5)), (wa0a6, .inl (K 1, 5, .inl wa0f6)), (wa0a7, .inl (K 1, 5, .inl wa0f7)), (wa1, .inr (8, [.int wa1n0, .int wa1n1, .int wa1n2])), (v, .inr (9, [.ref va0, .ref va1, .ref va2, .ref va3, .ref va4, .ref va5, .ref va6, .ref va7, .int vn8, .int vn9, .int vn10, .int vn11])), (va0, .inl (K 1, 40, .inl vf0)), (va1, .inl (K 1, 10, .inl vf1)), (va2, .inl (K 1, 4, .inl vf2)), (va3, .inl (K 1, 4, .inl vf3)), (va4, .inl (K 1, 4, .inl vf4)), (va5, .inl (K 1, 5, .inl vf5)), (va6, .inl (K 1, 5, .inl vf6)), (va7, .inl (K 1, 5, .inl vf7)), (x, .inr (8, [.int xn0, .int xn1, .int xn2])), (y, .inr (5, [.ref ya0, .ref ya1, .ref ya2])), (ya0, .inl (K 2, 240, .inr (.inl yf0))), (ya2, .inl (K 1, 4, .inl yf2))] := hD
      refine lv_iconst (v := 1) hx hb dX0_tryAll_45 (by decide) ?_
      refine lv_istore (lv' := [(6, .int 1), (5, .int v1691), (0, .ref w), (1, .ref v), (2, .ref x), (3, .ref y), (4, .int p3)]) hx hb dX0_tryAll_46 hl (by decide) rfl (fun ls hl => ?_)
      refine lv_iconst (v := 0) hx hb dX0_tryAll_48 (by decide) ?_
      refine lv_istore (lv' := [(7, .int 0), (6, .int 1), (5, .int v1691), (0, .ref w), (1, .ref v), (2, .ref x), (3, .ref y), (4, .int p3)]) hx hb dX0_tryAll_49 hl (by decide) rfl (fun ls hl => ?_)
      have hl' := hl; have hP' := hP; have hD' := hD; clear hl hP hD
      obtain ⟨i1717, i1718, w1719, w1720, g1721, g1722, w1723, w1724, w1725, w1726, g1727, g1728, g1729, g1730, g1731, g1732, g1733, g1734, w1735, w1736, w1737, hi_51, hl, hP, hD⟩ : ∃ (i1717 : Int32) (i1718 : Int32) (w1719 : Int32) (w1720 : Int32) (g1721 : Nat → Int32) (g1722 : Nat → Int32) (w1723 : Int32) (w1724 : Int32) (w1725 : Int32) (w1726 : Int32) (g1727 : Nat → Int32) (g1728 : Nat → Int32) (g1729 : Nat → Int32) (g1730 : Nat → Int32) (g1731 : Nat → Int32) (g1732 : Nat → Int32) (g1733 : Nat → Int32) (g1734 : Nat → Int32) (w1735 : Int32) (w1736 : Int32) (w1737 : Int32), ((0 : Int) ≤ i1717.toInt) ∧ lv_has ls 9 [(7, .int i1717), (6, .int i1718), (5, .int v1691), (0, .ref w), (1, .ref v), (2, .ref x), (3, .ref y), (4, .int p3)] ∧ va_P D vwCl [(w, .inr (0, [.ref wa0, .ref wa1, .ref wa2, .ref wa3, .int w1719, .int w1720])), (wa2, .inl (K 1, 5, .inl g1721)), (wa3, .inl (K 1, 5, .inl g1722)), (wa0, .inr (9, [.ref wa0a0, .ref wa0a1, .ref wa0a2, .ref wa0a3, .ref wa0a4, .ref wa0a5, .ref wa0a6, .ref wa0a7, .int w1723, .int w1724, .int w1725, .int w1726])), (wa0a0, .inl (K 1, 40, .inl g1727)), (wa0a1, .inl (K 1, 10, .inl g1728)), (wa0a2, .inl (K 1, 4, .inl g1729)), (wa0a3, .inl (K 1, 4, .inl g1730)), (wa0a4, .inl (K 1, 4, .inl g1731)), (wa0a5, .inl (K 1, 5, .inl g1732)), (wa0a6, .inl (K 1, 5, .inl g1733)), (wa0a7, .inl (K 1, 5, .inl g1734)), (wa1, .inr (8, [.int w1735, .int w1736, .int w1737])), (v, .inr (9, [.ref va0, .ref va1, .ref va2, .ref va3, .ref va4, .ref va5, .ref va6, .ref va7, .int vn8, .int vn9, .int vn10, .int vn11])), (va0, .inl (K 1, 40, .inl vf0)), (va1, .inl (K 1, 10, .inl vf1)), (va2, .inl (K 1, 4, .inl vf2)), (va3, .inl (K 1, 4, .inl vf3)), (va4, .inl (K 1, 4, .inl vf4)), (va5, .inl (K 1, 5, .inl vf5)), (va6, .inl (K 1, 5, .inl vf6)), (va7, .inl (K 1, 5, .inl vf7)), (x, .inr (8, [.int xn0, .int xn1, .int xn2])), (y, .inr (5, [.ref ya0, .ref ya1, .ref ya2])), (ya0, .inl (K 2, 240, .inr (.inl yf0))), (ya2, .inl (K 1, 4, .inl yf2))] H ∧ va_D A [(w, .inr (0, [.ref wa0, .ref wa1, .ref wa2, .ref wa3, .int w1719, .int w1720])), (wa2, .inl (K 1, 5, .inl g1721)), (wa3, .inl (K 1, 5, .inl g1722)), (wa0, .inr (9, [.ref wa0a0, .ref wa0a1, .ref wa0a2, .ref wa0a3, .ref wa0a4, .ref wa0a5, .ref wa0a6, .ref wa0a7, .int w1723, .int w1724, .int w1725, .int w1726])), (wa0a0, .inl (K 1, 40, .inl g1727)), (wa0a1, .inl (K 1, 10, .inl g1728)), (wa0a2, .inl (K 1, 4, .inl g1729)), (wa0a3, .inl (K 1, 4, .inl g1730)), (wa0a4, .inl (K 1, 4, .inl g1731)), (wa0a5, .inl (K 1, 5, .inl g1732)), (wa0a6, .inl (K 1, 5, .inl g1733)), (wa0a7, .inl (K 1, 5, .inl g1734)), (wa1, .inr (8, [.int w1735, .int w1736, .int w1737])), (v, .inr (9, [.ref va0, .ref va1, .ref va2, .ref va3, .ref va4, .ref va5, .ref va6, .ref va7, .int vn8, .int vn9, .int vn10, .int vn11])), (va0, .inl (K 1, 40, .inl vf0)), (va1, .inl (K 1, 10, .inl vf1)), (va2, .inl (K 1, 4, .inl vf2)), (va3, .inl (K 1, 4, .inl vf3)), (va4, .inl (K 1, 4, .inl vf4)), (va5, .inl (K 1, 5, .inl vf5)), (va6, .inl (K 1, 5, .inl vf6)), (va7, .inl (K 1, 5, .inl vf7)), (x, .inr (8, [.int xn0, .int xn1, .int xn2])), (y, .inr (5, [.ref ya0, .ref ya1, .ref ya2])), (ya0, .inl (K 2, 240, .inr (.inl yf0))), (ya2, .inl (K 1, 4, .inl yf2))] := ⟨_, _, _, _, _, _, _, _, _, _, _, _, _, _, _, _, _, _, _, _, _, by omega, hl', hP', hD'⟩
      clear hl' hP' hD'
      obtain ⟨n_51, hn_51⟩ : ∃ n : Nat, (200 - i1717.toInt).toNat < n := ⟨_, Nat.lt_succ_self _⟩
      induction n_51 generalizing i1717 i1718 w1719 w1720 g1721 g1722 w1723 w1724 w1725 w1726 g1727 g1728 g1729 g1730 g1731 g1732 g1733 g1734 w1735 w1736 w1737 H locs ls with
      | zero => exact absurd hn_51 (Nat.not_lt_zero _)
      | succ n_51 ih_51 =>
        refine lv_iload hx hb dX0_tryAll_51 (lv_at hl 0 rfl) ?_
        refine lv_sipush (v := 200) hx hb dX0_tryAll_53 (by decide) ?_
        refine lv_icmp_ge (tgt := 135) hx hb dX0_tryAll_56 (by decide) (fun c1738 => ?_) (fun c1738 => ?_)
        · replace c1738 := le_i c1738
          refine W.widen (k := 0) (n := 0) (by decide) (by decide) ?_
          exact ch_vret hC hr hk hS dX0_tryAll_135 ((fun k => [w1719, w1720, w1723, w1724, w1725, w1726, w1735, w1736, w1737].getD k 0, fun k => [g1721, g1722, g1727, g1728, g1729, g1730, g1731, g1732, g1733, g1734].getD k (fun _ => 0), fun k => [].getD k (fun _ => 0)) : ((Nat → Int32) × (Nat → Nat → Int32) × (Nat → Nat → Int64))) trivial (hP.sub [0, 1, 2, 3, 4, 5, 6, 7, 8, 9, 10, 11, 12, 13, 14, 15, 16, 17, 18, 19, 20, 21, 22, 23, 24, 25] rfl) (hD.sub [0, 1, 2, 3, 4, 5, 6, 7, 8, 9, 10, 11, 12, 13, 14, 15, 16, 17, 18, 19, 20, 21, 22, 23, 24, 25] (by decide) rfl)
        · replace c1738 := nle_i c1738
          refine lv_iload hx hb dX0_tryAll_59 (lv_at hl 1 rfl) ?_
          refine lv_if_eq (tgt := 135) hx hb dX0_tryAll_61 (by decide) (fun c1739 => ?_) (fun c1739 => ?_)
          · replace c1739 := eq_i c1739
            refine W.widen (k := 0) (n := 0) (by decide) (by decide) ?_
            exact ch_vret hC hr hk hS dX0_tryAll_135 ((fun k => [w1719, w1720, w1723, w1724, w1725, w1726, w1735, w1736, w1737].getD k 0, fun k => [g1721, g1722, g1727, g1728, g1729, g1730, g1731, g1732, g1733, g1734].getD k (fun _ => 0), fun k => [].getD k (fun _ => 0)) : ((Nat → Int32) × (Nat → Nat → Int32) × (Nat → Nat → Int64))) trivial (hP.sub [0, 1, 2, 3, 4, 5, 6, 7, 8, 9, 10, 11, 12, 13, 14, 15, 16, 17, 18, 19, 20, 21, 22, 23, 24, 25] rfl) (hD.sub [0, 1, 2, 3, 4, 5, 6, 7, 8, 9, 10, 11, 12, 13, 14, 15, 16, 17, 18, 19, 20, 21, 22, 23, 24, 25] (by decide) rfl)
          · replace c1739 := ne_i c1739
            refine lv_aload_n hx hb dX0_tryAll_64 rfl (lv_at hl 3 rfl) ?_
            refine lv_aload_n hx hb dX0_tryAll_65 rfl (lv_at hl 4 rfl) ?_
            refine lv_aload_n hx hb dX0_tryAll_66 rfl (lv_at hl 5 rfl) ?_
            refine lv_aload_n hx hb dX0_tryAll_67 rfl (lv_at hl 6 rfl) ?_
            refine lv_iload hx hb dX0_tryAll_68 (lv_at hl 7 rfl) ?_
            refine ci_V (As := [.ref v, .ref x, .ref y, .int p3]) (rest := []) (wc := [(w, .inr (0, [.ref wa0, .ref wa1, .ref wa2, .ref wa3, .int w1719, .int w1720])), (wa2, .inl (K 1, 5, .inl g1721)), (wa0, .inr (9, [.ref wa0a0, .ref wa0a1, .ref wa0a2, .ref wa0a3, .ref wa0a4, .ref wa0a5, .ref wa0a6, .ref wa0a7, .int w1723, .int w1724, .int w1725, .int w1726])), (wa0a0, .inl (K 1, 40, .inl g1727)), (wa0a1, .inl (K 1, 10, .inl g1728)), (wa0a2, .inl (K 1, 4, .inl g1729)), (wa0a3, .inl (K 1, 4, .inl g1730)), (wa0a4, .inl (K 1, 4, .inl g1731)), (wa0a5, .inl (K 1, 5, .inl g1732)), (wa0a6, .inl (K 1, 5, .inl g1733)), (wa0a7, .inl (K 1, 5, .inl g1734)), (wa1, .inr (8, [.int w1735, .int w1736, .int w1737])), (v, .inr (9, [.ref va0, .ref va1, .ref va2, .ref va3, .ref va4, .ref va5, .ref va6, .ref va7, .int vn8, .int vn9, .int vn10, .int vn11])), (va0, .inl (K 1, 40, .inl vf0)), (va1, .inl (K 1, 10, .inl vf1)), (va2, .inl (K 1, 4, .inl vf2)), (va3, .inl (K 1, 4, .inl vf3)), (va4, .inl (K 1, 4, .inl vf4)), (va5, .inl (K 1, 5, .inl vf5)), (va6, .inl (K 1, 5, .inl vf6)), (va7, .inl (K 1, 5, .inl vf7)), (x, .inr (8, [.int xn0, .int xn1, .int xn2])), (y, .inr (5, [.ref ya0, .ref ya1, .ref ya2])), (ya0, .inl (K 2, 240, .inr (.inl yf0))), (ya2, .inl (K 1, 4, .inl yf2))]) (wr := [(wa3, .inl (K 1, 5, .inl g1722))]) hC hE kV_X0_48 (c_X0_tryOrder l D K w wa0 wa1 wa2 wa3 wa0a0 wa0a1 wa0a2 wa0a3 wa0a4 wa0a5 wa0a6 wa0a7 v va0 va1 va2 va3 va4 va5 va6 va7 x y ya0 ya1 ya2 w1719 w1720 w1723 w1724 w1725 w1726 w1735 w1736 w1737 vn8 vn9 vn10 vn11 xn0 xn1 xn2 g1721 g1727 g1728 g1729 g1730 g1731 g1732 g1733 g1734 vf0 vf1 vf2 vf3 vf4 vf5 vf6 vf7 yf0 yf2 p3 hsz) hP hD hS hA [0, 1, 3, 4, 5, 6, 7, 8, 9, 10, 11, 12, 13, 14, 15, 16, 17, 18, 19, 20, 21, 22, 23, 24, 25] [2] rfl rfl rfl (by decide) (by decide) (by decide) 0 0 rfl rfl rfl hl.1 rfl (Nat.le_of_ble_eq_true rfl) (by decide) (by decide) dX0_tryAll_70 (fun r1741 u1740 H locs hw hP hD hS => ?_)
            replace hP : va_P D vwCl [(wa3, .inl (K 1, 5, .inl g1722)), (w, .inr (0, [.ref wa0, .ref wa1, .ref wa2, .ref wa3, .int w1719, .int w1720])), (wa2, .inl (K 1, 5, .inl g1721)), (wa0, .inr (9, [.ref wa0a0, .ref wa0a1, .ref wa0a2, .ref wa0a3, .ref wa0a4, .ref wa0a5, .ref wa0a6, .ref wa0a7, .int (u1740.1 0), .int (u1740.1 1), .int (u1740.1 2), .int (u1740.1 3)])), (wa0a0, .inl (K 1, 40, .inl (u1740.2.1 0))), (wa0a1, .inl (K 1, 10, .inl (u1740.2.1 1))), (wa0a2, .inl (K 1, 4, .inl (u1740.2.1 2))), (wa0a3, .inl (K 1, 4, .inl (u1740.2.1 3))), (wa0a4, .inl (K 1, 4, .inl (u1740.2.1 4))), (wa0a5, .inl (K 1, 5, .inl (u1740.2.1 5))), (wa0a6, .inl (K 1, 5, .inl (u1740.2.1 6))), (wa0a7, .inl (K 1, 5, .inl (u1740.2.1 7))), (wa1, .inr (8, [.int (u1740.1 4), .int (u1740.1 5), .int (u1740.1 6)])), (v, .inr (9, [.ref va0, .ref va1, .ref va2, .ref va3, .ref va4, .ref va5, .ref va6, .ref va7, .int vn8, .int vn9, .int vn10, .int vn11])), (va0, .inl (K 1, 40, .inl vf0)), (va1, .inl (K 1, 10, .inl vf1)), (va2, .inl (K 1, 4, .inl vf2)), (va3, .inl (K 1, 4, .inl vf3)), (va4, .inl (K 1, 4, .inl vf4)), (va5, .inl (K 1, 5, .inl vf5)), (va6, .inl (K 1, 5, .inl vf6)), (va7, .inl (K 1, 5, .inl vf7)), (x, .inr (8, [.int xn0, .int xn1, .int xn2])), (y, .inr (5, [.ref ya0, .ref ya1, .ref ya2])), (ya0, .inl (K 2, 240, .inr (.inl yf0))), (ya2, .inl (K 1, 4, .inl yf2))] H := hP
            replace hD : va_D A [(wa3, .inl (K 1, 5, .inl g1722)), (w, .inr (0, [.ref wa0, .ref wa1, .ref wa2, .ref wa3, .int w1719, .int w1720])), (wa2, .inl (K 1, 5, .inl g1721)), (wa0, .inr (9, [.ref wa0a0, .ref wa0a1, .ref wa0a2, .ref wa0a3, .ref wa0a4, .ref wa0a5, .ref wa0a6, .ref wa0a7, .int (u1740.1 0), .int (u1740.1 1), .int (u1740.1 2), .int (u1740.1 3)])), (wa0a0, .inl (K 1, 40, .inl (u1740.2.1 0))), (wa0a1, .inl (K 1, 10, .inl (u1740.2.1 1))), (wa0a2, .inl (K 1, 4, .inl (u1740.2.1 2))), (wa0a3, .inl (K 1, 4, .inl (u1740.2.1 3))), (wa0a4, .inl (K 1, 4, .inl (u1740.2.1 4))), (wa0a5, .inl (K 1, 5, .inl (u1740.2.1 5))), (wa0a6, .inl (K 1, 5, .inl (u1740.2.1 6))), (wa0a7, .inl (K 1, 5, .inl (u1740.2.1 7))), (wa1, .inr (8, [.int (u1740.1 4), .int (u1740.1 5), .int (u1740.1 6)])), (v, .inr (9, [.ref va0, .ref va1, .ref va2, .ref va3, .ref va4, .ref va5, .ref va6, .ref va7, .int vn8, .int vn9, .int vn10, .int vn11])), (va0, .inl (K 1, 40, .inl vf0)), (va1, .inl (K 1, 10, .inl vf1)), (va2, .inl (K 1, 4, .inl vf2)), (va3, .inl (K 1, 4, .inl vf3)), (va4, .inl (K 1, 4, .inl vf4)), (va5, .inl (K 1, 5, .inl vf5)), (va6, .inl (K 1, 5, .inl vf6)), (va7, .inl (K 1, 5, .inl vf7)), (x, .inr (8, [.int xn0, .int xn1, .int xn2])), (y, .inr (5, [.ref ya0, .ref ya1, .ref ya2])), (ya0, .inl (K 2, 240, .inr (.inl yf0))), (ya2, .inl (K 1, 4, .inl yf2))] := hD
            replace hP : va_P D vwCl [(w, .inr (0, [.ref wa0, .ref wa1, .ref wa2, .ref wa3, .int w1719, .int w1720])), (wa2, .inl (K 1, 5, .inl g1721)), (wa3, .inl (K 1, 5, .inl g1722)), (wa0, .inr (9, [.ref wa0a0, .ref wa0a1, .ref wa0a2, .ref wa0a3, .ref wa0a4, .ref wa0a5, .ref wa0a6, .ref wa0a7, .int (u1740.1 0), .int (u1740.1 1), .int (u1740.1 2), .int (u1740.1 3)])), (wa0a0, .inl (K 1, 40, .inl (u1740.2.1 0))), (wa0a1, .inl (K 1, 10, .inl (u1740.2.1 1))), (wa0a2, .inl (K 1, 4, .inl (u1740.2.1 2))), (wa0a3, .inl (K 1, 4, .inl (u1740.2.1 3))), (wa0a4, .inl (K 1, 4, .inl (u1740.2.1 4))), (wa0a5, .inl (K 1, 5, .inl (u1740.2.1 5))), (wa0a6, .inl (K 1, 5, .inl (u1740.2.1 6))), (wa0a7, .inl (K 1, 5, .inl (u1740.2.1 7))), (wa1, .inr (8, [.int (u1740.1 4), .int (u1740.1 5), .int (u1740.1 6)])), (v, .inr (9, [.ref va0, .ref va1, .ref va2, .ref va3, .ref va4, .ref va5, .ref va6, .ref va7, .int vn8, .int vn9, .int vn10, .int vn11])), (va0, .inl (K 1, 40, .inl vf0)), (va1, .inl (K 1, 10, .inl vf1)), (va2, .inl (K 1, 4, .inl vf2)), (va3, .inl (K 1, 4, .inl vf3)), (va4, .inl (K 1, 4, .inl vf4)), (va5, .inl (K 1, 5, .inl vf5)), (va6, .inl (K 1, 5, .inl vf6)), (va7, .inl (K 1, 5, .inl vf7)), (x, .inr (8, [.int xn0, .int xn1, .int xn2])), (y, .inr (5, [.ref ya0, .ref ya1, .ref ya2])), (ya0, .inl (K 2, 240, .inr (.inl yf0))), (ya2, .inl (K 1, 4, .inl yf2))] H := hP.sub [1, 2, 0, 3, 4, 5, 6, 7, 8, 9, 10, 11, 12, 13, 14, 15, 16, 17, 18, 19, 20, 21, 22, 23, 24, 25] rfl
            replace hD : va_D A [(w, .inr (0, [.ref wa0, .ref wa1, .ref wa2, .ref wa3, .int w1719, .int w1720])), (wa2, .inl (K 1, 5, .inl g1721)), (wa3, .inl (K 1, 5, .inl g1722)), (wa0, .inr (9, [.ref wa0a0, .ref wa0a1, .ref wa0a2, .ref wa0a3, .ref wa0a4, .ref wa0a5, .ref wa0a6, .ref wa0a7, .int (u1740.1 0), .int (u1740.1 1), .int (u1740.1 2), .int (u1740.1 3)])), (wa0a0, .inl (K 1, 40, .inl (u1740.2.1 0))), (wa0a1, .inl (K 1, 10, .inl (u1740.2.1 1))), (wa0a2, .inl (K 1, 4, .inl (u1740.2.1 2))), (wa0a3, .inl (K 1, 4, .inl (u1740.2.1 3))), (wa0a4, .inl (K 1, 4, .inl (u1740.2.1 4))), (wa0a5, .inl (K 1, 5, .inl (u1740.2.1 5))), (wa0a6, .inl (K 1, 5, .inl (u1740.2.1 6))), (wa0a7, .inl (K 1, 5, .inl (u1740.2.1 7))), (wa1, .inr (8, [.int (u1740.1 4), .int (u1740.1 5), .int (u1740.1 6)])), (v, .inr (9, [.ref va0, .ref va1, .ref va2, .ref va3, .ref va4, .ref va5, .ref va6, .ref va7, .int vn8, .int vn9, .int vn10, .int vn11])), (va0, .inl (K 1, 40, .inl vf0)), (va1, .inl (K 1, 10, .inl vf1)), (va2, .inl (K 1, 4, .inl vf2)), (va3, .inl (K 1, 4, .inl vf3)), (va4, .inl (K 1, 4, .inl vf4)), (va5, .inl (K 1, 5, .inl vf5)), (va6, .inl (K 1, 5, .inl vf6)), (va7, .inl (K 1, 5, .inl vf7)), (x, .inr (8, [.int xn0, .int xn1, .int xn2])), (y, .inr (5, [.ref ya0, .ref ya1, .ref ya2])), (ya0, .inl (K 2, 240, .inr (.inl yf0))), (ya2, .inl (K 1, 4, .inl yf2))] := hD.sub [1, 2, 0, 3, 4, 5, 6, 7, 8, 9, 10, 11, 12, 13, 14, 15, 16, 17, 18, 19, 20, 21, 22, 23, 24, 25] (by decide) rfl
            refine W.widen (k := 0) (n := 0) (by decide) (by decide) ?_
            refine lv_istore (lv' := [(8, .int r1741), (7, .int i1717), (6, .int i1718), (5, .int v1691), (0, .ref w), (1, .ref v), (2, .ref x), (3, .ref y), (4, .int p3)]) hx hb dX0_tryAll_73 hl (by decide) rfl (fun ls hl => ?_)
            refine lv_iload hx hb dX0_tryAll_75 (lv_at hl 0 rfl) ?_
            refine lv_aload_n hx hb dX0_tryAll_77 rfl (lv_at hl 4 rfl) ?_
            refine va_get (D := D) (ci := 0) (v := .int w1719) (C := RX0) (T := TX0) (N := 6) hx hb hts in_X0 hown hE.1 hP 0 rfl rfl 4 (by decide) (hts _ w_252) (fun _ h9 => h9) rfl dX0_tryAll_78 ?_
            refine lv_icmp_le (tgt := 108) hx hb dX0_tryAll_81 (by decide) (fun c1742 => ?_) (fun c1742 => ?_)
            · replace c1742 := le_i c1742
              refine lv_aload_n hx hb dX0_tryAll_108 rfl (lv_at hl 4 rfl) ?_
              refine lv_aload_n hx hb dX0_tryAll_109 rfl (lv_at hl 4 rfl) ?_
              refine va_get (D := D) (ci := 0) (v := .int w1720) (C := RX0) (T := TX0) (N := 6) hx hb hts in_X0 hown hE.1 hP 0 rfl rfl 5 (by decide) (hts _ w_253) (fun _ h9 => h9) rfl dX0_tryAll_110 ?_
              refine lv_iload hx hb dX0_tryAll_113 (lv_at hl 0 rfl) ?_
              refine va_mmin hx hb (hml.trans hl.1.symm) hown (hts _ w_251) (hts _ w_142) (hts _ w_143) (hts _ w_144) (by decide) (Nat.le_of_ble_eq_true rfl) (by decide) (by decide) dX0_tryAll_115 ?_
              refine lv_topi (fun v1743 ev1743 => ?_)
              have tv1743 := min_i ev1743
              refine va_put (D := D) (ci := 0) (v := .int v1743) (ty := .int) (C := RX0) (T := TX0) (N := 6) hx hb hts in_X0 tyX0 tyX0_ok nmX0 hown hE.1 hP hD hS 0 rfl rfl 5 (by decide) (hts _ w_253) (fun _ h9 => h9) rfl (by decide +kernel) rfl rfl (Nat.le_of_ble_eq_true rfl) dX0_tryAll_118 (fun H locs hP hD hS => ?_)
              replace hP : va_P D vwCl [(w, .inr (0, [.ref wa0, .ref wa1, .ref wa2, .ref wa3, .int w1719, .int v1743])), (wa2, .inl (K 1, 5, .inl g1721)), (wa3, .inl (K 1, 5, .inl g1722)), (wa0, .inr (9, [.ref wa0a0, .ref wa0a1, .ref wa0a2, .ref wa0a3, .ref wa0a4, .ref wa0a5, .ref wa0a6, .ref wa0a7, .int (u1740.1 0), .int (u1740.1 1), .int (u1740.1 2), .int (u1740.1 3)])), (wa0a0, .inl (K 1, 40, .inl (u1740.2.1 0))), (wa0a1, .inl (K 1, 10, .inl (u1740.2.1 1))), (wa0a2, .inl (K 1, 4, .inl (u1740.2.1 2))), (wa0a3, .inl (K 1, 4, .inl (u1740.2.1 3))), (wa0a4, .inl (K 1, 4, .inl (u1740.2.1 4))), (wa0a5, .inl (K 1, 5, .inl (u1740.2.1 5))), (wa0a6, .inl (K 1, 5, .inl (u1740.2.1 6))), (wa0a7, .inl (K 1, 5, .inl (u1740.2.1 7))), (wa1, .inr (8, [.int (u1740.1 4), .int (u1740.1 5), .int (u1740.1 6)])), (v, .inr (9, [.ref va0, .ref va1, .ref va2, .ref va3, .ref va4, .ref va5, .ref va6, .ref va7, .int vn8, .int vn9, .int vn10, .int vn11])), (va0, .inl (K 1, 40, .inl vf0)), (va1, .inl (K 1, 10, .inl vf1)), (va2, .inl (K 1, 4, .inl vf2)), (va3, .inl (K 1, 4, .inl vf3)), (va4, .inl (K 1, 4, .inl vf4)), (va5, .inl (K 1, 5, .inl vf5)), (va6, .inl (K 1, 5, .inl vf6)), (va7, .inl (K 1, 5, .inl vf7)), (x, .inr (8, [.int xn0, .int xn1, .int xn2])), (y, .inr (5, [.ref ya0, .ref ya1, .ref ya2])), (ya0, .inl (K 2, 240, .inr (.inl yf0))), (ya2, .inl (K 1, 4, .inl yf2))] H := hP
              replace hD : va_D A [(w, .inr (0, [.ref wa0, .ref wa1, .ref wa2, .ref wa3, .int w1719, .int v1743])), (wa2, .inl (K 1, 5, .inl g1721)), (wa3, .inl (K 1, 5, .inl g1722)), (wa0, .inr (9, [.ref wa0a0, .ref wa0a1, .ref wa0a2, .ref wa0a3, .ref wa0a4, .ref wa0a5, .ref wa0a6, .ref wa0a7, .int (u1740.1 0), .int (u1740.1 1), .int (u1740.1 2), .int (u1740.1 3)])), (wa0a0, .inl (K 1, 40, .inl (u1740.2.1 0))), (wa0a1, .inl (K 1, 10, .inl (u1740.2.1 1))), (wa0a2, .inl (K 1, 4, .inl (u1740.2.1 2))), (wa0a3, .inl (K 1, 4, .inl (u1740.2.1 3))), (wa0a4, .inl (K 1, 4, .inl (u1740.2.1 4))), (wa0a5, .inl (K 1, 5, .inl (u1740.2.1 5))), (wa0a6, .inl (K 1, 5, .inl (u1740.2.1 6))), (wa0a7, .inl (K 1, 5, .inl (u1740.2.1 7))), (wa1, .inr (8, [.int (u1740.1 4), .int (u1740.1 5), .int (u1740.1 6)])), (v, .inr (9, [.ref va0, .ref va1, .ref va2, .ref va3, .ref va4, .ref va5, .ref va6, .ref va7, .int vn8, .int vn9, .int vn10, .int vn11])), (va0, .inl (K 1, 40, .inl vf0)), (va1, .inl (K 1, 10, .inl vf1)), (va2, .inl (K 1, 4, .inl vf2)), (va3, .inl (K 1, 4, .inl vf3)), (va4, .inl (K 1, 4, .inl vf4)), (va5, .inl (K 1, 5, .inl vf5)), (va6, .inl (K 1, 5, .inl vf6)), (va7, .inl (K 1, 5, .inl vf7)), (x, .inr (8, [.int xn0, .int xn1, .int xn2])), (y, .inr (5, [.ref ya0, .ref ya1, .ref ya2])), (ya0, .inl (K 2, 240, .inr (.inl yf0))), (ya2, .inl (K 1, 4, .inl yf2))] := hD
              refine lv_aload_n hx hb dX0_tryAll_121 rfl (lv_at hl 4 rfl) ?_
              refine lv_iload hx hb dX0_tryAll_122 (lv_at hl 3 rfl) ?_
              refine ci_V (As := [.int v1691]) (rest := []) (wc := [(w, .inr (0, [.ref wa0, .ref wa1, .ref wa2, .ref wa3, .int w1719, .int v1743])), (wa2, .inl (K 1, 5, .inl g1721))]) (wr := [(wa3, .inl (K 1, 5, .inl g1722)), (wa0, .inr (9, [.ref wa0a0, .ref wa0a1, .ref wa0a2, .ref wa0a3, .ref wa0a4, .ref wa0a5, .ref wa0a6, .ref wa0a7, .int (u1740.1 0), .int (u1740.1 1), .int (u1740.1 2), .int (u1740.1 3)])), (wa0a0, .inl (K 1, 40, .inl (u1740.2.1 0))), (wa0a1, .inl (K 1, 10, .inl (u1740.2.1 1))), (wa0a2, .inl (K 1, 4, .inl (u1740.2.1 2))), (wa0a3, .inl (K 1, 4, .inl (u1740.2.1 3))), (wa0a4, .inl (K 1, 4, .inl (u1740.2.1 4))), (wa0a5, .inl (K 1, 5, .inl (u1740.2.1 5))), (wa0a6, .inl (K 1, 5, .inl (u1740.2.1 6))), (wa0a7, .inl (K 1, 5, .inl (u1740.2.1 7))), (wa1, .inr (8, [.int (u1740.1 4), .int (u1740.1 5), .int (u1740.1 6)])), (v, .inr (9, [.ref va0, .ref va1, .ref va2, .ref va3, .ref va4, .ref va5, .ref va6, .ref va7, .int vn8, .int vn9, .int vn10, .int vn11])), (va0, .inl (K 1, 40, .inl vf0)), (va1, .inl (K 1, 10, .inl vf1)), (va2, .inl (K 1, 4, .inl vf2)), (va3, .inl (K 1, 4, .inl vf3)), (va4, .inl (K 1, 4, .inl vf4)), (va5, .inl (K 1, 5, .inl vf5)), (va6, .inl (K 1, 5, .inl vf6)), (va7, .inl (K 1, 5, .inl vf7)), (x, .inr (8, [.int xn0, .int xn1, .int xn2])), (y, .inr (5, [.ref ya0, .ref ya1, .ref ya2])), (ya0, .inl (K 2, 240, .inr (.inl yf0))), (ya2, .inl (K 1, 4, .inl yf2))]) hC hE kV_X0_58 (c_X0_nextOrder l D K w wa0 wa1 wa2 wa3 w1719 v1743 g1721 v1691 (by omega) (by omega)) hP hD hS hA [0, 1] [2, 3, 4, 5, 6, 7, 8, 9, 10, 11, 12, 13, 14, 15, 16, 17, 18, 19, 20, 21, 22, 23, 24, 25] rfl rfl rfl (by decide) (by decide) (by decide) 0 0 rfl rfl rfl hl.1 rfl (Nat.le_of_ble_eq_true rfl) (by decide) (by decide) dX0_tryAll_124 (fun r1745 u1744 H locs hw hP hD hS => ?_)
              replace hP : va_P D vwCl [(wa3, .inl (K 1, 5, .inl g1722)), (wa0, .inr (9, [.ref wa0a0, .ref wa0a1, .ref wa0a2, .ref wa0a3, .ref wa0a4, .ref wa0a5, .ref wa0a6, .ref wa0a7, .int (u1740.1 0), .int (u1740.1 1), .int (u1740.1 2), .int (u1740.1 3)])), (wa0a0, .inl (K 1, 40, .inl (u1740.2.1 0))), (wa0a1, .inl (K 1, 10, .inl (u1740.2.1 1))), (wa0a2, .inl (K 1, 4, .inl (u1740.2.1 2))), (wa0a3, .inl (K 1, 4, .inl (u1740.2.1 3))), (wa0a4, .inl (K 1, 4, .inl (u1740.2.1 4))), (wa0a5, .inl (K 1, 5, .inl (u1740.2.1 5))), (wa0a6, .inl (K 1, 5, .inl (u1740.2.1 6))), (wa0a7, .inl (K 1, 5, .inl (u1740.2.1 7))), (wa1, .inr (8, [.int (u1740.1 4), .int (u1740.1 5), .int (u1740.1 6)])), (v, .inr (9, [.ref va0, .ref va1, .ref va2, .ref va3, .ref va4, .ref va5, .ref va6, .ref va7, .int vn8, .int vn9, .int vn10, .int vn11])), (va0, .inl (K 1, 40, .inl vf0)), (va1, .inl (K 1, 10, .inl vf1)), (va2, .inl (K 1, 4, .inl vf2)), (va3, .inl (K 1, 4, .inl vf3)), (va4, .inl (K 1, 4, .inl vf4)), (va5, .inl (K 1, 5, .inl vf5)), (va6, .inl (K 1, 5, .inl vf6)), (va7, .inl (K 1, 5, .inl vf7)), (x, .inr (8, [.int xn0, .int xn1, .int xn2])), (y, .inr (5, [.ref ya0, .ref ya1, .ref ya2])), (ya0, .inl (K 2, 240, .inr (.inl yf0))), (ya2, .inl (K 1, 4, .inl yf2)), (w, .inr (0, [.ref wa0, .ref wa1, .ref wa2, .ref wa3, .int w1719, .int v1743])), (wa2, .inl (K 1, 5, .inl (u1744.2.1 0)))] H := hP
              replace hD : va_D A [(wa3, .inl (K 1, 5, .inl g1722)), (wa0, .inr (9, [.ref wa0a0, .ref wa0a1, .ref wa0a2, .ref wa0a3, .ref wa0a4, .ref wa0a5, .ref wa0a6, .ref wa0a7, .int (u1740.1 0), .int (u1740.1 1), .int (u1740.1 2), .int (u1740.1 3)])), (wa0a0, .inl (K 1, 40, .inl (u1740.2.1 0))), (wa0a1, .inl (K 1, 10, .inl (u1740.2.1 1))), (wa0a2, .inl (K 1, 4, .inl (u1740.2.1 2))), (wa0a3, .inl (K 1, 4, .inl (u1740.2.1 3))), (wa0a4, .inl (K 1, 4, .inl (u1740.2.1 4))), (wa0a5, .inl (K 1, 5, .inl (u1740.2.1 5))), (wa0a6, .inl (K 1, 5, .inl (u1740.2.1 6))), (wa0a7, .inl (K 1, 5, .inl (u1740.2.1 7))), (wa1, .inr (8, [.int (u1740.1 4), .int (u1740.1 5), .int (u1740.1 6)])), (v, .inr (9, [.ref va0, .ref va1, .ref va2, .ref va3, .ref va4, .ref va5, .ref va6, .ref va7, .int vn8, .int vn9, .int vn10, .int vn11])), (va0, .inl (K 1, 40, .inl vf0)), (va1, .inl (K 1, 10, .inl vf1)), (va2, .inl (K 1, 4, .inl vf2)), (va3, .inl (K 1, 4, .inl vf3)), (va4, .inl (K 1, 4, .inl vf4)), (va5, .inl (K 1, 5, .inl vf5)), (va6, .inl (K 1, 5, .inl vf6)), (va7, .inl (K 1, 5, .inl vf7)), (x, .inr (8, [.int xn0, .int xn1, .int xn2])), (y, .inr (5, [.ref ya0, .ref ya1, .ref ya2])), (ya0, .inl (K 2, 240, .inr (.inl yf0))), (ya2, .inl (K 1, 4, .inl yf2)), (w, .inr (0, [.ref wa0, .ref wa1, .ref wa2, .ref wa3, .int w1719, .int v1743])), (wa2, .inl (K 1, 5, .inl (u1744.2.1 0)))] := hD
              replace hP : va_P D vwCl [(w, .inr (0, [.ref wa0, .ref wa1, .ref wa2, .ref wa3, .int w1719, .int v1743])), (wa2, .inl (K 1, 5, .inl (u1744.2.1 0))), (wa3, .inl (K 1, 5, .inl g1722)), (wa0, .inr (9, [.ref wa0a0, .ref wa0a1, .ref wa0a2, .ref wa0a3, .ref wa0a4, .ref wa0a5, .ref wa0a6, .ref wa0a7, .int (u1740.1 0), .int (u1740.1 1), .int (u1740.1 2), .int (u1740.1 3)])), (wa0a0, .inl (K 1, 40, .inl (u1740.2.1 0))), (wa0a1, .inl (K 1, 10, .inl (u1740.2.1 1))), (wa0a2, .inl (K 1, 4, .inl (u1740.2.1 2))), (wa0a3, .inl (K 1, 4, .inl (u1740.2.1 3))), (wa0a4, .inl (K 1, 4, .inl (u1740.2.1 4))), (wa0a5, .inl (K 1, 5, .inl (u1740.2.1 5))), (wa0a6, .inl (K 1, 5, .inl (u1740.2.1 6))), (wa0a7, .inl (K 1, 5, .inl (u1740.2.1 7))), (wa1, .inr (8, [.int (u1740.1 4), .int (u1740.1 5), .int (u1740.1 6)])), (v, .inr (9, [.ref va0, .ref va1, .ref va2, .ref va3, .ref va4, .ref va5, .ref va6, .ref va7, .int vn8, .int vn9, .int vn10, .int vn11])), (va0, .inl (K 1, 40, .inl vf0)), (va1, .inl (K 1, 10, .inl vf1)), (va2, .inl (K 1, 4, .inl vf2)), (va3, .inl (K 1, 4, .inl vf3)), (va4, .inl (K 1, 4, .inl vf4)), (va5, .inl (K 1, 5, .inl vf5)), (va6, .inl (K 1, 5, .inl vf6)), (va7, .inl (K 1, 5, .inl vf7)), (x, .inr (8, [.int xn0, .int xn1, .int xn2])), (y, .inr (5, [.ref ya0, .ref ya1, .ref ya2])), (ya0, .inl (K 2, 240, .inr (.inl yf0))), (ya2, .inl (K 1, 4, .inl yf2))] H := hP.sub [24, 25, 0, 1, 2, 3, 4, 5, 6, 7, 8, 9, 10, 11, 12, 13, 14, 15, 16, 17, 18, 19, 20, 21, 22, 23] rfl
              replace hD : va_D A [(w, .inr (0, [.ref wa0, .ref wa1, .ref wa2, .ref wa3, .int w1719, .int v1743])), (wa2, .inl (K 1, 5, .inl (u1744.2.1 0))), (wa3, .inl (K 1, 5, .inl g1722)), (wa0, .inr (9, [.ref wa0a0, .ref wa0a1, .ref wa0a2, .ref wa0a3, .ref wa0a4, .ref wa0a5, .ref wa0a6, .ref wa0a7, .int (u1740.1 0), .int (u1740.1 1), .int (u1740.1 2), .int (u1740.1 3)])), (wa0a0, .inl (K 1, 40, .inl (u1740.2.1 0))), (wa0a1, .inl (K 1, 10, .inl (u1740.2.1 1))), (wa0a2, .inl (K 1, 4, .inl (u1740.2.1 2))), (wa0a3, .inl (K 1, 4, .inl (u1740.2.1 3))), (wa0a4, .inl (K 1, 4, .inl (u1740.2.1 4))), (wa0a5, .inl (K 1, 5, .inl (u1740.2.1 5))), (wa0a6, .inl (K 1, 5, .inl (u1740.2.1 6))), (wa0a7, .inl (K 1, 5, .inl (u1740.2.1 7))), (wa1, .inr (8, [.int (u1740.1 4), .int (u1740.1 5), .int (u1740.1 6)])), (v, .inr (9, [.ref va0, .ref va1, .ref va2, .ref va3, .ref va4, .ref va5, .ref va6, .ref va7, .int vn8, .int vn9, .int vn10, .int vn11])), (va0, .inl (K 1, 40, .inl vf0)), (va1, .inl (K 1, 10, .inl vf1)), (va2, .inl (K 1, 4, .inl vf2)), (va3, .inl (K 1, 4, .inl vf3)), (va4, .inl (K 1, 4, .inl vf4)), (va5, .inl (K 1, 5, .inl vf5)), (va6, .inl (K 1, 5, .inl vf6)), (va7, .inl (K 1, 5, .inl vf7)), (x, .inr (8, [.int xn0, .int xn1, .int xn2])), (y, .inr (5, [.ref ya0, .ref ya1, .ref ya2])), (ya0, .inl (K 2, 240, .inr (.inl yf0))), (ya2, .inl (K 1, 4, .inl yf2))] := hD.sub [24, 25, 0, 1, 2, 3, 4, 5, 6, 7, 8, 9, 10, 11, 12, 13, 14, 15, 16, 17, 18, 19, 20, 21, 22, 23] (by decide) rfl
              refine W.widen (k := 0) (n := 0) (by decide) (by decide) ?_
              rcases hw with rfl | rfl
              · refine lv_istore (lv' := [(6, .int 0), (8, .int r1741), (7, .int i1717), (5, .int v1691), (0, .ref w), (1, .ref v), (2, .ref x), (3, .ref y), (4, .int p3)]) hx hb dX0_tryAll_127 hl (by decide) rfl (fun ls hl => ?_)
                obtain ⟨v1746, ev1746⟩ : ∃ z : Int32, z = i1717 + 1 := ⟨_, rfl⟩
                refine lv_iinc (v := v1746) (lv' := [(7, .int v1746), (6, .int 0), (8, .int r1741), (5, .int v1691), (0, .ref w), (1, .ref v), (2, .ref x), (3, .ref y), (4, .int p3)]) hx hb dX0_tryAll_129 hl (k := 2) rfl (by rw [ev1746]; rfl) (by decide) rfl (fun ls hl => ?_)
                refine lv_goto (tgt := 51) hx hb dX0_tryAll_132 (by decide) ?_
                have tv1746 : v1746.toInt = (i1717 : Int32).toInt + (1 : Int32).toInt := add_i ev1746 (by omega) (by omega)
                exact ih_51 (i1717 := v1746) (i1718 := 0) (w1719 := w1719) (w1720 := v1743) (g1721 := (u1744.2.1 0)) (g1722 := g1722) (w1723 := (u1740.1 0)) (w1724 := (u1740.1 1)) (w1725 := (u1740.1 2)) (w1726 := (u1740.1 3)) (g1727 := (u1740.2.1 0)) (g1728 := (u1740.2.1 1)) (g1729 := (u1740.2.1 2)) (g1730 := (u1740.2.1 3)) (g1731 := (u1740.2.1 4)) (g1732 := (u1740.2.1 5)) (g1733 := (u1740.2.1 6)) (g1734 := (u1740.2.1 7)) (w1735 := (u1740.1 4)) (w1736 := (u1740.1 5)) (w1737 := (u1740.1 6)) (hi_51 := by omega) (H := H) (locs := locs) (ls := ls) (hn_51 := by omega) (hP := hP) (hD := hD) (hS := hS) (hl := lv_sub hl [0, 1, 3, 4, 5, 6, 7, 8] rfl)
              · refine lv_istore (lv' := [(6, .int 1), (8, .int r1741), (7, .int i1717), (5, .int v1691), (0, .ref w), (1, .ref v), (2, .ref x), (3, .ref y), (4, .int p3)]) hx hb dX0_tryAll_127 hl (by decide) rfl (fun ls hl => ?_)
                obtain ⟨v1747, ev1747⟩ : ∃ z : Int32, z = i1717 + 1 := ⟨_, rfl⟩
                refine lv_iinc (v := v1747) (lv' := [(7, .int v1747), (6, .int 1), (8, .int r1741), (5, .int v1691), (0, .ref w), (1, .ref v), (2, .ref x), (3, .ref y), (4, .int p3)]) hx hb dX0_tryAll_129 hl (k := 2) rfl (by rw [ev1747]; rfl) (by decide) rfl (fun ls hl => ?_)
                refine lv_goto (tgt := 51) hx hb dX0_tryAll_132 (by decide) ?_
                have tv1747 : v1747.toInt = (i1717 : Int32).toInt + (1 : Int32).toInt := add_i ev1747 (by omega) (by omega)
                exact ih_51 (i1717 := v1747) (i1718 := 1) (w1719 := w1719) (w1720 := v1743) (g1721 := (u1744.2.1 0)) (g1722 := g1722) (w1723 := (u1740.1 0)) (w1724 := (u1740.1 1)) (w1725 := (u1740.1 2)) (w1726 := (u1740.1 3)) (g1727 := (u1740.2.1 0)) (g1728 := (u1740.2.1 1)) (g1729 := (u1740.2.1 2)) (g1730 := (u1740.2.1 3)) (g1731 := (u1740.2.1 4)) (g1732 := (u1740.2.1 5)) (g1733 := (u1740.2.1 6)) (g1734 := (u1740.2.1 7)) (w1735 := (u1740.1 4)) (w1736 := (u1740.1 5)) (w1737 := (u1740.1 6)) (hi_51 := by omega) (H := H) (locs := locs) (ls := ls) (hn_51 := by omega) (hP := hP) (hD := hD) (hS := hS) (hl := lv_sub hl [0, 1, 3, 4, 5, 6, 7, 8] rfl)
            · replace c1742 := nle_i c1742
              refine lv_aload_n hx hb dX0_tryAll_84 rfl (lv_at hl 4 rfl) ?_
              refine lv_iload hx hb dX0_tryAll_85 (lv_at hl 0 rfl) ?_
              refine va_put (D := D) (ci := 0) (v := .int r1741) (ty := .int) (C := RX0) (T := TX0) (N := 6) hx hb hts in_X0 tyX0 tyX0_ok nmX0 hown hE.1 hP hD hS 0 rfl rfl 4 (by decide) (hts _ w_252) (fun _ h9 => h9) rfl (by decide +kernel) rfl rfl (Nat.le_of_ble_eq_true rfl) dX0_tryAll_87 (fun H locs hP hD hS => ?_)
              replace hP : va_P D vwCl [(w, .inr (0, [.ref wa0, .ref wa1, .ref wa2, .ref wa3, .int r1741, .int w1720])), (wa2, .inl (K 1, 5, .inl g1721)), (wa3, .inl (K 1, 5, .inl g1722)), (wa0, .inr (9, [.ref wa0a0, .ref wa0a1, .ref wa0a2, .ref wa0a3, .ref wa0a4, .ref wa0a5, .ref wa0a6, .ref wa0a7, .int (u1740.1 0), .int (u1740.1 1), .int (u1740.1 2), .int (u1740.1 3)])), (wa0a0, .inl (K 1, 40, .inl (u1740.2.1 0))), (wa0a1, .inl (K 1, 10, .inl (u1740.2.1 1))), (wa0a2, .inl (K 1, 4, .inl (u1740.2.1 2))), (wa0a3, .inl (K 1, 4, .inl (u1740.2.1 3))), (wa0a4, .inl (K 1, 4, .inl (u1740.2.1 4))), (wa0a5, .inl (K 1, 5, .inl (u1740.2.1 5))), (wa0a6, .inl (K 1, 5, .inl (u1740.2.1 6))), (wa0a7, .inl (K 1, 5, .inl (u1740.2.1 7))), (wa1, .inr (8, [.int (u1740.1 4), .int (u1740.1 5), .int (u1740.1 6)])), (v, .inr (9, [.ref va0, .ref va1, .ref va2, .ref va3, .ref va4, .ref va5, .ref va6, .ref va7, .int vn8, .int vn9, .int vn10, .int vn11])), (va0, .inl (K 1, 40, .inl vf0)), (va1, .inl (K 1, 10, .inl vf1)), (va2, .inl (K 1, 4, .inl vf2)), (va3, .inl (K 1, 4, .inl vf3)), (va4, .inl (K 1, 4, .inl vf4)), (va5, .inl (K 1, 5, .inl vf5)), (va6, .inl (K 1, 5, .inl vf6)), (va7, .inl (K 1, 5, .inl vf7)), (x, .inr (8, [.int xn0, .int xn1, .int xn2])), (y, .inr (5, [.ref ya0, .ref ya1, .ref ya2])), (ya0, .inl (K 2, 240, .inr (.inl yf0))), (ya2, .inl (K 1, 4, .inl yf2))] H := hP
              replace hD : va_D A [(w, .inr (0, [.ref wa0, .ref wa1, .ref wa2, .ref wa3, .int r1741, .int w1720])), (wa2, .inl (K 1, 5, .inl g1721)), (wa3, .inl (K 1, 5, .inl g1722)), (wa0, .inr (9, [.ref wa0a0, .ref wa0a1, .ref wa0a2, .ref wa0a3, .ref wa0a4, .ref wa0a5, .ref wa0a6, .ref wa0a7, .int (u1740.1 0), .int (u1740.1 1), .int (u1740.1 2), .int (u1740.1 3)])), (wa0a0, .inl (K 1, 40, .inl (u1740.2.1 0))), (wa0a1, .inl (K 1, 10, .inl (u1740.2.1 1))), (wa0a2, .inl (K 1, 4, .inl (u1740.2.1 2))), (wa0a3, .inl (K 1, 4, .inl (u1740.2.1 3))), (wa0a4, .inl (K 1, 4, .inl (u1740.2.1 4))), (wa0a5, .inl (K 1, 5, .inl (u1740.2.1 5))), (wa0a6, .inl (K 1, 5, .inl (u1740.2.1 6))), (wa0a7, .inl (K 1, 5, .inl (u1740.2.1 7))), (wa1, .inr (8, [.int (u1740.1 4), .int (u1740.1 5), .int (u1740.1 6)])), (v, .inr (9, [.ref va0, .ref va1, .ref va2, .ref va3, .ref va4, .ref va5, .ref va6, .ref va7, .int vn8, .int vn9, .int vn10, .int vn11])), (va0, .inl (K 1, 40, .inl vf0)), (va1, .inl (K 1, 10, .inl vf1)), (va2, .inl (K 1, 4, .inl vf2)), (va3, .inl (K 1, 4, .inl vf3)), (va4, .inl (K 1, 4, .inl vf4)), (va5, .inl (K 1, 5, .inl vf5)), (va6, .inl (K 1, 5, .inl vf6)), (va7, .inl (K 1, 5, .inl vf7)), (x, .inr (8, [.int xn0, .int xn1, .int xn2])), (y, .inr (5, [.ref ya0, .ref ya1, .ref ya2])), (ya0, .inl (K 2, 240, .inr (.inl yf0))), (ya2, .inl (K 1, 4, .inl yf2))] := hD
              refine lv_aload_n hx hb dX0_tryAll_90 rfl (lv_at hl 4 rfl) ?_
              refine va_get (D := D) (ci := 0) (v := .ref wa2) (C := RX0) (T := TX0) (N := 6) hx hb hts in_X0 hown hE.1 hP 0 rfl rfl 2 (by decide) (hts _ w_202) (fun _ h9 => h9) rfl dX0_tryAll_91 ?_
              refine lv_iconst (v := 0) hx hb dX0_tryAll_94 (by decide) ?_
              refine lv_aload_n hx hb dX0_tryAll_95 rfl (lv_at hl 4 rfl) ?_
              refine va_get (D := D) (ci := 0) (v := .ref wa3) (C := RX0) (T := TX0) (N := 6) hx hb hts in_X0 hown hE.1 hP 0 rfl rfl 3 (by decide) (hts _ w_254) (fun _ h9 => h9) rfl dX0_tryAll_96 ?_
              refine lv_iconst (v := 0) hx hb dX0_tryAll_99 (by decide) ?_
              refine lv_aload_n hx hb dX0_tryAll_100 rfl (lv_at hl 4 rfl) ?_
              refine va_get (D := D) (ci := 0) (v := .ref wa3) (C := RX0) (T := TX0) (N := 6) hx hb hts in_X0 hown hE.1 hP 0 rfl rfl 3 (by decide) (hts _ w_254) (fun _ h9 => h9) rfl dX0_tryAll_101 ?_
              refine va_alen (v := 5) hx hb hE.1 hP 2 1 rfl rfl (show Int32.ofNat 5 = 5 by decide) dX0_tryAll_104 ?_
              refine cpi hC hE hl.1 w_255 w_81 w_82 w_83 hP hD hS 1 2 rfl rfl (by decide) (by decide) (by decide) (by decide) (by decide) (by decide) (Nat.le_of_ble_eq_true rfl) dX0_tryAll_105 (fun g1748 H locs hP hD hS => ?_)
              replace hP : va_P D vwCl [(w, .inr (0, [.ref wa0, .ref wa1, .ref wa2, .ref wa3, .int r1741, .int w1720])), (wa2, .inl (K 1, 5, .inl g1721)), (wa3, .inl (K 1, 5, .inl g1748)), (wa0, .inr (9, [.ref wa0a0, .ref wa0a1, .ref wa0a2, .ref wa0a3, .ref wa0a4, .ref wa0a5, .ref wa0a6, .ref wa0a7, .int (u1740.1 0), .int (u1740.1 1), .int (u1740.1 2), .int (u1740.1 3)])), (wa0a0, .inl (K 1, 40, .inl (u1740.2.1 0))), (wa0a1, .inl (K 1, 10, .inl (u1740.2.1 1))), (wa0a2, .inl (K 1, 4, .inl (u1740.2.1 2))), (wa0a3, .inl (K 1, 4, .inl (u1740.2.1 3))), (wa0a4, .inl (K 1, 4, .inl (u1740.2.1 4))), (wa0a5, .inl (K 1, 5, .inl (u1740.2.1 5))), (wa0a6, .inl (K 1, 5, .inl (u1740.2.1 6))), (wa0a7, .inl (K 1, 5, .inl (u1740.2.1 7))), (wa1, .inr (8, [.int (u1740.1 4), .int (u1740.1 5), .int (u1740.1 6)])), (v, .inr (9, [.ref va0, .ref va1, .ref va2, .ref va3, .ref va4, .ref va5, .ref va6, .ref va7, .int vn8, .int vn9, .int vn10, .int vn11])), (va0, .inl (K 1, 40, .inl vf0)), (va1, .inl (K 1, 10, .inl vf1)), (va2, .inl (K 1, 4, .inl vf2)), (va3, .inl (K 1, 4, .inl vf3)), (va4, .inl (K 1, 4, .inl vf4)), (va5, .inl (K 1, 5, .inl vf5)), (va6, .inl (K 1, 5, .inl vf6)), (va7, .inl (K 1, 5, .inl vf7)), (x, .inr (8, [.int xn0, .int xn1, .int xn2])), (y, .inr (5, [.ref ya0, .ref ya1, .ref ya2])), (ya0, .inl (K 2, 240, .inr (.inl yf0))), (ya2, .inl (K 1, 4, .inl yf2))] H := hP
              replace hD : va_D A [(w, .inr (0, [.ref wa0, .ref wa1, .ref wa2, .ref wa3, .int r1741, .int w1720])), (wa2, .inl (K 1, 5, .inl g1721)), (wa3, .inl (K 1, 5, .inl g1748)), (wa0, .inr (9, [.ref wa0a0, .ref wa0a1, .ref wa0a2, .ref wa0a3, .ref wa0a4, .ref wa0a5, .ref wa0a6, .ref wa0a7, .int (u1740.1 0), .int (u1740.1 1), .int (u1740.1 2), .int (u1740.1 3)])), (wa0a0, .inl (K 1, 40, .inl (u1740.2.1 0))), (wa0a1, .inl (K 1, 10, .inl (u1740.2.1 1))), (wa0a2, .inl (K 1, 4, .inl (u1740.2.1 2))), (wa0a3, .inl (K 1, 4, .inl (u1740.2.1 3))), (wa0a4, .inl (K 1, 4, .inl (u1740.2.1 4))), (wa0a5, .inl (K 1, 5, .inl (u1740.2.1 5))), (wa0a6, .inl (K 1, 5, .inl (u1740.2.1 6))), (wa0a7, .inl (K 1, 5, .inl (u1740.2.1 7))), (wa1, .inr (8, [.int (u1740.1 4), .int (u1740.1 5), .int (u1740.1 6)])), (v, .inr (9, [.ref va0, .ref va1, .ref va2, .ref va3, .ref va4, .ref va5, .ref va6, .ref va7, .int vn8, .int vn9, .int vn10, .int vn11])), (va0, .inl (K 1, 40, .inl vf0)), (va1, .inl (K 1, 10, .inl vf1)), (va2, .inl (K 1, 4, .inl vf2)), (va3, .inl (K 1, 4, .inl vf3)), (va4, .inl (K 1, 4, .inl vf4)), (va5, .inl (K 1, 5, .inl vf5)), (va6, .inl (K 1, 5, .inl vf6)), (va7, .inl (K 1, 5, .inl vf7)), (x, .inr (8, [.int xn0, .int xn1, .int xn2])), (y, .inr (5, [.ref ya0, .ref ya1, .ref ya2])), (ya0, .inl (K 2, 240, .inr (.inl yf0))), (ya2, .inl (K 1, 4, .inl yf2))] := hD
              refine lv_aload_n hx hb dX0_tryAll_108 rfl (lv_at hl 4 rfl) ?_
              refine lv_aload_n hx hb dX0_tryAll_109 rfl (lv_at hl 4 rfl) ?_
              refine va_get (D := D) (ci := 0) (v := .int w1720) (C := RX0) (T := TX0) (N := 6) hx hb hts in_X0 hown hE.1 hP 0 rfl rfl 5 (by decide) (hts _ w_253) (fun _ h9 => h9) rfl dX0_tryAll_110 ?_
              refine lv_iload hx hb dX0_tryAll_113 (lv_at hl 0 rfl) ?_
              refine va_mmin hx hb (hml.trans hl.1.symm) hown (hts _ w_251) (hts _ w_142) (hts _ w_143) (hts _ w_144) (by decide) (Nat.le_of_ble_eq_true rfl) (by decide) (by decide) dX0_tryAll_115 ?_
              refine lv_topi (fun v1749 ev1749 => ?_)
              have tv1749 := min_i ev1749
              refine va_put (D := D) (ci := 0) (v := .int v1749) (ty := .int) (C := RX0) (T := TX0) (N := 6) hx hb hts in_X0 tyX0 tyX0_ok nmX0 hown hE.1 hP hD hS 0 rfl rfl 5 (by decide) (hts _ w_253) (fun _ h9 => h9) rfl (by decide +kernel) rfl rfl (Nat.le_of_ble_eq_true rfl) dX0_tryAll_118 (fun H locs hP hD hS => ?_)
              replace hP : va_P D vwCl [(w, .inr (0, [.ref wa0, .ref wa1, .ref wa2, .ref wa3, .int r1741, .int v1749])), (wa2, .inl (K 1, 5, .inl g1721)), (wa3, .inl (K 1, 5, .inl g1748)), (wa0, .inr (9, [.ref wa0a0, .ref wa0a1, .ref wa0a2, .ref wa0a3, .ref wa0a4, .ref wa0a5, .ref wa0a6, .ref wa0a7, .int (u1740.1 0), .int (u1740.1 1), .int (u1740.1 2), .int (u1740.1 3)])), (wa0a0, .inl (K 1, 40, .inl (u1740.2.1 0))), (wa0a1, .inl (K 1, 10, .inl (u1740.2.1 1))), (wa0a2, .inl (K 1, 4, .inl (u1740.2.1 2))), (wa0a3, .inl (K 1, 4, .inl (u1740.2.1 3))), (wa0a4, .inl (K 1, 4, .inl (u1740.2.1 4))), (wa0a5, .inl (K 1, 5, .inl (u1740.2.1 5))), (wa0a6, .inl (K 1, 5, .inl (u1740.2.1 6))), (wa0a7, .inl (K 1, 5, .inl (u1740.2.1 7))), (wa1, .inr (8, [.int (u1740.1 4), .int (u1740.1 5), .int (u1740.1 6)])), (v, .inr (9, [.ref va0, .ref va1, .ref va2, .ref va3, .ref va4, .ref va5, .ref va6, .ref va7, .int vn8, .int vn9, .int vn10, .int vn11])), (va0, .inl (K 1, 40, .inl vf0)), (va1, .inl (K 1, 10, .inl vf1)), (va2, .inl (K 1, 4, .inl vf2)), (va3, .inl (K 1, 4, .inl vf3)), (va4, .inl (K 1, 4, .inl vf4)), (va5, .inl (K 1, 5, .inl vf5)), (va6, .inl (K 1, 5, .inl vf6)), (va7, .inl (K 1, 5, .inl vf7)), (x, .inr (8, [.int xn0, .int xn1, .int xn2])), (y, .inr (5, [.ref ya0, .ref ya1, .ref ya2])), (ya0, .inl (K 2, 240, .inr (.inl yf0))), (ya2, .inl (K 1, 4, .inl yf2))] H := hP
              replace hD : va_D A [(w, .inr (0, [.ref wa0, .ref wa1, .ref wa2, .ref wa3, .int r1741, .int v1749])), (wa2, .inl (K 1, 5, .inl g1721)), (wa3, .inl (K 1, 5, .inl g1748)), (wa0, .inr (9, [.ref wa0a0, .ref wa0a1, .ref wa0a2, .ref wa0a3, .ref wa0a4, .ref wa0a5, .ref wa0a6, .ref wa0a7, .int (u1740.1 0), .int (u1740.1 1), .int (u1740.1 2), .int (u1740.1 3)])), (wa0a0, .inl (K 1, 40, .inl (u1740.2.1 0))), (wa0a1, .inl (K 1, 10, .inl (u1740.2.1 1))), (wa0a2, .inl (K 1, 4, .inl (u1740.2.1 2))), (wa0a3, .inl (K 1, 4, .inl (u1740.2.1 3))), (wa0a4, .inl (K 1, 4, .inl (u1740.2.1 4))), (wa0a5, .inl (K 1, 5, .inl (u1740.2.1 5))), (wa0a6, .inl (K 1, 5, .inl (u1740.2.1 6))), (wa0a7, .inl (K 1, 5, .inl (u1740.2.1 7))), (wa1, .inr (8, [.int (u1740.1 4), .int (u1740.1 5), .int (u1740.1 6)])), (v, .inr (9, [.ref va0, .ref va1, .ref va2, .ref va3, .ref va4, .ref va5, .ref va6, .ref va7, .int vn8, .int vn9, .int vn10, .int vn11])), (va0, .inl (K 1, 40, .inl vf0)), (va1, .inl (K 1, 10, .inl vf1)), (va2, .inl (K 1, 4, .inl vf2)), (va3, .inl (K 1, 4, .inl vf3)), (va4, .inl (K 1, 4, .inl vf4)), (va5, .inl (K 1, 5, .inl vf5)), (va6, .inl (K 1, 5, .inl vf6)), (va7, .inl (K 1, 5, .inl vf7)), (x, .inr (8, [.int xn0, .int xn1, .int xn2])), (y, .inr (5, [.ref ya0, .ref ya1, .ref ya2])), (ya0, .inl (K 2, 240, .inr (.inl yf0))), (ya2, .inl (K 1, 4, .inl yf2))] := hD
              refine lv_aload_n hx hb dX0_tryAll_121 rfl (lv_at hl 4 rfl) ?_
              refine lv_iload hx hb dX0_tryAll_122 (lv_at hl 3 rfl) ?_
              refine ci_V (As := [.int v1691]) (rest := []) (wc := [(w, .inr (0, [.ref wa0, .ref wa1, .ref wa2, .ref wa3, .int r1741, .int v1749])), (wa2, .inl (K 1, 5, .inl g1721))]) (wr := [(wa3, .inl (K 1, 5, .inl g1748)), (wa0, .inr (9, [.ref wa0a0, .ref wa0a1, .ref wa0a2, .ref wa0a3, .ref wa0a4, .ref wa0a5, .ref wa0a6, .ref wa0a7, .int (u1740.1 0), .int (u1740.1 1), .int (u1740.1 2), .int (u1740.1 3)])), (wa0a0, .inl (K 1, 40, .inl (u1740.2.1 0))), (wa0a1, .inl (K 1, 10, .inl (u1740.2.1 1))), (wa0a2, .inl (K 1, 4, .inl (u1740.2.1 2))), (wa0a3, .inl (K 1, 4, .inl (u1740.2.1 3))), (wa0a4, .inl (K 1, 4, .inl (u1740.2.1 4))), (wa0a5, .inl (K 1, 5, .inl (u1740.2.1 5))), (wa0a6, .inl (K 1, 5, .inl (u1740.2.1 6))), (wa0a7, .inl (K 1, 5, .inl (u1740.2.1 7))), (wa1, .inr (8, [.int (u1740.1 4), .int (u1740.1 5), .int (u1740.1 6)])), (v, .inr (9, [.ref va0, .ref va1, .ref va2, .ref va3, .ref va4, .ref va5, .ref va6, .ref va7, .int vn8, .int vn9, .int vn10, .int vn11])), (va0, .inl (K 1, 40, .inl vf0)), (va1, .inl (K 1, 10, .inl vf1)), (va2, .inl (K 1, 4, .inl vf2)), (va3, .inl (K 1, 4, .inl vf3)), (va4, .inl (K 1, 4, .inl vf4)), (va5, .inl (K 1, 5, .inl vf5)), (va6, .inl (K 1, 5, .inl vf6)), (va7, .inl (K 1, 5, .inl vf7)), (x, .inr (8, [.int xn0, .int xn1, .int xn2])), (y, .inr (5, [.ref ya0, .ref ya1, .ref ya2])), (ya0, .inl (K 2, 240, .inr (.inl yf0))), (ya2, .inl (K 1, 4, .inl yf2))]) hC hE kV_X0_58 (c_X0_nextOrder l D K w wa0 wa1 wa2 wa3 r1741 v1749 g1721 v1691 (by omega) (by omega)) hP hD hS hA [0, 1] [2, 3, 4, 5, 6, 7, 8, 9, 10, 11, 12, 13, 14, 15, 16, 17, 18, 19, 20, 21, 22, 23, 24, 25] rfl rfl rfl (by decide) (by decide) (by decide) 0 0 rfl rfl rfl hl.1 rfl (Nat.le_of_ble_eq_true rfl) (by decide) (by decide) dX0_tryAll_124 (fun r1751 u1750 H locs hw hP hD hS => ?_)
              replace hP : va_P D vwCl [(wa3, .inl (K 1, 5, .inl g1748)), (wa0, .inr (9, [.ref wa0a0, .ref wa0a1, .ref wa0a2, .ref wa0a3, .ref wa0a4, .ref wa0a5, .ref wa0a6, .ref wa0a7, .int (u1740.1 0), .int (u1740.1 1), .int (u1740.1 2), .int (u1740.1 3)])), (wa0a0, .inl (K 1, 40, .inl (u1740.2.1 0))), (wa0a1, .inl (K 1, 10, .inl (u1740.2.1 1))), (wa0a2, .inl (K 1, 4, .inl (u1740.2.1 2))), (wa0a3, .inl (K 1, 4, .inl (u1740.2.1 3))), (wa0a4, .inl (K 1, 4, .inl (u1740.2.1 4))), (wa0a5, .inl (K 1, 5, .inl (u1740.2.1 5))), (wa0a6, .inl (K 1, 5, .inl (u1740.2.1 6))), (wa0a7, .inl (K 1, 5, .inl (u1740.2.1 7))), (wa1, .inr (8, [.int (u1740.1 4), .int (u1740.1 5), .int (u1740.1 6)])), (v, .inr (9, [.ref va0, .ref va1, .ref va2, .ref va3, .ref va4, .ref va5, .ref va6, .ref va7, .int vn8, .int vn9, .int vn10, .int vn11])), (va0, .inl (K 1, 40, .inl vf0)), (va1, .inl (K 1, 10, .inl vf1)), (va2, .inl (K 1, 4, .inl vf2)), (va3, .inl (K 1, 4, .inl vf3)), (va4, .inl (K 1, 4, .inl vf4)), (va5, .inl (K 1, 5, .inl vf5)), (va6, .inl (K 1, 5, .inl vf6)), (va7, .inl (K 1, 5, .inl vf7)), (x, .inr (8, [.int xn0, .int xn1, .int xn2])), (y, .inr (5, [.ref ya0, .ref ya1, .ref ya2])), (ya0, .inl (K 2, 240, .inr (.inl yf0))), (ya2, .inl (K 1, 4, .inl yf2)), (w, .inr (0, [.ref wa0, .ref wa1, .ref wa2, .ref wa3, .int r1741, .int v1749])), (wa2, .inl (K 1, 5, .inl (u1750.2.1 0)))] H := hP
              replace hD : va_D A [(wa3, .inl (K 1, 5, .inl g1748)), (wa0, .inr (9, [.ref wa0a0, .ref wa0a1, .ref wa0a2, .ref wa0a3, .ref wa0a4, .ref wa0a5, .ref wa0a6, .ref wa0a7, .int (u1740.1 0), .int (u1740.1 1), .int (u1740.1 2), .int (u1740.1 3)])), (wa0a0, .inl (K 1, 40, .inl (u1740.2.1 0))), (wa0a1, .inl (K 1, 10, .inl (u1740.2.1 1))), (wa0a2, .inl (K 1, 4, .inl (u1740.2.1 2))), (wa0a3, .inl (K 1, 4, .inl (u1740.2.1 3))), (wa0a4, .inl (K 1, 4, .inl (u1740.2.1 4))), (wa0a5, .inl (K 1, 5, .inl (u1740.2.1 5))), (wa0a6, .inl (K 1, 5, .inl (u1740.2.1 6))), (wa0a7, .inl (K 1, 5, .inl (u1740.2.1 7))), (wa1, .inr (8, [.int (u1740.1 4), .int (u1740.1 5), .int (u1740.1 6)])), (v, .inr (9, [.ref va0, .ref va1, .ref va2, .ref va3, .ref va4, .ref va5, .ref va6, .ref va7, .int vn8, .int vn9, .int vn10, .int vn11])), (va0, .inl (K 1, 40, .inl vf0)), (va1, .inl (K 1, 10, .inl vf1)), (va2, .inl (K 1, 4, .inl vf2)), (va3, .inl (K 1, 4, .inl vf3)), (va4, .inl (K 1, 4, .inl vf4)), (va5, .inl (K 1, 5, .inl vf5)), (va6, .inl (K 1, 5, .inl vf6)), (va7, .inl (K 1, 5, .inl vf7)), (x, .inr (8, [.int xn0, .int xn1, .int xn2])), (y, .inr (5, [.ref ya0, .ref ya1, .ref ya2])), (ya0, .inl (K 2, 240, .inr (.inl yf0))), (ya2, .inl (K 1, 4, .inl yf2)), (w, .inr (0, [.ref wa0, .ref wa1, .ref wa2, .ref wa3, .int r1741, .int v1749])), (wa2, .inl (K 1, 5, .inl (u1750.2.1 0)))] := hD
              replace hP : va_P D vwCl [(w, .inr (0, [.ref wa0, .ref wa1, .ref wa2, .ref wa3, .int r1741, .int v1749])), (wa2, .inl (K 1, 5, .inl (u1750.2.1 0))), (wa3, .inl (K 1, 5, .inl g1748)), (wa0, .inr (9, [.ref wa0a0, .ref wa0a1, .ref wa0a2, .ref wa0a3, .ref wa0a4, .ref wa0a5, .ref wa0a6, .ref wa0a7, .int (u1740.1 0), .int (u1740.1 1), .int (u1740.1 2), .int (u1740.1 3)])), (wa0a0, .inl (K 1, 40, .inl (u1740.2.1 0))), (wa0a1, .inl (K 1, 10, .inl (u1740.2.1 1))), (wa0a2, .inl (K 1, 4, .inl (u1740.2.1 2))), (wa0a3, .inl (K 1, 4, .inl (u1740.2.1 3))), (wa0a4, .inl (K 1, 4, .inl (u1740.2.1 4))), (wa0a5, .inl (K 1, 5, .inl (u1740.2.1 5))), (wa0a6, .inl (K 1, 5, .inl (u1740.2.1 6))), (wa0a7, .inl (K 1, 5, .inl (u1740.2.1 7))), (wa1, .inr (8, [.int (u1740.1 4), .int (u1740.1 5), .int (u1740.1 6)])), (v, .inr (9, [.ref va0, .ref va1, .ref va2, .ref va3, .ref va4, .ref va5, .ref va6, .ref va7, .int vn8, .int vn9, .int vn10, .int vn11])), (va0, .inl (K 1, 40, .inl vf0)), (va1, .inl (K 1, 10, .inl vf1)), (va2, .inl (K 1, 4, .inl vf2)), (va3, .inl (K 1, 4, .inl vf3)), (va4, .inl (K 1, 4, .inl vf4)), (va5, .inl (K 1, 5, .inl vf5)), (va6, .inl (K 1, 5, .inl vf6)), (va7, .inl (K 1, 5, .inl vf7)), (x, .inr (8, [.int xn0, .int xn1, .int xn2])), (y, .inr (5, [.ref ya0, .ref ya1, .ref ya2])), (ya0, .inl (K 2, 240, .inr (.inl yf0))), (ya2, .inl (K 1, 4, .inl yf2))] H := hP.sub [24, 25, 0, 1, 2, 3, 4, 5, 6, 7, 8, 9, 10, 11, 12, 13, 14, 15, 16, 17, 18, 19, 20, 21, 22, 23] rfl
              replace hD : va_D A [(w, .inr (0, [.ref wa0, .ref wa1, .ref wa2, .ref wa3, .int r1741, .int v1749])), (wa2, .inl (K 1, 5, .inl (u1750.2.1 0))), (wa3, .inl (K 1, 5, .inl g1748)), (wa0, .inr (9, [.ref wa0a0, .ref wa0a1, .ref wa0a2, .ref wa0a3, .ref wa0a4, .ref wa0a5, .ref wa0a6, .ref wa0a7, .int (u1740.1 0), .int (u1740.1 1), .int (u1740.1 2), .int (u1740.1 3)])), (wa0a0, .inl (K 1, 40, .inl (u1740.2.1 0))), (wa0a1, .inl (K 1, 10, .inl (u1740.2.1 1))), (wa0a2, .inl (K 1, 4, .inl (u1740.2.1 2))), (wa0a3, .inl (K 1, 4, .inl (u1740.2.1 3))), (wa0a4, .inl (K 1, 4, .inl (u1740.2.1 4))), (wa0a5, .inl (K 1, 5, .inl (u1740.2.1 5))), (wa0a6, .inl (K 1, 5, .inl (u1740.2.1 6))), (wa0a7, .inl (K 1, 5, .inl (u1740.2.1 7))), (wa1, .inr (8, [.int (u1740.1 4), .int (u1740.1 5), .int (u1740.1 6)])), (v, .inr (9, [.ref va0, .ref va1, .ref va2, .ref va3, .ref va4, .ref va5, .ref va6, .ref va7, .int vn8, .int vn9, .int vn10, .int vn11])), (va0, .inl (K 1, 40, .inl vf0)), (va1, .inl (K 1, 10, .inl vf1)), (va2, .inl (K 1, 4, .inl vf2)), (va3, .inl (K 1, 4, .inl vf3)), (va4, .inl (K 1, 4, .inl vf4)), (va5, .inl (K 1, 5, .inl vf5)), (va6, .inl (K 1, 5, .inl vf6)), (va7, .inl (K 1, 5, .inl vf7)), (x, .inr (8, [.int xn0, .int xn1, .int xn2])), (y, .inr (5, [.ref ya0, .ref ya1, .ref ya2])), (ya0, .inl (K 2, 240, .inr (.inl yf0))), (ya2, .inl (K 1, 4, .inl yf2))] := hD.sub [24, 25, 0, 1, 2, 3, 4, 5, 6, 7, 8, 9, 10, 11, 12, 13, 14, 15, 16, 17, 18, 19, 20, 21, 22, 23] (by decide) rfl
              refine W.widen (k := 0) (n := 0) (by decide) (by decide) ?_
              rcases hw with rfl | rfl
              · refine lv_istore (lv' := [(6, .int 0), (8, .int r1741), (7, .int i1717), (5, .int v1691), (0, .ref w), (1, .ref v), (2, .ref x), (3, .ref y), (4, .int p3)]) hx hb dX0_tryAll_127 hl (by decide) rfl (fun ls hl => ?_)
                obtain ⟨v1752, ev1752⟩ : ∃ z : Int32, z = i1717 + 1 := ⟨_, rfl⟩
                refine lv_iinc (v := v1752) (lv' := [(7, .int v1752), (6, .int 0), (8, .int r1741), (5, .int v1691), (0, .ref w), (1, .ref v), (2, .ref x), (3, .ref y), (4, .int p3)]) hx hb dX0_tryAll_129 hl (k := 2) rfl (by rw [ev1752]; rfl) (by decide) rfl (fun ls hl => ?_)
                refine lv_goto (tgt := 51) hx hb dX0_tryAll_132 (by decide) ?_
                have tv1752 : v1752.toInt = (i1717 : Int32).toInt + (1 : Int32).toInt := add_i ev1752 (by omega) (by omega)
                exact ih_51 (i1717 := v1752) (i1718 := 0) (w1719 := r1741) (w1720 := v1749) (g1721 := (u1750.2.1 0)) (g1722 := g1748) (w1723 := (u1740.1 0)) (w1724 := (u1740.1 1)) (w1725 := (u1740.1 2)) (w1726 := (u1740.1 3)) (g1727 := (u1740.2.1 0)) (g1728 := (u1740.2.1 1)) (g1729 := (u1740.2.1 2)) (g1730 := (u1740.2.1 3)) (g1731 := (u1740.2.1 4)) (g1732 := (u1740.2.1 5)) (g1733 := (u1740.2.1 6)) (g1734 := (u1740.2.1 7)) (w1735 := (u1740.1 4)) (w1736 := (u1740.1 5)) (w1737 := (u1740.1 6)) (hi_51 := by omega) (H := H) (locs := locs) (ls := ls) (hn_51 := by omega) (hP := hP) (hD := hD) (hS := hS) (hl := lv_sub hl [0, 1, 3, 4, 5, 6, 7, 8] rfl)
              · refine lv_istore (lv' := [(6, .int 1), (8, .int r1741), (7, .int i1717), (5, .int v1691), (0, .ref w), (1, .ref v), (2, .ref x), (3, .ref y), (4, .int p3)]) hx hb dX0_tryAll_127 hl (by decide) rfl (fun ls hl => ?_)
                obtain ⟨v1753, ev1753⟩ : ∃ z : Int32, z = i1717 + 1 := ⟨_, rfl⟩
                refine lv_iinc (v := v1753) (lv' := [(7, .int v1753), (6, .int 1), (8, .int r1741), (5, .int v1691), (0, .ref w), (1, .ref v), (2, .ref x), (3, .ref y), (4, .int p3)]) hx hb dX0_tryAll_129 hl (k := 2) rfl (by rw [ev1753]; rfl) (by decide) rfl (fun ls hl => ?_)
                refine lv_goto (tgt := 51) hx hb dX0_tryAll_132 (by decide) ?_
                have tv1753 : v1753.toInt = (i1717 : Int32).toInt + (1 : Int32).toInt := add_i ev1753 (by omega) (by omega)
                exact ih_51 (i1717 := v1753) (i1718 := 1) (w1719 := r1741) (w1720 := v1749) (g1721 := (u1750.2.1 0)) (g1722 := g1748) (w1723 := (u1740.1 0)) (w1724 := (u1740.1 1)) (w1725 := (u1740.1 2)) (w1726 := (u1740.1 3)) (g1727 := (u1740.2.1 0)) (g1728 := (u1740.2.1 1)) (g1729 := (u1740.2.1 2)) (g1730 := (u1740.2.1 3)) (g1731 := (u1740.2.1 4)) (g1732 := (u1740.2.1 5)) (g1733 := (u1740.2.1 6)) (g1734 := (u1740.2.1 7)) (w1735 := (u1740.1 4)) (w1736 := (u1740.1 5)) (w1737 := (u1740.1 6)) (hi_51 := by omega) (H := H) (locs := locs) (ls := ls) (hn_51 := by omega) (hP := hP) (hD := hD) (hS := hS) (hl := lv_sub hl [0, 1, 3, 4, 5, 6, 7, 8] rfl)
    · replace c1698 := nle_i c1698
      refine lv_aload_n hx hb dX0_tryAll_19 rfl (lv_at hl 2 rfl) ?_
      refine va_get (D := D) (ci := 0) (v := .ref wa2) (C := RX0) (T := TX0) (N := 6) hx hb hts in_X0 hown hE.1 hP 0 rfl rfl 2 (by decide) (hts _ w_202) (fun _ h9 => h9) rfl dX0_tryAll_20 ?_
      refine lv_iload hx hb dX0_tryAll_23 (lv_at hl 0 rfl) ?_
      refine lv_iload hx hb dX0_tryAll_25 (lv_at hl 0 rfl) ?_
      refine sti hx hb hE.1 hP hD hS 1 1 rfl rfl (vp_in_iff.mpr (by omega)) dX0_tryAll_27 (fun g1754 eg1754 H locs hP hD hS => ?_)
      replace hP : va_P D vwCl [(w, .inr (0, [.ref wa0, .ref wa1, .ref wa2, .ref wa3, .int wn4, .int wn5])), (wa2, .inl (K 1, 5, .inl g1754)), (wa3, .inl (K 1, 5, .inl wf3)), (wa0, .inr (9, [.ref wa0a0, .ref wa0a1, .ref wa0a2, .ref wa0a3, .ref wa0a4, .ref wa0a5, .ref wa0a6, .ref wa0a7, .int wa0n8, .int wa0n9, .int wa0n10, .int wa0n11])), (wa0a0, .inl (K 1, 40, .inl wa0f0)), (wa0a1, .inl (K 1, 10, .inl wa0f1)), (wa0a2, .inl (K 1, 4, .inl wa0f2)), (wa0a3, .inl (K 1, 4, .inl wa0f3)), (wa0a4, .inl (K 1, 4, .inl wa0f4)), (wa0a5, .inl (K 1, 5, .inl wa0f5)), (wa0a6, .inl (K 1, 5, .inl wa0f6)), (wa0a7, .inl (K 1, 5, .inl wa0f7)), (wa1, .inr (8, [.int wa1n0, .int wa1n1, .int wa1n2])), (v, .inr (9, [.ref va0, .ref va1, .ref va2, .ref va3, .ref va4, .ref va5, .ref va6, .ref va7, .int vn8, .int vn9, .int vn10, .int vn11])), (va0, .inl (K 1, 40, .inl vf0)), (va1, .inl (K 1, 10, .inl vf1)), (va2, .inl (K 1, 4, .inl vf2)), (va3, .inl (K 1, 4, .inl vf3)), (va4, .inl (K 1, 4, .inl vf4)), (va5, .inl (K 1, 5, .inl vf5)), (va6, .inl (K 1, 5, .inl vf6)), (va7, .inl (K 1, 5, .inl vf7)), (x, .inr (8, [.int xn0, .int xn1, .int xn2])), (y, .inr (5, [.ref ya0, .ref ya1, .ref ya2])), (ya0, .inl (K 2, 240, .inr (.inl yf0))), (ya2, .inl (K 1, 4, .inl yf2))] H := hP
      replace hD : va_D A [(w, .inr (0, [.ref wa0, .ref wa1, .ref wa2, .ref wa3, .int wn4, .int wn5])), (wa2, .inl (K 1, 5, .inl g1754)), (wa3, .inl (K 1, 5, .inl wf3)), (wa0, .inr (9, [.ref wa0a0, .ref wa0a1, .ref wa0a2, .ref wa0a3, .ref wa0a4, .ref wa0a5, .ref wa0a6, .ref wa0a7, .int wa0n8, .int wa0n9, .int wa0n10, .int wa0n11])), (wa0a0, .inl (K 1, 40, .inl wa0f0)), (wa0a1, .inl (K 1, 10, .inl wa0f1)), (wa0a2, .inl (K 1, 4, .inl wa0f2)), (wa0a3, .inl (K 1, 4, .inl wa0f3)), (wa0a4, .inl (K 1, 4, .inl wa0f4)), (wa0a5, .inl (K 1, 5, .inl wa0f5)), (wa0a6, .inl (K 1, 5, .inl wa0f6)), (wa0a7, .inl (K 1, 5, .inl wa0f7)), (wa1, .inr (8, [.int wa1n0, .int wa1n1, .int wa1n2])), (v, .inr (9, [.ref va0, .ref va1, .ref va2, .ref va3, .ref va4, .ref va5, .ref va6, .ref va7, .int vn8, .int vn9, .int vn10, .int vn11])), (va0, .inl (K 1, 40, .inl vf0)), (va1, .inl (K 1, 10, .inl vf1)), (va2, .inl (K 1, 4, .inl vf2)), (va3, .inl (K 1, 4, .inl vf3)), (va4, .inl (K 1, 4, .inl vf4)), (va5, .inl (K 1, 5, .inl vf5)), (va6, .inl (K 1, 5, .inl vf6)), (va7, .inl (K 1, 5, .inl vf7)), (x, .inr (8, [.int xn0, .int xn1, .int xn2])), (y, .inr (5, [.ref ya0, .ref ya1, .ref ya2])), (ya0, .inl (K 2, 240, .inr (.inl yf0))), (ya2, .inl (K 1, 4, .inl yf2))] := hD
      obtain ⟨v1755, ev1755⟩ : ∃ z : Int32, z = i1696 + 1 := ⟨_, rfl⟩
      refine lv_iinc (v := v1755) (lv' := [(6, .int v1755), (5, .int v1691), (0, .ref w), (1, .ref v), (2, .ref x), (3, .ref y), (4, .int p3)]) hx hb dX0_tryAll_28 hl (k := 0) rfl (by rw [ev1755]; rfl) (by decide) rfl (fun ls hl => ?_)
      refine lv_goto (tgt := 13) hx hb dX0_tryAll_31 (by decide) ?_
      have tv1755 : v1755.toInt = (i1696 : Int32).toInt + (1 : Int32).toInt := add_i ev1755 (by omega) (by omega)
      exact ih_13 (i1696 := v1755) (g1697 := g1754) (hi_13 := by omega) (H := H) (locs := locs) (ls := ls) (hn_13 := by omega) (hP := hP) (hD := hD) (hS := hS) (hl := lv_sub hl [0, 1, 2, 3, 4, 5, 6] rfl)
set_option maxRecDepth 40000 in
set_option maxHeartbeats 4000000 in
theorem c_X6_meetState_1 (l : Launch) (D : va_G) (K : Nat → ClassId) (w : Nat) (wa0 : Nat) (wa1 : Nat) (wa2 : Nat) (wa6 : Nat) (wn3 : Int32) (wn4 : Int32) (wn5 : Int32) (wn7 : Int32) (wn8 : Int32) (wn9 : Int32) (wf0 : Nat → Int32) (wf1 : Nat → Int32) (wf2 : Nat → Int32) (p0 : Int32) (p1 : Int32) (hs : 0 ≤ wn4.toInt) : Cv (S := ((Nat → Int32) × (Nat → Nat → Int32) × (Nat → Nat → Int64))) l D K yX6_meetState cX6_meetState 3 0 0 0 0 [.ref w, .int p0, .int p1] [(w, .inr (1, [.ref wa0, .ref wa1, .ref wa2, .int wn3, .int wn4, .int wn5, .ref wa6, .int wn7, .int wn8, .int wn9])), (wa0, .inl (K 1, 10240, .inl wf0)), (wa1, .inl (K 1, 10240, .inl wf1)), (wa2, .inl (K 1, 10240, .inl wf2))] (fun u => (0 ≤ (u.1 0).toInt)) (fun u => [(w, .inr (1, [.ref wa0, .ref wa1, .ref wa2, .int wn3, .int (u.1 0), .int wn5, .ref wa6, .int wn7, .int wn8, .int wn9])), (wa0, .inl (K 1, 10240, .inl (u.2.1 0))), (wa1, .inl (K 1, 10240, .inl (u.2.1 1))), (wa2, .inl (K 1, 10240, .inl (u.2.1 2)))]) := by
  intro sz
  refine ch_of (y := yX6_meetState) (cc := cX6_meetState) (maxL := 3) (ret := none) (av := [.ref w, .int p0, .int p1]) (ws := [(w, .inr (1, [.ref wa0, .ref wa1, .ref wa2, .int wn3, .int wn4, .int wn5, .ref wa6, .int wn7, .int wn8, .int wn9])), (wa0, .inl (K 1, 10240, .inl wf0)), (wa1, .inl (K 1, 10240, .inl wf1)), (wa2, .inl (K 1, 10240, .inl wf2))]) (D := D) (K := K) (Qc := fun A => va_Qv (S := ((Nat → Int32) × (Nat → Nat → Int32) × (Nat → Nat → Int64))) (fun u => (0 ≤ (u.1 0).toInt)) (chB D A (fun u => [(w, .inr (1, [.ref wa0, .ref wa1, .ref wa2, .int wn3, .int (u.1 0), .int wn5, .ref wa6, .int wn7, .int wn8, .int wn9])), (wa0, .inl (K 1, 10240, .inl (u.2.1 0))), (wa1, .inl (K 1, 10240, .inl (u.2.1 1))), (wa2, .inl (K 1, 10240, .inl (u.2.1 2)))])) A) (by decide) (Nat.le_of_ble_eq_true rfl) ?_
  intro p e s m below meth c A hC hr hk hin hE hD hA H locs hP hS ls hl
  replace hC : CallFix p m c cX6_meetState 3 s [.ref w, .int p0, .int p1].toArray wl RX6 := hC
  have hx := hC.1
  have hb := hC.2.1
  have hml := hC.2.2.1
  have hown := hC.2.2.2.1
  have hts := hC.2.2.2.2
  replace hl : lv_has ls 3 [(0, .ref w), (1, .int p0), (2, .int p1)] := hl
  have kc_0 : (0 : Int32).toInt = 0 := by decide
  have kc_1 : (1 : Int32).toInt = 1 := by decide
  have kc_10240 : (10240 : Int32).toInt = 10240 := by decide
  refine lv_iload_n hx hb dX6_meetState_0 rfl (lv_at hl 1 rfl) ?_
  refine lv_if_lt (tgt := 38) hx hb dX6_meetState_1 (by decide) (fun c1765 => ?_) (fun c1765 => ?_)
  · replace c1765 := lt_i c1765
    refine W.widen (k := 0) (n := 0) (by decide) (by decide) ?_
    exact ch_vret hC hr hk hS dX6_meetState_38 ((fun k => [wn4].getD k 0, fun k => [wf0, wf1, wf2].getD k (fun _ => 0), fun k => [].getD k (fun _ => 0)) : ((Nat → Int32) × (Nat → Nat → Int32) × (Nat → Nat → Int64))) (show 0 ≤ (wn4 : Int32).toInt from by omega) (hP.sub [0, 1, 2, 3] rfl) (hD.sub [0, 1, 2, 3] (by decide) rfl)
  · replace c1765 := nlt_i c1765
    refine lv_iload_n hx hb dX6_meetState_4 rfl (lv_at hl 1 rfl) ?_
    refine lv_aload_n hx hb dX6_meetState_5 rfl (lv_at hl 0 rfl) ?_
    refine va_get (D := D) (ci := 1) (v := .ref wa0) (C := RX1) (T := TX1) (N := 10) hx hb hts in_X1 hown hE.1 hP 0 rfl rfl 0 (by decide) (hts _ w_274) (fun _ h9 => h9) rfl dX6_meetState_6 ?_
    refine va_alen (v := 10240) hx hb hE.1 hP 1 1 rfl rfl (show Int32.ofNat 10240 = 10240 by decide) dX6_meetState_9 ?_
    refine lv_icmp_ge (tgt := 38) hx hb dX6_meetState_10 (by decide) (fun c1766 => ?_) (fun c1766 => ?_)
    · replace c1766 := le_i c1766
      refine W.widen (k := 0) (n := 0) (by decide) (by decide) ?_
      exact ch_vret hC hr hk hS dX6_meetState_38 ((fun k => [wn4].getD k 0, fun k => [wf0, wf1, wf2].getD k (fun _ => 0), fun k => [].getD k (fun _ => 0)) : ((Nat → Int32) × (Nat → Nat → Int32) × (Nat → Nat → Int64))) (show 0 ≤ (wn4 : Int32).toInt from by omega) (hP.sub [0, 1, 2, 3] rfl) (hD.sub [0, 1, 2, 3] (by decide) rfl)
    · replace c1766 := nle_i c1766
      refine lv_aload_n hx hb dX6_meetState_13 rfl (lv_at hl 0 rfl) ?_
      refine va_get (D := D) (ci := 1) (v := .ref wa0) (C := RX1) (T := TX1) (N := 10) hx hb hts in_X1 hown hE.1 hP 0 rfl rfl 0 (by decide) (hts _ w_274) (fun _ h9 => h9) rfl dX6_meetState_14 ?_
      refine lv_iload_n hx hb dX6_meetState_17 rfl (lv_at hl 1 rfl) ?_
      refine va_iald hx hb hE.1 hP 1 1 rfl rfl (vp_in_iff.mpr (by omega)) dX6_meetState_18 ?_
      refine lv_topi (fun v1767 ev1767 => ?_)
      refine lv_aload_n hx hb dX6_meetState_19 rfl (lv_at hl 0 rfl) ?_
      refine va_get (D := D) (ci := 1) (v := .int wn3) (C := RX1) (T := TX1) (N := 10) hx hb hts in_X1 hown hE.1 hP 0 rfl rfl 3 (by decide) (hts _ w_275) (fun _ h9 => h9) rfl dX6_meetState_20 ?_
      refine lv_icmp_eq (tgt := 38) hx hb dX6_meetState_23 (by decide) (fun c1768 => ?_) (fun c1768 => ?_)
      · replace c1768 := eq_i c1768
        refine W.widen (k := 0) (n := 0) (by decide) (by decide) ?_
        exact ch_vret hC hr hk hS dX6_meetState_38 ((fun k => [wn4].getD k 0, fun k => [wf0, wf1, wf2].getD k (fun _ => 0), fun k => [].getD k (fun _ => 0)) : ((Nat → Int32) × (Nat → Nat → Int32) × (Nat → Nat → Int64))) (show 0 ≤ (wn4 : Int32).toInt from by omega) (hP.sub [0, 1, 2, 3] rfl) (hD.sub [0, 1, 2, 3] (by decide) rfl)
      · replace c1768 := ne_i c1768
        refine lv_aload_n hx hb dX6_meetState_26 rfl (lv_at hl 0 rfl) ?_
        refine va_get (D := D) (ci := 1) (v := .int wn4) (C := RX1) (T := TX1) (N := 10) hx hb hts in_X1 hown hE.1 hP 0 rfl rfl 4 (by decide) (hts _ w_276) (fun _ h9 => h9) rfl dX6_meetState_27 ?_
        refine lv_aload_n hx hb dX6_meetState_30 rfl (lv_at hl 0 rfl) ?_
        refine va_get (D := D) (ci := 1) (v := .ref wa1) (C := RX1) (T := TX1) (N := 10) hx hb hts in_X1 hown hE.1 hP 0 rfl rfl 1 (by decide) (hts _ w_277) (fun _ h9 => h9) rfl dX6_meetState_31 ?_
        refine va_alen (v := 10240) hx hb hE.1 hP 2 1 rfl rfl (show Int32.ofNat 10240 = 10240 by decide) dX6_meetState_34 ?_
        refine lv_icmp_lt (tgt := 39) hx hb dX6_meetState_35 (by decide) (fun c1769 => ?_) (fun c1769 => ?_)
        · replace c1769 := lt_i c1769
          refine lv_aload_n hx hb dX6_meetState_39 rfl (lv_at hl 0 rfl) ?_
          refine va_get (D := D) (ci := 1) (v := .ref wa0) (C := RX1) (T := TX1) (N := 10) hx hb hts in_X1 hown hE.1 hP 0 rfl rfl 0 (by decide) (hts _ w_274) (fun _ h9 => h9) rfl dX6_meetState_40 ?_
          refine lv_iload_n hx hb dX6_meetState_43 rfl (lv_at hl 1 rfl) ?_
          refine lv_aload_n hx hb dX6_meetState_44 rfl (lv_at hl 0 rfl) ?_
          refine va_get (D := D) (ci := 1) (v := .int wn3) (C := RX1) (T := TX1) (N := 10) hx hb hts in_X1 hown hE.1 hP 0 rfl rfl 3 (by decide) (hts _ w_275) (fun _ h9 => h9) rfl dX6_meetState_45 ?_
          refine sti hx hb hE.1 hP hD hS 1 1 rfl rfl (vp_in_iff.mpr (by omega)) dX6_meetState_48 (fun g1770 eg1770 H locs hP hD hS => ?_)
          replace hP : va_P D vwCl [(w, .inr (1, [.ref wa0, .ref wa1, .ref wa2, .int wn3, .int wn4, .int wn5, .ref wa6, .int wn7, .int wn8, .int wn9])), (wa0, .inl (K 1, 10240, .inl g1770)), (wa1, .inl (K 1, 10240, .inl wf1)), (wa2, .inl (K 1, 10240, .inl wf2))] H := hP
          replace hD : va_D A [(w, .inr (1, [.ref wa0, .ref wa1, .ref wa2, .int wn3, .int wn4, .int wn5, .ref wa6, .int wn7, .int wn8, .int wn9])), (wa0, .inl (K 1, 10240, .inl g1770)), (wa1, .inl (K 1, 10240, .inl wf1)), (wa2, .inl (K 1, 10240, .inl wf2))] := hD
          refine lv_aload_n hx hb dX6_meetState_49 rfl (lv_at hl 0 rfl) ?_
          refine va_get (D := D) (ci := 1) (v := .ref wa1) (C := RX1) (T := TX1) (N := 10) hx hb hts in_X1 hown hE.1 hP 0 rfl rfl 1 (by decide) (hts _ w_277) (fun _ h9 => h9) rfl dX6_meetState_50 ?_
          refine lv_aload_n hx hb dX6_meetState_53 rfl (lv_at hl 0 rfl) ?_
          refine va_get (D := D) (ci := 1) (v := .int wn4) (C := RX1) (T := TX1) (N := 10) hx hb hts in_X1 hown hE.1 hP 0 rfl rfl 4 (by decide) (hts _ w_276) (fun _ h9 => h9) rfl dX6_meetState_54 ?_
          refine lv_iload_n hx hb dX6_meetState_57 rfl (lv_at hl 1 rfl) ?_
          refine sti hx hb hE.1 hP hD hS 2 1 rfl rfl (vp_in_iff.mpr (by omega)) dX6_meetState_58 (fun g1771 eg1771 H locs hP hD hS => ?_)
          replace hP : va_P D vwCl [(w, .inr (1, [.ref wa0, .ref wa1, .ref wa2, .int wn3, .int wn4, .int wn5, .ref wa6, .int wn7, .int wn8, .int wn9])), (wa0, .inl (K 1, 10240, .inl g1770)), (wa1, .inl (K 1, 10240, .inl g1771)), (wa2, .inl (K 1, 10240, .inl wf2))] H := hP
          replace hD : va_D A [(w, .inr (1, [.ref wa0, .ref wa1, .ref wa2, .int wn3, .int wn4, .int wn5, .ref wa6, .int wn7, .int wn8, .int wn9])), (wa0, .inl (K 1, 10240, .inl g1770)), (wa1, .inl (K 1, 10240, .inl g1771)), (wa2, .inl (K 1, 10240, .inl wf2))] := hD
          refine lv_aload_n hx hb dX6_meetState_59 rfl (lv_at hl 0 rfl) ?_
          refine va_get (D := D) (ci := 1) (v := .ref wa2) (C := RX1) (T := TX1) (N := 10) hx hb hts in_X1 hown hE.1 hP 0 rfl rfl 2 (by decide) (hts _ w_278) (fun _ h9 => h9) rfl dX6_meetState_60 ?_
          refine lv_aload_n hx hb dX6_meetState_63 rfl (lv_at hl 0 rfl) ?_
          refine va_get (D := D) (ci := 1) (v := .int wn4) (C := RX1) (T := TX1) (N := 10) hx hb hts in_X1 hown hE.1 hP 0 rfl rfl 4 (by decide) (hts _ w_276) (fun _ h9 => h9) rfl dX6_meetState_64 ?_
          refine lv_iload_n hx hb dX6_meetState_67 rfl (lv_at hl 2 rfl) ?_
          refine sti hx hb hE.1 hP hD hS 3 1 rfl rfl (vp_in_iff.mpr (by omega)) dX6_meetState_68 (fun g1772 eg1772 H locs hP hD hS => ?_)
          replace hP : va_P D vwCl [(w, .inr (1, [.ref wa0, .ref wa1, .ref wa2, .int wn3, .int wn4, .int wn5, .ref wa6, .int wn7, .int wn8, .int wn9])), (wa0, .inl (K 1, 10240, .inl g1770)), (wa1, .inl (K 1, 10240, .inl g1771)), (wa2, .inl (K 1, 10240, .inl g1772))] H := hP
          replace hD : va_D A [(w, .inr (1, [.ref wa0, .ref wa1, .ref wa2, .int wn3, .int wn4, .int wn5, .ref wa6, .int wn7, .int wn8, .int wn9])), (wa0, .inl (K 1, 10240, .inl g1770)), (wa1, .inl (K 1, 10240, .inl g1771)), (wa2, .inl (K 1, 10240, .inl g1772))] := hD
          refine lv_aload_n hx hb dX6_meetState_69 rfl (lv_at hl 0 rfl) ?_
          refine lv_dup hx hb dX6_meetState_70 rfl ?_
          refine va_get (D := D) (ci := 1) (v := .int wn4) (C := RX1) (T := TX1) (N := 10) hx hb hts in_X1 hown hE.1 hP 0 rfl rfl 4 (by decide) (hts _ w_276) (fun _ h9 => h9) rfl dX6_meetState_71 ?_
          refine lv_iconst (v := 1) hx hb dX6_meetState_74 (by decide) ?_
          refine lv_iadd hx hb dX6_meetState_75 ?_
          refine lv_topi (fun v1773 ev1773 => ?_)
          refine va_put (D := D) (ci := 1) (v := .int v1773) (ty := .int) (C := RX1) (T := TX1) (N := 10) hx hb hts in_X1 tyX1 tyX1_ok nmX1 hown hE.1 hP hD hS 0 rfl rfl 4 (by decide) (hts _ w_276) (fun _ h9 => h9) rfl (by decide +kernel) rfl rfl (Nat.le_of_ble_eq_true rfl) dX6_meetState_76 (fun H locs hP hD hS => ?_)
          replace hP : va_P D vwCl [(w, .inr (1, [.ref wa0, .ref wa1, .ref wa2, .int wn3, .int v1773, .int wn5, .ref wa6, .int wn7, .int wn8, .int wn9])), (wa0, .inl (K 1, 10240, .inl g1770)), (wa1, .inl (K 1, 10240, .inl g1771)), (wa2, .inl (K 1, 10240, .inl g1772))] H := hP
          replace hD : va_D A [(w, .inr (1, [.ref wa0, .ref wa1, .ref wa2, .int wn3, .int v1773, .int wn5, .ref wa6, .int wn7, .int wn8, .int wn9])), (wa0, .inl (K 1, 10240, .inl g1770)), (wa1, .inl (K 1, 10240, .inl g1771)), (wa2, .inl (K 1, 10240, .inl g1772))] := hD
          refine W.widen (k := 0) (n := 0) (by decide) (by decide) ?_
          have tv1773 : v1773.toInt = (wn4 : Int32).toInt + (1 : Int32).toInt := add_i ev1773 (by omega) (by omega)
          exact ch_vret hC hr hk hS dX6_meetState_79 ((fun k => [v1773].getD k 0, fun k => [g1770, g1771, g1772].getD k (fun _ => 0), fun k => [].getD k (fun _ => 0)) : ((Nat → Int32) × (Nat → Nat → Int32) × (Nat → Nat → Int64))) (show 0 ≤ (v1773 : Int32).toInt from by omega) (hP.sub [0, 1, 2, 3] rfl) (hD.sub [0, 1, 2, 3] (by decide) rfl)
        · replace c1769 := nlt_i c1769
          refine W.widen (k := 0) (n := 0) (by decide) (by decide) ?_
          exact ch_vret hC hr hk hS dX6_meetState_38 ((fun k => [wn4].getD k 0, fun k => [wf0, wf1, wf2].getD k (fun _ => 0), fun k => [].getD k (fun _ => 0)) : ((Nat → Int32) × (Nat → Nat → Int32) × (Nat → Nat → Int64))) (show 0 ≤ (wn4 : Int32).toInt from by omega) (hP.sub [0, 1, 2, 3] rfl) (hD.sub [0, 1, 2, 3] (by decide) rfl)
set_option maxRecDepth 40000 in
set_option maxHeartbeats 4000000 in
theorem c_X6_lengthTo_1 (l : Launch) (D : va_G) (K : Nat → ClassId) (w : Nat) (wa0 : Nat) (wa1 : Nat) (wa2 : Nat) (wa6 : Nat) (wn3 : Int32) (wn4 : Int32) (wn5 : Int32) (wn7 : Int32) (wn8 : Int32) (wn9 : Int32) (wf2 : Nat → Int32) (p0 : Int32) : Ro l D K yX6_lengthTo cX6_lengthTo 5 (some .int) 0 0 [.ref w, .int p0] [(w, .inr (1, [.ref wa0, .ref wa1, .ref wa2, .int wn3, .int wn4, .int wn5, .ref wa6, .int wn7, .int wn8, .int wn9])), (wa2, .inl (K 1, 10240, .inl wf2))] (fun r => ((0 ≤ r.toInt) ∧ (r.toInt ≤ 10240))) := by
  refine ro_of (by decide) (Nat.le_of_ble_eq_true rfl) ?_
  intro p e s m below meth c hC hr hk hE hP ls hl
  replace hC : CallFix p m c cX6_lengthTo 5 s [.ref w, .int p0].toArray wl RX6 := hC
  have hx := hC.1
  have hb := hC.2.1
  have hml := hC.2.2.1
  have hown := hC.2.2.2.1
  have hts := hC.2.2.2.2
  replace hl : lv_has ls 5 [(0, .ref w), (1, .int p0)] := hl
  have kc_0 : (0 : Int32).toInt = 0 := by decide
  have kc_1 : (1 : Int32).toInt = 1 := by decide
  have kc_10240 : (10240 : Int32).toInt = 10240 := by decide
  refine lv_iconst (v := 0) hx hb dX6_lengthTo_0 (by decide) ?_
  refine lv_istore_n (lv' := [(2, .int 0), (0, .ref w), (1, .int p0)]) hx hb dX6_lengthTo_1 rfl hl (by decide) rfl (fun ls hl => ?_)
  refine lv_iload_n hx hb dX6_lengthTo_2 rfl (lv_at hl 2 rfl) ?_
  refine lv_istore_n (lv' := [(3, .int p0), (2, .int 0), (0, .ref w), (1, .int p0)]) hx hb dX6_lengthTo_3 rfl hl (by decide) rfl (fun ls hl => ?_)
  refine lv_iconst (v := 0) hx hb dX6_lengthTo_4 (by decide) ?_
  refine lv_istore (lv' := [(4, .int 0), (3, .int p0), (2, .int 0), (0, .ref w), (1, .int p0)]) hx hb dX6_lengthTo_5 hl (by decide) rfl (fun ls hl => ?_)
  have hl' := hl; clear hl
  obtain ⟨i1784, i1785, i1786, hi_7, hq_7, hr_7, hl⟩ : ∃ (i1784 : Int32) (i1785 : Int32) (i1786 : Int32), ((0 : Int) ≤ i1784.toInt) ∧ (i1786.toInt = i1784.toInt) ∧ (i1784.toInt ≤ 10240) ∧ lv_has ls 5 [(4, .int i1784), (3, .int i1785), (2, .int i1786), (0, .ref w), (1, .int p0)] := ⟨_, _, _, by omega, by omega, by omega, hl'⟩
  clear hl'
  obtain ⟨n_7, hn_7⟩ : ∃ n : Nat, (10240 - i1784.toInt).toNat < n := ⟨_, Nat.lt_succ_self _⟩
  induction n_7 generalizing i1784 i1785 i1786 ls with
  | zero => exact absurd hn_7 (Nat.not_lt_zero _)
  | succ n_7 ih_7 =>
    refine lv_iload hx hb dX6_lengthTo_7 (lv_at hl 0 rfl) ?_
    refine lv_aload_n hx hb dX6_lengthTo_9 rfl (lv_at hl 3 rfl) ?_
    refine va_get (D := D) (ci := 1) (v := .ref wa2) (C := RX1) (T := TX1) (N := 10) hx hb hts in_X1 hown hE.1 hP 0 rfl rfl 2 (by decide) (hts _ w_278) (fun _ h9 => h9) rfl dX6_lengthTo_10 ?_
    refine va_alen (v := 10240) hx hb hE.1 hP 1 1 rfl rfl (show Int32.ofNat 10240 = 10240 by decide) dX6_lengthTo_13 ?_
    refine lv_icmp_ge (tgt := 48) hx hb dX6_lengthTo_14 (by decide) (fun c1787 => ?_) (fun c1787 => ?_)
    · replace c1787 := le_i c1787
      refine lv_iload_n hx hb dX6_lengthTo_48 rfl (lv_at hl 2 rfl) ?_
      exact ro_ret hC hr hk dX6_lengthTo_49 ⟨(by omega), (by omega)⟩
    · replace c1787 := nle_i c1787
      refine lv_iload_n hx hb dX6_lengthTo_17 rfl (lv_at hl 1 rfl) ?_
      refine lv_if_le (tgt := 48) hx hb dX6_lengthTo_18 (by decide) (fun c1788 => ?_) (fun c1788 => ?_)
      · replace c1788 := le_i c1788
        refine lv_iload_n hx hb dX6_lengthTo_48 rfl (lv_at hl 2 rfl) ?_
        exact ro_ret hC hr hk dX6_lengthTo_49 ⟨(by omega), (by omega)⟩
      · replace c1788 := nle_i c1788
        refine lv_iload_n hx hb dX6_lengthTo_21 rfl (lv_at hl 1 rfl) ?_
        refine lv_aload_n hx hb dX6_lengthTo_22 rfl (lv_at hl 3 rfl) ?_
        refine va_get (D := D) (ci := 1) (v := .ref wa2) (C := RX1) (T := TX1) (N := 10) hx hb hts in_X1 hown hE.1 hP 0 rfl rfl 2 (by decide) (hts _ w_278) (fun _ h9 => h9) rfl dX6_lengthTo_23 ?_
        refine va_alen (v := 10240) hx hb hE.1 hP 1 1 rfl rfl (show Int32.ofNat 10240 = 10240 by decide) dX6_lengthTo_26 ?_
        refine lv_icmp_ge (tgt := 48) hx hb dX6_lengthTo_27 (by decide) (fun c1789 => ?_) (fun c1789 => ?_)
        · replace c1789 := le_i c1789
          refine lv_iload_n hx hb dX6_lengthTo_48 rfl (lv_at hl 2 rfl) ?_
          exact ro_ret hC hr hk dX6_lengthTo_49 ⟨(by omega), (by omega)⟩
        · replace c1789 := nle_i c1789
          refine lv_aload_n hx hb dX6_lengthTo_30 rfl (lv_at hl 3 rfl) ?_
          refine va_get (D := D) (ci := 1) (v := .ref wa2) (C := RX1) (T := TX1) (N := 10) hx hb hts in_X1 hown hE.1 hP 0 rfl rfl 2 (by decide) (hts _ w_278) (fun _ h9 => h9) rfl dX6_lengthTo_31 ?_
          refine lv_iload_n hx hb dX6_lengthTo_34 rfl (lv_at hl 1 rfl) ?_
          refine va_iald hx hb hE.1 hP 1 1 rfl rfl (vp_in_iff.mpr (by omega)) dX6_lengthTo_35 ?_
          refine lv_topi (fun v1790 ev1790 => ?_)
          refine lv_iconst (v := 4) hx hb dX6_lengthTo_36 (by decide) ?_
          refine lv_idiv hx hb dX6_lengthTo_37 (by decide) ?_
          refine lv_topi (fun v1791 ev1791 => ?_)
          refine lv_istore_n (lv' := [(3, .int v1791), (4, .int i1784), (2, .int i1786), (0, .ref w), (1, .int p0)]) hx hb dX6_lengthTo_38 rfl hl (by decide) rfl (fun ls hl => ?_)
          obtain ⟨v1792, ev1792⟩ : ∃ z : Int32, z = i1786 + 1 := ⟨_, rfl⟩
          refine lv_iinc (v := v1792) (lv' := [(2, .int v1792), (3, .int v1791), (4, .int i1784), (0, .ref w), (1, .int p0)]) hx hb dX6_lengthTo_39 hl (k := 2) rfl (by rw [ev1792]; rfl) (by decide) rfl (fun ls hl => ?_)
          obtain ⟨v1793, ev1793⟩ : ∃ z : Int32, z = i1784 + 1 := ⟨_, rfl⟩
          refine lv_iinc (v := v1793) (lv' := [(4, .int v1793), (2, .int v1792), (3, .int v1791), (0, .ref w), (1, .int p0)]) hx hb dX6_lengthTo_42 hl (k := 2) rfl (by rw [ev1793]; rfl) (by decide) rfl (fun ls hl => ?_)
          refine lv_goto (tgt := 7) hx hb dX6_lengthTo_45 (by decide) ?_
          have tv1793 : v1793.toInt = (i1784 : Int32).toInt + (1 : Int32).toInt := add_i ev1793 (by omega) (by omega)
          have tv1791 := div_i (n := 4) ev1791 (by decide) (by decide)
          have tv1792 : v1792.toInt = (i1786 : Int32).toInt + (1 : Int32).toInt := add_i ev1792 (by omega) (by omega)
          exact ih_7 (i1784 := v1793) (i1785 := v1791) (i1786 := v1792) (hi_7 := by omega) (hq_7 := by omega) (hr_7 := by omega) (ls := ls) (hn_7 := by omega) (hl := lv_sub hl [0, 2, 1, 3, 4] rfl)
set_option maxRecDepth 40000 in
set_option maxHeartbeats 4000000 in
theorem c_X6_goalLength_1 (l : Launch) (D : va_G) (K : Nat → ClassId) (w : Nat) (wa0 : Nat) (wa1 : Nat) (wa2 : Nat) (wa6 : Nat) (wn3 : Int32) (wn4 : Int32) (wn5 : Int32) (wn7 : Int32) (wn8 : Int32) (wn9 : Int32) (wf2 : Nat → Int32) : Ro l D K yX6_goalLength cX6_goalLength 1 (some .int) 1 24 [.ref w] [(w, .inr (1, [.ref wa0, .ref wa1, .ref wa2, .int wn3, .int wn4, .int wn5, .ref wa6, .int wn7, .int wn8, .int wn9])), (wa2, .inl (K 1, 10240, .inl wf2))] (fun r => (r = (-1)) ∨ ((0 ≤ r.toInt) ∧ (r.toInt ≤ 10240))) := by
  refine ro_of (by decide) (Nat.le_of_ble_eq_true rfl) ?_
  intro p e s m below meth c hC hr hk hE hP ls hl
  replace hC : CallFix p m c cX6_goalLength 1 s [.ref w].toArray wl RX6 := hC
  have hx := hC.1
  have hb := hC.2.1
  have hml := hC.2.2.1
  have hown := hC.2.2.2.1
  have hts := hC.2.2.2.2
  replace hl : lv_has ls 1 [(0, .ref w)] := hl
  have kc_m1 : (-1 : Int32).toInt = -1 := by decide
  refine lv_aload_n hx hb dX6_goalLength_0 rfl (lv_at hl 0 rfl) ?_
  refine va_get (D := D) (ci := 1) (v := .int wn5) (C := RX1) (T := TX1) (N := 10) hx hb hts in_X1 hown hE.1 hP 0 rfl rfl 5 (by decide) (hts _ w_279) (fun _ h9 => h9) rfl dX6_goalLength_1 ?_
  refine lv_iconst (v := (-1)) hx hb dX6_goalLength_4 (by decide) ?_
  refine lv_icmp_ne (tgt := 12) hx hb dX6_goalLength_5 (by decide) (fun c1794 => ?_) (fun c1794 => ?_)
  · replace c1794 := ne_i c1794
    refine lv_aload_n hx hb dX6_goalLength_12 rfl (lv_at hl 0 rfl) ?_
    refine lv_aload_n hx hb dX6_goalLength_13 rfl (lv_at hl 0 rfl) ?_
    refine va_get (D := D) (ci := 1) (v := .int wn5) (C := RX1) (T := TX1) (N := 10) hx hb hts in_X1 hown hE.1 hP 0 rfl rfl 5 (by decide) (hts _ w_279) (fun _ h9 => h9) rfl dX6_goalLength_14 ?_
    refine ro_U (As := [.int wn5]) (rest := []) hC hE kU_X6_49_X6_lengthTo (decl_of hC kU_X6_49_X6_lengthTo rfl) (c_X6_lengthTo_1 l D K w wa0 wa1 wa2 wa6 wn3 wn4 wn5 wn7 wn8 wn9 wf2 wn5) (hP.sub (ws' := [(w, .inr (1, [.ref wa0, .ref wa1, .ref wa2, .int wn3, .int wn4, .int wn5, .ref wa6, .int wn7, .int wn8, .int wn9])), (wa2, .inl (K 1, 10240, .inl wf2))]) [0, 1] rfl) 0 1 rfl rfl (hts _ w_285) rfl hl.1 rfl (Nat.le_of_ble_eq_true rfl) (by decide) (by decide) dX6_goalLength_17 (fun r1797 hq => ?_)
    obtain ⟨h1795, h1796⟩ := hq
    exact ro_ret hC hr hk dX6_goalLength_20 (Or.inr ⟨(by omega), (by omega)⟩)
  · replace c1794 := eq_i c1794
    refine lv_iconst (v := (-1)) hx hb dX6_goalLength_8 (by decide) ?_
    refine lv_goto (tgt := 20) hx hb dX6_goalLength_9 (by decide) ?_
    exact ro_ret hC hr hk dX6_goalLength_20 (Or.inl rfl)
set_option maxRecDepth 40000 in
set_option maxHeartbeats 4000000 in
theorem c_X6_goalWind_1 (l : Launch) (D : va_G) (K : Nat → ClassId) (w : Nat) (wa0 : Nat) (wa1 : Nat) (wa2 : Nat) (wa6 : Nat) (wn3 : Int32) (wn4 : Int32) (wn5 : Int32) (wn7 : Int32) (wn8 : Int32) (wn9 : Int32) (wf2 : Nat → Int32) (p0 : Int32) : Ro l D K yX6_goalWind cX6_goalWind 5 (some .int) 2 44 [.ref w, .int p0] [(w, .inr (1, [.ref wa0, .ref wa1, .ref wa2, .int wn3, .int wn4, .int wn5, .ref wa6, .int wn7, .int wn8, .int wn9])), (wa2, .inl (K 1, 10240, .inl wf2))] (fun _ => True) := by
  refine ro_of (by decide) (Nat.le_of_ble_eq_true rfl) ?_
  intro p e s m below meth c hC hr hk hE hP ls hl
  replace hC : CallFix p m c cX6_goalWind 5 s [.ref w, .int p0].toArray wl RX6 := hC
  have hx := hC.1
  have hb := hC.2.1
  have hml := hC.2.2.1
  have hown := hC.2.2.2.1
  have hts := hC.2.2.2.2
  replace hl : lv_has ls 5 [(0, .ref w), (1, .int p0)] := hl
  have kc_m2 : (-2 : Int32).toInt = -2 := by decide
  have kc_m1 : (-1 : Int32).toInt = -1 := by decide
  have kc_0 : (0 : Int32).toInt = 0 := by decide
  have kc_1 : (1 : Int32).toInt = 1 := by decide
  have kc_10240 : (10240 : Int32).toInt = 10240 := by decide
  refine lv_aload_n hx hb dX6_goalWind_0 rfl (lv_at hl 0 rfl) ?_
  refine ro_U (As := []) (rest := []) hC hE kU_X6_53_X6_goalLength (decl_of hC kU_X6_53_X6_goalLength rfl) (c_X6_goalLength_1 l D K w wa0 wa1 wa2 wa6 wn3 wn4 wn5 wn7 wn8 wn9 wf2) (hP.sub (ws' := [(w, .inr (1, [.ref wa0, .ref wa1, .ref wa2, .int wn3, .int wn4, .int wn5, .ref wa6, .int wn7, .int wn8, .int wn9])), (wa2, .inl (K 1, 10240, .inl wf2))]) [0, 1] rfl) 0 1 rfl rfl (hts _ w_290) rfl hl.1 rfl (Nat.le_of_ble_eq_true rfl) (by decide) (by decide) dX6_goalWind_1 (fun r1800 hq => ?_)
  rcases hq with rfl | ⟨h1798, h1799⟩
  · refine lv_istore_n (lv' := [(2, .int (-1)), (0, .ref w), (1, .int p0)]) hx hb dX6_goalWind_4 rfl hl (by decide) rfl (fun ls hl => ?_)
    refine lv_iload_n hx hb dX6_goalWind_5 rfl (lv_at hl 2 rfl) ?_
    refine lv_if_lt (tgt := 14) hx hb dX6_goalWind_6 (by decide) (fun c1801 => ?_) (fun c1801 => ?_)
    · replace c1801 := lt_i c1801
      refine lv_iconst (v := (-1)) hx hb dX6_goalWind_14 (by decide) ?_
      exact ro_ret hC hr hk dX6_goalWind_15 trivial
    · replace c1801 := nlt_i c1801
      refine lv_iload_n hx hb dX6_goalWind_9 rfl (lv_at hl 2 rfl) ?_
      refine lv_iload_n hx hb dX6_goalWind_10 rfl (lv_at hl 0 rfl) ?_
      refine lv_icmp_lt (tgt := 16) hx hb dX6_goalWind_11 (by decide) (fun c1802 => ?_) (fun c1802 => ?_)
      · replace c1802 := lt_i c1802
        refine lv_aload_n hx hb dX6_goalWind_16 rfl (lv_at hl 1 rfl) ?_
        refine va_get (D := D) (ci := 1) (v := .int wn5) (C := RX1) (T := TX1) (N := 10) hx hb hts in_X1 hown hE.1 hP 0 rfl rfl 5 (by decide) (hts _ w_279) (fun _ h9 => h9) rfl dX6_goalWind_17 ?_
        refine lv_istore_n (lv' := [(3, .int wn5), (2, .int (-1)), (0, .ref w), (1, .int p0)]) hx hb dX6_goalWind_20 rfl hl (by decide) rfl (fun ls hl => ?_)
        refine lv_iload_n hx hb dX6_goalWind_21 rfl (lv_at hl 1 rfl) ?_
        refine lv_iconst (v := 1) hx hb dX6_goalWind_22 (by decide) ?_
        refine lv_isub hx hb dX6_goalWind_23 ?_
        refine tc (y := (-2)) (by decide) ?_
        refine lv_istore (lv' := [(4, .int (-2)), (3, .int wn5), (2, .int (-1)), (0, .ref w), (1, .int p0)]) hx hb dX6_goalWind_24 hl (by decide) rfl (fun ls hl => ?_)
        have hl' := hl; clear hl
        obtain ⟨i1811, i1812, hw_26, hl⟩ : ∃ (i1811 : Int32) (i1812 : Int32), (i1811.toInt ≤ 10240) ∧ lv_has ls 5 [(4, .int i1811), (3, .int i1812), (2, .int (-1)), (0, .ref w), (1, .int p0)] := ⟨_, _, by omega, hl'⟩
        clear hl'
        obtain ⟨n_26, hn_26⟩ : ∃ n : Nat, (i1811.toInt - p0.toInt).toNat < n := ⟨_, Nat.lt_succ_self _⟩
        induction n_26 generalizing i1811 i1812 ls with
        | zero => exact absurd hn_26 (Nat.not_lt_zero _)
        | succ n_26 ih_26 =>
          refine lv_iload hx hb dX6_goalWind_26 (lv_at hl 0 rfl) ?_
          refine lv_iload_n hx hb dX6_goalWind_28 rfl (lv_at hl 4 rfl) ?_
          refine lv_icmp_le (tgt := 60) hx hb dX6_goalWind_29 (by decide) (fun c1813 => ?_) (fun c1813 => ?_)
          · replace c1813 := le_i c1813
            refine lv_iload_n hx hb dX6_goalWind_60 rfl (lv_at hl 1 rfl) ?_
            refine lv_if_le (tgt := 84) hx hb dX6_goalWind_61 (by decide) (fun c1814 => ?_) (fun c1814 => ?_)
            · replace c1814 := le_i c1814
              refine lv_iconst (v := (-1)) hx hb dX6_goalWind_84 (by decide) ?_
              exact ro_ret hC hr hk dX6_goalWind_85 trivial
            · replace c1814 := nle_i c1814
              refine lv_iload_n hx hb dX6_goalWind_64 rfl (lv_at hl 1 rfl) ?_
              refine lv_aload_n hx hb dX6_goalWind_65 rfl (lv_at hl 3 rfl) ?_
              refine va_get (D := D) (ci := 1) (v := .ref wa2) (C := RX1) (T := TX1) (N := 10) hx hb hts in_X1 hown hE.1 hP 0 rfl rfl 2 (by decide) (hts _ w_278) (fun _ h9 => h9) rfl dX6_goalWind_66 ?_
              refine va_alen (v := 10240) hx hb hE.1 hP 1 1 rfl rfl (show Int32.ofNat 10240 = 10240 by decide) dX6_goalWind_69 ?_
              refine lv_icmp_ge (tgt := 84) hx hb dX6_goalWind_70 (by decide) (fun c1815 => ?_) (fun c1815 => ?_)
              · replace c1815 := le_i c1815
                refine lv_iconst (v := (-1)) hx hb dX6_goalWind_84 (by decide) ?_
                exact ro_ret hC hr hk dX6_goalWind_85 trivial
              · replace c1815 := nle_i c1815
                refine lv_aload_n hx hb dX6_goalWind_73 rfl (lv_at hl 3 rfl) ?_
                refine va_get (D := D) (ci := 1) (v := .ref wa2) (C := RX1) (T := TX1) (N := 10) hx hb hts in_X1 hown hE.1 hP 0 rfl rfl 2 (by decide) (hts _ w_278) (fun _ h9 => h9) rfl dX6_goalWind_74 ?_
                refine lv_iload_n hx hb dX6_goalWind_77 rfl (lv_at hl 1 rfl) ?_
                refine va_iald hx hb hE.1 hP 1 1 rfl rfl (vp_in_iff.mpr (by omega)) dX6_goalWind_78 ?_
                refine lv_topi (fun v1816 ev1816 => ?_)
                refine lv_iconst (v := 4) hx hb dX6_goalWind_79 (by decide) ?_
                refine lv_irem hx hb dX6_goalWind_80 (by decide) ?_
                refine lv_topi (fun v1817 ev1817 => ?_)
                refine lv_goto (tgt := 85) hx hb dX6_goalWind_81 (by decide) ?_
                exact ro_ret hC hr hk dX6_goalWind_85 trivial
          · replace c1813 := nle_i c1813
            refine lv_iload_n hx hb dX6_goalWind_32 rfl (lv_at hl 1 rfl) ?_
            refine lv_if_le (tgt := 60) hx hb dX6_goalWind_33 (by decide) (fun c1818 => ?_) (fun c1818 => ?_)
            · replace c1818 := le_i c1818
              refine lv_iload_n hx hb dX6_goalWind_60 rfl (lv_at hl 1 rfl) ?_
              refine lv_if_le (tgt := 84) hx hb dX6_goalWind_61 (by decide) (fun c1819 => ?_) (fun c1819 => ?_)
              · replace c1819 := le_i c1819
                refine lv_iconst (v := (-1)) hx hb dX6_goalWind_84 (by decide) ?_
                exact ro_ret hC hr hk dX6_goalWind_85 trivial
              · replace c1819 := nle_i c1819
                refine lv_iload_n hx hb dX6_goalWind_64 rfl (lv_at hl 1 rfl) ?_
                refine lv_aload_n hx hb dX6_goalWind_65 rfl (lv_at hl 3 rfl) ?_
                refine va_get (D := D) (ci := 1) (v := .ref wa2) (C := RX1) (T := TX1) (N := 10) hx hb hts in_X1 hown hE.1 hP 0 rfl rfl 2 (by decide) (hts _ w_278) (fun _ h9 => h9) rfl dX6_goalWind_66 ?_
                refine va_alen (v := 10240) hx hb hE.1 hP 1 1 rfl rfl (show Int32.ofNat 10240 = 10240 by decide) dX6_goalWind_69 ?_
                refine lv_icmp_ge (tgt := 84) hx hb dX6_goalWind_70 (by decide) (fun c1820 => ?_) (fun c1820 => ?_)
                · replace c1820 := le_i c1820
                  refine lv_iconst (v := (-1)) hx hb dX6_goalWind_84 (by decide) ?_
                  exact ro_ret hC hr hk dX6_goalWind_85 trivial
                · replace c1820 := nle_i c1820
                  refine lv_aload_n hx hb dX6_goalWind_73 rfl (lv_at hl 3 rfl) ?_
                  refine va_get (D := D) (ci := 1) (v := .ref wa2) (C := RX1) (T := TX1) (N := 10) hx hb hts in_X1 hown hE.1 hP 0 rfl rfl 2 (by decide) (hts _ w_278) (fun _ h9 => h9) rfl dX6_goalWind_74 ?_
                  refine lv_iload_n hx hb dX6_goalWind_77 rfl (lv_at hl 1 rfl) ?_
                  refine va_iald hx hb hE.1 hP 1 1 rfl rfl (vp_in_iff.mpr (by omega)) dX6_goalWind_78 ?_
                  refine lv_topi (fun v1821 ev1821 => ?_)
                  refine lv_iconst (v := 4) hx hb dX6_goalWind_79 (by decide) ?_
                  refine lv_irem hx hb dX6_goalWind_80 (by decide) ?_
                  refine lv_topi (fun v1822 ev1822 => ?_)
                  refine lv_goto (tgt := 85) hx hb dX6_goalWind_81 (by decide) ?_
                  exact ro_ret hC hr hk dX6_goalWind_85 trivial
            · replace c1818 := nle_i c1818
              refine lv_iload_n hx hb dX6_goalWind_36 rfl (lv_at hl 1 rfl) ?_
              refine lv_aload_n hx hb dX6_goalWind_37 rfl (lv_at hl 3 rfl) ?_
              refine va_get (D := D) (ci := 1) (v := .ref wa2) (C := RX1) (T := TX1) (N := 10) hx hb hts in_X1 hown hE.1 hP 0 rfl rfl 2 (by decide) (hts _ w_278) (fun _ h9 => h9) rfl dX6_goalWind_38 ?_
              refine va_alen (v := 10240) hx hb hE.1 hP 1 1 rfl rfl (show Int32.ofNat 10240 = 10240 by decide) dX6_goalWind_41 ?_
              refine lv_icmp_ge (tgt := 60) hx hb dX6_goalWind_42 (by decide) (fun c1823 => ?_) (fun c1823 => ?_)
              · replace c1823 := le_i c1823
                refine lv_iload_n hx hb dX6_goalWind_60 rfl (lv_at hl 1 rfl) ?_
                refine lv_if_le (tgt := 84) hx hb dX6_goalWind_61 (by decide) (fun c1824 => ?_) (fun c1824 => ?_)
                · replace c1824 := le_i c1824
                  refine lv_iconst (v := (-1)) hx hb dX6_goalWind_84 (by decide) ?_
                  exact ro_ret hC hr hk dX6_goalWind_85 trivial
                · replace c1824 := nle_i c1824
                  refine lv_iload_n hx hb dX6_goalWind_64 rfl (lv_at hl 1 rfl) ?_
                  refine lv_aload_n hx hb dX6_goalWind_65 rfl (lv_at hl 3 rfl) ?_
                  refine va_get (D := D) (ci := 1) (v := .ref wa2) (C := RX1) (T := TX1) (N := 10) hx hb hts in_X1 hown hE.1 hP 0 rfl rfl 2 (by decide) (hts _ w_278) (fun _ h9 => h9) rfl dX6_goalWind_66 ?_
                  refine va_alen (v := 10240) hx hb hE.1 hP 1 1 rfl rfl (show Int32.ofNat 10240 = 10240 by decide) dX6_goalWind_69 ?_
                  refine lv_icmp_ge (tgt := 84) hx hb dX6_goalWind_70 (by decide) (fun c1825 => ?_) (fun c1825 => ?_)
                  · replace c1825 := le_i c1825
                    refine lv_iconst (v := (-1)) hx hb dX6_goalWind_84 (by decide) ?_
                    exact ro_ret hC hr hk dX6_goalWind_85 trivial
                  · replace c1825 := nle_i c1825
                    refine lv_aload_n hx hb dX6_goalWind_73 rfl (lv_at hl 3 rfl) ?_
                    refine va_get (D := D) (ci := 1) (v := .ref wa2) (C := RX1) (T := TX1) (N := 10) hx hb hts in_X1 hown hE.1 hP 0 rfl rfl 2 (by decide) (hts _ w_278) (fun _ h9 => h9) rfl dX6_goalWind_74 ?_
                    refine lv_iload_n hx hb dX6_goalWind_77 rfl (lv_at hl 1 rfl) ?_
                    refine va_iald hx hb hE.1 hP 1 1 rfl rfl (vp_in_iff.mpr (by omega)) dX6_goalWind_78 ?_
                    refine lv_topi (fun v1826 ev1826 => ?_)
                    refine lv_iconst (v := 4) hx hb dX6_goalWind_79 (by decide) ?_
                    refine lv_irem hx hb dX6_goalWind_80 (by decide) ?_
                    refine lv_topi (fun v1827 ev1827 => ?_)
                    refine lv_goto (tgt := 85) hx hb dX6_goalWind_81 (by decide) ?_
                    exact ro_ret hC hr hk dX6_goalWind_85 trivial
              · replace c1823 := nle_i c1823
                refine lv_aload_n hx hb dX6_goalWind_45 rfl (lv_at hl 3 rfl) ?_
                refine va_get (D := D) (ci := 1) (v := .ref wa2) (C := RX1) (T := TX1) (N := 10) hx hb hts in_X1 hown hE.1 hP 0 rfl rfl 2 (by decide) (hts _ w_278) (fun _ h9 => h9) rfl dX6_goalWind_46 ?_
                refine lv_iload_n hx hb dX6_goalWind_49 rfl (lv_at hl 1 rfl) ?_
                refine va_iald hx hb hE.1 hP 1 1 rfl rfl (vp_in_iff.mpr (by omega)) dX6_goalWind_50 ?_
                refine lv_topi (fun v1828 ev1828 => ?_)
                refine lv_iconst (v := 4) hx hb dX6_goalWind_51 (by decide) ?_
                refine lv_idiv hx hb dX6_goalWind_52 (by decide) ?_
                refine lv_topi (fun v1829 ev1829 => ?_)
                refine lv_istore_n (lv' := [(3, .int v1829), (4, .int i1811), (2, .int (-1)), (0, .ref w), (1, .int p0)]) hx hb dX6_goalWind_53 rfl hl (by decide) rfl (fun ls hl => ?_)
                obtain ⟨v1830, ev1830⟩ : ∃ z : Int32, z = i1811 + (-1) := ⟨_, rfl⟩
                refine lv_iinc (v := v1830) (lv' := [(4, .int v1830), (3, .int v1829), (2, .int (-1)), (0, .ref w), (1, .int p0)]) hx hb dX6_goalWind_54 hl (k := 1) rfl (by rw [ev1830]; rfl) (by decide) rfl (fun ls hl => ?_)
                refine lv_goto (tgt := 26) hx hb dX6_goalWind_57 (by decide) ?_
                have tv1830 : v1830.toInt = (i1811 : Int32).toInt + ((-1) : Int32).toInt := add_i ev1830 (by omega) (by omega)
                have tv1829 := div_i (n := 4) ev1829 (by decide) (by decide)
                exact ih_26 (i1811 := v1830) (i1812 := v1829) (hw_26 := by omega) (ls := ls) (hn_26 := by omega) (hl := lv_sub hl [0, 1, 2, 3, 4] rfl)
      · replace c1802 := nlt_i c1802
        refine lv_iconst (v := (-1)) hx hb dX6_goalWind_14 (by decide) ?_
        exact ro_ret hC hr hk dX6_goalWind_15 trivial
  · refine lv_istore_n (lv' := [(2, .int r1800), (0, .ref w), (1, .int p0)]) hx hb dX6_goalWind_4 rfl hl (by decide) rfl (fun ls hl => ?_)
    refine lv_iload_n hx hb dX6_goalWind_5 rfl (lv_at hl 2 rfl) ?_
    refine lv_if_lt (tgt := 14) hx hb dX6_goalWind_6 (by decide) (fun c1831 => ?_) (fun c1831 => ?_)
    · replace c1831 := lt_i c1831
      refine lv_iconst (v := (-1)) hx hb dX6_goalWind_14 (by decide) ?_
      exact ro_ret hC hr hk dX6_goalWind_15 trivial
    · replace c1831 := nlt_i c1831
      refine lv_iload_n hx hb dX6_goalWind_9 rfl (lv_at hl 2 rfl) ?_
      refine lv_iload_n hx hb dX6_goalWind_10 rfl (lv_at hl 0 rfl) ?_
      refine lv_icmp_lt (tgt := 16) hx hb dX6_goalWind_11 (by decide) (fun c1832 => ?_) (fun c1832 => ?_)
      · replace c1832 := lt_i c1832
        refine lv_aload_n hx hb dX6_goalWind_16 rfl (lv_at hl 1 rfl) ?_
        refine va_get (D := D) (ci := 1) (v := .int wn5) (C := RX1) (T := TX1) (N := 10) hx hb hts in_X1 hown hE.1 hP 0 rfl rfl 5 (by decide) (hts _ w_279) (fun _ h9 => h9) rfl dX6_goalWind_17 ?_
        refine lv_istore_n (lv' := [(3, .int wn5), (2, .int r1800), (0, .ref w), (1, .int p0)]) hx hb dX6_goalWind_20 rfl hl (by decide) rfl (fun ls hl => ?_)
        refine lv_iload_n hx hb dX6_goalWind_21 rfl (lv_at hl 1 rfl) ?_
        refine lv_iconst (v := 1) hx hb dX6_goalWind_22 (by decide) ?_
        refine lv_isub hx hb dX6_goalWind_23 ?_
        refine lv_topi (fun v1833 ev1833 => ?_)
        refine lv_istore (lv' := [(4, .int v1833), (3, .int wn5), (2, .int r1800), (0, .ref w), (1, .int p0)]) hx hb dX6_goalWind_24 hl (by decide) rfl (fun ls hl => ?_)
        have tv1833 : v1833.toInt = (r1800 : Int32).toInt - (1 : Int32).toInt := sub_i ev1833 (by omega) (by omega)
        have hl' := hl; clear hl
        obtain ⟨i1842, i1843, hw_26, hl⟩ : ∃ (i1842 : Int32) (i1843 : Int32), (i1842.toInt ≤ 10240) ∧ lv_has ls 5 [(4, .int i1842), (3, .int i1843), (2, .int r1800), (0, .ref w), (1, .int p0)] := ⟨_, _, by omega, hl'⟩
        clear hl'
        obtain ⟨n_26, hn_26⟩ : ∃ n : Nat, (i1842.toInt - p0.toInt).toNat < n := ⟨_, Nat.lt_succ_self _⟩
        induction n_26 generalizing i1842 i1843 ls with
        | zero => exact absurd hn_26 (Nat.not_lt_zero _)
        | succ n_26 ih_26 =>
          refine lv_iload hx hb dX6_goalWind_26 (lv_at hl 0 rfl) ?_
          refine lv_iload_n hx hb dX6_goalWind_28 rfl (lv_at hl 4 rfl) ?_
          refine lv_icmp_le (tgt := 60) hx hb dX6_goalWind_29 (by decide) (fun c1844 => ?_) (fun c1844 => ?_)
          · replace c1844 := le_i c1844
            refine lv_iload_n hx hb dX6_goalWind_60 rfl (lv_at hl 1 rfl) ?_
            refine lv_if_le (tgt := 84) hx hb dX6_goalWind_61 (by decide) (fun c1845 => ?_) (fun c1845 => ?_)
            · replace c1845 := le_i c1845
              refine lv_iconst (v := (-1)) hx hb dX6_goalWind_84 (by decide) ?_
              exact ro_ret hC hr hk dX6_goalWind_85 trivial
            · replace c1845 := nle_i c1845
              refine lv_iload_n hx hb dX6_goalWind_64 rfl (lv_at hl 1 rfl) ?_
              refine lv_aload_n hx hb dX6_goalWind_65 rfl (lv_at hl 3 rfl) ?_
              refine va_get (D := D) (ci := 1) (v := .ref wa2) (C := RX1) (T := TX1) (N := 10) hx hb hts in_X1 hown hE.1 hP 0 rfl rfl 2 (by decide) (hts _ w_278) (fun _ h9 => h9) rfl dX6_goalWind_66 ?_
              refine va_alen (v := 10240) hx hb hE.1 hP 1 1 rfl rfl (show Int32.ofNat 10240 = 10240 by decide) dX6_goalWind_69 ?_
              refine lv_icmp_ge (tgt := 84) hx hb dX6_goalWind_70 (by decide) (fun c1846 => ?_) (fun c1846 => ?_)
              · replace c1846 := le_i c1846
                refine lv_iconst (v := (-1)) hx hb dX6_goalWind_84 (by decide) ?_
                exact ro_ret hC hr hk dX6_goalWind_85 trivial
              · replace c1846 := nle_i c1846
                refine lv_aload_n hx hb dX6_goalWind_73 rfl (lv_at hl 3 rfl) ?_
                refine va_get (D := D) (ci := 1) (v := .ref wa2) (C := RX1) (T := TX1) (N := 10) hx hb hts in_X1 hown hE.1 hP 0 rfl rfl 2 (by decide) (hts _ w_278) (fun _ h9 => h9) rfl dX6_goalWind_74 ?_
                refine lv_iload_n hx hb dX6_goalWind_77 rfl (lv_at hl 1 rfl) ?_
                refine va_iald hx hb hE.1 hP 1 1 rfl rfl (vp_in_iff.mpr (by omega)) dX6_goalWind_78 ?_
                refine lv_topi (fun v1847 ev1847 => ?_)
                refine lv_iconst (v := 4) hx hb dX6_goalWind_79 (by decide) ?_
                refine lv_irem hx hb dX6_goalWind_80 (by decide) ?_
                refine lv_topi (fun v1848 ev1848 => ?_)
                refine lv_goto (tgt := 85) hx hb dX6_goalWind_81 (by decide) ?_
                exact ro_ret hC hr hk dX6_goalWind_85 trivial
          · replace c1844 := nle_i c1844
            refine lv_iload_n hx hb dX6_goalWind_32 rfl (lv_at hl 1 rfl) ?_
            refine lv_if_le (tgt := 60) hx hb dX6_goalWind_33 (by decide) (fun c1849 => ?_) (fun c1849 => ?_)
            · replace c1849 := le_i c1849
              refine lv_iload_n hx hb dX6_goalWind_60 rfl (lv_at hl 1 rfl) ?_
              refine lv_if_le (tgt := 84) hx hb dX6_goalWind_61 (by decide) (fun c1850 => ?_) (fun c1850 => ?_)
              · replace c1850 := le_i c1850
                refine lv_iconst (v := (-1)) hx hb dX6_goalWind_84 (by decide) ?_
                exact ro_ret hC hr hk dX6_goalWind_85 trivial
              · replace c1850 := nle_i c1850
                refine lv_iload_n hx hb dX6_goalWind_64 rfl (lv_at hl 1 rfl) ?_
                refine lv_aload_n hx hb dX6_goalWind_65 rfl (lv_at hl 3 rfl) ?_
                refine va_get (D := D) (ci := 1) (v := .ref wa2) (C := RX1) (T := TX1) (N := 10) hx hb hts in_X1 hown hE.1 hP 0 rfl rfl 2 (by decide) (hts _ w_278) (fun _ h9 => h9) rfl dX6_goalWind_66 ?_
                refine va_alen (v := 10240) hx hb hE.1 hP 1 1 rfl rfl (show Int32.ofNat 10240 = 10240 by decide) dX6_goalWind_69 ?_
                refine lv_icmp_ge (tgt := 84) hx hb dX6_goalWind_70 (by decide) (fun c1851 => ?_) (fun c1851 => ?_)
                · replace c1851 := le_i c1851
                  refine lv_iconst (v := (-1)) hx hb dX6_goalWind_84 (by decide) ?_
                  exact ro_ret hC hr hk dX6_goalWind_85 trivial
                · replace c1851 := nle_i c1851
                  refine lv_aload_n hx hb dX6_goalWind_73 rfl (lv_at hl 3 rfl) ?_
                  refine va_get (D := D) (ci := 1) (v := .ref wa2) (C := RX1) (T := TX1) (N := 10) hx hb hts in_X1 hown hE.1 hP 0 rfl rfl 2 (by decide) (hts _ w_278) (fun _ h9 => h9) rfl dX6_goalWind_74 ?_
                  refine lv_iload_n hx hb dX6_goalWind_77 rfl (lv_at hl 1 rfl) ?_
                  refine va_iald hx hb hE.1 hP 1 1 rfl rfl (vp_in_iff.mpr (by omega)) dX6_goalWind_78 ?_
                  refine lv_topi (fun v1852 ev1852 => ?_)
                  refine lv_iconst (v := 4) hx hb dX6_goalWind_79 (by decide) ?_
                  refine lv_irem hx hb dX6_goalWind_80 (by decide) ?_
                  refine lv_topi (fun v1853 ev1853 => ?_)
                  refine lv_goto (tgt := 85) hx hb dX6_goalWind_81 (by decide) ?_
                  exact ro_ret hC hr hk dX6_goalWind_85 trivial
            · replace c1849 := nle_i c1849
              refine lv_iload_n hx hb dX6_goalWind_36 rfl (lv_at hl 1 rfl) ?_
              refine lv_aload_n hx hb dX6_goalWind_37 rfl (lv_at hl 3 rfl) ?_
              refine va_get (D := D) (ci := 1) (v := .ref wa2) (C := RX1) (T := TX1) (N := 10) hx hb hts in_X1 hown hE.1 hP 0 rfl rfl 2 (by decide) (hts _ w_278) (fun _ h9 => h9) rfl dX6_goalWind_38 ?_
              refine va_alen (v := 10240) hx hb hE.1 hP 1 1 rfl rfl (show Int32.ofNat 10240 = 10240 by decide) dX6_goalWind_41 ?_
              refine lv_icmp_ge (tgt := 60) hx hb dX6_goalWind_42 (by decide) (fun c1854 => ?_) (fun c1854 => ?_)
              · replace c1854 := le_i c1854
                refine lv_iload_n hx hb dX6_goalWind_60 rfl (lv_at hl 1 rfl) ?_
                refine lv_if_le (tgt := 84) hx hb dX6_goalWind_61 (by decide) (fun c1855 => ?_) (fun c1855 => ?_)
                · replace c1855 := le_i c1855
                  refine lv_iconst (v := (-1)) hx hb dX6_goalWind_84 (by decide) ?_
                  exact ro_ret hC hr hk dX6_goalWind_85 trivial
                · replace c1855 := nle_i c1855
                  refine lv_iload_n hx hb dX6_goalWind_64 rfl (lv_at hl 1 rfl) ?_
                  refine lv_aload_n hx hb dX6_goalWind_65 rfl (lv_at hl 3 rfl) ?_
                  refine va_get (D := D) (ci := 1) (v := .ref wa2) (C := RX1) (T := TX1) (N := 10) hx hb hts in_X1 hown hE.1 hP 0 rfl rfl 2 (by decide) (hts _ w_278) (fun _ h9 => h9) rfl dX6_goalWind_66 ?_
                  refine va_alen (v := 10240) hx hb hE.1 hP 1 1 rfl rfl (show Int32.ofNat 10240 = 10240 by decide) dX6_goalWind_69 ?_
                  refine lv_icmp_ge (tgt := 84) hx hb dX6_goalWind_70 (by decide) (fun c1856 => ?_) (fun c1856 => ?_)
                  · replace c1856 := le_i c1856
                    refine lv_iconst (v := (-1)) hx hb dX6_goalWind_84 (by decide) ?_
                    exact ro_ret hC hr hk dX6_goalWind_85 trivial
                  · replace c1856 := nle_i c1856
                    refine lv_aload_n hx hb dX6_goalWind_73 rfl (lv_at hl 3 rfl) ?_
                    refine va_get (D := D) (ci := 1) (v := .ref wa2) (C := RX1) (T := TX1) (N := 10) hx hb hts in_X1 hown hE.1 hP 0 rfl rfl 2 (by decide) (hts _ w_278) (fun _ h9 => h9) rfl dX6_goalWind_74 ?_
                    refine lv_iload_n hx hb dX6_goalWind_77 rfl (lv_at hl 1 rfl) ?_
                    refine va_iald hx hb hE.1 hP 1 1 rfl rfl (vp_in_iff.mpr (by omega)) dX6_goalWind_78 ?_
                    refine lv_topi (fun v1857 ev1857 => ?_)
                    refine lv_iconst (v := 4) hx hb dX6_goalWind_79 (by decide) ?_
                    refine lv_irem hx hb dX6_goalWind_80 (by decide) ?_
                    refine lv_topi (fun v1858 ev1858 => ?_)
                    refine lv_goto (tgt := 85) hx hb dX6_goalWind_81 (by decide) ?_
                    exact ro_ret hC hr hk dX6_goalWind_85 trivial
              · replace c1854 := nle_i c1854
                refine lv_aload_n hx hb dX6_goalWind_45 rfl (lv_at hl 3 rfl) ?_
                refine va_get (D := D) (ci := 1) (v := .ref wa2) (C := RX1) (T := TX1) (N := 10) hx hb hts in_X1 hown hE.1 hP 0 rfl rfl 2 (by decide) (hts _ w_278) (fun _ h9 => h9) rfl dX6_goalWind_46 ?_
                refine lv_iload_n hx hb dX6_goalWind_49 rfl (lv_at hl 1 rfl) ?_
                refine va_iald hx hb hE.1 hP 1 1 rfl rfl (vp_in_iff.mpr (by omega)) dX6_goalWind_50 ?_
                refine lv_topi (fun v1859 ev1859 => ?_)
                refine lv_iconst (v := 4) hx hb dX6_goalWind_51 (by decide) ?_
                refine lv_idiv hx hb dX6_goalWind_52 (by decide) ?_
                refine lv_topi (fun v1860 ev1860 => ?_)
                refine lv_istore_n (lv' := [(3, .int v1860), (4, .int i1842), (2, .int r1800), (0, .ref w), (1, .int p0)]) hx hb dX6_goalWind_53 rfl hl (by decide) rfl (fun ls hl => ?_)
                obtain ⟨v1861, ev1861⟩ : ∃ z : Int32, z = i1842 + (-1) := ⟨_, rfl⟩
                refine lv_iinc (v := v1861) (lv' := [(4, .int v1861), (3, .int v1860), (2, .int r1800), (0, .ref w), (1, .int p0)]) hx hb dX6_goalWind_54 hl (k := 1) rfl (by rw [ev1861]; rfl) (by decide) rfl (fun ls hl => ?_)
                refine lv_goto (tgt := 26) hx hb dX6_goalWind_57 (by decide) ?_
                have tv1861 : v1861.toInt = (i1842 : Int32).toInt + ((-1) : Int32).toInt := add_i ev1861 (by omega) (by omega)
                have tv1860 := div_i (n := 4) ev1860 (by decide) (by decide)
                exact ih_26 (i1842 := v1861) (i1843 := v1860) (hw_26 := by omega) (ls := ls) (hn_26 := by omega) (hl := lv_sub hl [0, 1, 2, 3, 4] rfl)
      · replace c1832 := nlt_i c1832
        refine lv_iconst (v := (-1)) hx hb dX6_goalWind_14 (by decide) ?_
        exact ro_ret hC hr hk dX6_goalWind_15 trivial
set_option maxRecDepth 40000 in
set_option maxHeartbeats 4000000 in
theorem c_X6_meetState_7 (l : Launch) (D : va_G) (K : Nat → ClassId) (w : Nat) (wa0 : Nat) (wa1 : Nat) (wa2 : Nat) (wn3 : Int32) (wn4 : Int32) (wn5 : Int32) (wn6 : Int32) (wf0 : Nat → Int32) (wf1 : Nat → Int32) (wf2 : Nat → Int32) (p0 : Int32) (p1 : Int32) (hs : 0 ≤ wn4.toInt) : Cv (S := ((Nat → Int32) × (Nat → Nat → Int32) × (Nat → Nat → Int64))) l D K yX6_meetState cX6_meetState 3 0 0 0 0 [.ref w, .int p0, .int p1] [(w, .inr (6, [.ref wa0, .ref wa1, .ref wa2, .int wn3, .int wn4, .int wn5, .int wn6])), (wa0, .inl (K 1, 1024, .inl wf0)), (wa1, .inl (K 1, 1024, .inl wf1)), (wa2, .inl (K 1, 1024, .inl wf2))] (fun u => (0 ≤ (u.1 0).toInt)) (fun u => [(w, .inr (6, [.ref wa0, .ref wa1, .ref wa2, .int wn3, .int (u.1 0), .int wn5, .int wn6])), (wa0, .inl (K 1, 1024, .inl (u.2.1 0))), (wa1, .inl (K 1, 1024, .inl (u.2.1 1))), (wa2, .inl (K 1, 1024, .inl (u.2.1 2)))]) := by
  intro sz
  refine ch_of (y := yX6_meetState) (cc := cX6_meetState) (maxL := 3) (ret := none) (av := [.ref w, .int p0, .int p1]) (ws := [(w, .inr (6, [.ref wa0, .ref wa1, .ref wa2, .int wn3, .int wn4, .int wn5, .int wn6])), (wa0, .inl (K 1, 1024, .inl wf0)), (wa1, .inl (K 1, 1024, .inl wf1)), (wa2, .inl (K 1, 1024, .inl wf2))]) (D := D) (K := K) (Qc := fun A => va_Qv (S := ((Nat → Int32) × (Nat → Nat → Int32) × (Nat → Nat → Int64))) (fun u => (0 ≤ (u.1 0).toInt)) (chB D A (fun u => [(w, .inr (6, [.ref wa0, .ref wa1, .ref wa2, .int wn3, .int (u.1 0), .int wn5, .int wn6])), (wa0, .inl (K 1, 1024, .inl (u.2.1 0))), (wa1, .inl (K 1, 1024, .inl (u.2.1 1))), (wa2, .inl (K 1, 1024, .inl (u.2.1 2)))])) A) (by decide) (Nat.le_of_ble_eq_true rfl) ?_
  intro p e s m below meth c A hC hr hk hin hE hD hA H locs hP hS ls hl
  replace hC : CallFix p m c cX6_meetState 3 s [.ref w, .int p0, .int p1].toArray wl RX6 := hC
  have hx := hC.1
  have hb := hC.2.1
  have hml := hC.2.2.1
  have hown := hC.2.2.2.1
  have hts := hC.2.2.2.2
  replace hl : lv_has ls 3 [(0, .ref w), (1, .int p0), (2, .int p1)] := hl
  have kc_0 : (0 : Int32).toInt = 0 := by decide
  have kc_1 : (1 : Int32).toInt = 1 := by decide
  have kc_1024 : (1024 : Int32).toInt = 1024 := by decide
  refine lv_iload_n hx hb dX6_meetState_0 rfl (lv_at hl 1 rfl) ?_
  refine lv_if_lt (tgt := 38) hx hb dX6_meetState_1 (by decide) (fun c1871 => ?_) (fun c1871 => ?_)
  · replace c1871 := lt_i c1871
    refine W.widen (k := 0) (n := 0) (by decide) (by decide) ?_
    exact ch_vret hC hr hk hS dX6_meetState_38 ((fun k => [wn4].getD k 0, fun k => [wf0, wf1, wf2].getD k (fun _ => 0), fun k => [].getD k (fun _ => 0)) : ((Nat → Int32) × (Nat → Nat → Int32) × (Nat → Nat → Int64))) (show 0 ≤ (wn4 : Int32).toInt from by omega) (hP.sub [0, 1, 2, 3] rfl) (hD.sub [0, 1, 2, 3] (by decide) rfl)
  · replace c1871 := nlt_i c1871
    refine lv_iload_n hx hb dX6_meetState_4 rfl (lv_at hl 1 rfl) ?_
    refine lv_aload_n hx hb dX6_meetState_5 rfl (lv_at hl 0 rfl) ?_
    refine va_get (D := D) (ci := 6) (v := .ref wa0) (C := RX7) (T := TX7) (N := 7) hx hb hts in_X7 hown hE.1 hP 0 rfl rfl 0 (by decide) (hts _ w_274) (fun _ h9 => h9) rfl dX6_meetState_6 ?_
    refine va_alen (v := 1024) hx hb hE.1 hP 1 1 rfl rfl (show Int32.ofNat 1024 = 1024 by decide) dX6_meetState_9 ?_
    refine lv_icmp_ge (tgt := 38) hx hb dX6_meetState_10 (by decide) (fun c1872 => ?_) (fun c1872 => ?_)
    · replace c1872 := le_i c1872
      refine W.widen (k := 0) (n := 0) (by decide) (by decide) ?_
      exact ch_vret hC hr hk hS dX6_meetState_38 ((fun k => [wn4].getD k 0, fun k => [wf0, wf1, wf2].getD k (fun _ => 0), fun k => [].getD k (fun _ => 0)) : ((Nat → Int32) × (Nat → Nat → Int32) × (Nat → Nat → Int64))) (show 0 ≤ (wn4 : Int32).toInt from by omega) (hP.sub [0, 1, 2, 3] rfl) (hD.sub [0, 1, 2, 3] (by decide) rfl)
    · replace c1872 := nle_i c1872
      refine lv_aload_n hx hb dX6_meetState_13 rfl (lv_at hl 0 rfl) ?_
      refine va_get (D := D) (ci := 6) (v := .ref wa0) (C := RX7) (T := TX7) (N := 7) hx hb hts in_X7 hown hE.1 hP 0 rfl rfl 0 (by decide) (hts _ w_274) (fun _ h9 => h9) rfl dX6_meetState_14 ?_
      refine lv_iload_n hx hb dX6_meetState_17 rfl (lv_at hl 1 rfl) ?_
      refine va_iald hx hb hE.1 hP 1 1 rfl rfl (vp_in_iff.mpr (by omega)) dX6_meetState_18 ?_
      refine lv_topi (fun v1873 ev1873 => ?_)
      refine lv_aload_n hx hb dX6_meetState_19 rfl (lv_at hl 0 rfl) ?_
      refine va_get (D := D) (ci := 6) (v := .int wn3) (C := RX7) (T := TX7) (N := 7) hx hb hts in_X7 hown hE.1 hP 0 rfl rfl 3 (by decide) (hts _ w_275) (fun _ h9 => h9) rfl dX6_meetState_20 ?_
      refine lv_icmp_eq (tgt := 38) hx hb dX6_meetState_23 (by decide) (fun c1874 => ?_) (fun c1874 => ?_)
      · replace c1874 := eq_i c1874
        refine W.widen (k := 0) (n := 0) (by decide) (by decide) ?_
        exact ch_vret hC hr hk hS dX6_meetState_38 ((fun k => [wn4].getD k 0, fun k => [wf0, wf1, wf2].getD k (fun _ => 0), fun k => [].getD k (fun _ => 0)) : ((Nat → Int32) × (Nat → Nat → Int32) × (Nat → Nat → Int64))) (show 0 ≤ (wn4 : Int32).toInt from by omega) (hP.sub [0, 1, 2, 3] rfl) (hD.sub [0, 1, 2, 3] (by decide) rfl)
      · replace c1874 := ne_i c1874
        refine lv_aload_n hx hb dX6_meetState_26 rfl (lv_at hl 0 rfl) ?_
        refine va_get (D := D) (ci := 6) (v := .int wn4) (C := RX7) (T := TX7) (N := 7) hx hb hts in_X7 hown hE.1 hP 0 rfl rfl 4 (by decide) (hts _ w_276) (fun _ h9 => h9) rfl dX6_meetState_27 ?_
        refine lv_aload_n hx hb dX6_meetState_30 rfl (lv_at hl 0 rfl) ?_
        refine va_get (D := D) (ci := 6) (v := .ref wa1) (C := RX7) (T := TX7) (N := 7) hx hb hts in_X7 hown hE.1 hP 0 rfl rfl 1 (by decide) (hts _ w_277) (fun _ h9 => h9) rfl dX6_meetState_31 ?_
        refine va_alen (v := 1024) hx hb hE.1 hP 2 1 rfl rfl (show Int32.ofNat 1024 = 1024 by decide) dX6_meetState_34 ?_
        refine lv_icmp_lt (tgt := 39) hx hb dX6_meetState_35 (by decide) (fun c1875 => ?_) (fun c1875 => ?_)
        · replace c1875 := lt_i c1875
          refine lv_aload_n hx hb dX6_meetState_39 rfl (lv_at hl 0 rfl) ?_
          refine va_get (D := D) (ci := 6) (v := .ref wa0) (C := RX7) (T := TX7) (N := 7) hx hb hts in_X7 hown hE.1 hP 0 rfl rfl 0 (by decide) (hts _ w_274) (fun _ h9 => h9) rfl dX6_meetState_40 ?_
          refine lv_iload_n hx hb dX6_meetState_43 rfl (lv_at hl 1 rfl) ?_
          refine lv_aload_n hx hb dX6_meetState_44 rfl (lv_at hl 0 rfl) ?_
          refine va_get (D := D) (ci := 6) (v := .int wn3) (C := RX7) (T := TX7) (N := 7) hx hb hts in_X7 hown hE.1 hP 0 rfl rfl 3 (by decide) (hts _ w_275) (fun _ h9 => h9) rfl dX6_meetState_45 ?_
          refine sti hx hb hE.1 hP hD hS 1 1 rfl rfl (vp_in_iff.mpr (by omega)) dX6_meetState_48 (fun g1876 eg1876 H locs hP hD hS => ?_)
          replace hP : va_P D vwCl [(w, .inr (6, [.ref wa0, .ref wa1, .ref wa2, .int wn3, .int wn4, .int wn5, .int wn6])), (wa0, .inl (K 1, 1024, .inl g1876)), (wa1, .inl (K 1, 1024, .inl wf1)), (wa2, .inl (K 1, 1024, .inl wf2))] H := hP
          replace hD : va_D A [(w, .inr (6, [.ref wa0, .ref wa1, .ref wa2, .int wn3, .int wn4, .int wn5, .int wn6])), (wa0, .inl (K 1, 1024, .inl g1876)), (wa1, .inl (K 1, 1024, .inl wf1)), (wa2, .inl (K 1, 1024, .inl wf2))] := hD
          refine lv_aload_n hx hb dX6_meetState_49 rfl (lv_at hl 0 rfl) ?_
          refine va_get (D := D) (ci := 6) (v := .ref wa1) (C := RX7) (T := TX7) (N := 7) hx hb hts in_X7 hown hE.1 hP 0 rfl rfl 1 (by decide) (hts _ w_277) (fun _ h9 => h9) rfl dX6_meetState_50 ?_
          refine lv_aload_n hx hb dX6_meetState_53 rfl (lv_at hl 0 rfl) ?_
          refine va_get (D := D) (ci := 6) (v := .int wn4) (C := RX7) (T := TX7) (N := 7) hx hb hts in_X7 hown hE.1 hP 0 rfl rfl 4 (by decide) (hts _ w_276) (fun _ h9 => h9) rfl dX6_meetState_54 ?_
          refine lv_iload_n hx hb dX6_meetState_57 rfl (lv_at hl 1 rfl) ?_
          refine sti hx hb hE.1 hP hD hS 2 1 rfl rfl (vp_in_iff.mpr (by omega)) dX6_meetState_58 (fun g1877 eg1877 H locs hP hD hS => ?_)
          replace hP : va_P D vwCl [(w, .inr (6, [.ref wa0, .ref wa1, .ref wa2, .int wn3, .int wn4, .int wn5, .int wn6])), (wa0, .inl (K 1, 1024, .inl g1876)), (wa1, .inl (K 1, 1024, .inl g1877)), (wa2, .inl (K 1, 1024, .inl wf2))] H := hP
          replace hD : va_D A [(w, .inr (6, [.ref wa0, .ref wa1, .ref wa2, .int wn3, .int wn4, .int wn5, .int wn6])), (wa0, .inl (K 1, 1024, .inl g1876)), (wa1, .inl (K 1, 1024, .inl g1877)), (wa2, .inl (K 1, 1024, .inl wf2))] := hD
          refine lv_aload_n hx hb dX6_meetState_59 rfl (lv_at hl 0 rfl) ?_
          refine va_get (D := D) (ci := 6) (v := .ref wa2) (C := RX7) (T := TX7) (N := 7) hx hb hts in_X7 hown hE.1 hP 0 rfl rfl 2 (by decide) (hts _ w_278) (fun _ h9 => h9) rfl dX6_meetState_60 ?_
          refine lv_aload_n hx hb dX6_meetState_63 rfl (lv_at hl 0 rfl) ?_
          refine va_get (D := D) (ci := 6) (v := .int wn4) (C := RX7) (T := TX7) (N := 7) hx hb hts in_X7 hown hE.1 hP 0 rfl rfl 4 (by decide) (hts _ w_276) (fun _ h9 => h9) rfl dX6_meetState_64 ?_
          refine lv_iload_n hx hb dX6_meetState_67 rfl (lv_at hl 2 rfl) ?_
          refine sti hx hb hE.1 hP hD hS 3 1 rfl rfl (vp_in_iff.mpr (by omega)) dX6_meetState_68 (fun g1878 eg1878 H locs hP hD hS => ?_)
          replace hP : va_P D vwCl [(w, .inr (6, [.ref wa0, .ref wa1, .ref wa2, .int wn3, .int wn4, .int wn5, .int wn6])), (wa0, .inl (K 1, 1024, .inl g1876)), (wa1, .inl (K 1, 1024, .inl g1877)), (wa2, .inl (K 1, 1024, .inl g1878))] H := hP
          replace hD : va_D A [(w, .inr (6, [.ref wa0, .ref wa1, .ref wa2, .int wn3, .int wn4, .int wn5, .int wn6])), (wa0, .inl (K 1, 1024, .inl g1876)), (wa1, .inl (K 1, 1024, .inl g1877)), (wa2, .inl (K 1, 1024, .inl g1878))] := hD
          refine lv_aload_n hx hb dX6_meetState_69 rfl (lv_at hl 0 rfl) ?_
          refine lv_dup hx hb dX6_meetState_70 rfl ?_
          refine va_get (D := D) (ci := 6) (v := .int wn4) (C := RX7) (T := TX7) (N := 7) hx hb hts in_X7 hown hE.1 hP 0 rfl rfl 4 (by decide) (hts _ w_276) (fun _ h9 => h9) rfl dX6_meetState_71 ?_
          refine lv_iconst (v := 1) hx hb dX6_meetState_74 (by decide) ?_
          refine lv_iadd hx hb dX6_meetState_75 ?_
          refine lv_topi (fun v1879 ev1879 => ?_)
          refine va_put (D := D) (ci := 6) (v := .int v1879) (ty := .int) (C := RX7) (T := TX7) (N := 7) hx hb hts in_X7 tyX7 tyX7_ok nmX7 hown hE.1 hP hD hS 0 rfl rfl 4 (by decide) (hts _ w_276) (fun _ h9 => h9) rfl (by decide +kernel) rfl rfl (Nat.le_of_ble_eq_true rfl) dX6_meetState_76 (fun H locs hP hD hS => ?_)
          replace hP : va_P D vwCl [(w, .inr (6, [.ref wa0, .ref wa1, .ref wa2, .int wn3, .int v1879, .int wn5, .int wn6])), (wa0, .inl (K 1, 1024, .inl g1876)), (wa1, .inl (K 1, 1024, .inl g1877)), (wa2, .inl (K 1, 1024, .inl g1878))] H := hP
          replace hD : va_D A [(w, .inr (6, [.ref wa0, .ref wa1, .ref wa2, .int wn3, .int v1879, .int wn5, .int wn6])), (wa0, .inl (K 1, 1024, .inl g1876)), (wa1, .inl (K 1, 1024, .inl g1877)), (wa2, .inl (K 1, 1024, .inl g1878))] := hD
          refine W.widen (k := 0) (n := 0) (by decide) (by decide) ?_
          have tv1879 : v1879.toInt = (wn4 : Int32).toInt + (1 : Int32).toInt := add_i ev1879 (by omega) (by omega)
          exact ch_vret hC hr hk hS dX6_meetState_79 ((fun k => [v1879].getD k 0, fun k => [g1876, g1877, g1878].getD k (fun _ => 0), fun k => [].getD k (fun _ => 0)) : ((Nat → Int32) × (Nat → Nat → Int32) × (Nat → Nat → Int64))) (show 0 ≤ (v1879 : Int32).toInt from by omega) (hP.sub [0, 1, 2, 3] rfl) (hD.sub [0, 1, 2, 3] (by decide) rfl)
        · replace c1875 := nlt_i c1875
          refine W.widen (k := 0) (n := 0) (by decide) (by decide) ?_
          exact ch_vret hC hr hk hS dX6_meetState_38 ((fun k => [wn4].getD k 0, fun k => [wf0, wf1, wf2].getD k (fun _ => 0), fun k => [].getD k (fun _ => 0)) : ((Nat → Int32) × (Nat → Nat → Int32) × (Nat → Nat → Int64))) (show 0 ≤ (wn4 : Int32).toInt from by omega) (hP.sub [0, 1, 2, 3] rfl) (hD.sub [0, 1, 2, 3] (by decide) rfl)
set_option maxRecDepth 40000 in
set_option maxHeartbeats 4000000 in
theorem c_X6_lengthTo_7 (l : Launch) (D : va_G) (K : Nat → ClassId) (w : Nat) (wa0 : Nat) (wa1 : Nat) (wa2 : Nat) (wn3 : Int32) (wn4 : Int32) (wn5 : Int32) (wn6 : Int32) (wf2 : Nat → Int32) (p0 : Int32) : Ro l D K yX6_lengthTo cX6_lengthTo 5 (some .int) 0 0 [.ref w, .int p0] [(w, .inr (6, [.ref wa0, .ref wa1, .ref wa2, .int wn3, .int wn4, .int wn5, .int wn6])), (wa2, .inl (K 1, 1024, .inl wf2))] (fun r => ((0 ≤ r.toInt) ∧ (r.toInt ≤ 1024))) := by
  refine ro_of (by decide) (Nat.le_of_ble_eq_true rfl) ?_
  intro p e s m below meth c hC hr hk hE hP ls hl
  replace hC : CallFix p m c cX6_lengthTo 5 s [.ref w, .int p0].toArray wl RX6 := hC
  have hx := hC.1
  have hb := hC.2.1
  have hml := hC.2.2.1
  have hown := hC.2.2.2.1
  have hts := hC.2.2.2.2
  replace hl : lv_has ls 5 [(0, .ref w), (1, .int p0)] := hl
  have kc_0 : (0 : Int32).toInt = 0 := by decide
  have kc_1 : (1 : Int32).toInt = 1 := by decide
  have kc_1024 : (1024 : Int32).toInt = 1024 := by decide
  refine lv_iconst (v := 0) hx hb dX6_lengthTo_0 (by decide) ?_
  refine lv_istore_n (lv' := [(2, .int 0), (0, .ref w), (1, .int p0)]) hx hb dX6_lengthTo_1 rfl hl (by decide) rfl (fun ls hl => ?_)
  refine lv_iload_n hx hb dX6_lengthTo_2 rfl (lv_at hl 2 rfl) ?_
  refine lv_istore_n (lv' := [(3, .int p0), (2, .int 0), (0, .ref w), (1, .int p0)]) hx hb dX6_lengthTo_3 rfl hl (by decide) rfl (fun ls hl => ?_)
  refine lv_iconst (v := 0) hx hb dX6_lengthTo_4 (by decide) ?_
  refine lv_istore (lv' := [(4, .int 0), (3, .int p0), (2, .int 0), (0, .ref w), (1, .int p0)]) hx hb dX6_lengthTo_5 hl (by decide) rfl (fun ls hl => ?_)
  have hl' := hl; clear hl
  obtain ⟨i1890, i1891, i1892, hi_7, hq_7, hr_7, hl⟩ : ∃ (i1890 : Int32) (i1891 : Int32) (i1892 : Int32), ((0 : Int) ≤ i1890.toInt) ∧ (i1892.toInt = i1890.toInt) ∧ (i1890.toInt ≤ 1024) ∧ lv_has ls 5 [(4, .int i1890), (3, .int i1891), (2, .int i1892), (0, .ref w), (1, .int p0)] := ⟨_, _, _, by omega, by omega, by omega, hl'⟩
  clear hl'
  obtain ⟨n_7, hn_7⟩ : ∃ n : Nat, (1024 - i1890.toInt).toNat < n := ⟨_, Nat.lt_succ_self _⟩
  induction n_7 generalizing i1890 i1891 i1892 ls with
  | zero => exact absurd hn_7 (Nat.not_lt_zero _)
  | succ n_7 ih_7 =>
    refine lv_iload hx hb dX6_lengthTo_7 (lv_at hl 0 rfl) ?_
    refine lv_aload_n hx hb dX6_lengthTo_9 rfl (lv_at hl 3 rfl) ?_
    refine va_get (D := D) (ci := 6) (v := .ref wa2) (C := RX7) (T := TX7) (N := 7) hx hb hts in_X7 hown hE.1 hP 0 rfl rfl 2 (by decide) (hts _ w_278) (fun _ h9 => h9) rfl dX6_lengthTo_10 ?_
    refine va_alen (v := 1024) hx hb hE.1 hP 1 1 rfl rfl (show Int32.ofNat 1024 = 1024 by decide) dX6_lengthTo_13 ?_
    refine lv_icmp_ge (tgt := 48) hx hb dX6_lengthTo_14 (by decide) (fun c1893 => ?_) (fun c1893 => ?_)
    · replace c1893 := le_i c1893
      refine lv_iload_n hx hb dX6_lengthTo_48 rfl (lv_at hl 2 rfl) ?_
      exact ro_ret hC hr hk dX6_lengthTo_49 ⟨(by omega), (by omega)⟩
    · replace c1893 := nle_i c1893
      refine lv_iload_n hx hb dX6_lengthTo_17 rfl (lv_at hl 1 rfl) ?_
      refine lv_if_le (tgt := 48) hx hb dX6_lengthTo_18 (by decide) (fun c1894 => ?_) (fun c1894 => ?_)
      · replace c1894 := le_i c1894
        refine lv_iload_n hx hb dX6_lengthTo_48 rfl (lv_at hl 2 rfl) ?_
        exact ro_ret hC hr hk dX6_lengthTo_49 ⟨(by omega), (by omega)⟩
      · replace c1894 := nle_i c1894
        refine lv_iload_n hx hb dX6_lengthTo_21 rfl (lv_at hl 1 rfl) ?_
        refine lv_aload_n hx hb dX6_lengthTo_22 rfl (lv_at hl 3 rfl) ?_
        refine va_get (D := D) (ci := 6) (v := .ref wa2) (C := RX7) (T := TX7) (N := 7) hx hb hts in_X7 hown hE.1 hP 0 rfl rfl 2 (by decide) (hts _ w_278) (fun _ h9 => h9) rfl dX6_lengthTo_23 ?_
        refine va_alen (v := 1024) hx hb hE.1 hP 1 1 rfl rfl (show Int32.ofNat 1024 = 1024 by decide) dX6_lengthTo_26 ?_
        refine lv_icmp_ge (tgt := 48) hx hb dX6_lengthTo_27 (by decide) (fun c1895 => ?_) (fun c1895 => ?_)
        · replace c1895 := le_i c1895
          refine lv_iload_n hx hb dX6_lengthTo_48 rfl (lv_at hl 2 rfl) ?_
          exact ro_ret hC hr hk dX6_lengthTo_49 ⟨(by omega), (by omega)⟩
        · replace c1895 := nle_i c1895
          refine lv_aload_n hx hb dX6_lengthTo_30 rfl (lv_at hl 3 rfl) ?_
          refine va_get (D := D) (ci := 6) (v := .ref wa2) (C := RX7) (T := TX7) (N := 7) hx hb hts in_X7 hown hE.1 hP 0 rfl rfl 2 (by decide) (hts _ w_278) (fun _ h9 => h9) rfl dX6_lengthTo_31 ?_
          refine lv_iload_n hx hb dX6_lengthTo_34 rfl (lv_at hl 1 rfl) ?_
          refine va_iald hx hb hE.1 hP 1 1 rfl rfl (vp_in_iff.mpr (by omega)) dX6_lengthTo_35 ?_
          refine lv_topi (fun v1896 ev1896 => ?_)
          refine lv_iconst (v := 4) hx hb dX6_lengthTo_36 (by decide) ?_
          refine lv_idiv hx hb dX6_lengthTo_37 (by decide) ?_
          refine lv_topi (fun v1897 ev1897 => ?_)
          refine lv_istore_n (lv' := [(3, .int v1897), (4, .int i1890), (2, .int i1892), (0, .ref w), (1, .int p0)]) hx hb dX6_lengthTo_38 rfl hl (by decide) rfl (fun ls hl => ?_)
          obtain ⟨v1898, ev1898⟩ : ∃ z : Int32, z = i1892 + 1 := ⟨_, rfl⟩
          refine lv_iinc (v := v1898) (lv' := [(2, .int v1898), (3, .int v1897), (4, .int i1890), (0, .ref w), (1, .int p0)]) hx hb dX6_lengthTo_39 hl (k := 2) rfl (by rw [ev1898]; rfl) (by decide) rfl (fun ls hl => ?_)
          obtain ⟨v1899, ev1899⟩ : ∃ z : Int32, z = i1890 + 1 := ⟨_, rfl⟩
          refine lv_iinc (v := v1899) (lv' := [(4, .int v1899), (2, .int v1898), (3, .int v1897), (0, .ref w), (1, .int p0)]) hx hb dX6_lengthTo_42 hl (k := 2) rfl (by rw [ev1899]; rfl) (by decide) rfl (fun ls hl => ?_)
          refine lv_goto (tgt := 7) hx hb dX6_lengthTo_45 (by decide) ?_
          have tv1899 : v1899.toInt = (i1890 : Int32).toInt + (1 : Int32).toInt := add_i ev1899 (by omega) (by omega)
          have tv1897 := div_i (n := 4) ev1897 (by decide) (by decide)
          have tv1898 : v1898.toInt = (i1892 : Int32).toInt + (1 : Int32).toInt := add_i ev1898 (by omega) (by omega)
          exact ih_7 (i1890 := v1899) (i1891 := v1897) (i1892 := v1898) (hi_7 := by omega) (hq_7 := by omega) (hr_7 := by omega) (ls := ls) (hn_7 := by omega) (hl := lv_sub hl [0, 2, 1, 3, 4] rfl)
