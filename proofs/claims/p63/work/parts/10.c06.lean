set_option maxRecDepth 40000 in
set_option maxHeartbeats 4000000 in
theorem c_X6_goalLength_7 (l : Launch) (D : va_G) (K : Nat → ClassId) (w : Nat) (wa0 : Nat) (wa1 : Nat) (wa2 : Nat) (wn3 : Int32) (wn4 : Int32) (wn5 : Int32) (wn6 : Int32) (wf2 : Nat → Int32) : Ro l D K yX6_goalLength cX6_goalLength 1 (some .int) 1 24 [.ref w] [(w, .inr (6, [.ref wa0, .ref wa1, .ref wa2, .int wn3, .int wn4, .int wn5, .int wn6])), (wa2, .inl (K 1, 1024, .inl wf2))] (fun r => (r = (-1)) ∨ ((0 ≤ r.toInt) ∧ (r.toInt ≤ 1024))) := by
  refine ro_of (by decide) (Nat.le_of_ble_eq_true rfl) ?_
  intro p e s m below meth c hC hr hk hE hP ls hl
  replace hC : CallFix p m c cX6_goalLength 1 s [.ref w].toArray wl RX6 := hC
  have hx := hC.1
  have hb := hC.2.1
  have hml := hC.2.2.1
  have hown := hC.2.2.2.1
  have hts := hC.2.2.2.2
  replace hl : lv_has ls 1 [(0, .ref w)] := hl
  have kc_m1 : (-1 : Int32).toInt = -1 := by decide
  refine lv_aload_n hx hb dX6_goalLength_0 rfl (lv_at hl 0 rfl) ?_
  refine va_get (D := D) (ci := 6) (v := .int wn5) (C := RX7) (T := TX7) (N := 7) hx hb hts in_X7 hown hE.1 hP 0 rfl rfl 5 (by decide) (hts _ w_279) (fun _ h9 => h9) rfl dX6_goalLength_1 ?_
  refine lv_iconst (v := (-1)) hx hb dX6_goalLength_4 (by decide) ?_
  refine lv_icmp_ne (tgt := 12) hx hb dX6_goalLength_5 (by decide) (fun c1972 => ?_) (fun c1972 => ?_)
  · replace c1972 := ne_i c1972
    refine lv_aload_n hx hb dX6_goalLength_12 rfl (lv_at hl 0 rfl) ?_
    refine lv_aload_n hx hb dX6_goalLength_13 rfl (lv_at hl 0 rfl) ?_
    refine va_get (D := D) (ci := 6) (v := .int wn5) (C := RX7) (T := TX7) (N := 7) hx hb hts in_X7 hown hE.1 hP 0 rfl rfl 5 (by decide) (hts _ w_279) (fun _ h9 => h9) rfl dX6_goalLength_14 ?_
    refine ro_U (As := [.int wn5]) (rest := []) hC hE kU_X6_49_X6_lengthTo (decl_of hC kU_X6_49_X6_lengthTo rfl) (c_X6_lengthTo_7 l D K w wa0 wa1 wa2 wn3 wn4 wn5 wn6 wf2 wn5) (hP.sub (ws' := [(w, .inr (6, [.ref wa0, .ref wa1, .ref wa2, .int wn3, .int wn4, .int wn5, .int wn6])), (wa2, .inl (K 1, 1024, .inl wf2))]) [0, 1] rfl) 0 6 rfl rfl (hts _ w_298) rfl hl.1 rfl (Nat.le_of_ble_eq_true rfl) (by decide) (by decide) dX6_goalLength_17 (fun r1975 hq => ?_)
    obtain ⟨h1973, h1974⟩ := hq
    exact ro_ret hC hr hk dX6_goalLength_20 (Or.inr ⟨(by omega), (by omega)⟩)
  · replace c1972 := eq_i c1972
    refine lv_iconst (v := (-1)) hx hb dX6_goalLength_8 (by decide) ?_
    refine lv_goto (tgt := 20) hx hb dX6_goalLength_9 (by decide) ?_
    exact ro_ret hC hr hk dX6_goalLength_20 (Or.inl rfl)
set_option maxRecDepth 40000 in
set_option maxHeartbeats 4000000 in
theorem c_X6_goalWind_7 (l : Launch) (D : va_G) (K : Nat → ClassId) (w : Nat) (wa0 : Nat) (wa1 : Nat) (wa2 : Nat) (wn3 : Int32) (wn4 : Int32) (wn5 : Int32) (wn6 : Int32) (wf2 : Nat → Int32) (p0 : Int32) : Ro l D K yX6_goalWind cX6_goalWind 5 (some .int) 2 44 [.ref w, .int p0] [(w, .inr (6, [.ref wa0, .ref wa1, .ref wa2, .int wn3, .int wn4, .int wn5, .int wn6])), (wa2, .inl (K 1, 1024, .inl wf2))] (fun _ => True) := by
  refine ro_of (by decide) (Nat.le_of_ble_eq_true rfl) ?_
  intro p e s m below meth c hC hr hk hE hP ls hl
  replace hC : CallFix p m c cX6_goalWind 5 s [.ref w, .int p0].toArray wl RX6 := hC
  have hx := hC.1
  have hb := hC.2.1
  have hml := hC.2.2.1
  have hown := hC.2.2.2.1
  have hts := hC.2.2.2.2
  replace hl : lv_has ls 5 [(0, .ref w), (1, .int p0)] := hl
  have kc_m2 : (-2 : Int32).toInt = -2 := by decide
  have kc_m1 : (-1 : Int32).toInt = -1 := by decide
  have kc_0 : (0 : Int32).toInt = 0 := by decide
  have kc_1 : (1 : Int32).toInt = 1 := by decide
  have kc_1024 : (1024 : Int32).toInt = 1024 := by decide
  refine lv_aload_n hx hb dX6_goalWind_0 rfl (lv_at hl 0 rfl) ?_
  refine ro_U (As := []) (rest := []) hC hE kU_X6_53_X6_goalLength (decl_of hC kU_X6_53_X6_goalLength rfl) (c_X6_goalLength_7 l D K w wa0 wa1 wa2 wn3 wn4 wn5 wn6 wf2) (hP.sub (ws' := [(w, .inr (6, [.ref wa0, .ref wa1, .ref wa2, .int wn3, .int wn4, .int wn5, .int wn6])), (wa2, .inl (K 1, 1024, .inl wf2))]) [0, 1] rfl) 0 6 rfl rfl (hts _ w_299) rfl hl.1 rfl (Nat.le_of_ble_eq_true rfl) (by decide) (by decide) dX6_goalWind_1 (fun r1978 hq => ?_)
  rcases hq with rfl | ⟨h1976, h1977⟩
  · refine lv_istore_n (lv' := [(2, .int (-1)), (0, .ref w), (1, .int p0)]) hx hb dX6_goalWind_4 rfl hl (by decide) rfl (fun ls hl => ?_)
    refine lv_iload_n hx hb dX6_goalWind_5 rfl (lv_at hl 2 rfl) ?_
    refine lv_if_lt (tgt := 14) hx hb dX6_goalWind_6 (by decide) (fun c1979 => ?_) (fun c1979 => ?_)
    · replace c1979 := lt_i c1979
      refine lv_iconst (v := (-1)) hx hb dX6_goalWind_14 (by decide) ?_
      exact ro_ret hC hr hk dX6_goalWind_15 trivial
    · replace c1979 := nlt_i c1979
      refine lv_iload_n hx hb dX6_goalWind_9 rfl (lv_at hl 2 rfl) ?_
      refine lv_iload_n hx hb dX6_goalWind_10 rfl (lv_at hl 0 rfl) ?_
      refine lv_icmp_lt (tgt := 16) hx hb dX6_goalWind_11 (by decide) (fun c1980 => ?_) (fun c1980 => ?_)
      · replace c1980 := lt_i c1980
        refine lv_aload_n hx hb dX6_goalWind_16 rfl (lv_at hl 1 rfl) ?_
        refine va_get (D := D) (ci := 6) (v := .int wn5) (C := RX7) (T := TX7) (N := 7) hx hb hts in_X7 hown hE.1 hP 0 rfl rfl 5 (by decide) (hts _ w_279) (fun _ h9 => h9) rfl dX6_goalWind_17 ?_
        refine lv_istore_n (lv' := [(3, .int wn5), (2, .int (-1)), (0, .ref w), (1, .int p0)]) hx hb dX6_goalWind_20 rfl hl (by decide) rfl (fun ls hl => ?_)
        refine lv_iload_n hx hb dX6_goalWind_21 rfl (lv_at hl 1 rfl) ?_
        refine lv_iconst (v := 1) hx hb dX6_goalWind_22 (by decide) ?_
        refine lv_isub hx hb dX6_goalWind_23 ?_
        refine tc (y := (-2)) (by decide) ?_
        refine lv_istore (lv' := [(4, .int (-2)), (3, .int wn5), (2, .int (-1)), (0, .ref w), (1, .int p0)]) hx hb dX6_goalWind_24 hl (by decide) rfl (fun ls hl => ?_)
        have hl' := hl; clear hl
        obtain ⟨i1989, i1990, hw_26, hl⟩ : ∃ (i1989 : Int32) (i1990 : Int32), (i1989.toInt ≤ 10240) ∧ lv_has ls 5 [(4, .int i1989), (3, .int i1990), (2, .int (-1)), (0, .ref w), (1, .int p0)] := ⟨_, _, by omega, hl'⟩
        clear hl'
        obtain ⟨n_26, hn_26⟩ : ∃ n : Nat, (i1989.toInt - p0.toInt).toNat < n := ⟨_, Nat.lt_succ_self _⟩
        induction n_26 generalizing i1989 i1990 ls with
        | zero => exact absurd hn_26 (Nat.not_lt_zero _)
        | succ n_26 ih_26 =>
          refine lv_iload hx hb dX6_goalWind_26 (lv_at hl 0 rfl) ?_
          refine lv_iload_n hx hb dX6_goalWind_28 rfl (lv_at hl 4 rfl) ?_
          refine lv_icmp_le (tgt := 60) hx hb dX6_goalWind_29 (by decide) (fun c1991 => ?_) (fun c1991 => ?_)
          · replace c1991 := le_i c1991
            refine lv_iload_n hx hb dX6_goalWind_60 rfl (lv_at hl 1 rfl) ?_
            refine lv_if_le (tgt := 84) hx hb dX6_goalWind_61 (by decide) (fun c1992 => ?_) (fun c1992 => ?_)
            · replace c1992 := le_i c1992
              refine lv_iconst (v := (-1)) hx hb dX6_goalWind_84 (by decide) ?_
              exact ro_ret hC hr hk dX6_goalWind_85 trivial
            · replace c1992 := nle_i c1992
              refine lv_iload_n hx hb dX6_goalWind_64 rfl (lv_at hl 1 rfl) ?_
              refine lv_aload_n hx hb dX6_goalWind_65 rfl (lv_at hl 3 rfl) ?_
              refine va_get (D := D) (ci := 6) (v := .ref wa2) (C := RX7) (T := TX7) (N := 7) hx hb hts in_X7 hown hE.1 hP 0 rfl rfl 2 (by decide) (hts _ w_278) (fun _ h9 => h9) rfl dX6_goalWind_66 ?_
              refine va_alen (v := 1024) hx hb hE.1 hP 1 1 rfl rfl (show Int32.ofNat 1024 = 1024 by decide) dX6_goalWind_69 ?_
              refine lv_icmp_ge (tgt := 84) hx hb dX6_goalWind_70 (by decide) (fun c1993 => ?_) (fun c1993 => ?_)
              · replace c1993 := le_i c1993
                refine lv_iconst (v := (-1)) hx hb dX6_goalWind_84 (by decide) ?_
                exact ro_ret hC hr hk dX6_goalWind_85 trivial
              · replace c1993 := nle_i c1993
                refine lv_aload_n hx hb dX6_goalWind_73 rfl (lv_at hl 3 rfl) ?_
                refine va_get (D := D) (ci := 6) (v := .ref wa2) (C := RX7) (T := TX7) (N := 7) hx hb hts in_X7 hown hE.1 hP 0 rfl rfl 2 (by decide) (hts _ w_278) (fun _ h9 => h9) rfl dX6_goalWind_74 ?_
                refine lv_iload_n hx hb dX6_goalWind_77 rfl (lv_at hl 1 rfl) ?_
                refine va_iald hx hb hE.1 hP 1 1 rfl rfl (vp_in_iff.mpr (by omega)) dX6_goalWind_78 ?_
                refine lv_topi (fun v1994 ev1994 => ?_)
                refine lv_iconst (v := 4) hx hb dX6_goalWind_79 (by decide) ?_
                refine lv_irem hx hb dX6_goalWind_80 (by decide) ?_
                refine lv_topi (fun v1995 ev1995 => ?_)
                refine lv_goto (tgt := 85) hx hb dX6_goalWind_81 (by decide) ?_
                exact ro_ret hC hr hk dX6_goalWind_85 trivial
          · replace c1991 := nle_i c1991
            refine lv_iload_n hx hb dX6_goalWind_32 rfl (lv_at hl 1 rfl) ?_
            refine lv_if_le (tgt := 60) hx hb dX6_goalWind_33 (by decide) (fun c1996 => ?_) (fun c1996 => ?_)
            · replace c1996 := le_i c1996
              refine lv_iload_n hx hb dX6_goalWind_60 rfl (lv_at hl 1 rfl) ?_
              refine lv_if_le (tgt := 84) hx hb dX6_goalWind_61 (by decide) (fun c1997 => ?_) (fun c1997 => ?_)
              · replace c1997 := le_i c1997
                refine lv_iconst (v := (-1)) hx hb dX6_goalWind_84 (by decide) ?_
                exact ro_ret hC hr hk dX6_goalWind_85 trivial
              · replace c1997 := nle_i c1997
                refine lv_iload_n hx hb dX6_goalWind_64 rfl (lv_at hl 1 rfl) ?_
                refine lv_aload_n hx hb dX6_goalWind_65 rfl (lv_at hl 3 rfl) ?_
                refine va_get (D := D) (ci := 6) (v := .ref wa2) (C := RX7) (T := TX7) (N := 7) hx hb hts in_X7 hown hE.1 hP 0 rfl rfl 2 (by decide) (hts _ w_278) (fun _ h9 => h9) rfl dX6_goalWind_66 ?_
                refine va_alen (v := 1024) hx hb hE.1 hP 1 1 rfl rfl (show Int32.ofNat 1024 = 1024 by decide) dX6_goalWind_69 ?_
                refine lv_icmp_ge (tgt := 84) hx hb dX6_goalWind_70 (by decide) (fun c1998 => ?_) (fun c1998 => ?_)
                · replace c1998 := le_i c1998
                  refine lv_iconst (v := (-1)) hx hb dX6_goalWind_84 (by decide) ?_
                  exact ro_ret hC hr hk dX6_goalWind_85 trivial
                · replace c1998 := nle_i c1998
                  refine lv_aload_n hx hb dX6_goalWind_73 rfl (lv_at hl 3 rfl) ?_
                  refine va_get (D := D) (ci := 6) (v := .ref wa2) (C := RX7) (T := TX7) (N := 7) hx hb hts in_X7 hown hE.1 hP 0 rfl rfl 2 (by decide) (hts _ w_278) (fun _ h9 => h9) rfl dX6_goalWind_74 ?_
                  refine lv_iload_n hx hb dX6_goalWind_77 rfl (lv_at hl 1 rfl) ?_
                  refine va_iald hx hb hE.1 hP 1 1 rfl rfl (vp_in_iff.mpr (by omega)) dX6_goalWind_78 ?_
                  refine lv_topi (fun v1999 ev1999 => ?_)
                  refine lv_iconst (v := 4) hx hb dX6_goalWind_79 (by decide) ?_
                  refine lv_irem hx hb dX6_goalWind_80 (by decide) ?_
                  refine lv_topi (fun v2000 ev2000 => ?_)
                  refine lv_goto (tgt := 85) hx hb dX6_goalWind_81 (by decide) ?_
                  exact ro_ret hC hr hk dX6_goalWind_85 trivial
            · replace c1996 := nle_i c1996
              refine lv_iload_n hx hb dX6_goalWind_36 rfl (lv_at hl 1 rfl) ?_
              refine lv_aload_n hx hb dX6_goalWind_37 rfl (lv_at hl 3 rfl) ?_
              refine va_get (D := D) (ci := 6) (v := .ref wa2) (C := RX7) (T := TX7) (N := 7) hx hb hts in_X7 hown hE.1 hP 0 rfl rfl 2 (by decide) (hts _ w_278) (fun _ h9 => h9) rfl dX6_goalWind_38 ?_
              refine va_alen (v := 1024) hx hb hE.1 hP 1 1 rfl rfl (show Int32.ofNat 1024 = 1024 by decide) dX6_goalWind_41 ?_
              refine lv_icmp_ge (tgt := 60) hx hb dX6_goalWind_42 (by decide) (fun c2001 => ?_) (fun c2001 => ?_)
              · replace c2001 := le_i c2001
                refine lv_iload_n hx hb dX6_goalWind_60 rfl (lv_at hl 1 rfl) ?_
                refine lv_if_le (tgt := 84) hx hb dX6_goalWind_61 (by decide) (fun c2002 => ?_) (fun c2002 => ?_)
                · replace c2002 := le_i c2002
                  refine lv_iconst (v := (-1)) hx hb dX6_goalWind_84 (by decide) ?_
                  exact ro_ret hC hr hk dX6_goalWind_85 trivial
                · replace c2002 := nle_i c2002
                  refine lv_iload_n hx hb dX6_goalWind_64 rfl (lv_at hl 1 rfl) ?_
                  refine lv_aload_n hx hb dX6_goalWind_65 rfl (lv_at hl 3 rfl) ?_
                  refine va_get (D := D) (ci := 6) (v := .ref wa2) (C := RX7) (T := TX7) (N := 7) hx hb hts in_X7 hown hE.1 hP 0 rfl rfl 2 (by decide) (hts _ w_278) (fun _ h9 => h9) rfl dX6_goalWind_66 ?_
                  refine va_alen (v := 1024) hx hb hE.1 hP 1 1 rfl rfl (show Int32.ofNat 1024 = 1024 by decide) dX6_goalWind_69 ?_
                  refine lv_icmp_ge (tgt := 84) hx hb dX6_goalWind_70 (by decide) (fun c2003 => ?_) (fun c2003 => ?_)
                  · replace c2003 := le_i c2003
                    refine lv_iconst (v := (-1)) hx hb dX6_goalWind_84 (by decide) ?_
                    exact ro_ret hC hr hk dX6_goalWind_85 trivial
                  · replace c2003 := nle_i c2003
                    refine lv_aload_n hx hb dX6_goalWind_73 rfl (lv_at hl 3 rfl) ?_
                    refine va_get (D := D) (ci := 6) (v := .ref wa2) (C := RX7) (T := TX7) (N := 7) hx hb hts in_X7 hown hE.1 hP 0 rfl rfl 2 (by decide) (hts _ w_278) (fun _ h9 => h9) rfl dX6_goalWind_74 ?_
                    refine lv_iload_n hx hb dX6_goalWind_77 rfl (lv_at hl 1 rfl) ?_
                    refine va_iald hx hb hE.1 hP 1 1 rfl rfl (vp_in_iff.mpr (by omega)) dX6_goalWind_78 ?_
                    refine lv_topi (fun v2004 ev2004 => ?_)
                    refine lv_iconst (v := 4) hx hb dX6_goalWind_79 (by decide) ?_
                    refine lv_irem hx hb dX6_goalWind_80 (by decide) ?_
                    refine lv_topi (fun v2005 ev2005 => ?_)
                    refine lv_goto (tgt := 85) hx hb dX6_goalWind_81 (by decide) ?_
                    exact ro_ret hC hr hk dX6_goalWind_85 trivial
              · replace c2001 := nle_i c2001
                refine lv_aload_n hx hb dX6_goalWind_45 rfl (lv_at hl 3 rfl) ?_
                refine va_get (D := D) (ci := 6) (v := .ref wa2) (C := RX7) (T := TX7) (N := 7) hx hb hts in_X7 hown hE.1 hP 0 rfl rfl 2 (by decide) (hts _ w_278) (fun _ h9 => h9) rfl dX6_goalWind_46 ?_
                refine lv_iload_n hx hb dX6_goalWind_49 rfl (lv_at hl 1 rfl) ?_
                refine va_iald hx hb hE.1 hP 1 1 rfl rfl (vp_in_iff.mpr (by omega)) dX6_goalWind_50 ?_
                refine lv_topi (fun v2006 ev2006 => ?_)
                refine lv_iconst (v := 4) hx hb dX6_goalWind_51 (by decide) ?_
                refine lv_idiv hx hb dX6_goalWind_52 (by decide) ?_
                refine lv_topi (fun v2007 ev2007 => ?_)
                refine lv_istore_n (lv' := [(3, .int v2007), (4, .int i1989), (2, .int (-1)), (0, .ref w), (1, .int p0)]) hx hb dX6_goalWind_53 rfl hl (by decide) rfl (fun ls hl => ?_)
                obtain ⟨v2008, ev2008⟩ : ∃ z : Int32, z = i1989 + (-1) := ⟨_, rfl⟩
                refine lv_iinc (v := v2008) (lv' := [(4, .int v2008), (3, .int v2007), (2, .int (-1)), (0, .ref w), (1, .int p0)]) hx hb dX6_goalWind_54 hl (k := 1) rfl (by rw [ev2008]; rfl) (by decide) rfl (fun ls hl => ?_)
                refine lv_goto (tgt := 26) hx hb dX6_goalWind_57 (by decide) ?_
                have tv2008 : v2008.toInt = (i1989 : Int32).toInt + ((-1) : Int32).toInt := add_i ev2008 (by omega) (by omega)
                have tv2007 := div_i (n := 4) ev2007 (by decide) (by decide)
                exact ih_26 (i1989 := v2008) (i1990 := v2007) (hw_26 := by omega) (ls := ls) (hn_26 := by omega) (hl := lv_sub hl [0, 1, 2, 3, 4] rfl)
      · replace c1980 := nlt_i c1980
        refine lv_iconst (v := (-1)) hx hb dX6_goalWind_14 (by decide) ?_
        exact ro_ret hC hr hk dX6_goalWind_15 trivial
  · refine lv_istore_n (lv' := [(2, .int r1978), (0, .ref w), (1, .int p0)]) hx hb dX6_goalWind_4 rfl hl (by decide) rfl (fun ls hl => ?_)
    refine lv_iload_n hx hb dX6_goalWind_5 rfl (lv_at hl 2 rfl) ?_
    refine lv_if_lt (tgt := 14) hx hb dX6_goalWind_6 (by decide) (fun c2009 => ?_) (fun c2009 => ?_)
    · replace c2009 := lt_i c2009
      refine lv_iconst (v := (-1)) hx hb dX6_goalWind_14 (by decide) ?_
      exact ro_ret hC hr hk dX6_goalWind_15 trivial
    · replace c2009 := nlt_i c2009
      refine lv_iload_n hx hb dX6_goalWind_9 rfl (lv_at hl 2 rfl) ?_
      refine lv_iload_n hx hb dX6_goalWind_10 rfl (lv_at hl 0 rfl) ?_
      refine lv_icmp_lt (tgt := 16) hx hb dX6_goalWind_11 (by decide) (fun c2010 => ?_) (fun c2010 => ?_)
      · replace c2010 := lt_i c2010
        refine lv_aload_n hx hb dX6_goalWind_16 rfl (lv_at hl 1 rfl) ?_
        refine va_get (D := D) (ci := 6) (v := .int wn5) (C := RX7) (T := TX7) (N := 7) hx hb hts in_X7 hown hE.1 hP 0 rfl rfl 5 (by decide) (hts _ w_279) (fun _ h9 => h9) rfl dX6_goalWind_17 ?_
        refine lv_istore_n (lv' := [(3, .int wn5), (2, .int r1978), (0, .ref w), (1, .int p0)]) hx hb dX6_goalWind_20 rfl hl (by decide) rfl (fun ls hl => ?_)
        refine lv_iload_n hx hb dX6_goalWind_21 rfl (lv_at hl 1 rfl) ?_
        refine lv_iconst (v := 1) hx hb dX6_goalWind_22 (by decide) ?_
        refine lv_isub hx hb dX6_goalWind_23 ?_
        refine lv_topi (fun v2011 ev2011 => ?_)
        refine lv_istore (lv' := [(4, .int v2011), (3, .int wn5), (2, .int r1978), (0, .ref w), (1, .int p0)]) hx hb dX6_goalWind_24 hl (by decide) rfl (fun ls hl => ?_)
        have tv2011 : v2011.toInt = (r1978 : Int32).toInt - (1 : Int32).toInt := sub_i ev2011 (by omega) (by omega)
        have hl' := hl; clear hl
        obtain ⟨i2020, i2021, hw_26, hl⟩ : ∃ (i2020 : Int32) (i2021 : Int32), (i2020.toInt ≤ 10240) ∧ lv_has ls 5 [(4, .int i2020), (3, .int i2021), (2, .int r1978), (0, .ref w), (1, .int p0)] := ⟨_, _, by omega, hl'⟩
        clear hl'
        obtain ⟨n_26, hn_26⟩ : ∃ n : Nat, (i2020.toInt - p0.toInt).toNat < n := ⟨_, Nat.lt_succ_self _⟩
        induction n_26 generalizing i2020 i2021 ls with
        | zero => exact absurd hn_26 (Nat.not_lt_zero _)
        | succ n_26 ih_26 =>
          refine lv_iload hx hb dX6_goalWind_26 (lv_at hl 0 rfl) ?_
          refine lv_iload_n hx hb dX6_goalWind_28 rfl (lv_at hl 4 rfl) ?_
          refine lv_icmp_le (tgt := 60) hx hb dX6_goalWind_29 (by decide) (fun c2022 => ?_) (fun c2022 => ?_)
          · replace c2022 := le_i c2022
            refine lv_iload_n hx hb dX6_goalWind_60 rfl (lv_at hl 1 rfl) ?_
            refine lv_if_le (tgt := 84) hx hb dX6_goalWind_61 (by decide) (fun c2023 => ?_) (fun c2023 => ?_)
            · replace c2023 := le_i c2023
              refine lv_iconst (v := (-1)) hx hb dX6_goalWind_84 (by decide) ?_
              exact ro_ret hC hr hk dX6_goalWind_85 trivial
            · replace c2023 := nle_i c2023
              refine lv_iload_n hx hb dX6_goalWind_64 rfl (lv_at hl 1 rfl) ?_
              refine lv_aload_n hx hb dX6_goalWind_65 rfl (lv_at hl 3 rfl) ?_
              refine va_get (D := D) (ci := 6) (v := .ref wa2) (C := RX7) (T := TX7) (N := 7) hx hb hts in_X7 hown hE.1 hP 0 rfl rfl 2 (by decide) (hts _ w_278) (fun _ h9 => h9) rfl dX6_goalWind_66 ?_
              refine va_alen (v := 1024) hx hb hE.1 hP 1 1 rfl rfl (show Int32.ofNat 1024 = 1024 by decide) dX6_goalWind_69 ?_
              refine lv_icmp_ge (tgt := 84) hx hb dX6_goalWind_70 (by decide) (fun c2024 => ?_) (fun c2024 => ?_)
              · replace c2024 := le_i c2024
                refine lv_iconst (v := (-1)) hx hb dX6_goalWind_84 (by decide) ?_
                exact ro_ret hC hr hk dX6_goalWind_85 trivial
              · replace c2024 := nle_i c2024
                refine lv_aload_n hx hb dX6_goalWind_73 rfl (lv_at hl 3 rfl) ?_
                refine va_get (D := D) (ci := 6) (v := .ref wa2) (C := RX7) (T := TX7) (N := 7) hx hb hts in_X7 hown hE.1 hP 0 rfl rfl 2 (by decide) (hts _ w_278) (fun _ h9 => h9) rfl dX6_goalWind_74 ?_
                refine lv_iload_n hx hb dX6_goalWind_77 rfl (lv_at hl 1 rfl) ?_
                refine va_iald hx hb hE.1 hP 1 1 rfl rfl (vp_in_iff.mpr (by omega)) dX6_goalWind_78 ?_
                refine lv_topi (fun v2025 ev2025 => ?_)
                refine lv_iconst (v := 4) hx hb dX6_goalWind_79 (by decide) ?_
                refine lv_irem hx hb dX6_goalWind_80 (by decide) ?_
                refine lv_topi (fun v2026 ev2026 => ?_)
                refine lv_goto (tgt := 85) hx hb dX6_goalWind_81 (by decide) ?_
                exact ro_ret hC hr hk dX6_goalWind_85 trivial
          · replace c2022 := nle_i c2022
            refine lv_iload_n hx hb dX6_goalWind_32 rfl (lv_at hl 1 rfl) ?_
            refine lv_if_le (tgt := 60) hx hb dX6_goalWind_33 (by decide) (fun c2027 => ?_) (fun c2027 => ?_)
            · replace c2027 := le_i c2027
              refine lv_iload_n hx hb dX6_goalWind_60 rfl (lv_at hl 1 rfl) ?_
              refine lv_if_le (tgt := 84) hx hb dX6_goalWind_61 (by decide) (fun c2028 => ?_) (fun c2028 => ?_)
              · replace c2028 := le_i c2028
                refine lv_iconst (v := (-1)) hx hb dX6_goalWind_84 (by decide) ?_
                exact ro_ret hC hr hk dX6_goalWind_85 trivial
              · replace c2028 := nle_i c2028
                refine lv_iload_n hx hb dX6_goalWind_64 rfl (lv_at hl 1 rfl) ?_
                refine lv_aload_n hx hb dX6_goalWind_65 rfl (lv_at hl 3 rfl) ?_
                refine va_get (D := D) (ci := 6) (v := .ref wa2) (C := RX7) (T := TX7) (N := 7) hx hb hts in_X7 hown hE.1 hP 0 rfl rfl 2 (by decide) (hts _ w_278) (fun _ h9 => h9) rfl dX6_goalWind_66 ?_
                refine va_alen (v := 1024) hx hb hE.1 hP 1 1 rfl rfl (show Int32.ofNat 1024 = 1024 by decide) dX6_goalWind_69 ?_
                refine lv_icmp_ge (tgt := 84) hx hb dX6_goalWind_70 (by decide) (fun c2029 => ?_) (fun c2029 => ?_)
                · replace c2029 := le_i c2029
                  refine lv_iconst (v := (-1)) hx hb dX6_goalWind_84 (by decide) ?_
                  exact ro_ret hC hr hk dX6_goalWind_85 trivial
                · replace c2029 := nle_i c2029
                  refine lv_aload_n hx hb dX6_goalWind_73 rfl (lv_at hl 3 rfl) ?_
                  refine va_get (D := D) (ci := 6) (v := .ref wa2) (C := RX7) (T := TX7) (N := 7) hx hb hts in_X7 hown hE.1 hP 0 rfl rfl 2 (by decide) (hts _ w_278) (fun _ h9 => h9) rfl dX6_goalWind_74 ?_
                  refine lv_iload_n hx hb dX6_goalWind_77 rfl (lv_at hl 1 rfl) ?_
                  refine va_iald hx hb hE.1 hP 1 1 rfl rfl (vp_in_iff.mpr (by omega)) dX6_goalWind_78 ?_
                  refine lv_topi (fun v2030 ev2030 => ?_)
                  refine lv_iconst (v := 4) hx hb dX6_goalWind_79 (by decide) ?_
                  refine lv_irem hx hb dX6_goalWind_80 (by decide) ?_
                  refine lv_topi (fun v2031 ev2031 => ?_)
                  refine lv_goto (tgt := 85) hx hb dX6_goalWind_81 (by decide) ?_
                  exact ro_ret hC hr hk dX6_goalWind_85 trivial
            · replace c2027 := nle_i c2027
              refine lv_iload_n hx hb dX6_goalWind_36 rfl (lv_at hl 1 rfl) ?_
              refine lv_aload_n hx hb dX6_goalWind_37 rfl (lv_at hl 3 rfl) ?_
              refine va_get (D := D) (ci := 6) (v := .ref wa2) (C := RX7) (T := TX7) (N := 7) hx hb hts in_X7 hown hE.1 hP 0 rfl rfl 2 (by decide) (hts _ w_278) (fun _ h9 => h9) rfl dX6_goalWind_38 ?_
              refine va_alen (v := 1024) hx hb hE.1 hP 1 1 rfl rfl (show Int32.ofNat 1024 = 1024 by decide) dX6_goalWind_41 ?_
              refine lv_icmp_ge (tgt := 60) hx hb dX6_goalWind_42 (by decide) (fun c2032 => ?_) (fun c2032 => ?_)
              · replace c2032 := le_i c2032
                refine lv_iload_n hx hb dX6_goalWind_60 rfl (lv_at hl 1 rfl) ?_
                refine lv_if_le (tgt := 84) hx hb dX6_goalWind_61 (by decide) (fun c2033 => ?_) (fun c2033 => ?_)
                · replace c2033 := le_i c2033
                  refine lv_iconst (v := (-1)) hx hb dX6_goalWind_84 (by decide) ?_
                  exact ro_ret hC hr hk dX6_goalWind_85 trivial
                · replace c2033 := nle_i c2033
                  refine lv_iload_n hx hb dX6_goalWind_64 rfl (lv_at hl 1 rfl) ?_
                  refine lv_aload_n hx hb dX6_goalWind_65 rfl (lv_at hl 3 rfl) ?_
                  refine va_get (D := D) (ci := 6) (v := .ref wa2) (C := RX7) (T := TX7) (N := 7) hx hb hts in_X7 hown hE.1 hP 0 rfl rfl 2 (by decide) (hts _ w_278) (fun _ h9 => h9) rfl dX6_goalWind_66 ?_
                  refine va_alen (v := 1024) hx hb hE.1 hP 1 1 rfl rfl (show Int32.ofNat 1024 = 1024 by decide) dX6_goalWind_69 ?_
                  refine lv_icmp_ge (tgt := 84) hx hb dX6_goalWind_70 (by decide) (fun c2034 => ?_) (fun c2034 => ?_)
                  · replace c2034 := le_i c2034
                    refine lv_iconst (v := (-1)) hx hb dX6_goalWind_84 (by decide) ?_
                    exact ro_ret hC hr hk dX6_goalWind_85 trivial
                  · replace c2034 := nle_i c2034
                    refine lv_aload_n hx hb dX6_goalWind_73 rfl (lv_at hl 3 rfl) ?_
                    refine va_get (D := D) (ci := 6) (v := .ref wa2) (C := RX7) (T := TX7) (N := 7) hx hb hts in_X7 hown hE.1 hP 0 rfl rfl 2 (by decide) (hts _ w_278) (fun _ h9 => h9) rfl dX6_goalWind_74 ?_
                    refine lv_iload_n hx hb dX6_goalWind_77 rfl (lv_at hl 1 rfl) ?_
                    refine va_iald hx hb hE.1 hP 1 1 rfl rfl (vp_in_iff.mpr (by omega)) dX6_goalWind_78 ?_
                    refine lv_topi (fun v2035 ev2035 => ?_)
                    refine lv_iconst (v := 4) hx hb dX6_goalWind_79 (by decide) ?_
                    refine lv_irem hx hb dX6_goalWind_80 (by decide) ?_
                    refine lv_topi (fun v2036 ev2036 => ?_)
                    refine lv_goto (tgt := 85) hx hb dX6_goalWind_81 (by decide) ?_
                    exact ro_ret hC hr hk dX6_goalWind_85 trivial
              · replace c2032 := nle_i c2032
                refine lv_aload_n hx hb dX6_goalWind_45 rfl (lv_at hl 3 rfl) ?_
                refine va_get (D := D) (ci := 6) (v := .ref wa2) (C := RX7) (T := TX7) (N := 7) hx hb hts in_X7 hown hE.1 hP 0 rfl rfl 2 (by decide) (hts _ w_278) (fun _ h9 => h9) rfl dX6_goalWind_46 ?_
                refine lv_iload_n hx hb dX6_goalWind_49 rfl (lv_at hl 1 rfl) ?_
                refine va_iald hx hb hE.1 hP 1 1 rfl rfl (vp_in_iff.mpr (by omega)) dX6_goalWind_50 ?_
                refine lv_topi (fun v2037 ev2037 => ?_)
                refine lv_iconst (v := 4) hx hb dX6_goalWind_51 (by decide) ?_
                refine lv_idiv hx hb dX6_goalWind_52 (by decide) ?_
                refine lv_topi (fun v2038 ev2038 => ?_)
                refine lv_istore_n (lv' := [(3, .int v2038), (4, .int i2020), (2, .int r1978), (0, .ref w), (1, .int p0)]) hx hb dX6_goalWind_53 rfl hl (by decide) rfl (fun ls hl => ?_)
                obtain ⟨v2039, ev2039⟩ : ∃ z : Int32, z = i2020 + (-1) := ⟨_, rfl⟩
                refine lv_iinc (v := v2039) (lv' := [(4, .int v2039), (3, .int v2038), (2, .int r1978), (0, .ref w), (1, .int p0)]) hx hb dX6_goalWind_54 hl (k := 1) rfl (by rw [ev2039]; rfl) (by decide) rfl (fun ls hl => ?_)
                refine lv_goto (tgt := 26) hx hb dX6_goalWind_57 (by decide) ?_
                have tv2039 : v2039.toInt = (i2020 : Int32).toInt + ((-1) : Int32).toInt := add_i ev2039 (by omega) (by omega)
                have tv2038 := div_i (n := 4) ev2038 (by decide) (by decide)
                exact ih_26 (i2020 := v2039) (i2021 := v2038) (hw_26 := by omega) (ls := ls) (hn_26 := by omega) (hl := lv_sub hl [0, 1, 2, 3, 4] rfl)
      · replace c2010 := nlt_i c2010
        refine lv_iconst (v := (-1)) hx hb dX6_goalWind_14 (by decide) ?_
        exact ro_ret hC hr hk dX6_goalWind_15 trivial
set_option maxRecDepth 40000 in
set_option maxHeartbeats 4000000 in
theorem c_X1_aimAt (l : Launch) (D : va_G) (K : Nat → ClassId) (w : Nat) (wa0 : Nat) (wa1 : Nat) (wa2 : Nat) (wa6 : Nat) (wn3 : Int32) (wn4 : Int32) (wn5 : Int32) (wn7 : Int32) (wn8 : Int32) (wn9 : Int32) (p0 : Int32) (p1 : Int32) (p2 : Int32) : Cv (S := ((Nat → Int32) × (Nat → Nat → Int32) × (Nat → Nat → Int64))) l D K yX1_aimAt cX1_aimAt 4 0 0 0 0 [.ref w, .int p0, .int p1, .int p2] [(w, .inr (1, [.ref wa0, .ref wa1, .ref wa2, .int wn3, .int wn4, .int wn5, .ref wa6, .int wn7, .int wn8, .int wn9]))] (fun _ => True) (fun u => [(w, .inr (1, [.ref wa0, .ref wa1, .ref wa2, .int wn3, .int wn4, .int wn5, .ref wa6, .int (u.1 0), .int (u.1 1), .int (u.1 2)]))]) := by
  intro sz
  refine ch_of (y := yX1_aimAt) (cc := cX1_aimAt) (maxL := 4) (ret := none) (av := [.ref w, .int p0, .int p1, .int p2]) (ws := [(w, .inr (1, [.ref wa0, .ref wa1, .ref wa2, .int wn3, .int wn4, .int wn5, .ref wa6, .int wn7, .int wn8, .int wn9]))]) (D := D) (K := K) (Qc := fun A => va_Qv (S := ((Nat → Int32) × (Nat → Nat → Int32) × (Nat → Nat → Int64))) (fun _ => True) (chB D A (fun u => [(w, .inr (1, [.ref wa0, .ref wa1, .ref wa2, .int wn3, .int wn4, .int wn5, .ref wa6, .int (u.1 0), .int (u.1 1), .int (u.1 2)]))])) A) (by decide) (Nat.le_of_ble_eq_true rfl) ?_
  intro p e s m below meth c A hC hr hk hin hE hD hA H locs hP hS ls hl
  replace hC : CallFix p m c cX1_aimAt 4 s [.ref w, .int p0, .int p1, .int p2].toArray wl RX1 := hC
  have hx := hC.1
  have hb := hC.2.1
  have hml := hC.2.2.1
  have hown := hC.2.2.2.1
  have hts := hC.2.2.2.2
  replace hl : lv_has ls 4 [(0, .ref w), (1, .int p0), (2, .int p1), (3, .int p2)] := hl
  refine lv_aload_n hx hb dX1_aimAt_0 rfl (lv_at hl 0 rfl) ?_
  refine lv_iload_n hx hb dX1_aimAt_1 rfl (lv_at hl 1 rfl) ?_
  refine va_put (D := D) (ci := 1) (v := .int p0) (ty := .int) (C := RX1) (T := TX1) (N := 10) hx hb hts in_X1 tyX1 tyX1_ok nmX1 hown hE.1 hP hD hS 0 rfl rfl 7 (by decide) (hts _ w_300) (fun _ h9 => h9) rfl (by decide +kernel) rfl rfl (Nat.le_of_ble_eq_true rfl) dX1_aimAt_2 (fun H locs hP hD hS => ?_)
  replace hP : va_P D vwCl [(w, .inr (1, [.ref wa0, .ref wa1, .ref wa2, .int wn3, .int wn4, .int wn5, .ref wa6, .int p0, .int wn8, .int wn9]))] H := hP
  replace hD : va_D A [(w, .inr (1, [.ref wa0, .ref wa1, .ref wa2, .int wn3, .int wn4, .int wn5, .ref wa6, .int p0, .int wn8, .int wn9]))] := hD
  refine lv_aload_n hx hb dX1_aimAt_5 rfl (lv_at hl 0 rfl) ?_
  refine lv_iload_n hx hb dX1_aimAt_6 rfl (lv_at hl 2 rfl) ?_
  refine va_put (D := D) (ci := 1) (v := .int p1) (ty := .int) (C := RX1) (T := TX1) (N := 10) hx hb hts in_X1 tyX1 tyX1_ok nmX1 hown hE.1 hP hD hS 0 rfl rfl 8 (by decide) (hts _ w_301) (fun _ h9 => h9) rfl (by decide +kernel) rfl rfl (Nat.le_of_ble_eq_true rfl) dX1_aimAt_7 (fun H locs hP hD hS => ?_)
  replace hP : va_P D vwCl [(w, .inr (1, [.ref wa0, .ref wa1, .ref wa2, .int wn3, .int wn4, .int wn5, .ref wa6, .int p0, .int p1, .int wn9]))] H := hP
  replace hD : va_D A [(w, .inr (1, [.ref wa0, .ref wa1, .ref wa2, .int wn3, .int wn4, .int wn5, .ref wa6, .int p0, .int p1, .int wn9]))] := hD
  refine lv_aload_n hx hb dX1_aimAt_10 rfl (lv_at hl 0 rfl) ?_
  refine lv_iload_n hx hb dX1_aimAt_11 rfl (lv_at hl 3 rfl) ?_
  refine va_put (D := D) (ci := 1) (v := .int p2) (ty := .int) (C := RX1) (T := TX1) (N := 10) hx hb hts in_X1 tyX1 tyX1_ok nmX1 hown hE.1 hP hD hS 0 rfl rfl 9 (by decide) (hts _ w_302) (fun _ h9 => h9) rfl (by decide +kernel) rfl rfl (Nat.le_of_ble_eq_true rfl) dX1_aimAt_12 (fun H locs hP hD hS => ?_)
  replace hP : va_P D vwCl [(w, .inr (1, [.ref wa0, .ref wa1, .ref wa2, .int wn3, .int wn4, .int wn5, .ref wa6, .int p0, .int p1, .int p2]))] H := hP
  replace hD : va_D A [(w, .inr (1, [.ref wa0, .ref wa1, .ref wa2, .int wn3, .int wn4, .int wn5, .ref wa6, .int p0, .int p1, .int p2]))] := hD
  refine W.widen (k := 0) (n := 0) (by decide) (by decide) ?_
  exact ch_vret hC hr hk hS dX1_aimAt_15 ((fun k => [p0, p1, p2].getD k 0, fun k => [].getD k (fun _ => 0), fun k => [].getD k (fun _ => 0)) : ((Nat → Int32) × (Nat → Nat → Int32) × (Nat → Nat → Int64))) trivial (hP.sub [0] rfl) (hD.sub [0] (by decide) rfl)
set_option maxRecDepth 40000 in
set_option maxHeartbeats 4000000 in
theorem c_X1_next (l : Launch) (D : va_G) (K : Nat → ClassId) (w : Nat) (wa0 : Nat) (wa1 : Nat) (wa2 : Nat) (wa6 : Nat) (v : Nat) (va0 : Nat) (va1 : Nat) (va2 : Nat) (va3 : Nat) (va4 : Nat) (va5 : Nat) (va6 : Nat) (va7 : Nat) (wn3 : Int32) (wn4 : Int32) (wn5 : Int32) (wn7 : Int32) (wn8 : Int32) (wn9 : Int32) (wa6n0 : Int32) (wa6n1 : Int32) (wa6n2 : Int32) (vn8 : Int32) (vn9 : Int32) (vn10 : Int32) (vn11 : Int32) (vf0 : Nat → Int32) (vf1 : Nat → Int32) (p1 : Int32) (p2 : Int32) : Ci (S := ((Nat → Int32) × (Nat → Nat → Int32) × (Nat → Nat → Int64))) l D K yX1_next cX1_next 4 (some .int) 3 68 0 0 [.ref w, .ref v, .int p1, .int p2] [(w, .inr (1, [.ref wa0, .ref wa1, .ref wa2, .int wn3, .int wn4, .int wn5, .ref wa6, .int wn7, .int wn8, .int wn9])), (wa6, .inr (8, [.int wa6n0, .int wa6n1, .int wa6n2])), (v, .inr (9, [.ref va0, .ref va1, .ref va2, .ref va3, .ref va4, .ref va5, .ref va6, .ref va7, .int vn8, .int vn9, .int vn10, .int vn11])), (va0, .inl (K 1, 40, .inl vf0)), (va1, .inl (K 1, 10, .inl vf1))] (fun _ _ => True) (fun u => [(w, .inr (1, [.ref wa0, .ref wa1, .ref wa2, .int wn3, .int wn4, .int wn5, .ref wa6, .int wn7, .int wn8, .int wn9])), (wa6, .inr (8, [.int (u.1 0), .int (u.1 1), .int (u.1 2)])), (v, .inr (9, [.ref va0, .ref va1, .ref va2, .ref va3, .ref va4, .ref va5, .ref va6, .ref va7, .int vn8, .int vn9, .int vn10, .int vn11])), (va0, .inl (K 1, 40, .inl vf0)), (va1, .inl (K 1, 10, .inl vf1))]) := by
  intro sz
  refine ch_of (y := yX1_next) (cc := cX1_next) (maxL := 4) (ret := (some .int)) (av := [.ref w, .ref v, .int p1, .int p2]) (ws := [(w, .inr (1, [.ref wa0, .ref wa1, .ref wa2, .int wn3, .int wn4, .int wn5, .ref wa6, .int wn7, .int wn8, .int wn9])), (wa6, .inr (8, [.int wa6n0, .int wa6n1, .int wa6n2])), (v, .inr (9, [.ref va0, .ref va1, .ref va2, .ref va3, .ref va4, .ref va5, .ref va6, .ref va7, .int vn8, .int vn9, .int vn10, .int vn11])), (va0, .inl (K 1, 40, .inl vf0)), (va1, .inl (K 1, 10, .inl vf1))]) (D := D) (K := K) (Qc := fun A => va_Qi (S := ((Nat → Int32) × (Nat → Nat → Int32) × (Nat → Nat → Int64))) (fun _ _ => True) (chB D A (fun u => [(w, .inr (1, [.ref wa0, .ref wa1, .ref wa2, .int wn3, .int wn4, .int wn5, .ref wa6, .int wn7, .int wn8, .int wn9])), (wa6, .inr (8, [.int (u.1 0), .int (u.1 1), .int (u.1 2)])), (v, .inr (9, [.ref va0, .ref va1, .ref va2, .ref va3, .ref va4, .ref va5, .ref va6, .ref va7, .int vn8, .int vn9, .int vn10, .int vn11])), (va0, .inl (K 1, 40, .inl vf0)), (va1, .inl (K 1, 10, .inl vf1))])) A) (by decide) (Nat.le_of_ble_eq_true rfl) ?_
  intro p e s m below meth c A hC hr hk hin hE hD hA H locs hP hS ls hl
  replace hC : CallFix p m c cX1_next 4 s [.ref w, .ref v, .int p1, .int p2].toArray wl RX1 := hC
  have hx := hC.1
  have hb := hC.2.1
  have hml := hC.2.2.1
  have hown := hC.2.2.2.1
  have hts := hC.2.2.2.2
  replace hl : lv_has ls 4 [(0, .ref w), (1, .ref v), (2, .int p1), (3, .int p2)] := hl
  refine lv_aload_n hx hb dX1_next_0 rfl (lv_at hl 0 rfl) ?_
  refine va_get (D := D) (ci := 1) (v := .ref wa6) (C := RX1) (T := TX1) (N := 10) hx hb hts in_X1 hown hE.1 hP 0 rfl rfl 6 (by decide) (hts _ w_303) (fun _ h9 => h9) rfl dX1_next_1 ?_
  refine lv_iload_n hx hb dX1_next_4 rfl (lv_at hl 2 rfl) ?_
  refine lv_sipush (v := 1024) hx hb dX1_next_5 (by decide) ?_
  refine lv_idiv hx hb dX1_next_8 (by decide) ?_
  refine lv_topi (fun v2048 ev2048 => ?_)
  refine lv_iload_n hx hb dX1_next_9 rfl (lv_at hl 2 rfl) ?_
  refine lv_sipush (v := 1024) hx hb dX1_next_10 (by decide) ?_
  refine lv_irem hx hb dX1_next_13 (by decide) ?_
  refine lv_topi (fun v2049 ev2049 => ?_)
  refine lv_aload_n hx hb dX1_next_14 rfl (lv_at hl 0 rfl) ?_
  refine va_get (D := D) (ci := 1) (v := .int wn7) (C := RX1) (T := TX1) (N := 10) hx hb hts in_X1 hown hE.1 hP 0 rfl rfl 7 (by decide) (hts _ w_300) (fun _ h9 => h9) rfl dX1_next_15 ?_
  refine cv_V (As := [.int v2048, .int v2049, .int wn7]) (rest := []) (wc := [(wa6, .inr (8, [.int wa6n0, .int wa6n1, .int wa6n2]))]) (wr := [(w, .inr (1, [.ref wa0, .ref wa1, .ref wa2, .int wn3, .int wn4, .int wn5, .ref wa6, .int wn7, .int wn8, .int wn9])), (v, .inr (9, [.ref va0, .ref va1, .ref va2, .ref va3, .ref va4, .ref va5, .ref va6, .ref va7, .int vn8, .int vn9, .int vn10, .int vn11])), (va0, .inl (K 1, 40, .inl vf0)), (va1, .inl (K 1, 10, .inl vf1))]) hC hE kV_X1_30 (c_X9_place l D K wa6 wa6n0 wa6n1 wa6n2 v2048 v2049 wn7) hP hD hS hA [1] [0, 2, 3, 4] rfl rfl rfl (by decide) (by decide) (by decide) 0 8 rfl rfl rfl hl.1 rfl (Nat.le_of_ble_eq_true rfl) (by decide) (by decide) dX1_next_18 (fun u2050 H locs hw hP hD hS => ?_)
  replace hP : va_P D vwCl [(w, .inr (1, [.ref wa0, .ref wa1, .ref wa2, .int wn3, .int wn4, .int wn5, .ref wa6, .int wn7, .int wn8, .int wn9])), (v, .inr (9, [.ref va0, .ref va1, .ref va2, .ref va3, .ref va4, .ref va5, .ref va6, .ref va7, .int vn8, .int vn9, .int vn10, .int vn11])), (va0, .inl (K 1, 40, .inl vf0)), (va1, .inl (K 1, 10, .inl vf1)), (wa6, .inr (8, [.int (u2050.1 0), .int (u2050.1 1), .int (u2050.1 2)]))] H := hP
  replace hD : va_D A [(w, .inr (1, [.ref wa0, .ref wa1, .ref wa2, .int wn3, .int wn4, .int wn5, .ref wa6, .int wn7, .int wn8, .int wn9])), (v, .inr (9, [.ref va0, .ref va1, .ref va2, .ref va3, .ref va4, .ref va5, .ref va6, .ref va7, .int vn8, .int vn9, .int vn10, .int vn11])), (va0, .inl (K 1, 40, .inl vf0)), (va1, .inl (K 1, 10, .inl vf1)), (wa6, .inr (8, [.int (u2050.1 0), .int (u2050.1 1), .int (u2050.1 2)]))] := hD
  replace hP : va_P D vwCl [(w, .inr (1, [.ref wa0, .ref wa1, .ref wa2, .int wn3, .int wn4, .int wn5, .ref wa6, .int wn7, .int wn8, .int wn9])), (wa6, .inr (8, [.int (u2050.1 0), .int (u2050.1 1), .int (u2050.1 2)])), (v, .inr (9, [.ref va0, .ref va1, .ref va2, .ref va3, .ref va4, .ref va5, .ref va6, .ref va7, .int vn8, .int vn9, .int vn10, .int vn11])), (va0, .inl (K 1, 40, .inl vf0)), (va1, .inl (K 1, 10, .inl vf1))] H := hP.sub [0, 4, 1, 2, 3] rfl
  replace hD : va_D A [(w, .inr (1, [.ref wa0, .ref wa1, .ref wa2, .int wn3, .int wn4, .int wn5, .ref wa6, .int wn7, .int wn8, .int wn9])), (wa6, .inr (8, [.int (u2050.1 0), .int (u2050.1 1), .int (u2050.1 2)])), (v, .inr (9, [.ref va0, .ref va1, .ref va2, .ref va3, .ref va4, .ref va5, .ref va6, .ref va7, .int vn8, .int vn9, .int vn10, .int vn11])), (va0, .inl (K 1, 40, .inl vf0)), (va1, .inl (K 1, 10, .inl vf1))] := hD.sub [0, 4, 1, 2, 3] (by decide) rfl
  refine W.widen (k := 0) (n := 0) (by decide) (by decide) ?_
  refine lv_aload_n hx hb dX1_next_21 rfl (lv_at hl 0 rfl) ?_
  refine va_get (D := D) (ci := 1) (v := .ref wa6) (C := RX1) (T := TX1) (N := 10) hx hb hts in_X1 hown hE.1 hP 0 rfl rfl 6 (by decide) (hts _ w_303) (fun _ h9 => h9) rfl dX1_next_22 ?_
  refine lv_aload_n hx hb dX1_next_25 rfl (lv_at hl 1 rfl) ?_
  refine lv_iload_n hx hb dX1_next_26 rfl (lv_at hl 3 rfl) ?_
  refine cv_V (As := [.ref v, .int p2]) (rest := []) (wc := [(wa6, .inr (8, [.int (u2050.1 0), .int (u2050.1 1), .int (u2050.1 2)])), (v, .inr (9, [.ref va0, .ref va1, .ref va2, .ref va3, .ref va4, .ref va5, .ref va6, .ref va7, .int vn8, .int vn9, .int vn10, .int vn11])), (va0, .inl (K 1, 40, .inl vf0)), (va1, .inl (K 1, 10, .inl vf1))]) (wr := [(w, .inr (1, [.ref wa0, .ref wa1, .ref wa2, .int wn3, .int wn4, .int wn5, .ref wa6, .int wn7, .int wn8, .int wn9]))]) hC hE kV_X1_34 (c_X9_step l D K wa6 v va0 va1 va2 va3 va4 va5 va6 va7 (u2050.1 0) (u2050.1 1) (u2050.1 2) vn8 vn9 vn10 vn11 vf0 vf1 p2) hP hD hS hA [1, 2, 3, 4] [0] rfl rfl rfl (by decide) (by decide) (by decide) 0 8 rfl rfl rfl hl.1 rfl (Nat.le_of_ble_eq_true rfl) (by decide) (by decide) dX1_next_27 (fun u2052 H locs hw hP hD hS => ?_)
  replace hP : va_P D vwCl [(w, .inr (1, [.ref wa0, .ref wa1, .ref wa2, .int wn3, .int wn4, .int wn5, .ref wa6, .int wn7, .int wn8, .int wn9])), (wa6, .inr (8, [.int (u2052.1 0), .int (u2052.1 1), .int (u2050.1 2)])), (v, .inr (9, [.ref va0, .ref va1, .ref va2, .ref va3, .ref va4, .ref va5, .ref va6, .ref va7, .int vn8, .int vn9, .int vn10, .int vn11])), (va0, .inl (K 1, 40, .inl vf0)), (va1, .inl (K 1, 10, .inl vf1))] H := hP
  replace hD : va_D A [(w, .inr (1, [.ref wa0, .ref wa1, .ref wa2, .int wn3, .int wn4, .int wn5, .ref wa6, .int wn7, .int wn8, .int wn9])), (wa6, .inr (8, [.int (u2052.1 0), .int (u2052.1 1), .int (u2050.1 2)])), (v, .inr (9, [.ref va0, .ref va1, .ref va2, .ref va3, .ref va4, .ref va5, .ref va6, .ref va7, .int vn8, .int vn9, .int vn10, .int vn11])), (va0, .inl (K 1, 40, .inl vf0)), (va1, .inl (K 1, 10, .inl vf1))] := hD
  replace hP : va_P D vwCl [(w, .inr (1, [.ref wa0, .ref wa1, .ref wa2, .int wn3, .int wn4, .int wn5, .ref wa6, .int wn7, .int wn8, .int wn9])), (wa6, .inr (8, [.int (u2052.1 0), .int (u2052.1 1), .int (u2050.1 2)])), (v, .inr (9, [.ref va0, .ref va1, .ref va2, .ref va3, .ref va4, .ref va5, .ref va6, .ref va7, .int vn8, .int vn9, .int vn10, .int vn11])), (va0, .inl (K 1, 40, .inl vf0)), (va1, .inl (K 1, 10, .inl vf1))] H := hP.sub [0, 1, 2, 3, 4] rfl
  replace hD : va_D A [(w, .inr (1, [.ref wa0, .ref wa1, .ref wa2, .int wn3, .int wn4, .int wn5, .ref wa6, .int wn7, .int wn8, .int wn9])), (wa6, .inr (8, [.int (u2052.1 0), .int (u2052.1 1), .int (u2050.1 2)])), (v, .inr (9, [.ref va0, .ref va1, .ref va2, .ref va3, .ref va4, .ref va5, .ref va6, .ref va7, .int vn8, .int vn9, .int vn10, .int vn11])), (va0, .inl (K 1, 40, .inl vf0)), (va1, .inl (K 1, 10, .inl vf1))] := hD.sub [0, 1, 2, 3, 4] (by decide) rfl
  refine W.widen (k := 0) (n := 0) (by decide) (by decide) ?_
  refine lv_aload_n hx hb dX1_next_30 rfl (lv_at hl 0 rfl) ?_
  refine va_get (D := D) (ci := 1) (v := .ref wa6) (C := RX1) (T := TX1) (N := 10) hx hb hts in_X1 hown hE.1 hP 0 rfl rfl 6 (by decide) (hts _ w_303) (fun _ h9 => h9) rfl dX1_next_31 ?_
  refine va_get (D := D) (ci := 8) (v := .int (u2052.1 0)) (C := RX9) (T := TX9) (N := 3) hx hb hts in_X9 hown hE.1 hP 1 rfl rfl 0 (by decide) (hts _ w_304) (fun _ h9 => h9) rfl dX1_next_34 ?_
  refine lv_sipush (v := 1024) hx hb dX1_next_37 (by decide) ?_
  refine lv_imul hx hb dX1_next_40 ?_
  refine lv_topi (fun v2054 ev2054 => ?_)
  refine lv_aload_n hx hb dX1_next_41 rfl (lv_at hl 0 rfl) ?_
  refine va_get (D := D) (ci := 1) (v := .ref wa6) (C := RX1) (T := TX1) (N := 10) hx hb hts in_X1 hown hE.1 hP 0 rfl rfl 6 (by decide) (hts _ w_303) (fun _ h9 => h9) rfl dX1_next_42 ?_
  refine va_get (D := D) (ci := 8) (v := .int (u2052.1 1)) (C := RX9) (T := TX9) (N := 3) hx hb hts in_X9 hown hE.1 hP 1 rfl rfl 1 (by decide) (hts _ w_305) (fun _ h9 => h9) rfl dX1_next_45 ?_
  refine lv_iadd hx hb dX1_next_48 ?_
  refine lv_topi (fun v2055 ev2055 => ?_)
  refine W.widen (k := 0) (n := 0) (by decide) (by decide) ?_
  exact ch_iret hC hr hk hS dX1_next_49 ((fun k => [(u2052.1 0), (u2052.1 1), (u2050.1 2)].getD k 0, fun k => [].getD k (fun _ => 0), fun k => [].getD k (fun _ => 0)) : ((Nat → Int32) × (Nat → Nat → Int32) × (Nat → Nat → Int64))) trivial (hP.sub [0, 1, 2, 3, 4] rfl) (hD.sub [0, 1, 2, 3, 4] (by decide) rfl)
set_option maxRecDepth 40000 in
set_option maxHeartbeats 4000000 in
theorem c_X1_ends (l : Launch) (D : va_G) (K : Nat → ClassId) (w : Nat) (wa0 : Nat) (wa1 : Nat) (wa2 : Nat) (wa6 : Nat) (v : Nat) (wn3 : Int32) (wn4 : Int32) (wn5 : Int32) (wn7 : Int32) (wn8 : Int32) (wn9 : Int32) (wa6n0 : Int32) (wa6n1 : Int32) (wa6n2 : Int32) (p1 : Int32) : Ci (S := ((Nat → Int32) × (Nat → Nat → Int32) × (Nat → Nat → Int64))) l D K yX1_ends cX1_ends 3 (some .boolean) 2 40 0 0 [.ref w, .ref v, .int p1] [(w, .inr (1, [.ref wa0, .ref wa1, .ref wa2, .int wn3, .int wn4, .int wn5, .ref wa6, .int wn7, .int wn8, .int wn9])), (wa6, .inr (8, [.int wa6n0, .int wa6n1, .int wa6n2]))] (fun r u => ((r = 0) ∨ (r = 1))) (fun u => [(w, .inr (1, [.ref wa0, .ref wa1, .ref wa2, .int wn3, .int wn4, .int wn5, .ref wa6, .int wn7, .int wn8, .int wn9])), (wa6, .inr (8, [.int (u.1 0), .int (u.1 1), .int (u.1 2)]))]) := by
  intro sz
  refine ch_of (y := yX1_ends) (cc := cX1_ends) (maxL := 3) (ret := (some .boolean)) (av := [.ref w, .ref v, .int p1]) (ws := [(w, .inr (1, [.ref wa0, .ref wa1, .ref wa2, .int wn3, .int wn4, .int wn5, .ref wa6, .int wn7, .int wn8, .int wn9])), (wa6, .inr (8, [.int wa6n0, .int wa6n1, .int wa6n2]))]) (D := D) (K := K) (Qc := fun A => va_Qi (S := ((Nat → Int32) × (Nat → Nat → Int32) × (Nat → Nat → Int64))) (fun r u => ((r = 0) ∨ (r = 1))) (chB D A (fun u => [(w, .inr (1, [.ref wa0, .ref wa1, .ref wa2, .int wn3, .int wn4, .int wn5, .ref wa6, .int wn7, .int wn8, .int wn9])), (wa6, .inr (8, [.int (u.1 0), .int (u.1 1), .int (u.1 2)]))])) A) (by decide) (Nat.le_of_ble_eq_true rfl) ?_
  intro p e s m below meth c A hC hr hk hin hE hD hA H locs hP hS ls hl
  replace hC : CallFix p m c cX1_ends 3 s [.ref w, .ref v, .int p1].toArray wl RX1 := hC
  have hx := hC.1
  have hb := hC.2.1
  have hml := hC.2.2.1
  have hown := hC.2.2.2.1
  have hts := hC.2.2.2.2
  replace hl : lv_has ls 3 [(0, .ref w), (1, .ref v), (2, .int p1)] := hl
  have kc_1 : (1 : Int32).toInt = 1 := by decide
  have kc_2 : (2 : Int32).toInt = 2 := by decide
  have kc_3 : (3 : Int32).toInt = 3 := by decide
  refine lv_aload_n hx hb dX1_ends_0 rfl (lv_at hl 0 rfl) ?_
  refine va_get (D := D) (ci := 1) (v := .ref wa6) (C := RX1) (T := TX1) (N := 10) hx hb hts in_X1 hown hE.1 hP 0 rfl rfl 6 (by decide) (hts _ w_303) (fun _ h9 => h9) rfl dX1_ends_1 ?_
  refine lv_iload_n hx hb dX1_ends_4 rfl (lv_at hl 2 rfl) ?_
  refine lv_sipush (v := 1024) hx hb dX1_ends_5 (by decide) ?_
  refine lv_idiv hx hb dX1_ends_8 (by decide) ?_
  refine lv_topi (fun v2067 ev2067 => ?_)
  refine lv_iload_n hx hb dX1_ends_9 rfl (lv_at hl 2 rfl) ?_
  refine lv_sipush (v := 1024) hx hb dX1_ends_10 (by decide) ?_
  refine lv_irem hx hb dX1_ends_13 (by decide) ?_
  refine lv_topi (fun v2068 ev2068 => ?_)
  refine lv_aload_n hx hb dX1_ends_14 rfl (lv_at hl 0 rfl) ?_
  refine va_get (D := D) (ci := 1) (v := .int wn7) (C := RX1) (T := TX1) (N := 10) hx hb hts in_X1 hown hE.1 hP 0 rfl rfl 7 (by decide) (hts _ w_300) (fun _ h9 => h9) rfl dX1_ends_15 ?_
  refine cv_V (As := [.int v2067, .int v2068, .int wn7]) (rest := []) (wc := [(wa6, .inr (8, [.int wa6n0, .int wa6n1, .int wa6n2]))]) (wr := [(w, .inr (1, [.ref wa0, .ref wa1, .ref wa2, .int wn3, .int wn4, .int wn5, .ref wa6, .int wn7, .int wn8, .int wn9]))]) hC hE kV_X1_30 (c_X9_place l D K wa6 wa6n0 wa6n1 wa6n2 v2067 v2068 wn7) hP hD hS hA [1] [0] rfl rfl rfl (by decide) (by decide) (by decide) 0 8 rfl rfl rfl hl.1 rfl (Nat.le_of_ble_eq_true rfl) (by decide) (by decide) dX1_ends_18 (fun u2069 H locs hw hP hD hS => ?_)
  replace hP : va_P D vwCl [(w, .inr (1, [.ref wa0, .ref wa1, .ref wa2, .int wn3, .int wn4, .int wn5, .ref wa6, .int wn7, .int wn8, .int wn9])), (wa6, .inr (8, [.int (u2069.1 0), .int (u2069.1 1), .int (u2069.1 2)]))] H := hP
  replace hD : va_D A [(w, .inr (1, [.ref wa0, .ref wa1, .ref wa2, .int wn3, .int wn4, .int wn5, .ref wa6, .int wn7, .int wn8, .int wn9])), (wa6, .inr (8, [.int (u2069.1 0), .int (u2069.1 1), .int (u2069.1 2)]))] := hD
  replace hP : va_P D vwCl [(w, .inr (1, [.ref wa0, .ref wa1, .ref wa2, .int wn3, .int wn4, .int wn5, .ref wa6, .int wn7, .int wn8, .int wn9])), (wa6, .inr (8, [.int (u2069.1 0), .int (u2069.1 1), .int (u2069.1 2)]))] H := hP.sub [0, 1] rfl
  replace hD : va_D A [(w, .inr (1, [.ref wa0, .ref wa1, .ref wa2, .int wn3, .int wn4, .int wn5, .ref wa6, .int wn7, .int wn8, .int wn9])), (wa6, .inr (8, [.int (u2069.1 0), .int (u2069.1 1), .int (u2069.1 2)]))] := hD.sub [0, 1] (by decide) rfl
  refine W.widen (k := 0) (n := 0) (by decide) (by decide) ?_
  refine lv_aload_n hx hb dX1_ends_21 rfl (lv_at hl 0 rfl) ?_
  refine va_get (D := D) (ci := 1) (v := .int wn8) (C := RX1) (T := TX1) (N := 10) hx hb hts in_X1 hown hE.1 hP 0 rfl rfl 8 (by decide) (hts _ w_301) (fun _ h9 => h9) rfl dX1_ends_22 ?_
  by_cases c2071 : wn8 = 1
  · refine tc (y := 1) c2071 ?_
    refine lv_tableIn (off := 27) (tgt := 52) hx hb dX1_ends_25 (by decide) (by decide) (by decide +kernel) (by decide) ?_
    refine lv_aload_n hx hb dX1_ends_52 rfl (lv_at hl 0 rfl) ?_
    refine va_get (D := D) (ci := 1) (v := .ref wa6) (C := RX1) (T := TX1) (N := 10) hx hb hts in_X1 hown hE.1 hP 0 rfl rfl 6 (by decide) (hts _ w_303) (fun _ h9 => h9) rfl dX1_ends_53 ?_
    refine ro_V (As := []) (rest := []) hC hE kV_X1_44 (c_X9_doubt l D K wa6 (u2069.1 0) (u2069.1 1) (u2069.1 2)) (hP.sub (ws' := [(wa6, .inr (8, [.int (u2069.1 0), .int (u2069.1 1), .int (u2069.1 2)]))]) [1] rfl) 0 8 rfl rfl rfl hl.1 rfl (Nat.le_of_ble_eq_true rfl) (by decide) (by decide) dX1_ends_56 (fun r2072 _ => ?_)
    refine lv_aload_n hx hb dX1_ends_59 rfl (lv_at hl 0 rfl) ?_
    refine va_get (D := D) (ci := 1) (v := .int wn9) (C := RX1) (T := TX1) (N := 10) hx hb hts in_X1 hown hE.1 hP 0 rfl rfl 9 (by decide) (hts _ w_302) (fun _ h9 => h9) rfl dX1_ends_60 ?_
    refine lv_icmp_lt (tgt := 70) hx hb dX1_ends_63 (by decide) (fun c2073 => ?_) (fun c2073 => ?_)
    · replace c2073 := lt_i c2073
      refine lv_iconst (v := 0) hx hb dX1_ends_70 (by decide) ?_
      refine W.widen (k := 0) (n := 0) (by decide) (by decide) ?_
      exact ch_zret hC hr hk hS dX1_ends_71 rfl ((fun k => [(u2069.1 0), (u2069.1 1), (u2069.1 2)].getD k 0, fun k => [].getD k (fun _ => 0), fun k => [].getD k (fun _ => 0)) : ((Nat → Int32) × (Nat → Nat → Int32) × (Nat → Nat → Int64))) (Or.inl rfl) (hP.sub [0, 1] rfl) (hD.sub [0, 1] (by decide) rfl)
    · replace c2073 := nlt_i c2073
      refine lv_iconst (v := 1) hx hb dX1_ends_66 (by decide) ?_
      refine lv_goto (tgt := 71) hx hb dX1_ends_67 (by decide) ?_
      refine W.widen (k := 0) (n := 0) (by decide) (by decide) ?_
      exact ch_zret hC hr hk hS dX1_ends_71 rfl ((fun k => [(u2069.1 0), (u2069.1 1), (u2069.1 2)].getD k 0, fun k => [].getD k (fun _ => 0), fun k => [].getD k (fun _ => 0)) : ((Nat → Int32) × (Nat → Nat → Int32) × (Nat → Nat → Int64))) (Or.inr rfl) (hP.sub [0, 1] rfl) (hD.sub [0, 1] (by decide) rfl)
  · replace c2071 := ne_i c2071
    by_cases c2074 : wn8 = 2
    · refine tc (y := 2) c2074 ?_
      refine lv_tableIn (off := 47) (tgt := 72) hx hb dX1_ends_25 (by decide) (by decide) (by decide +kernel) (by decide) ?_
      refine lv_aload_n hx hb dX1_ends_72 rfl (lv_at hl 0 rfl) ?_
      refine va_get (D := D) (ci := 1) (v := .ref wa6) (C := RX1) (T := TX1) (N := 10) hx hb hts in_X1 hown hE.1 hP 0 rfl rfl 6 (by decide) (hts _ w_303) (fun _ h9 => h9) rfl dX1_ends_73 ?_
      refine ro_V (As := []) (rest := []) hC hE kV_X1_48 (c_X9_isAstray l D K wa6 (u2069.1 0) (u2069.1 1) (u2069.1 2)) (hP.sub (ws' := [(wa6, .inr (8, [.int (u2069.1 0), .int (u2069.1 1), .int (u2069.1 2)]))]) [1] rfl) 0 8 rfl rfl rfl hl.1 rfl (Nat.le_of_ble_eq_true rfl) (by decide) (by decide) dX1_ends_76 (fun r2075 hq => ?_)
      rcases hq with rfl | rfl
      · refine W.widen (k := 0) (n := 0) (by decide) (by decide) ?_
        exact ch_zret hC hr hk hS dX1_ends_79 rfl ((fun k => [(u2069.1 0), (u2069.1 1), (u2069.1 2)].getD k 0, fun k => [].getD k (fun _ => 0), fun k => [].getD k (fun _ => 0)) : ((Nat → Int32) × (Nat → Nat → Int32) × (Nat → Nat → Int64))) (Or.inl rfl) (hP.sub [0, 1] rfl) (hD.sub [0, 1] (by decide) rfl)
      · refine W.widen (k := 0) (n := 0) (by decide) (by decide) ?_
        exact ch_zret hC hr hk hS dX1_ends_79 rfl ((fun k => [(u2069.1 0), (u2069.1 1), (u2069.1 2)].getD k 0, fun k => [].getD k (fun _ => 0), fun k => [].getD k (fun _ => 0)) : ((Nat → Int32) × (Nat → Nat → Int32) × (Nat → Nat → Int64))) (Or.inr rfl) (hP.sub [0, 1] rfl) (hD.sub [0, 1] (by decide) rfl)
    · replace c2074 := ne_i c2074
      by_cases c2076 : wn8 = 3
      · refine tc (y := 3) c2076 ?_
        refine lv_tableIn (off := 55) (tgt := 80) hx hb dX1_ends_25 (by decide) (by decide) (by decide +kernel) (by decide) ?_
        refine lv_aload_n hx hb dX1_ends_80 rfl (lv_at hl 0 rfl) ?_
        refine va_get (D := D) (ci := 1) (v := .ref wa6) (C := RX1) (T := TX1) (N := 10) hx hb hts in_X1 hown hE.1 hP 0 rfl rfl 6 (by decide) (hts _ w_303) (fun _ h9 => h9) rfl dX1_ends_81 ?_
        refine ro_V (As := []) (rest := []) hC hE kV_X1_52 (c_X9_isSure l D K wa6 (u2069.1 0) (u2069.1 1) (u2069.1 2)) (hP.sub (ws' := [(wa6, .inr (8, [.int (u2069.1 0), .int (u2069.1 1), .int (u2069.1 2)]))]) [1] rfl) 0 8 rfl rfl rfl hl.1 rfl (Nat.le_of_ble_eq_true rfl) (by decide) (by decide) dX1_ends_84 (fun r2077 hq => ?_)
        rcases hq with rfl | rfl
        · refine W.widen (k := 0) (n := 0) (by decide) (by decide) ?_
          exact ch_zret hC hr hk hS dX1_ends_87 rfl ((fun k => [(u2069.1 0), (u2069.1 1), (u2069.1 2)].getD k 0, fun k => [].getD k (fun _ => 0), fun k => [].getD k (fun _ => 0)) : ((Nat → Int32) × (Nat → Nat → Int32) × (Nat → Nat → Int64))) (Or.inl rfl) (hP.sub [0, 1] rfl) (hD.sub [0, 1] (by decide) rfl)
        · refine W.widen (k := 0) (n := 0) (by decide) (by decide) ?_
          exact ch_zret hC hr hk hS dX1_ends_87 rfl ((fun k => [(u2069.1 0), (u2069.1 1), (u2069.1 2)].getD k 0, fun k => [].getD k (fun _ => 0), fun k => [].getD k (fun _ => 0)) : ((Nat → Int32) × (Nat → Nat → Int32) × (Nat → Nat → Int64))) (Or.inr rfl) (hP.sub [0, 1] rfl) (hD.sub [0, 1] (by decide) rfl)
      · replace c2076 := ne_i c2076
        refine lv_tableOut (tgt := 88) hx hb dX1_ends_25 (by omega) (by decide) ?_
        refine lv_iconst (v := 0) hx hb dX1_ends_88 (by decide) ?_
        refine W.widen (k := 0) (n := 0) (by decide) (by decide) ?_
        exact ch_zret hC hr hk hS dX1_ends_89 rfl ((fun k => [(u2069.1 0), (u2069.1 1), (u2069.1 2)].getD k 0, fun k => [].getD k (fun _ => 0), fun k => [].getD k (fun _ => 0)) : ((Nat → Int32) × (Nat → Nat → Int32) × (Nat → Nat → Int64))) (Or.inl rfl) (hP.sub [0, 1] rfl) (hD.sub [0, 1] (by decide) rfl)
set_option maxRecDepth 40000 in
set_option maxHeartbeats 4000000 in
theorem c_X7_next (l : Launch) (D : va_G) (K : Nat → ClassId) (w : Nat) (wa0 : Nat) (wa1 : Nat) (wa2 : Nat) (v : Nat) (va0 : Nat) (va1 : Nat) (va2 : Nat) (va3 : Nat) (va4 : Nat) (va5 : Nat) (va6 : Nat) (va7 : Nat) (wn3 : Int32) (wn4 : Int32) (wn5 : Int32) (wn6 : Int32) (vn8 : Int32) (vn9 : Int32) (vn10 : Int32) (vn11 : Int32) (vf0 : Nat → Int32) (p1 : Int32) (p2 : Int32) : Ro l D K yX7_next cX7_next 4 (some .int) 2 44 [.ref w, .ref v, .int p1, .int p2] [(w, .inr (6, [.ref wa0, .ref wa1, .ref wa2, .int wn3, .int wn4, .int wn5, .int wn6])), (v, .inr (9, [.ref va0, .ref va1, .ref va2, .ref va3, .ref va4, .ref va5, .ref va6, .ref va7, .int vn8, .int vn9, .int vn10, .int vn11])), (va0, .inl (K 1, 40, .inl vf0))] (fun _ => True) := by
  refine ro_of (by decide) (Nat.le_of_ble_eq_true rfl) ?_
  intro p e s m below meth c hC hr hk hE hP ls hl
  replace hC : CallFix p m c cX7_next 4 s [.ref w, .ref v, .int p1, .int p2].toArray wl RX7 := hC
  have hx := hC.1
  have hb := hC.2.1
  have hml := hC.2.2.1
  have hown := hC.2.2.2.1
  have hts := hC.2.2.2.2
  replace hl : lv_has ls 4 [(0, .ref w), (1, .ref v), (2, .int p1), (3, .int p2)] := hl
  refine lv_aload_n hx hb dX7_next_0 rfl (lv_at hl 1 rfl) ?_
  refine lv_iload_n hx hb dX7_next_1 rfl (lv_at hl 2 rfl) ?_
  refine lv_iload_n hx hb dX7_next_2 rfl (lv_at hl 3 rfl) ?_
  refine ro_V (As := [.int p1, .int p2]) (rest := []) hC hE kV_X7_19 (c_X10_spread l D K v va0 va1 va2 va3 va4 va5 va6 va7 vn8 vn9 vn10 vn11 vf0 p1 p2) (hP.sub (ws' := [(v, .inr (9, [.ref va0, .ref va1, .ref va2, .ref va3, .ref va4, .ref va5, .ref va6, .ref va7, .int vn8, .int vn9, .int vn10, .int vn11])), (va0, .inl (K 1, 40, .inl vf0))]) [1, 2] rfl) 0 9 rfl rfl rfl hl.1 rfl (Nat.le_of_ble_eq_true rfl) (by decide) (by decide) dX7_next_3 (fun r2078 _ => ?_)
  exact ro_ret hC hr hk dX7_next_6 trivial
set_option maxRecDepth 40000 in
set_option maxHeartbeats 4000000 in
theorem c_X7_ends (l : Launch) (D : va_G) (K : Nat → ClassId) (w : Nat) (wa0 : Nat) (wa1 : Nat) (wa2 : Nat) (v : Nat) (va0 : Nat) (va1 : Nat) (va2 : Nat) (va3 : Nat) (va4 : Nat) (va5 : Nat) (va6 : Nat) (va7 : Nat) (wn3 : Int32) (wn4 : Int32) (wn5 : Int32) (wn6 : Int32) (vn8 : Int32) (vn9 : Int32) (vn10 : Int32) (vn11 : Int32) (vf1 : Nat → Int32) (p1 : Int32) : Ro l D K yX7_ends cX7_ends 3 (some .boolean) 3 67 [.ref w, .ref v, .int p1] [(w, .inr (6, [.ref wa0, .ref wa1, .ref wa2, .int wn3, .int wn4, .int wn5, .int wn6])), (v, .inr (9, [.ref va0, .ref va1, .ref va2, .ref va3, .ref va4, .ref va5, .ref va6, .ref va7, .int vn8, .int vn9, .int vn10, .int vn11])), (va1, .inl (K 1, 10, .inl vf1))] (fun r => (r = 0) ∨ (r = 1)) := by
  refine ro_of (by decide) (Nat.le_of_ble_eq_true rfl) ?_
  intro p e s m below meth c hC hr hk hE hP ls hl
  replace hC : CallFix p m c cX7_ends 3 s [.ref w, .ref v, .int p1].toArray wl RX7 := hC
  have hx := hC.1
  have hb := hC.2.1
  have hml := hC.2.2.1
  have hown := hC.2.2.2.1
  have hts := hC.2.2.2.2
  replace hl : lv_has ls 3 [(0, .ref w), (1, .ref v), (2, .int p1)] := hl
  have kc_1 : (1 : Int32).toInt = 1 := by decide
  refine lv_aload_n hx hb dX7_ends_0 rfl (lv_at hl 0 rfl) ?_
  refine va_get (D := D) (ci := 6) (v := .int wn6) (C := RX7) (T := TX7) (N := 7) hx hb hts in_X7 hown hE.1 hP 0 rfl rfl 6 (by decide) (hts _ w_318) (fun _ h9 => h9) rfl dX7_ends_1 ?_
  by_cases c2079 : wn6 = 1
  · refine tc (y := 1) c2079 ?_
    refine lv_lookup (off := 28) (tgt := 32) hx hb dX7_ends_4 (by decide) (by decide) (by decide) ?_
    refine lv_iload_n hx hb dX7_ends_32 rfl (lv_at hl 2 rfl) ?_
    refine ro_S (As := [.int p1]) (rest := []) hC hE kS_X7_25 (c_J6_bitCount_0f7a4 l D K p1) (hP.sub (ws' := []) [] rfl) rfl hl.1 rfl (Nat.le_of_ble_eq_true rfl) (by decide) (by decide) dX7_ends_33 (fun r2080 _ => ?_)
    refine lv_iconst (v := 1) hx hb dX7_ends_36 (by decide) ?_
    refine lv_icmp_ne (tgt := 44) hx hb dX7_ends_37 (by decide) (fun c2081 => ?_) (fun c2081 => ?_)
    · replace c2081 := ne_i c2081
      refine lv_iconst (v := 0) hx hb dX7_ends_44 (by decide) ?_
      exact ro_zret hC hr hk dX7_ends_45 rfl (Or.inl rfl)
    · replace c2081 := eq_i c2081
      refine lv_iconst (v := 1) hx hb dX7_ends_40 (by decide) ?_
      refine lv_goto (tgt := 45) hx hb dX7_ends_41 (by decide) ?_
      exact ro_zret hC hr hk dX7_ends_45 rfl (Or.inr rfl)
  · have c2079n := ne_i c2079
    by_cases c2082 : wn6 = 2
    · refine tc (y := 2) c2082 ?_
      refine lv_lookup (off := 42) (tgt := 46) hx hb dX7_ends_4 (by decide) (by decide) (by decide) ?_
      refine lv_aload_n hx hb dX7_ends_46 rfl (lv_at hl 1 rfl) ?_
      refine lv_iload_n hx hb dX7_ends_47 rfl (lv_at hl 2 rfl) ?_
      refine lv_iconst (v := 0) hx hb dX7_ends_48 (by decide) ?_
      refine ro_S (As := [.ref v, .int p1, .int 0]) (rest := []) hC hE kS_X7_31 (c_X7_showsOne l D K v va0 va1 va2 va3 va4 va5 va6 va7 vn8 vn9 vn10 vn11 vf1 p1 0) (hP.sub (ws' := [(v, .inr (9, [.ref va0, .ref va1, .ref va2, .ref va3, .ref va4, .ref va5, .ref va6, .ref va7, .int vn8, .int vn9, .int vn10, .int vn11])), (va1, .inl (K 1, 10, .inl vf1))]) [1, 2] rfl) rfl hl.1 rfl (Nat.le_of_ble_eq_true rfl) (by decide) (by decide) dX7_ends_49 (fun r2083 hq => ?_)
      rcases hq with rfl | rfl
      · refine lv_if_ne (tgt := 59) hx hb dX7_ends_52 (by decide) (fun h => absurd h (by decide)) (fun _ => ?_)
        refine lv_iconst (v := 1) hx hb dX7_ends_55 (by decide) ?_
        refine lv_goto (tgt := 60) hx hb dX7_ends_56 (by decide) ?_
        exact ro_zret hC hr hk dX7_ends_60 rfl (Or.inr rfl)
      · refine lv_if_ne (tgt := 59) hx hb dX7_ends_52 (by decide) (fun _ => ?_) (fun h => absurd h (by decide))
        refine lv_iconst (v := 0) hx hb dX7_ends_59 (by decide) ?_
        exact ro_zret hC hr hk dX7_ends_60 rfl (Or.inl rfl)
    · have c2082n := ne_i c2082
      refine lv_lookup (off := 57) (tgt := 61) hx hb dX7_ends_4 (by decide) (by rw [lv_osw c2079 (by decide), lv_osw c2082 (by decide)]; rfl) (by decide) ?_
      refine lv_iconst (v := 0) hx hb dX7_ends_61 (by decide) ?_
      exact ro_zret hC hr hk dX7_ends_62 rfl (Or.inl rfl)
set_option maxRecDepth 40000 in
set_option maxHeartbeats 4000000 in
theorem c_X6_explore_1 (l : Launch) (D : va_G) (K : Nat → ClassId) (w : Nat) (wa0 : Nat) (wa1 : Nat) (wa2 : Nat) (wa6 : Nat) (v : Nat) (va0 : Nat) (va1 : Nat) (va2 : Nat) (va3 : Nat) (va4 : Nat) (va5 : Nat) (va6 : Nat) (va7 : Nat) (wn3 : Int32) (wn4 : Int32) (wn5 : Int32) (wn7 : Int32) (wn8 : Int32) (wn9 : Int32) (wa6n0 : Int32) (wa6n1 : Int32) (wa6n2 : Int32) (vn8 : Int32) (vn9 : Int32) (vn10 : Int32) (vn11 : Int32) (wf0 : Nat → Int32) (wf1 : Nat → Int32) (wf2 : Nat → Int32) (vf0 : Nat → Int32) (vf1 : Nat → Int32) (p1 : Int32) : Cv (S := ((Nat → Int32) × (Nat → Nat → Int32) × (Nat → Nat → Int64))) l D K yX6_explore cX6_explore 5 4 91 0 0 [.ref w, .ref v, .int p1] [(w, .inr (1, [.ref wa0, .ref wa1, .ref wa2, .int wn3, .int wn4, .int wn5, .ref wa6, .int wn7, .int wn8, .int wn9])), (wa0, .inl (K 1, 10240, .inl wf0)), (wa1, .inl (K 1, 10240, .inl wf1)), (wa2, .inl (K 1, 10240, .inl wf2)), (wa6, .inr (8, [.int wa6n0, .int wa6n1, .int wa6n2])), (v, .inr (9, [.ref va0, .ref va1, .ref va2, .ref va3, .ref va4, .ref va5, .ref va6, .ref va7, .int vn8, .int vn9, .int vn10, .int vn11])), (va0, .inl (K 1, 40, .inl vf0)), (va1, .inl (K 1, 10, .inl vf1))] (fun _ => True) (fun u => [(w, .inr (1, [.ref wa0, .ref wa1, .ref wa2, .int (u.1 0), .int (u.1 1), .int (u.1 2), .ref wa6, .int wn7, .int wn8, .int wn9])), (wa0, .inl (K 1, 10240, .inl (u.2.1 0))), (wa1, .inl (K 1, 10240, .inl (u.2.1 1))), (wa2, .inl (K 1, 10240, .inl (u.2.1 2))), (wa6, .inr (8, [.int (u.1 3), .int (u.1 4), .int (u.1 5)])), (v, .inr (9, [.ref va0, .ref va1, .ref va2, .ref va3, .ref va4, .ref va5, .ref va6, .ref va7, .int vn8, .int vn9, .int vn10, .int vn11])), (va0, .inl (K 1, 40, .inl vf0)), (va1, .inl (K 1, 10, .inl vf1))]) := by
  intro sz
  refine ch_of (y := yX6_explore) (cc := cX6_explore) (maxL := 5) (ret := none) (av := [.ref w, .ref v, .int p1]) (ws := [(w, .inr (1, [.ref wa0, .ref wa1, .ref wa2, .int wn3, .int wn4, .int wn5, .ref wa6, .int wn7, .int wn8, .int wn9])), (wa0, .inl (K 1, 10240, .inl wf0)), (wa1, .inl (K 1, 10240, .inl wf1)), (wa2, .inl (K 1, 10240, .inl wf2)), (wa6, .inr (8, [.int wa6n0, .int wa6n1, .int wa6n2])), (v, .inr (9, [.ref va0, .ref va1, .ref va2, .ref va3, .ref va4, .ref va5, .ref va6, .ref va7, .int vn8, .int vn9, .int vn10, .int vn11])), (va0, .inl (K 1, 40, .inl vf0)), (va1, .inl (K 1, 10, .inl vf1))]) (D := D) (K := K) (Qc := fun A => va_Qv (S := ((Nat → Int32) × (Nat → Nat → Int32) × (Nat → Nat → Int64))) (fun _ => True) (chB D A (fun u => [(w, .inr (1, [.ref wa0, .ref wa1, .ref wa2, .int (u.1 0), .int (u.1 1), .int (u.1 2), .ref wa6, .int wn7, .int wn8, .int wn9])), (wa0, .inl (K 1, 10240, .inl (u.2.1 0))), (wa1, .inl (K 1, 10240, .inl (u.2.1 1))), (wa2, .inl (K 1, 10240, .inl (u.2.1 2))), (wa6, .inr (8, [.int (u.1 3), .int (u.1 4), .int (u.1 5)])), (v, .inr (9, [.ref va0, .ref va1, .ref va2, .ref va3, .ref va4, .ref va5, .ref va6, .ref va7, .int vn8, .int vn9, .int vn10, .int vn11])), (va0, .inl (K 1, 40, .inl vf0)), (va1, .inl (K 1, 10, .inl vf1))])) A) (by decide) (Nat.le_of_ble_eq_true rfl) ?_
  intro p e s m below meth c A hC hr hk hin hE hD hA H locs hP hS ls hl
  replace hC : CallFix p m c cX6_explore 5 s [.ref w, .ref v, .int p1].toArray wl RX6 := hC
  have hx := hC.1
  have hb := hC.2.1
  have hml := hC.2.2.1
  have hown := hC.2.2.2.1
  have hts := hC.2.2.2.2
  replace hl : lv_has ls 5 [(0, .ref w), (1, .ref v), (2, .int p1)] := hl
  have kc_0 : (0 : Int32).toInt = 0 := by decide
  have kc_1 : (1 : Int32).toInt = 1 := by decide
  have kc_4 : (4 : Int32).toInt = 4 := by decide
  have kc_10240 : (10240 : Int32).toInt = 10240 := by decide
  refine lv_aload_n hx hb dX6_explore_0 rfl (lv_at hl 0 rfl) ?_
  refine lv_dup hx hb dX6_explore_1 rfl ?_
  refine va_get (D := D) (ci := 1) (v := .int wn3) (C := RX1) (T := TX1) (N := 10) hx hb hts in_X1 hown hE.1 hP 0 rfl rfl 3 (by decide) (hts _ w_275) (fun _ h9 => h9) rfl dX6_explore_2 ?_
  refine lv_iconst (v := 1) hx hb dX6_explore_5 (by decide) ?_
  refine lv_iadd hx hb dX6_explore_6 ?_
  refine lv_topi (fun v2106 ev2106 => ?_)
  refine va_put (D := D) (ci := 1) (v := .int v2106) (ty := .int) (C := RX1) (T := TX1) (N := 10) hx hb hts in_X1 tyX1 tyX1_ok nmX1 hown hE.1 hP hD hS 0 rfl rfl 3 (by decide) (hts _ w_275) (fun _ h9 => h9) rfl (by decide +kernel) rfl rfl (Nat.le_of_ble_eq_true rfl) dX6_explore_7 (fun H locs hP hD hS => ?_)
  replace hP : va_P D vwCl [(w, .inr (1, [.ref wa0, .ref wa1, .ref wa2, .int v2106, .int wn4, .int wn5, .ref wa6, .int wn7, .int wn8, .int wn9])), (wa0, .inl (K 1, 10240, .inl wf0)), (wa1, .inl (K 1, 10240, .inl wf1)), (wa2, .inl (K 1, 10240, .inl wf2)), (wa6, .inr (8, [.int wa6n0, .int wa6n1, .int wa6n2])), (v, .inr (9, [.ref va0, .ref va1, .ref va2, .ref va3, .ref va4, .ref va5, .ref va6, .ref va7, .int vn8, .int vn9, .int vn10, .int vn11])), (va0, .inl (K 1, 40, .inl vf0)), (va1, .inl (K 1, 10, .inl vf1))] H := hP
  replace hD : va_D A [(w, .inr (1, [.ref wa0, .ref wa1, .ref wa2, .int v2106, .int wn4, .int wn5, .ref wa6, .int wn7, .int wn8, .int wn9])), (wa0, .inl (K 1, 10240, .inl wf0)), (wa1, .inl (K 1, 10240, .inl wf1)), (wa2, .inl (K 1, 10240, .inl wf2)), (wa6, .inr (8, [.int wa6n0, .int wa6n1, .int wa6n2])), (v, .inr (9, [.ref va0, .ref va1, .ref va2, .ref va3, .ref va4, .ref va5, .ref va6, .ref va7, .int vn8, .int vn9, .int vn10, .int vn11])), (va0, .inl (K 1, 40, .inl vf0)), (va1, .inl (K 1, 10, .inl vf1))] := hD
  refine lv_aload_n hx hb dX6_explore_10 rfl (lv_at hl 0 rfl) ?_
  refine lv_iconst (v := 0) hx hb dX6_explore_11 (by decide) ?_
  refine va_put (D := D) (ci := 1) (v := .int 0) (ty := .int) (C := RX1) (T := TX1) (N := 10) hx hb hts in_X1 tyX1 tyX1_ok nmX1 hown hE.1 hP hD hS 0 rfl rfl 4 (by decide) (hts _ w_276) (fun _ h9 => h9) rfl (by decide +kernel) rfl rfl (Nat.le_of_ble_eq_true rfl) dX6_explore_12 (fun H locs hP hD hS => ?_)
  replace hP : va_P D vwCl [(w, .inr (1, [.ref wa0, .ref wa1, .ref wa2, .int v2106, .int 0, .int wn5, .ref wa6, .int wn7, .int wn8, .int wn9])), (wa0, .inl (K 1, 10240, .inl wf0)), (wa1, .inl (K 1, 10240, .inl wf1)), (wa2, .inl (K 1, 10240, .inl wf2)), (wa6, .inr (8, [.int wa6n0, .int wa6n1, .int wa6n2])), (v, .inr (9, [.ref va0, .ref va1, .ref va2, .ref va3, .ref va4, .ref va5, .ref va6, .ref va7, .int vn8, .int vn9, .int vn10, .int vn11])), (va0, .inl (K 1, 40, .inl vf0)), (va1, .inl (K 1, 10, .inl vf1))] H := hP
  replace hD : va_D A [(w, .inr (1, [.ref wa0, .ref wa1, .ref wa2, .int v2106, .int 0, .int wn5, .ref wa6, .int wn7, .int wn8, .int wn9])), (wa0, .inl (K 1, 10240, .inl wf0)), (wa1, .inl (K 1, 10240, .inl wf1)), (wa2, .inl (K 1, 10240, .inl wf2)), (wa6, .inr (8, [.int wa6n0, .int wa6n1, .int wa6n2])), (v, .inr (9, [.ref va0, .ref va1, .ref va2, .ref va3, .ref va4, .ref va5, .ref va6, .ref va7, .int vn8, .int vn9, .int vn10, .int vn11])), (va0, .inl (K 1, 40, .inl vf0)), (va1, .inl (K 1, 10, .inl vf1))] := hD
  refine lv_aload_n hx hb dX6_explore_15 rfl (lv_at hl 0 rfl) ?_
  refine lv_iconst (v := (-1)) hx hb dX6_explore_16 (by decide) ?_
  refine va_put (D := D) (ci := 1) (v := .int (-1)) (ty := .int) (C := RX1) (T := TX1) (N := 10) hx hb hts in_X1 tyX1 tyX1_ok nmX1 hown hE.1 hP hD hS 0 rfl rfl 5 (by decide) (hts _ w_279) (fun _ h9 => h9) rfl (by decide +kernel) rfl rfl (Nat.le_of_ble_eq_true rfl) dX6_explore_17 (fun H locs hP hD hS => ?_)
  replace hP : va_P D vwCl [(w, .inr (1, [.ref wa0, .ref wa1, .ref wa2, .int v2106, .int 0, .int (-1), .ref wa6, .int wn7, .int wn8, .int wn9])), (wa0, .inl (K 1, 10240, .inl wf0)), (wa1, .inl (K 1, 10240, .inl wf1)), (wa2, .inl (K 1, 10240, .inl wf2)), (wa6, .inr (8, [.int wa6n0, .int wa6n1, .int wa6n2])), (v, .inr (9, [.ref va0, .ref va1, .ref va2, .ref va3, .ref va4, .ref va5, .ref va6, .ref va7, .int vn8, .int vn9, .int vn10, .int vn11])), (va0, .inl (K 1, 40, .inl vf0)), (va1, .inl (K 1, 10, .inl vf1))] H := hP
  replace hD : va_D A [(w, .inr (1, [.ref wa0, .ref wa1, .ref wa2, .int v2106, .int 0, .int (-1), .ref wa6, .int wn7, .int wn8, .int wn9])), (wa0, .inl (K 1, 10240, .inl wf0)), (wa1, .inl (K 1, 10240, .inl wf1)), (wa2, .inl (K 1, 10240, .inl wf2)), (wa6, .inr (8, [.int wa6n0, .int wa6n1, .int wa6n2])), (v, .inr (9, [.ref va0, .ref va1, .ref va2, .ref va3, .ref va4, .ref va5, .ref va6, .ref va7, .int vn8, .int vn9, .int vn10, .int vn11])), (va0, .inl (K 1, 40, .inl vf0)), (va1, .inl (K 1, 10, .inl vf1))] := hD
  refine lv_aload_n hx hb dX6_explore_20 rfl (lv_at hl 0 rfl) ?_
  refine lv_iload_n hx hb dX6_explore_21 rfl (lv_at hl 2 rfl) ?_
  refine lv_iconst (v := 0) hx hb dX6_explore_22 (by decide) ?_
  refine cv_U (As := [.int p1, .int 0]) (rest := []) (wc := [(w, .inr (1, [.ref wa0, .ref wa1, .ref wa2, .int v2106, .int 0, .int (-1), .ref wa6, .int wn7, .int wn8, .int wn9])), (wa0, .inl (K 1, 10240, .inl wf0)), (wa1, .inl (K 1, 10240, .inl wf1)), (wa2, .inl (K 1, 10240, .inl wf2))]) (wr := [(wa6, .inr (8, [.int wa6n0, .int wa6n1, .int wa6n2])), (v, .inr (9, [.ref va0, .ref va1, .ref va2, .ref va3, .ref va4, .ref va5, .ref va6, .ref va7, .int vn8, .int vn9, .int vn10, .int vn11])), (va0, .inl (K 1, 40, .inl vf0)), (va1, .inl (K 1, 10, .inl vf1))]) hC hE kU_X6_37_X6_meetState (decl_of hC kU_X6_37_X6_meetState rfl) (c_X6_meetState_1 l D K w wa0 wa1 wa2 wa6 v2106 0 (-1) wn7 wn8 wn9 wf0 wf1 wf2 p1 0 (by omega)) hP hD hS hA [0, 1, 2, 3] [4, 5, 6, 7] rfl rfl rfl (by decide) (by decide) (by decide) 0 1 rfl rfl (va_Nw.use rfl hE.2.2.2.2.2.2.1) rfl hl.1 rfl (Nat.le_of_ble_eq_true rfl) (by decide) (by decide) dX6_explore_23 (fun u2107 H locs hw hP hD hS => ?_)
  replace hP : va_P D vwCl [(wa6, .inr (8, [.int wa6n0, .int wa6n1, .int wa6n2])), (v, .inr (9, [.ref va0, .ref va1, .ref va2, .ref va3, .ref va4, .ref va5, .ref va6, .ref va7, .int vn8, .int vn9, .int vn10, .int vn11])), (va0, .inl (K 1, 40, .inl vf0)), (va1, .inl (K 1, 10, .inl vf1)), (w, .inr (1, [.ref wa0, .ref wa1, .ref wa2, .int v2106, .int (u2107.1 0), .int (-1), .ref wa6, .int wn7, .int wn8, .int wn9])), (wa0, .inl (K 1, 10240, .inl (u2107.2.1 0))), (wa1, .inl (K 1, 10240, .inl (u2107.2.1 1))), (wa2, .inl (K 1, 10240, .inl (u2107.2.1 2)))] H := hP
  replace hD : va_D A [(wa6, .inr (8, [.int wa6n0, .int wa6n1, .int wa6n2])), (v, .inr (9, [.ref va0, .ref va1, .ref va2, .ref va3, .ref va4, .ref va5, .ref va6, .ref va7, .int vn8, .int vn9, .int vn10, .int vn11])), (va0, .inl (K 1, 40, .inl vf0)), (va1, .inl (K 1, 10, .inl vf1)), (w, .inr (1, [.ref wa0, .ref wa1, .ref wa2, .int v2106, .int (u2107.1 0), .int (-1), .ref wa6, .int wn7, .int wn8, .int wn9])), (wa0, .inl (K 1, 10240, .inl (u2107.2.1 0))), (wa1, .inl (K 1, 10240, .inl (u2107.2.1 1))), (wa2, .inl (K 1, 10240, .inl (u2107.2.1 2)))] := hD
  replace hP : va_P D vwCl [(w, .inr (1, [.ref wa0, .ref wa1, .ref wa2, .int v2106, .int (u2107.1 0), .int (-1), .ref wa6, .int wn7, .int wn8, .int wn9])), (wa0, .inl (K 1, 10240, .inl (u2107.2.1 0))), (wa1, .inl (K 1, 10240, .inl (u2107.2.1 1))), (wa2, .inl (K 1, 10240, .inl (u2107.2.1 2))), (wa6, .inr (8, [.int wa6n0, .int wa6n1, .int wa6n2])), (v, .inr (9, [.ref va0, .ref va1, .ref va2, .ref va3, .ref va4, .ref va5, .ref va6, .ref va7, .int vn8, .int vn9, .int vn10, .int vn11])), (va0, .inl (K 1, 40, .inl vf0)), (va1, .inl (K 1, 10, .inl vf1))] H := hP.sub [4, 5, 6, 7, 0, 1, 2, 3] rfl
  replace hD : va_D A [(w, .inr (1, [.ref wa0, .ref wa1, .ref wa2, .int v2106, .int (u2107.1 0), .int (-1), .ref wa6, .int wn7, .int wn8, .int wn9])), (wa0, .inl (K 1, 10240, .inl (u2107.2.1 0))), (wa1, .inl (K 1, 10240, .inl (u2107.2.1 1))), (wa2, .inl (K 1, 10240, .inl (u2107.2.1 2))), (wa6, .inr (8, [.int wa6n0, .int wa6n1, .int wa6n2])), (v, .inr (9, [.ref va0, .ref va1, .ref va2, .ref va3, .ref va4, .ref va5, .ref va6, .ref va7, .int vn8, .int vn9, .int vn10, .int vn11])), (va0, .inl (K 1, 40, .inl vf0)), (va1, .inl (K 1, 10, .inl vf1))] := hD.sub [4, 5, 6, 7, 0, 1, 2, 3] (by decide) rfl
  refine W.widen (k := 0) (n := 0) (by decide) (by decide) ?_
  have hf := hw
  have f2109 : 0 ≤ (u2107.1 0).toInt := hf
  refine lv_iconst (v := 0) hx hb dX6_explore_26 (by decide) ?_
  refine lv_istore_n (lv' := [(3, .int 0), (0, .ref w), (1, .ref v), (2, .int p1)]) hx hb dX6_explore_27 rfl hl (by decide) rfl (fun ls hl => ?_)
  have hl' := hl; have hP' := hP; have hD' := hD; clear hl hP hD
  obtain ⟨i2128, w2129, w2130, g2131, g2132, g2133, w2134, w2135, w2136, hi_28, hz_28, hl, hP, hD⟩ : ∃ (i2128 : Int32) (w2129 : Int32) (w2130 : Int32) (g2131 : Nat → Int32) (g2132 : Nat → Int32) (g2133 : Nat → Int32) (w2134 : Int32) (w2135 : Int32) (w2136 : Int32), ((0 : Int) ≤ i2128.toInt) ∧ (0 ≤ w2129.toInt) ∧ lv_has ls 5 [(3, .int i2128), (0, .ref w), (1, .ref v), (2, .int p1)] ∧ va_P D vwCl [(w, .inr (1, [.ref wa0, .ref wa1, .ref wa2, .int v2106, .int w2129, .int w2130, .ref wa6, .int wn7, .int wn8, .int wn9])), (wa0, .inl (K 1, 10240, .inl g2131)), (wa1, .inl (K 1, 10240, .inl g2132)), (wa2, .inl (K 1, 10240, .inl g2133)), (wa6, .inr (8, [.int w2134, .int w2135, .int w2136])), (v, .inr (9, [.ref va0, .ref va1, .ref va2, .ref va3, .ref va4, .ref va5, .ref va6, .ref va7, .int vn8, .int vn9, .int vn10, .int vn11])), (va0, .inl (K 1, 40, .inl vf0)), (va1, .inl (K 1, 10, .inl vf1))] H ∧ va_D A [(w, .inr (1, [.ref wa0, .ref wa1, .ref wa2, .int v2106, .int w2129, .int w2130, .ref wa6, .int wn7, .int wn8, .int wn9])), (wa0, .inl (K 1, 10240, .inl g2131)), (wa1, .inl (K 1, 10240, .inl g2132)), (wa2, .inl (K 1, 10240, .inl g2133)), (wa6, .inr (8, [.int w2134, .int w2135, .int w2136])), (v, .inr (9, [.ref va0, .ref va1, .ref va2, .ref va3, .ref va4, .ref va5, .ref va6, .ref va7, .int vn8, .int vn9, .int vn10, .int vn11])), (va0, .inl (K 1, 40, .inl vf0)), (va1, .inl (K 1, 10, .inl vf1))] := ⟨_, _, _, _, _, _, _, _, _, by omega, by omega, hl', hP', hD'⟩
  clear hl' hP' hD'
  obtain ⟨n_28, hn_28⟩ : ∃ n : Nat, (10240 - i2128.toInt).toNat < n := ⟨_, Nat.lt_succ_self _⟩
  induction n_28 generalizing i2128 w2129 w2130 g2131 g2132 g2133 w2134 w2135 w2136 H locs ls with
  | zero => exact absurd hn_28 (Nat.not_lt_zero _)
  | succ n_28 ih_28 =>
    refine lv_iload_n hx hb dX6_explore_28 rfl (lv_at hl 0 rfl) ?_
    refine lv_aload_n hx hb dX6_explore_29 rfl (lv_at hl 1 rfl) ?_
    refine va_get (D := D) (ci := 1) (v := .int w2129) (C := RX1) (T := TX1) (N := 10) hx hb hts in_X1 hown hE.1 hP 0 rfl rfl 4 (by decide) (hts _ w_276) (fun _ h9 => h9) rfl dX6_explore_30 ?_
    refine lv_icmp_ge (tgt := 109) hx hb dX6_explore_33 (by decide) (fun c2137 => ?_) (fun c2137 => ?_)
    · replace c2137 := le_i c2137
      refine W.widen (k := 0) (n := 0) (by decide) (by decide) ?_
      exact ch_vret hC hr hk hS dX6_explore_109 ((fun k => [v2106, w2129, w2130, w2134, w2135, w2136].getD k 0, fun k => [g2131, g2132, g2133].getD k (fun _ => 0), fun k => [].getD k (fun _ => 0)) : ((Nat → Int32) × (Nat → Nat → Int32) × (Nat → Nat → Int64))) trivial (hP.sub [0, 1, 2, 3, 4, 5, 6, 7] rfl) (hD.sub [0, 1, 2, 3, 4, 5, 6, 7] (by decide) rfl)
    · replace c2137 := nle_i c2137
      refine lv_iload_n hx hb dX6_explore_36 rfl (lv_at hl 0 rfl) ?_
      refine lv_aload_n hx hb dX6_explore_37 rfl (lv_at hl 1 rfl) ?_
      refine va_get (D := D) (ci := 1) (v := .ref wa1) (C := RX1) (T := TX1) (N := 10) hx hb hts in_X1 hown hE.1 hP 0 rfl rfl 1 (by decide) (hts _ w_277) (fun _ h9 => h9) rfl dX6_explore_38 ?_
      refine va_alen (v := 10240) hx hb hE.1 hP 2 1 rfl rfl (show Int32.ofNat 10240 = 10240 by decide) dX6_explore_41 ?_
      refine lv_icmp_ge (tgt := 109) hx hb dX6_explore_42 (by decide) (fun c2138 => ?_) (fun c2138 => ?_)
      · replace c2138 := le_i c2138
        refine W.widen (k := 0) (n := 0) (by decide) (by decide) ?_
        exact ch_vret hC hr hk hS dX6_explore_109 ((fun k => [v2106, w2129, w2130, w2134, w2135, w2136].getD k 0, fun k => [g2131, g2132, g2133].getD k (fun _ => 0), fun k => [].getD k (fun _ => 0)) : ((Nat → Int32) × (Nat → Nat → Int32) × (Nat → Nat → Int64))) trivial (hP.sub [0, 1, 2, 3, 4, 5, 6, 7] rfl) (hD.sub [0, 1, 2, 3, 4, 5, 6, 7] (by decide) rfl)
      · replace c2138 := nle_i c2138
        refine lv_aload_n hx hb dX6_explore_45 rfl (lv_at hl 1 rfl) ?_
        refine lv_aload_n hx hb dX6_explore_46 rfl (lv_at hl 2 rfl) ?_
        refine lv_aload_n hx hb dX6_explore_47 rfl (lv_at hl 1 rfl) ?_
        refine va_get (D := D) (ci := 1) (v := .ref wa1) (C := RX1) (T := TX1) (N := 10) hx hb hts in_X1 hown hE.1 hP 0 rfl rfl 1 (by decide) (hts _ w_277) (fun _ h9 => h9) rfl dX6_explore_48 ?_
        refine lv_iload_n hx hb dX6_explore_51 rfl (lv_at hl 0 rfl) ?_
        refine va_iald hx hb hE.1 hP 2 1 rfl rfl (vp_in_iff.mpr (by omega)) dX6_explore_52 ?_
        refine lv_topi (fun v2139 ev2139 => ?_)
        refine ci_U (As := [.ref v, .int v2139]) (rest := []) (wc := [(w, .inr (1, [.ref wa0, .ref wa1, .ref wa2, .int v2106, .int w2129, .int w2130, .ref wa6, .int wn7, .int wn8, .int wn9])), (wa6, .inr (8, [.int w2134, .int w2135, .int w2136]))]) (wr := [(wa0, .inl (K 1, 10240, .inl g2131)), (wa1, .inl (K 1, 10240, .inl g2132)), (wa2, .inl (K 1, 10240, .inl g2133)), (v, .inr (9, [.ref va0, .ref va1, .ref va2, .ref va3, .ref va4, .ref va5, .ref va6, .ref va7, .int vn8, .int vn9, .int vn10, .int vn11])), (va0, .inl (K 1, 40, .inl vf0)), (va1, .inl (K 1, 10, .inl vf1))]) hC hE kU_X6_41_X1_ends (va_Decl.abs hE.2.2.2.2.1) (c_X1_ends l D K w wa0 wa1 wa2 wa6 v v2106 w2129 w2130 wn7 wn8 wn9 w2134 w2135 w2136 v2139) hP hD hS hA [0, 4] [1, 2, 3, 5, 6, 7] rfl rfl rfl (by decide) (by decide) (by decide) 0 1 rfl rfl (hts _ w_333) rfl hl.1 rfl (Nat.le_of_ble_eq_true rfl) (by decide) (by decide) dX6_explore_53 (fun r2141 u2140 H locs hw hP hD hS => ?_)
        replace hP : va_P D vwCl [(wa0, .inl (K 1, 10240, .inl g2131)), (wa1, .inl (K 1, 10240, .inl g2132)), (wa2, .inl (K 1, 10240, .inl g2133)), (v, .inr (9, [.ref va0, .ref va1, .ref va2, .ref va3, .ref va4, .ref va5, .ref va6, .ref va7, .int vn8, .int vn9, .int vn10, .int vn11])), (va0, .inl (K 1, 40, .inl vf0)), (va1, .inl (K 1, 10, .inl vf1)), (w, .inr (1, [.ref wa0, .ref wa1, .ref wa2, .int v2106, .int w2129, .int w2130, .ref wa6, .int wn7, .int wn8, .int wn9])), (wa6, .inr (8, [.int (u2140.1 0), .int (u2140.1 1), .int (u2140.1 2)]))] H := hP
        replace hD : va_D A [(wa0, .inl (K 1, 10240, .inl g2131)), (wa1, .inl (K 1, 10240, .inl g2132)), (wa2, .inl (K 1, 10240, .inl g2133)), (v, .inr (9, [.ref va0, .ref va1, .ref va2, .ref va3, .ref va4, .ref va5, .ref va6, .ref va7, .int vn8, .int vn9, .int vn10, .int vn11])), (va0, .inl (K 1, 40, .inl vf0)), (va1, .inl (K 1, 10, .inl vf1)), (w, .inr (1, [.ref wa0, .ref wa1, .ref wa2, .int v2106, .int w2129, .int w2130, .ref wa6, .int wn7, .int wn8, .int wn9])), (wa6, .inr (8, [.int (u2140.1 0), .int (u2140.1 1), .int (u2140.1 2)]))] := hD
        replace hP : va_P D vwCl [(w, .inr (1, [.ref wa0, .ref wa1, .ref wa2, .int v2106, .int w2129, .int w2130, .ref wa6, .int wn7, .int wn8, .int wn9])), (wa0, .inl (K 1, 10240, .inl g2131)), (wa1, .inl (K 1, 10240, .inl g2132)), (wa2, .inl (K 1, 10240, .inl g2133)), (wa6, .inr (8, [.int (u2140.1 0), .int (u2140.1 1), .int (u2140.1 2)])), (v, .inr (9, [.ref va0, .ref va1, .ref va2, .ref va3, .ref va4, .ref va5, .ref va6, .ref va7, .int vn8, .int vn9, .int vn10, .int vn11])), (va0, .inl (K 1, 40, .inl vf0)), (va1, .inl (K 1, 10, .inl vf1))] H := hP.sub [6, 0, 1, 2, 7, 3, 4, 5] rfl
        replace hD : va_D A [(w, .inr (1, [.ref wa0, .ref wa1, .ref wa2, .int v2106, .int w2129, .int w2130, .ref wa6, .int wn7, .int wn8, .int wn9])), (wa0, .inl (K 1, 10240, .inl g2131)), (wa1, .inl (K 1, 10240, .inl g2132)), (wa2, .inl (K 1, 10240, .inl g2133)), (wa6, .inr (8, [.int (u2140.1 0), .int (u2140.1 1), .int (u2140.1 2)])), (v, .inr (9, [.ref va0, .ref va1, .ref va2, .ref va3, .ref va4, .ref va5, .ref va6, .ref va7, .int vn8, .int vn9, .int vn10, .int vn11])), (va0, .inl (K 1, 40, .inl vf0)), (va1, .inl (K 1, 10, .inl vf1))] := hD.sub [6, 0, 1, 2, 7, 3, 4, 5] (by decide) rfl
        refine W.widen (k := 0) (n := 0) (by decide) (by decide) ?_
        rcases hw with rfl | rfl
        · refine lv_if_eq (tgt := 65) hx hb dX6_explore_56 (by decide) (fun _ => ?_) (fun h => absurd h (by decide))
          refine lv_iconst (v := 0) hx hb dX6_explore_65 (by decide) ?_
          refine lv_istore (lv' := [(4, .int 0), (3, .int i2128), (0, .ref w), (1, .ref v), (2, .int p1)]) hx hb dX6_explore_66 hl (by decide) rfl (fun ls hl => ?_)
          have hl' := hl; have hP' := hP; have hD' := hD; clear hl hP hD
          obtain ⟨i2153, w2154, g2155, g2156, g2157, w2158, w2159, w2160, hi_68, hz_68, hl, hP, hD⟩ : ∃ (i2153 : Int32) (w2154 : Int32) (g2155 : Nat → Int32) (g2156 : Nat → Int32) (g2157 : Nat → Int32) (w2158 : Int32) (w2159 : Int32) (w2160 : Int32), ((0 : Int) ≤ i2153.toInt) ∧ (0 ≤ w2154.toInt) ∧ lv_has ls 5 [(4, .int i2153), (3, .int i2128), (0, .ref w), (1, .ref v), (2, .int p1)] ∧ va_P D vwCl [(w, .inr (1, [.ref wa0, .ref wa1, .ref wa2, .int v2106, .int w2154, .int w2130, .ref wa6, .int wn7, .int wn8, .int wn9])), (wa0, .inl (K 1, 10240, .inl g2155)), (wa1, .inl (K 1, 10240, .inl g2156)), (wa2, .inl (K 1, 10240, .inl g2157)), (wa6, .inr (8, [.int w2158, .int w2159, .int w2160])), (v, .inr (9, [.ref va0, .ref va1, .ref va2, .ref va3, .ref va4, .ref va5, .ref va6, .ref va7, .int vn8, .int vn9, .int vn10, .int vn11])), (va0, .inl (K 1, 40, .inl vf0)), (va1, .inl (K 1, 10, .inl vf1))] H ∧ va_D A [(w, .inr (1, [.ref wa0, .ref wa1, .ref wa2, .int v2106, .int w2154, .int w2130, .ref wa6, .int wn7, .int wn8, .int wn9])), (wa0, .inl (K 1, 10240, .inl g2155)), (wa1, .inl (K 1, 10240, .inl g2156)), (wa2, .inl (K 1, 10240, .inl g2157)), (wa6, .inr (8, [.int w2158, .int w2159, .int w2160])), (v, .inr (9, [.ref va0, .ref va1, .ref va2, .ref va3, .ref va4, .ref va5, .ref va6, .ref va7, .int vn8, .int vn9, .int vn10, .int vn11])), (va0, .inl (K 1, 40, .inl vf0)), (va1, .inl (K 1, 10, .inl vf1))] := ⟨_, _, _, _, _, _, _, _, by omega, by omega, hl', hP', hD'⟩
          clear hl' hP' hD'
          obtain ⟨n_68, hn_68⟩ : ∃ n : Nat, (4 - i2153.toInt).toNat < n := ⟨_, Nat.lt_succ_self _⟩
          induction n_68 generalizing i2153 w2154 g2155 g2156 g2157 w2158 w2159 w2160 H locs ls with
          | zero => exact absurd hn_68 (Nat.not_lt_zero _)
          | succ n_68 ih_68 =>
            refine lv_iload hx hb dX6_explore_68 (lv_at hl 0 rfl) ?_
            refine lv_iconst (v := 4) hx hb dX6_explore_70 (by decide) ?_
            refine lv_icmp_ge (tgt := 103) hx hb dX6_explore_71 (by decide) (fun c2161 => ?_) (fun c2161 => ?_)
            · replace c2161 := le_i c2161
              obtain ⟨v2162, ev2162⟩ : ∃ z : Int32, z = i2128 + 1 := ⟨_, rfl⟩
              refine lv_iinc (v := v2162) (lv' := [(3, .int v2162), (4, .int i2153), (0, .ref w), (1, .ref v), (2, .int p1)]) hx hb dX6_explore_103 hl (k := 1) rfl (by rw [ev2162]; rfl) (by decide) rfl (fun ls hl => ?_)
              refine lv_goto (tgt := 28) hx hb dX6_explore_106 (by decide) ?_
              have tv2162 : v2162.toInt = (i2128 : Int32).toInt + (1 : Int32).toInt := add_i ev2162 (by omega) (by omega)
              exact ih_28 (i2128 := v2162) (w2129 := w2154) (w2130 := w2130) (g2131 := g2155) (g2132 := g2156) (g2133 := g2157) (w2134 := w2158) (w2135 := w2159) (w2136 := w2160) (hi_28 := by omega) (hz_28 := by omega) (H := H) (locs := locs) (ls := ls) (hn_28 := by omega) (hP := hP) (hD := hD) (hS := hS) (hl := lv_sub hl [0, 2, 3, 4] rfl)
            · replace c2161 := nle_i c2161
              refine lv_aload_n hx hb dX6_explore_74 rfl (lv_at hl 2 rfl) ?_
              refine lv_aload_n hx hb dX6_explore_75 rfl (lv_at hl 2 rfl) ?_
              refine lv_aload_n hx hb dX6_explore_76 rfl (lv_at hl 3 rfl) ?_
              refine lv_aload_n hx hb dX6_explore_77 rfl (lv_at hl 2 rfl) ?_
              refine va_get (D := D) (ci := 1) (v := .ref wa1) (C := RX1) (T := TX1) (N := 10) hx hb hts in_X1 hown hE.1 hP 0 rfl rfl 1 (by decide) (hts _ w_277) (fun _ h9 => h9) rfl dX6_explore_78 ?_
              refine lv_iload_n hx hb dX6_explore_81 rfl (lv_at hl 1 rfl) ?_
              refine va_iald hx hb hE.1 hP 2 1 rfl rfl (vp_in_iff.mpr (by omega)) dX6_explore_82 ?_
              refine lv_topi (fun v2163 ev2163 => ?_)
              refine lv_iload hx hb dX6_explore_83 (lv_at hl 0 rfl) ?_
              refine ci_U (As := [.ref v, .int v2163, .int i2153]) (rest := [.ref w]) (wc := [(w, .inr (1, [.ref wa0, .ref wa1, .ref wa2, .int v2106, .int w2154, .int w2130, .ref wa6, .int wn7, .int wn8, .int wn9])), (wa6, .inr (8, [.int w2158, .int w2159, .int w2160])), (v, .inr (9, [.ref va0, .ref va1, .ref va2, .ref va3, .ref va4, .ref va5, .ref va6, .ref va7, .int vn8, .int vn9, .int vn10, .int vn11])), (va0, .inl (K 1, 40, .inl vf0)), (va1, .inl (K 1, 10, .inl vf1))]) (wr := [(wa0, .inl (K 1, 10240, .inl g2155)), (wa1, .inl (K 1, 10240, .inl g2156)), (wa2, .inl (K 1, 10240, .inl g2157))]) hC hE kU_X6_45_X1_next (va_Decl.abs hE.2.2.2.2.2.1) (c_X1_next l D K w wa0 wa1 wa2 wa6 v va0 va1 va2 va3 va4 va5 va6 va7 v2106 w2154 w2130 wn7 wn8 wn9 w2158 w2159 w2160 vn8 vn9 vn10 vn11 vf0 vf1 v2163 i2153) hP hD hS hA [0, 4, 5, 6, 7] [1, 2, 3] rfl rfl rfl (by decide) (by decide) (by decide) 0 1 rfl rfl (hts _ w_338) rfl hl.1 rfl (Nat.le_of_ble_eq_true rfl) (by decide) (by decide) dX6_explore_85 (fun r2165 u2164 H locs hw hP hD hS => ?_)
              replace hP : va_P D vwCl [(wa0, .inl (K 1, 10240, .inl g2155)), (wa1, .inl (K 1, 10240, .inl g2156)), (wa2, .inl (K 1, 10240, .inl g2157)), (w, .inr (1, [.ref wa0, .ref wa1, .ref wa2, .int v2106, .int w2154, .int w2130, .ref wa6, .int wn7, .int wn8, .int wn9])), (wa6, .inr (8, [.int (u2164.1 0), .int (u2164.1 1), .int (u2164.1 2)])), (v, .inr (9, [.ref va0, .ref va1, .ref va2, .ref va3, .ref va4, .ref va5, .ref va6, .ref va7, .int vn8, .int vn9, .int vn10, .int vn11])), (va0, .inl (K 1, 40, .inl vf0)), (va1, .inl (K 1, 10, .inl vf1))] H := hP
              replace hD : va_D A [(wa0, .inl (K 1, 10240, .inl g2155)), (wa1, .inl (K 1, 10240, .inl g2156)), (wa2, .inl (K 1, 10240, .inl g2157)), (w, .inr (1, [.ref wa0, .ref wa1, .ref wa2, .int v2106, .int w2154, .int w2130, .ref wa6, .int wn7, .int wn8, .int wn9])), (wa6, .inr (8, [.int (u2164.1 0), .int (u2164.1 1), .int (u2164.1 2)])), (v, .inr (9, [.ref va0, .ref va1, .ref va2, .ref va3, .ref va4, .ref va5, .ref va6, .ref va7, .int vn8, .int vn9, .int vn10, .int vn11])), (va0, .inl (K 1, 40, .inl vf0)), (va1, .inl (K 1, 10, .inl vf1))] := hD
              replace hP : va_P D vwCl [(w, .inr (1, [.ref wa0, .ref wa1, .ref wa2, .int v2106, .int w2154, .int w2130, .ref wa6, .int wn7, .int wn8, .int wn9])), (wa0, .inl (K 1, 10240, .inl g2155)), (wa1, .inl (K 1, 10240, .inl g2156)), (wa2, .inl (K 1, 10240, .inl g2157)), (wa6, .inr (8, [.int (u2164.1 0), .int (u2164.1 1), .int (u2164.1 2)])), (v, .inr (9, [.ref va0, .ref va1, .ref va2, .ref va3, .ref va4, .ref va5, .ref va6, .ref va7, .int vn8, .int vn9, .int vn10, .int vn11])), (va0, .inl (K 1, 40, .inl vf0)), (va1, .inl (K 1, 10, .inl vf1))] H := hP.sub [3, 0, 1, 2, 4, 5, 6, 7] rfl
              replace hD : va_D A [(w, .inr (1, [.ref wa0, .ref wa1, .ref wa2, .int v2106, .int w2154, .int w2130, .ref wa6, .int wn7, .int wn8, .int wn9])), (wa0, .inl (K 1, 10240, .inl g2155)), (wa1, .inl (K 1, 10240, .inl g2156)), (wa2, .inl (K 1, 10240, .inl g2157)), (wa6, .inr (8, [.int (u2164.1 0), .int (u2164.1 1), .int (u2164.1 2)])), (v, .inr (9, [.ref va0, .ref va1, .ref va2, .ref va3, .ref va4, .ref va5, .ref va6, .ref va7, .int vn8, .int vn9, .int vn10, .int vn11])), (va0, .inl (K 1, 40, .inl vf0)), (va1, .inl (K 1, 10, .inl vf1))] := hD.sub [3, 0, 1, 2, 4, 5, 6, 7] (by decide) rfl
              refine W.widen (k := 0) (n := 0) (by decide) (by decide) ?_
              refine lv_iload_n hx hb dX6_explore_88 rfl (lv_at hl 1 rfl) ?_
              refine lv_iconst (v := 4) hx hb dX6_explore_89 (by decide) ?_
              refine lv_imul hx hb dX6_explore_90 ?_
              refine lv_topi (fun v2166 ev2166 => ?_)
              refine lv_iload hx hb dX6_explore_91 (lv_at hl 0 rfl) ?_
              refine lv_iadd hx hb dX6_explore_93 ?_
              refine lv_topi (fun v2167 ev2167 => ?_)
              have tv2166 : v2166.toInt = i2128.toInt * 4 := mul_i ev2166 rfl (by decide) (by omega) (by omega)
              have tv2167 : v2167.toInt = (v2166 : Int32).toInt + (i2153 : Int32).toInt := add_i ev2167 (by omega) (by omega)
              refine cv_U (As := [.int r2165, .int v2167]) (rest := []) (wc := [(w, .inr (1, [.ref wa0, .ref wa1, .ref wa2, .int v2106, .int w2154, .int w2130, .ref wa6, .int wn7, .int wn8, .int wn9])), (wa0, .inl (K 1, 10240, .inl g2155)), (wa1, .inl (K 1, 10240, .inl g2156)), (wa2, .inl (K 1, 10240, .inl g2157))]) (wr := [(wa6, .inr (8, [.int (u2164.1 0), .int (u2164.1 1), .int (u2164.1 2)])), (v, .inr (9, [.ref va0, .ref va1, .ref va2, .ref va3, .ref va4, .ref va5, .ref va6, .ref va7, .int vn8, .int vn9, .int vn10, .int vn11])), (va0, .inl (K 1, 40, .inl vf0)), (va1, .inl (K 1, 10, .inl vf1))]) hC hE kU_X6_37_X6_meetState (decl_of hC kU_X6_37_X6_meetState rfl) (c_X6_meetState_1 l D K w wa0 wa1 wa2 wa6 v2106 w2154 w2130 wn7 wn8 wn9 g2155 g2156 g2157 r2165 v2167 (by omega)) hP hD hS hA [0, 1, 2, 3] [4, 5, 6, 7] rfl rfl rfl (by decide) (by decide) (by decide) 0 1 rfl rfl (va_Nw.use rfl hE.2.2.2.2.2.2.1) rfl hl.1 rfl (Nat.le_of_ble_eq_true rfl) (by decide) (by decide) dX6_explore_94 (fun u2168 H locs hw hP hD hS => ?_)
              replace hP : va_P D vwCl [(wa6, .inr (8, [.int (u2164.1 0), .int (u2164.1 1), .int (u2164.1 2)])), (v, .inr (9, [.ref va0, .ref va1, .ref va2, .ref va3, .ref va4, .ref va5, .ref va6, .ref va7, .int vn8, .int vn9, .int vn10, .int vn11])), (va0, .inl (K 1, 40, .inl vf0)), (va1, .inl (K 1, 10, .inl vf1)), (w, .inr (1, [.ref wa0, .ref wa1, .ref wa2, .int v2106, .int (u2168.1 0), .int w2130, .ref wa6, .int wn7, .int wn8, .int wn9])), (wa0, .inl (K 1, 10240, .inl (u2168.2.1 0))), (wa1, .inl (K 1, 10240, .inl (u2168.2.1 1))), (wa2, .inl (K 1, 10240, .inl (u2168.2.1 2)))] H := hP
              replace hD : va_D A [(wa6, .inr (8, [.int (u2164.1 0), .int (u2164.1 1), .int (u2164.1 2)])), (v, .inr (9, [.ref va0, .ref va1, .ref va2, .ref va3, .ref va4, .ref va5, .ref va6, .ref va7, .int vn8, .int vn9, .int vn10, .int vn11])), (va0, .inl (K 1, 40, .inl vf0)), (va1, .inl (K 1, 10, .inl vf1)), (w, .inr (1, [.ref wa0, .ref wa1, .ref wa2, .int v2106, .int (u2168.1 0), .int w2130, .ref wa6, .int wn7, .int wn8, .int wn9])), (wa0, .inl (K 1, 10240, .inl (u2168.2.1 0))), (wa1, .inl (K 1, 10240, .inl (u2168.2.1 1))), (wa2, .inl (K 1, 10240, .inl (u2168.2.1 2)))] := hD
              replace hP : va_P D vwCl [(w, .inr (1, [.ref wa0, .ref wa1, .ref wa2, .int v2106, .int (u2168.1 0), .int w2130, .ref wa6, .int wn7, .int wn8, .int wn9])), (wa0, .inl (K 1, 10240, .inl (u2168.2.1 0))), (wa1, .inl (K 1, 10240, .inl (u2168.2.1 1))), (wa2, .inl (K 1, 10240, .inl (u2168.2.1 2))), (wa6, .inr (8, [.int (u2164.1 0), .int (u2164.1 1), .int (u2164.1 2)])), (v, .inr (9, [.ref va0, .ref va1, .ref va2, .ref va3, .ref va4, .ref va5, .ref va6, .ref va7, .int vn8, .int vn9, .int vn10, .int vn11])), (va0, .inl (K 1, 40, .inl vf0)), (va1, .inl (K 1, 10, .inl vf1))] H := hP.sub [4, 5, 6, 7, 0, 1, 2, 3] rfl
              replace hD : va_D A [(w, .inr (1, [.ref wa0, .ref wa1, .ref wa2, .int v2106, .int (u2168.1 0), .int w2130, .ref wa6, .int wn7, .int wn8, .int wn9])), (wa0, .inl (K 1, 10240, .inl (u2168.2.1 0))), (wa1, .inl (K 1, 10240, .inl (u2168.2.1 1))), (wa2, .inl (K 1, 10240, .inl (u2168.2.1 2))), (wa6, .inr (8, [.int (u2164.1 0), .int (u2164.1 1), .int (u2164.1 2)])), (v, .inr (9, [.ref va0, .ref va1, .ref va2, .ref va3, .ref va4, .ref va5, .ref va6, .ref va7, .int vn8, .int vn9, .int vn10, .int vn11])), (va0, .inl (K 1, 40, .inl vf0)), (va1, .inl (K 1, 10, .inl vf1))] := hD.sub [4, 5, 6, 7, 0, 1, 2, 3] (by decide) rfl
              refine W.widen (k := 0) (n := 0) (by decide) (by decide) ?_
              have hf := hw
              have f2170 : 0 ≤ (u2168.1 0).toInt := hf
              obtain ⟨v2171, ev2171⟩ : ∃ z : Int32, z = i2153 + 1 := ⟨_, rfl⟩
              refine lv_iinc (v := v2171) (lv' := [(4, .int v2171), (3, .int i2128), (0, .ref w), (1, .ref v), (2, .int p1)]) hx hb dX6_explore_97 hl (k := 0) rfl (by rw [ev2171]; rfl) (by decide) rfl (fun ls hl => ?_)
              refine lv_goto (tgt := 68) hx hb dX6_explore_100 (by decide) ?_
              have tv2171 : v2171.toInt = (i2153 : Int32).toInt + (1 : Int32).toInt := add_i ev2171 (by omega) (by omega)
              exact ih_68 (i2153 := v2171) (w2154 := (u2168.1 0)) (g2155 := (u2168.2.1 0)) (g2156 := (u2168.2.1 1)) (g2157 := (u2168.2.1 2)) (w2158 := (u2164.1 0)) (w2159 := (u2164.1 1)) (w2160 := (u2164.1 2)) (hi_68 := by omega) (hz_68 := by omega) (H := H) (locs := locs) (ls := ls) (hn_68 := by omega) (hP := hP) (hD := hD) (hS := hS) (hl := lv_sub hl [0, 1, 2, 3, 4] rfl)
        · refine lv_if_eq (tgt := 65) hx hb dX6_explore_56 (by decide) (fun h => absurd h (by decide)) (fun _ => ?_)
          refine lv_aload_n hx hb dX6_explore_59 rfl (lv_at hl 1 rfl) ?_
          refine lv_iload_n hx hb dX6_explore_60 rfl (lv_at hl 0 rfl) ?_
          refine va_put (D := D) (ci := 1) (v := .int i2128) (ty := .int) (C := RX1) (T := TX1) (N := 10) hx hb hts in_X1 tyX1 tyX1_ok nmX1 hown hE.1 hP hD hS 0 rfl rfl 5 (by decide) (hts _ w_279) (fun _ h9 => h9) rfl (by decide +kernel) rfl rfl (Nat.le_of_ble_eq_true rfl) dX6_explore_61 (fun H locs hP hD hS => ?_)
          replace hP : va_P D vwCl [(w, .inr (1, [.ref wa0, .ref wa1, .ref wa2, .int v2106, .int w2129, .int i2128, .ref wa6, .int wn7, .int wn8, .int wn9])), (wa0, .inl (K 1, 10240, .inl g2131)), (wa1, .inl (K 1, 10240, .inl g2132)), (wa2, .inl (K 1, 10240, .inl g2133)), (wa6, .inr (8, [.int (u2140.1 0), .int (u2140.1 1), .int (u2140.1 2)])), (v, .inr (9, [.ref va0, .ref va1, .ref va2, .ref va3, .ref va4, .ref va5, .ref va6, .ref va7, .int vn8, .int vn9, .int vn10, .int vn11])), (va0, .inl (K 1, 40, .inl vf0)), (va1, .inl (K 1, 10, .inl vf1))] H := hP
          replace hD : va_D A [(w, .inr (1, [.ref wa0, .ref wa1, .ref wa2, .int v2106, .int w2129, .int i2128, .ref wa6, .int wn7, .int wn8, .int wn9])), (wa0, .inl (K 1, 10240, .inl g2131)), (wa1, .inl (K 1, 10240, .inl g2132)), (wa2, .inl (K 1, 10240, .inl g2133)), (wa6, .inr (8, [.int (u2140.1 0), .int (u2140.1 1), .int (u2140.1 2)])), (v, .inr (9, [.ref va0, .ref va1, .ref va2, .ref va3, .ref va4, .ref va5, .ref va6, .ref va7, .int vn8, .int vn9, .int vn10, .int vn11])), (va0, .inl (K 1, 40, .inl vf0)), (va1, .inl (K 1, 10, .inl vf1))] := hD
          refine W.widen (k := 0) (n := 0) (by decide) (by decide) ?_
          exact ch_vret hC hr hk hS dX6_explore_64 ((fun k => [v2106, w2129, i2128, (u2140.1 0), (u2140.1 1), (u2140.1 2)].getD k 0, fun k => [g2131, g2132, g2133].getD k (fun _ => 0), fun k => [].getD k (fun _ => 0)) : ((Nat → Int32) × (Nat → Nat → Int32) × (Nat → Nat → Int64))) trivial (hP.sub [0, 1, 2, 3, 4, 5, 6, 7] rfl) (hD.sub [0, 1, 2, 3, 4, 5, 6, 7] (by decide) rfl)
set_option maxRecDepth 40000 in
set_option maxHeartbeats 4000000 in
theorem c_X6_explore_7 (l : Launch) (D : va_G) (K : Nat → ClassId) (w : Nat) (wa0 : Nat) (wa1 : Nat) (wa2 : Nat) (v : Nat) (va0 : Nat) (va1 : Nat) (va2 : Nat) (va3 : Nat) (va4 : Nat) (va5 : Nat) (va6 : Nat) (va7 : Nat) (wn3 : Int32) (wn4 : Int32) (wn5 : Int32) (wn6 : Int32) (vn8 : Int32) (vn9 : Int32) (vn10 : Int32) (vn11 : Int32) (wf0 : Nat → Int32) (wf1 : Nat → Int32) (wf2 : Nat → Int32) (vf0 : Nat → Int32) (vf1 : Nat → Int32) (p1 : Int32) : Cv (S := ((Nat → Int32) × (Nat → Nat → Int32) × (Nat → Nat → Int64))) l D K yX6_explore cX6_explore 5 4 89 0 0 [.ref w, .ref v, .int p1] [(w, .inr (6, [.ref wa0, .ref wa1, .ref wa2, .int wn3, .int wn4, .int wn5, .int wn6])), (wa0, .inl (K 1, 1024, .inl wf0)), (wa1, .inl (K 1, 1024, .inl wf1)), (wa2, .inl (K 1, 1024, .inl wf2)), (v, .inr (9, [.ref va0, .ref va1, .ref va2, .ref va3, .ref va4, .ref va5, .ref va6, .ref va7, .int vn8, .int vn9, .int vn10, .int vn11])), (va0, .inl (K 1, 40, .inl vf0)), (va1, .inl (K 1, 10, .inl vf1))] (fun _ => True) (fun u => [(w, .inr (6, [.ref wa0, .ref wa1, .ref wa2, .int (u.1 0), .int (u.1 1), .int (u.1 2), .int wn6])), (wa0, .inl (K 1, 1024, .inl (u.2.1 0))), (wa1, .inl (K 1, 1024, .inl (u.2.1 1))), (wa2, .inl (K 1, 1024, .inl (u.2.1 2))), (v, .inr (9, [.ref va0, .ref va1, .ref va2, .ref va3, .ref va4, .ref va5, .ref va6, .ref va7, .int vn8, .int vn9, .int vn10, .int vn11])), (va0, .inl (K 1, 40, .inl vf0)), (va1, .inl (K 1, 10, .inl vf1))]) := by
  intro sz
  refine ch_of (y := yX6_explore) (cc := cX6_explore) (maxL := 5) (ret := none) (av := [.ref w, .ref v, .int p1]) (ws := [(w, .inr (6, [.ref wa0, .ref wa1, .ref wa2, .int wn3, .int wn4, .int wn5, .int wn6])), (wa0, .inl (K 1, 1024, .inl wf0)), (wa1, .inl (K 1, 1024, .inl wf1)), (wa2, .inl (K 1, 1024, .inl wf2)), (v, .inr (9, [.ref va0, .ref va1, .ref va2, .ref va3, .ref va4, .ref va5, .ref va6, .ref va7, .int vn8, .int vn9, .int vn10, .int vn11])), (va0, .inl (K 1, 40, .inl vf0)), (va1, .inl (K 1, 10, .inl vf1))]) (D := D) (K := K) (Qc := fun A => va_Qv (S := ((Nat → Int32) × (Nat → Nat → Int32) × (Nat → Nat → Int64))) (fun _ => True) (chB D A (fun u => [(w, .inr (6, [.ref wa0, .ref wa1, .ref wa2, .int (u.1 0), .int (u.1 1), .int (u.1 2), .int wn6])), (wa0, .inl (K 1, 1024, .inl (u.2.1 0))), (wa1, .inl (K 1, 1024, .inl (u.2.1 1))), (wa2, .inl (K 1, 1024, .inl (u.2.1 2))), (v, .inr (9, [.ref va0, .ref va1, .ref va2, .ref va3, .ref va4, .ref va5, .ref va6, .ref va7, .int vn8, .int vn9, .int vn10, .int vn11])), (va0, .inl (K 1, 40, .inl vf0)), (va1, .inl (K 1, 10, .inl vf1))])) A) (by decide) (Nat.le_of_ble_eq_true rfl) ?_
  intro p e s m below meth c A hC hr hk hin hE hD hA H locs hP hS ls hl
  replace hC : CallFix p m c cX6_explore 5 s [.ref w, .ref v, .int p1].toArray wl RX6 := hC
  have hx := hC.1
  have hb := hC.2.1
  have hml := hC.2.2.1
  have hown := hC.2.2.2.1
  have hts := hC.2.2.2.2
  replace hl : lv_has ls 5 [(0, .ref w), (1, .ref v), (2, .int p1)] := hl
  have kc_0 : (0 : Int32).toInt = 0 := by decide
  have kc_1 : (1 : Int32).toInt = 1 := by decide
  have kc_4 : (4 : Int32).toInt = 4 := by decide
  have kc_1024 : (1024 : Int32).toInt = 1024 := by decide
  refine lv_aload_n hx hb dX6_explore_0 rfl (lv_at hl 0 rfl) ?_
  refine lv_dup hx hb dX6_explore_1 rfl ?_
  refine va_get (D := D) (ci := 6) (v := .int wn3) (C := RX7) (T := TX7) (N := 7) hx hb hts in_X7 hown hE.1 hP 0 rfl rfl 3 (by decide) (hts _ w_275) (fun _ h9 => h9) rfl dX6_explore_2 ?_
  refine lv_iconst (v := 1) hx hb dX6_explore_5 (by decide) ?_
  refine lv_iadd hx hb dX6_explore_6 ?_
  refine lv_topi (fun v2192 ev2192 => ?_)
  refine va_put (D := D) (ci := 6) (v := .int v2192) (ty := .int) (C := RX7) (T := TX7) (N := 7) hx hb hts in_X7 tyX7 tyX7_ok nmX7 hown hE.1 hP hD hS 0 rfl rfl 3 (by decide) (hts _ w_275) (fun _ h9 => h9) rfl (by decide +kernel) rfl rfl (Nat.le_of_ble_eq_true rfl) dX6_explore_7 (fun H locs hP hD hS => ?_)
  replace hP : va_P D vwCl [(w, .inr (6, [.ref wa0, .ref wa1, .ref wa2, .int v2192, .int wn4, .int wn5, .int wn6])), (wa0, .inl (K 1, 1024, .inl wf0)), (wa1, .inl (K 1, 1024, .inl wf1)), (wa2, .inl (K 1, 1024, .inl wf2)), (v, .inr (9, [.ref va0, .ref va1, .ref va2, .ref va3, .ref va4, .ref va5, .ref va6, .ref va7, .int vn8, .int vn9, .int vn10, .int vn11])), (va0, .inl (K 1, 40, .inl vf0)), (va1, .inl (K 1, 10, .inl vf1))] H := hP
  replace hD : va_D A [(w, .inr (6, [.ref wa0, .ref wa1, .ref wa2, .int v2192, .int wn4, .int wn5, .int wn6])), (wa0, .inl (K 1, 1024, .inl wf0)), (wa1, .inl (K 1, 1024, .inl wf1)), (wa2, .inl (K 1, 1024, .inl wf2)), (v, .inr (9, [.ref va0, .ref va1, .ref va2, .ref va3, .ref va4, .ref va5, .ref va6, .ref va7, .int vn8, .int vn9, .int vn10, .int vn11])), (va0, .inl (K 1, 40, .inl vf0)), (va1, .inl (K 1, 10, .inl vf1))] := hD
  refine lv_aload_n hx hb dX6_explore_10 rfl (lv_at hl 0 rfl) ?_
  refine lv_iconst (v := 0) hx hb dX6_explore_11 (by decide) ?_
  refine va_put (D := D) (ci := 6) (v := .int 0) (ty := .int) (C := RX7) (T := TX7) (N := 7) hx hb hts in_X7 tyX7 tyX7_ok nmX7 hown hE.1 hP hD hS 0 rfl rfl 4 (by decide) (hts _ w_276) (fun _ h9 => h9) rfl (by decide +kernel) rfl rfl (Nat.le_of_ble_eq_true rfl) dX6_explore_12 (fun H locs hP hD hS => ?_)
  replace hP : va_P D vwCl [(w, .inr (6, [.ref wa0, .ref wa1, .ref wa2, .int v2192, .int 0, .int wn5, .int wn6])), (wa0, .inl (K 1, 1024, .inl wf0)), (wa1, .inl (K 1, 1024, .inl wf1)), (wa2, .inl (K 1, 1024, .inl wf2)), (v, .inr (9, [.ref va0, .ref va1, .ref va2, .ref va3, .ref va4, .ref va5, .ref va6, .ref va7, .int vn8, .int vn9, .int vn10, .int vn11])), (va0, .inl (K 1, 40, .inl vf0)), (va1, .inl (K 1, 10, .inl vf1))] H := hP
  replace hD : va_D A [(w, .inr (6, [.ref wa0, .ref wa1, .ref wa2, .int v2192, .int 0, .int wn5, .int wn6])), (wa0, .inl (K 1, 1024, .inl wf0)), (wa1, .inl (K 1, 1024, .inl wf1)), (wa2, .inl (K 1, 1024, .inl wf2)), (v, .inr (9, [.ref va0, .ref va1, .ref va2, .ref va3, .ref va4, .ref va5, .ref va6, .ref va7, .int vn8, .int vn9, .int vn10, .int vn11])), (va0, .inl (K 1, 40, .inl vf0)), (va1, .inl (K 1, 10, .inl vf1))] := hD
  refine lv_aload_n hx hb dX6_explore_15 rfl (lv_at hl 0 rfl) ?_
  refine lv_iconst (v := (-1)) hx hb dX6_explore_16 (by decide) ?_
  refine va_put (D := D) (ci := 6) (v := .int (-1)) (ty := .int) (C := RX7) (T := TX7) (N := 7) hx hb hts in_X7 tyX7 tyX7_ok nmX7 hown hE.1 hP hD hS 0 rfl rfl 5 (by decide) (hts _ w_279) (fun _ h9 => h9) rfl (by decide +kernel) rfl rfl (Nat.le_of_ble_eq_true rfl) dX6_explore_17 (fun H locs hP hD hS => ?_)
  replace hP : va_P D vwCl [(w, .inr (6, [.ref wa0, .ref wa1, .ref wa2, .int v2192, .int 0, .int (-1), .int wn6])), (wa0, .inl (K 1, 1024, .inl wf0)), (wa1, .inl (K 1, 1024, .inl wf1)), (wa2, .inl (K 1, 1024, .inl wf2)), (v, .inr (9, [.ref va0, .ref va1, .ref va2, .ref va3, .ref va4, .ref va5, .ref va6, .ref va7, .int vn8, .int vn9, .int vn10, .int vn11])), (va0, .inl (K 1, 40, .inl vf0)), (va1, .inl (K 1, 10, .inl vf1))] H := hP
  replace hD : va_D A [(w, .inr (6, [.ref wa0, .ref wa1, .ref wa2, .int v2192, .int 0, .int (-1), .int wn6])), (wa0, .inl (K 1, 1024, .inl wf0)), (wa1, .inl (K 1, 1024, .inl wf1)), (wa2, .inl (K 1, 1024, .inl wf2)), (v, .inr (9, [.ref va0, .ref va1, .ref va2, .ref va3, .ref va4, .ref va5, .ref va6, .ref va7, .int vn8, .int vn9, .int vn10, .int vn11])), (va0, .inl (K 1, 40, .inl vf0)), (va1, .inl (K 1, 10, .inl vf1))] := hD
  refine lv_aload_n hx hb dX6_explore_20 rfl (lv_at hl 0 rfl) ?_
  refine lv_iload_n hx hb dX6_explore_21 rfl (lv_at hl 2 rfl) ?_
  refine lv_iconst (v := 0) hx hb dX6_explore_22 (by decide) ?_
  refine cv_U (As := [.int p1, .int 0]) (rest := []) (wc := [(w, .inr (6, [.ref wa0, .ref wa1, .ref wa2, .int v2192, .int 0, .int (-1), .int wn6])), (wa0, .inl (K 1, 1024, .inl wf0)), (wa1, .inl (K 1, 1024, .inl wf1)), (wa2, .inl (K 1, 1024, .inl wf2))]) (wr := [(v, .inr (9, [.ref va0, .ref va1, .ref va2, .ref va3, .ref va4, .ref va5, .ref va6, .ref va7, .int vn8, .int vn9, .int vn10, .int vn11])), (va0, .inl (K 1, 40, .inl vf0)), (va1, .inl (K 1, 10, .inl vf1))]) hC hE kU_X6_37_X6_meetState (decl_of hC kU_X6_37_X6_meetState rfl) (c_X6_meetState_7 l D K w wa0 wa1 wa2 v2192 0 (-1) wn6 wf0 wf1 wf2 p1 0 (by omega)) hP hD hS hA [0, 1, 2, 3] [4, 5, 6] rfl rfl rfl (by decide) (by decide) (by decide) 0 6 rfl rfl (va_Nw.use rfl hE.2.2.2.2.2.2.2) rfl hl.1 rfl (Nat.le_of_ble_eq_true rfl) (by decide) (by decide) dX6_explore_23 (fun u2193 H locs hw hP hD hS => ?_)
  replace hP : va_P D vwCl [(v, .inr (9, [.ref va0, .ref va1, .ref va2, .ref va3, .ref va4, .ref va5, .ref va6, .ref va7, .int vn8, .int vn9, .int vn10, .int vn11])), (va0, .inl (K 1, 40, .inl vf0)), (va1, .inl (K 1, 10, .inl vf1)), (w, .inr (6, [.ref wa0, .ref wa1, .ref wa2, .int v2192, .int (u2193.1 0), .int (-1), .int wn6])), (wa0, .inl (K 1, 1024, .inl (u2193.2.1 0))), (wa1, .inl (K 1, 1024, .inl (u2193.2.1 1))), (wa2, .inl (K 1, 1024, .inl (u2193.2.1 2)))] H := hP
  replace hD : va_D A [(v, .inr (9, [.ref va0, .ref va1, .ref va2, .ref va3, .ref va4, .ref va5, .ref va6, .ref va7, .int vn8, .int vn9, .int vn10, .int vn11])), (va0, .inl (K 1, 40, .inl vf0)), (va1, .inl (K 1, 10, .inl vf1)), (w, .inr (6, [.ref wa0, .ref wa1, .ref wa2, .int v2192, .int (u2193.1 0), .int (-1), .int wn6])), (wa0, .inl (K 1, 1024, .inl (u2193.2.1 0))), (wa1, .inl (K 1, 1024, .inl (u2193.2.1 1))), (wa2, .inl (K 1, 1024, .inl (u2193.2.1 2)))] := hD
  replace hP : va_P D vwCl [(w, .inr (6, [.ref wa0, .ref wa1, .ref wa2, .int v2192, .int (u2193.1 0), .int (-1), .int wn6])), (wa0, .inl (K 1, 1024, .inl (u2193.2.1 0))), (wa1, .inl (K 1, 1024, .inl (u2193.2.1 1))), (wa2, .inl (K 1, 1024, .inl (u2193.2.1 2))), (v, .inr (9, [.ref va0, .ref va1, .ref va2, .ref va3, .ref va4, .ref va5, .ref va6, .ref va7, .int vn8, .int vn9, .int vn10, .int vn11])), (va0, .inl (K 1, 40, .inl vf0)), (va1, .inl (K 1, 10, .inl vf1))] H := hP.sub [3, 4, 5, 6, 0, 1, 2] rfl
  replace hD : va_D A [(w, .inr (6, [.ref wa0, .ref wa1, .ref wa2, .int v2192, .int (u2193.1 0), .int (-1), .int wn6])), (wa0, .inl (K 1, 1024, .inl (u2193.2.1 0))), (wa1, .inl (K 1, 1024, .inl (u2193.2.1 1))), (wa2, .inl (K 1, 1024, .inl (u2193.2.1 2))), (v, .inr (9, [.ref va0, .ref va1, .ref va2, .ref va3, .ref va4, .ref va5, .ref va6, .ref va7, .int vn8, .int vn9, .int vn10, .int vn11])), (va0, .inl (K 1, 40, .inl vf0)), (va1, .inl (K 1, 10, .inl vf1))] := hD.sub [3, 4, 5, 6, 0, 1, 2] (by decide) rfl
  refine W.widen (k := 0) (n := 0) (by decide) (by decide) ?_
  have hf := hw
  have f2195 : 0 ≤ (u2193.1 0).toInt := hf
  refine lv_iconst (v := 0) hx hb dX6_explore_26 (by decide) ?_
  refine lv_istore_n (lv' := [(3, .int 0), (0, .ref w), (1, .ref v), (2, .int p1)]) hx hb dX6_explore_27 rfl hl (by decide) rfl (fun ls hl => ?_)
  have hl' := hl; have hP' := hP; have hD' := hD; clear hl hP hD
  obtain ⟨i2212, w2213, w2214, g2215, g2216, g2217, hi_28, hz_28, hl, hP, hD⟩ : ∃ (i2212 : Int32) (w2213 : Int32) (w2214 : Int32) (g2215 : Nat → Int32) (g2216 : Nat → Int32) (g2217 : Nat → Int32), ((0 : Int) ≤ i2212.toInt) ∧ (0 ≤ w2213.toInt) ∧ lv_has ls 5 [(3, .int i2212), (0, .ref w), (1, .ref v), (2, .int p1)] ∧ va_P D vwCl [(w, .inr (6, [.ref wa0, .ref wa1, .ref wa2, .int v2192, .int w2213, .int w2214, .int wn6])), (wa0, .inl (K 1, 1024, .inl g2215)), (wa1, .inl (K 1, 1024, .inl g2216)), (wa2, .inl (K 1, 1024, .inl g2217)), (v, .inr (9, [.ref va0, .ref va1, .ref va2, .ref va3, .ref va4, .ref va5, .ref va6, .ref va7, .int vn8, .int vn9, .int vn10, .int vn11])), (va0, .inl (K 1, 40, .inl vf0)), (va1, .inl (K 1, 10, .inl vf1))] H ∧ va_D A [(w, .inr (6, [.ref wa0, .ref wa1, .ref wa2, .int v2192, .int w2213, .int w2214, .int wn6])), (wa0, .inl (K 1, 1024, .inl g2215)), (wa1, .inl (K 1, 1024, .inl g2216)), (wa2, .inl (K 1, 1024, .inl g2217)), (v, .inr (9, [.ref va0, .ref va1, .ref va2, .ref va3, .ref va4, .ref va5, .ref va6, .ref va7, .int vn8, .int vn9, .int vn10, .int vn11])), (va0, .inl (K 1, 40, .inl vf0)), (va1, .inl (K 1, 10, .inl vf1))] := ⟨_, _, _, _, _, _, by omega, by omega, hl', hP', hD'⟩
  clear hl' hP' hD'
  obtain ⟨n_28, hn_28⟩ : ∃ n : Nat, (1024 - i2212.toInt).toNat < n := ⟨_, Nat.lt_succ_self _⟩
  induction n_28 generalizing i2212 w2213 w2214 g2215 g2216 g2217 H locs ls with
  | zero => exact absurd hn_28 (Nat.not_lt_zero _)
  | succ n_28 ih_28 =>
    refine lv_iload_n hx hb dX6_explore_28 rfl (lv_at hl 0 rfl) ?_
    refine lv_aload_n hx hb dX6_explore_29 rfl (lv_at hl 1 rfl) ?_
    refine va_get (D := D) (ci := 6) (v := .int w2213) (C := RX7) (T := TX7) (N := 7) hx hb hts in_X7 hown hE.1 hP 0 rfl rfl 4 (by decide) (hts _ w_276) (fun _ h9 => h9) rfl dX6_explore_30 ?_
    refine lv_icmp_ge (tgt := 109) hx hb dX6_explore_33 (by decide) (fun c2218 => ?_) (fun c2218 => ?_)
    · replace c2218 := le_i c2218
      refine W.widen (k := 0) (n := 0) (by decide) (by decide) ?_
      exact ch_vret hC hr hk hS dX6_explore_109 ((fun k => [v2192, w2213, w2214].getD k 0, fun k => [g2215, g2216, g2217].getD k (fun _ => 0), fun k => [].getD k (fun _ => 0)) : ((Nat → Int32) × (Nat → Nat → Int32) × (Nat → Nat → Int64))) trivial (hP.sub [0, 1, 2, 3, 4, 5, 6] rfl) (hD.sub [0, 1, 2, 3, 4, 5, 6] (by decide) rfl)
    · replace c2218 := nle_i c2218
      refine lv_iload_n hx hb dX6_explore_36 rfl (lv_at hl 0 rfl) ?_
      refine lv_aload_n hx hb dX6_explore_37 rfl (lv_at hl 1 rfl) ?_
      refine va_get (D := D) (ci := 6) (v := .ref wa1) (C := RX7) (T := TX7) (N := 7) hx hb hts in_X7 hown hE.1 hP 0 rfl rfl 1 (by decide) (hts _ w_277) (fun _ h9 => h9) rfl dX6_explore_38 ?_
      refine va_alen (v := 1024) hx hb hE.1 hP 2 1 rfl rfl (show Int32.ofNat 1024 = 1024 by decide) dX6_explore_41 ?_
      refine lv_icmp_ge (tgt := 109) hx hb dX6_explore_42 (by decide) (fun c2219 => ?_) (fun c2219 => ?_)
      · replace c2219 := le_i c2219
        refine W.widen (k := 0) (n := 0) (by decide) (by decide) ?_
        exact ch_vret hC hr hk hS dX6_explore_109 ((fun k => [v2192, w2213, w2214].getD k 0, fun k => [g2215, g2216, g2217].getD k (fun _ => 0), fun k => [].getD k (fun _ => 0)) : ((Nat → Int32) × (Nat → Nat → Int32) × (Nat → Nat → Int64))) trivial (hP.sub [0, 1, 2, 3, 4, 5, 6] rfl) (hD.sub [0, 1, 2, 3, 4, 5, 6] (by decide) rfl)
      · replace c2219 := nle_i c2219
        refine lv_aload_n hx hb dX6_explore_45 rfl (lv_at hl 1 rfl) ?_
        refine lv_aload_n hx hb dX6_explore_46 rfl (lv_at hl 2 rfl) ?_
        refine lv_aload_n hx hb dX6_explore_47 rfl (lv_at hl 1 rfl) ?_
        refine va_get (D := D) (ci := 6) (v := .ref wa1) (C := RX7) (T := TX7) (N := 7) hx hb hts in_X7 hown hE.1 hP 0 rfl rfl 1 (by decide) (hts _ w_277) (fun _ h9 => h9) rfl dX6_explore_48 ?_
        refine lv_iload_n hx hb dX6_explore_51 rfl (lv_at hl 0 rfl) ?_
        refine va_iald hx hb hE.1 hP 2 1 rfl rfl (vp_in_iff.mpr (by omega)) dX6_explore_52 ?_
        refine lv_topi (fun v2220 ev2220 => ?_)
        refine ro_U (As := [.ref v, .int v2220]) (rest := []) hC hE kU_X6_41_X7_ends (va_Decl.abs hE.2.2.2.2.1) (c_X7_ends l D K w wa0 wa1 wa2 v va0 va1 va2 va3 va4 va5 va6 va7 v2192 w2213 w2214 wn6 vn8 vn9 vn10 vn11 vf1 v2220) (hP.sub (ws' := [(w, .inr (6, [.ref wa0, .ref wa1, .ref wa2, .int v2192, .int w2213, .int w2214, .int wn6])), (v, .inr (9, [.ref va0, .ref va1, .ref va2, .ref va3, .ref va4, .ref va5, .ref va6, .ref va7, .int vn8, .int vn9, .int vn10, .int vn11])), (va1, .inl (K 1, 10, .inl vf1))]) [0, 4, 6] rfl) 0 6 rfl rfl (hts _ w_341) rfl hl.1 rfl (Nat.le_of_ble_eq_true rfl) (by decide) (by decide) dX6_explore_53 (fun r2221 hq => ?_)
        rcases hq with rfl | rfl
        · refine lv_if_eq (tgt := 65) hx hb dX6_explore_56 (by decide) (fun _ => ?_) (fun h => absurd h (by decide))
          refine lv_iconst (v := 0) hx hb dX6_explore_65 (by decide) ?_
          refine lv_istore (lv' := [(4, .int 0), (3, .int i2212), (0, .ref w), (1, .ref v), (2, .int p1)]) hx hb dX6_explore_66 hl (by decide) rfl (fun ls hl => ?_)
          have hl' := hl; have hP' := hP; have hD' := hD; clear hl hP hD
          obtain ⟨i2232, w2233, g2234, g2235, g2236, hi_68, hz_68, hl, hP, hD⟩ : ∃ (i2232 : Int32) (w2233 : Int32) (g2234 : Nat → Int32) (g2235 : Nat → Int32) (g2236 : Nat → Int32), ((0 : Int) ≤ i2232.toInt) ∧ (0 ≤ w2233.toInt) ∧ lv_has ls 5 [(4, .int i2232), (3, .int i2212), (0, .ref w), (1, .ref v), (2, .int p1)] ∧ va_P D vwCl [(w, .inr (6, [.ref wa0, .ref wa1, .ref wa2, .int v2192, .int w2233, .int w2214, .int wn6])), (wa0, .inl (K 1, 1024, .inl g2234)), (wa1, .inl (K 1, 1024, .inl g2235)), (wa2, .inl (K 1, 1024, .inl g2236)), (v, .inr (9, [.ref va0, .ref va1, .ref va2, .ref va3, .ref va4, .ref va5, .ref va6, .ref va7, .int vn8, .int vn9, .int vn10, .int vn11])), (va0, .inl (K 1, 40, .inl vf0)), (va1, .inl (K 1, 10, .inl vf1))] H ∧ va_D A [(w, .inr (6, [.ref wa0, .ref wa1, .ref wa2, .int v2192, .int w2233, .int w2214, .int wn6])), (wa0, .inl (K 1, 1024, .inl g2234)), (wa1, .inl (K 1, 1024, .inl g2235)), (wa2, .inl (K 1, 1024, .inl g2236)), (v, .inr (9, [.ref va0, .ref va1, .ref va2, .ref va3, .ref va4, .ref va5, .ref va6, .ref va7, .int vn8, .int vn9, .int vn10, .int vn11])), (va0, .inl (K 1, 40, .inl vf0)), (va1, .inl (K 1, 10, .inl vf1))] := ⟨_, _, _, _, _, by omega, by omega, hl', hP', hD'⟩
          clear hl' hP' hD'
          obtain ⟨n_68, hn_68⟩ : ∃ n : Nat, (4 - i2232.toInt).toNat < n := ⟨_, Nat.lt_succ_self _⟩
          induction n_68 generalizing i2232 w2233 g2234 g2235 g2236 H locs ls with
          | zero => exact absurd hn_68 (Nat.not_lt_zero _)
          | succ n_68 ih_68 =>
            refine lv_iload hx hb dX6_explore_68 (lv_at hl 0 rfl) ?_
            refine lv_iconst (v := 4) hx hb dX6_explore_70 (by decide) ?_
            refine lv_icmp_ge (tgt := 103) hx hb dX6_explore_71 (by decide) (fun c2237 => ?_) (fun c2237 => ?_)
            · replace c2237 := le_i c2237
              obtain ⟨v2238, ev2238⟩ : ∃ z : Int32, z = i2212 + 1 := ⟨_, rfl⟩
              refine lv_iinc (v := v2238) (lv' := [(3, .int v2238), (4, .int i2232), (0, .ref w), (1, .ref v), (2, .int p1)]) hx hb dX6_explore_103 hl (k := 1) rfl (by rw [ev2238]; rfl) (by decide) rfl (fun ls hl => ?_)
              refine lv_goto (tgt := 28) hx hb dX6_explore_106 (by decide) ?_
              have tv2238 : v2238.toInt = (i2212 : Int32).toInt + (1 : Int32).toInt := add_i ev2238 (by omega) (by omega)
              exact ih_28 (i2212 := v2238) (w2213 := w2233) (w2214 := w2214) (g2215 := g2234) (g2216 := g2235) (g2217 := g2236) (hi_28 := by omega) (hz_28 := by omega) (H := H) (locs := locs) (ls := ls) (hn_28 := by omega) (hP := hP) (hD := hD) (hS := hS) (hl := lv_sub hl [0, 2, 3, 4] rfl)
            · replace c2237 := nle_i c2237
              refine lv_aload_n hx hb dX6_explore_74 rfl (lv_at hl 2 rfl) ?_
              refine lv_aload_n hx hb dX6_explore_75 rfl (lv_at hl 2 rfl) ?_
              refine lv_aload_n hx hb dX6_explore_76 rfl (lv_at hl 3 rfl) ?_
              refine lv_aload_n hx hb dX6_explore_77 rfl (lv_at hl 2 rfl) ?_
              refine va_get (D := D) (ci := 6) (v := .ref wa1) (C := RX7) (T := TX7) (N := 7) hx hb hts in_X7 hown hE.1 hP 0 rfl rfl 1 (by decide) (hts _ w_277) (fun _ h9 => h9) rfl dX6_explore_78 ?_
              refine lv_iload_n hx hb dX6_explore_81 rfl (lv_at hl 1 rfl) ?_
              refine va_iald hx hb hE.1 hP 2 1 rfl rfl (vp_in_iff.mpr (by omega)) dX6_explore_82 ?_
              refine lv_topi (fun v2239 ev2239 => ?_)
              refine lv_iload hx hb dX6_explore_83 (lv_at hl 0 rfl) ?_
              refine ro_U (As := [.ref v, .int v2239, .int i2232]) (rest := [.ref w]) hC hE kU_X6_45_X7_next (va_Decl.abs hE.2.2.2.2.2.1) (c_X7_next l D K w wa0 wa1 wa2 v va0 va1 va2 va3 va4 va5 va6 va7 v2192 w2233 w2214 wn6 vn8 vn9 vn10 vn11 vf0 v2239 i2232) (hP.sub (ws' := [(w, .inr (6, [.ref wa0, .ref wa1, .ref wa2, .int v2192, .int w2233, .int w2214, .int wn6])), (v, .inr (9, [.ref va0, .ref va1, .ref va2, .ref va3, .ref va4, .ref va5, .ref va6, .ref va7, .int vn8, .int vn9, .int vn10, .int vn11])), (va0, .inl (K 1, 40, .inl vf0))]) [0, 4, 5] rfl) 0 6 rfl rfl (hts _ w_344) rfl hl.1 rfl (Nat.le_of_ble_eq_true rfl) (by decide) (by decide) dX6_explore_85 (fun r2240 _ => ?_)
              refine lv_iload_n hx hb dX6_explore_88 rfl (lv_at hl 1 rfl) ?_
              refine lv_iconst (v := 4) hx hb dX6_explore_89 (by decide) ?_
              refine lv_imul hx hb dX6_explore_90 ?_
              refine lv_topi (fun v2241 ev2241 => ?_)
              refine lv_iload hx hb dX6_explore_91 (lv_at hl 0 rfl) ?_
              refine lv_iadd hx hb dX6_explore_93 ?_
              refine lv_topi (fun v2242 ev2242 => ?_)
              have tv2241 : v2241.toInt = i2212.toInt * 4 := mul_i ev2241 rfl (by decide) (by omega) (by omega)
              have tv2242 : v2242.toInt = (v2241 : Int32).toInt + (i2232 : Int32).toInt := add_i ev2242 (by omega) (by omega)
              refine cv_U (As := [.int r2240, .int v2242]) (rest := []) (wc := [(w, .inr (6, [.ref wa0, .ref wa1, .ref wa2, .int v2192, .int w2233, .int w2214, .int wn6])), (wa0, .inl (K 1, 1024, .inl g2234)), (wa1, .inl (K 1, 1024, .inl g2235)), (wa2, .inl (K 1, 1024, .inl g2236))]) (wr := [(v, .inr (9, [.ref va0, .ref va1, .ref va2, .ref va3, .ref va4, .ref va5, .ref va6, .ref va7, .int vn8, .int vn9, .int vn10, .int vn11])), (va0, .inl (K 1, 40, .inl vf0)), (va1, .inl (K 1, 10, .inl vf1))]) hC hE kU_X6_37_X6_meetState (decl_of hC kU_X6_37_X6_meetState rfl) (c_X6_meetState_7 l D K w wa0 wa1 wa2 v2192 w2233 w2214 wn6 g2234 g2235 g2236 r2240 v2242 (by omega)) hP hD hS hA [0, 1, 2, 3] [4, 5, 6] rfl rfl rfl (by decide) (by decide) (by decide) 0 6 rfl rfl (va_Nw.use rfl hE.2.2.2.2.2.2.2) rfl hl.1 rfl (Nat.le_of_ble_eq_true rfl) (by decide) (by decide) dX6_explore_94 (fun u2243 H locs hw hP hD hS => ?_)
              replace hP : va_P D vwCl [(v, .inr (9, [.ref va0, .ref va1, .ref va2, .ref va3, .ref va4, .ref va5, .ref va6, .ref va7, .int vn8, .int vn9, .int vn10, .int vn11])), (va0, .inl (K 1, 40, .inl vf0)), (va1, .inl (K 1, 10, .inl vf1)), (w, .inr (6, [.ref wa0, .ref wa1, .ref wa2, .int v2192, .int (u2243.1 0), .int w2214, .int wn6])), (wa0, .inl (K 1, 1024, .inl (u2243.2.1 0))), (wa1, .inl (K 1, 1024, .inl (u2243.2.1 1))), (wa2, .inl (K 1, 1024, .inl (u2243.2.1 2)))] H := hP
              replace hD : va_D A [(v, .inr (9, [.ref va0, .ref va1, .ref va2, .ref va3, .ref va4, .ref va5, .ref va6, .ref va7, .int vn8, .int vn9, .int vn10, .int vn11])), (va0, .inl (K 1, 40, .inl vf0)), (va1, .inl (K 1, 10, .inl vf1)), (w, .inr (6, [.ref wa0, .ref wa1, .ref wa2, .int v2192, .int (u2243.1 0), .int w2214, .int wn6])), (wa0, .inl (K 1, 1024, .inl (u2243.2.1 0))), (wa1, .inl (K 1, 1024, .inl (u2243.2.1 1))), (wa2, .inl (K 1, 1024, .inl (u2243.2.1 2)))] := hD
              replace hP : va_P D vwCl [(w, .inr (6, [.ref wa0, .ref wa1, .ref wa2, .int v2192, .int (u2243.1 0), .int w2214, .int wn6])), (wa0, .inl (K 1, 1024, .inl (u2243.2.1 0))), (wa1, .inl (K 1, 1024, .inl (u2243.2.1 1))), (wa2, .inl (K 1, 1024, .inl (u2243.2.1 2))), (v, .inr (9, [.ref va0, .ref va1, .ref va2, .ref va3, .ref va4, .ref va5, .ref va6, .ref va7, .int vn8, .int vn9, .int vn10, .int vn11])), (va0, .inl (K 1, 40, .inl vf0)), (va1, .inl (K 1, 10, .inl vf1))] H := hP.sub [3, 4, 5, 6, 0, 1, 2] rfl
              replace hD : va_D A [(w, .inr (6, [.ref wa0, .ref wa1, .ref wa2, .int v2192, .int (u2243.1 0), .int w2214, .int wn6])), (wa0, .inl (K 1, 1024, .inl (u2243.2.1 0))), (wa1, .inl (K 1, 1024, .inl (u2243.2.1 1))), (wa2, .inl (K 1, 1024, .inl (u2243.2.1 2))), (v, .inr (9, [.ref va0, .ref va1, .ref va2, .ref va3, .ref va4, .ref va5, .ref va6, .ref va7, .int vn8, .int vn9, .int vn10, .int vn11])), (va0, .inl (K 1, 40, .inl vf0)), (va1, .inl (K 1, 10, .inl vf1))] := hD.sub [3, 4, 5, 6, 0, 1, 2] (by decide) rfl
              refine W.widen (k := 0) (n := 0) (by decide) (by decide) ?_
              have hf := hw
              have f2245 : 0 ≤ (u2243.1 0).toInt := hf
              obtain ⟨v2246, ev2246⟩ : ∃ z : Int32, z = i2232 + 1 := ⟨_, rfl⟩
              refine lv_iinc (v := v2246) (lv' := [(4, .int v2246), (3, .int i2212), (0, .ref w), (1, .ref v), (2, .int p1)]) hx hb dX6_explore_97 hl (k := 0) rfl (by rw [ev2246]; rfl) (by decide) rfl (fun ls hl => ?_)
              refine lv_goto (tgt := 68) hx hb dX6_explore_100 (by decide) ?_
              have tv2246 : v2246.toInt = (i2232 : Int32).toInt + (1 : Int32).toInt := add_i ev2246 (by omega) (by omega)
              exact ih_68 (i2232 := v2246) (w2233 := (u2243.1 0)) (g2234 := (u2243.2.1 0)) (g2235 := (u2243.2.1 1)) (g2236 := (u2243.2.1 2)) (hi_68 := by omega) (hz_68 := by omega) (H := H) (locs := locs) (ls := ls) (hn_68 := by omega) (hP := hP) (hD := hD) (hS := hS) (hl := lv_sub hl [0, 1, 2, 3, 4] rfl)
        · refine lv_if_eq (tgt := 65) hx hb dX6_explore_56 (by decide) (fun h => absurd h (by decide)) (fun _ => ?_)
          refine lv_aload_n hx hb dX6_explore_59 rfl (lv_at hl 1 rfl) ?_
          refine lv_iload_n hx hb dX6_explore_60 rfl (lv_at hl 0 rfl) ?_
          refine va_put (D := D) (ci := 6) (v := .int i2212) (ty := .int) (C := RX7) (T := TX7) (N := 7) hx hb hts in_X7 tyX7 tyX7_ok nmX7 hown hE.1 hP hD hS 0 rfl rfl 5 (by decide) (hts _ w_279) (fun _ h9 => h9) rfl (by decide +kernel) rfl rfl (Nat.le_of_ble_eq_true rfl) dX6_explore_61 (fun H locs hP hD hS => ?_)
          replace hP : va_P D vwCl [(w, .inr (6, [.ref wa0, .ref wa1, .ref wa2, .int v2192, .int w2213, .int i2212, .int wn6])), (wa0, .inl (K 1, 1024, .inl g2215)), (wa1, .inl (K 1, 1024, .inl g2216)), (wa2, .inl (K 1, 1024, .inl g2217)), (v, .inr (9, [.ref va0, .ref va1, .ref va2, .ref va3, .ref va4, .ref va5, .ref va6, .ref va7, .int vn8, .int vn9, .int vn10, .int vn11])), (va0, .inl (K 1, 40, .inl vf0)), (va1, .inl (K 1, 10, .inl vf1))] H := hP
          replace hD : va_D A [(w, .inr (6, [.ref wa0, .ref wa1, .ref wa2, .int v2192, .int w2213, .int i2212, .int wn6])), (wa0, .inl (K 1, 1024, .inl g2215)), (wa1, .inl (K 1, 1024, .inl g2216)), (wa2, .inl (K 1, 1024, .inl g2217)), (v, .inr (9, [.ref va0, .ref va1, .ref va2, .ref va3, .ref va4, .ref va5, .ref va6, .ref va7, .int vn8, .int vn9, .int vn10, .int vn11])), (va0, .inl (K 1, 40, .inl vf0)), (va1, .inl (K 1, 10, .inl vf1))] := hD
          refine W.widen (k := 0) (n := 0) (by decide) (by decide) ?_
          exact ch_vret hC hr hk hS dX6_explore_64 ((fun k => [v2192, w2213, i2212].getD k 0, fun k => [g2215, g2216, g2217].getD k (fun _ => 0), fun k => [].getD k (fun _ => 0)) : ((Nat → Int32) × (Nat → Nat → Int32) × (Nat → Nat → Int64))) trivial (hP.sub [0, 1, 2, 3, 4, 5, 6] rfl) (hD.sub [0, 1, 2, 3, 4, 5, 6] (by decide) rfl)
set_option maxRecDepth 40000 in
set_option maxHeartbeats 4000000 in
theorem c_X7_seek (l : Launch) (D : va_G) (K : Nat → ClassId) (w : Nat) (wa0 : Nat) (wa1 : Nat) (wa2 : Nat) (v : Nat) (va0 : Nat) (va1 : Nat) (va2 : Nat) (va3 : Nat) (va4 : Nat) (va5 : Nat) (va6 : Nat) (va7 : Nat) (wn3 : Int32) (wn4 : Int32) (wn5 : Int32) (wn6 : Int32) (vn8 : Int32) (vn9 : Int32) (vn10 : Int32) (vn11 : Int32) (wf0 : Nat → Int32) (wf1 : Nat → Int32) (wf2 : Nat → Int32) (vf0 : Nat → Int32) (vf1 : Nat → Int32) (p1 : Int32) (p2 : Int32) : Cv (S := ((Nat → Int32) × (Nat → Nat → Int32) × (Nat → Nat → Int64))) l D K yX7_seek cX7_seek 4 5 113 0 0 [.ref w, .ref v, .int p1, .int p2] [(w, .inr (6, [.ref wa0, .ref wa1, .ref wa2, .int wn3, .int wn4, .int wn5, .int wn6])), (wa0, .inl (K 1, 1024, .inl wf0)), (wa1, .inl (K 1, 1024, .inl wf1)), (wa2, .inl (K 1, 1024, .inl wf2)), (v, .inr (9, [.ref va0, .ref va1, .ref va2, .ref va3, .ref va4, .ref va5, .ref va6, .ref va7, .int vn8, .int vn9, .int vn10, .int vn11])), (va0, .inl (K 1, 40, .inl vf0)), (va1, .inl (K 1, 10, .inl vf1))] (fun _ => True) (fun u => [(w, .inr (6, [.ref wa0, .ref wa1, .ref wa2, .int (u.1 0), .int (u.1 1), .int (u.1 2), .int (u.1 3)])), (wa0, .inl (K 1, 1024, .inl (u.2.1 0))), (wa1, .inl (K 1, 1024, .inl (u.2.1 1))), (wa2, .inl (K 1, 1024, .inl (u.2.1 2))), (v, .inr (9, [.ref va0, .ref va1, .ref va2, .ref va3, .ref va4, .ref va5, .ref va6, .ref va7, .int vn8, .int vn9, .int vn10, .int vn11])), (va0, .inl (K 1, 40, .inl vf0)), (va1, .inl (K 1, 10, .inl vf1))]) := by
  intro sz
  refine ch_of (y := yX7_seek) (cc := cX7_seek) (maxL := 4) (ret := none) (av := [.ref w, .ref v, .int p1, .int p2]) (ws := [(w, .inr (6, [.ref wa0, .ref wa1, .ref wa2, .int wn3, .int wn4, .int wn5, .int wn6])), (wa0, .inl (K 1, 1024, .inl wf0)), (wa1, .inl (K 1, 1024, .inl wf1)), (wa2, .inl (K 1, 1024, .inl wf2)), (v, .inr (9, [.ref va0, .ref va1, .ref va2, .ref va3, .ref va4, .ref va5, .ref va6, .ref va7, .int vn8, .int vn9, .int vn10, .int vn11])), (va0, .inl (K 1, 40, .inl vf0)), (va1, .inl (K 1, 10, .inl vf1))]) (D := D) (K := K) (Qc := fun A => va_Qv (S := ((Nat → Int32) × (Nat → Nat → Int32) × (Nat → Nat → Int64))) (fun _ => True) (chB D A (fun u => [(w, .inr (6, [.ref wa0, .ref wa1, .ref wa2, .int (u.1 0), .int (u.1 1), .int (u.1 2), .int (u.1 3)])), (wa0, .inl (K 1, 1024, .inl (u.2.1 0))), (wa1, .inl (K 1, 1024, .inl (u.2.1 1))), (wa2, .inl (K 1, 1024, .inl (u.2.1 2))), (v, .inr (9, [.ref va0, .ref va1, .ref va2, .ref va3, .ref va4, .ref va5, .ref va6, .ref va7, .int vn8, .int vn9, .int vn10, .int vn11])), (va0, .inl (K 1, 40, .inl vf0)), (va1, .inl (K 1, 10, .inl vf1))])) A) (by decide) (Nat.le_of_ble_eq_true rfl) ?_
  intro p e s m below meth c A hC hr hk hin hE hD hA H locs hP hS ls hl
  replace hC : CallFix p m c cX7_seek 4 s [.ref w, .ref v, .int p1, .int p2].toArray wl RX7 := hC
  have hx := hC.1
  have hb := hC.2.1
  have hml := hC.2.2.1
  have hown := hC.2.2.2.1
  have hts := hC.2.2.2.2
  replace hl : lv_has ls 4 [(0, .ref w), (1, .ref v), (2, .int p1), (3, .int p2)] := hl
  refine lv_aload_n hx hb dX7_seek_0 rfl (lv_at hl 0 rfl) ?_
  refine lv_iload_n hx hb dX7_seek_1 rfl (lv_at hl 3 rfl) ?_
  refine va_put (D := D) (ci := 6) (v := .int p2) (ty := .int) (C := RX7) (T := TX7) (N := 7) hx hb hts in_X7 tyX7 tyX7_ok nmX7 hown hE.1 hP hD hS 0 rfl rfl 6 (by decide) (hts _ w_318) (fun _ h9 => h9) rfl (by decide +kernel) rfl rfl (Nat.le_of_ble_eq_true rfl) dX7_seek_2 (fun H locs hP hD hS => ?_)
  replace hP : va_P D vwCl [(w, .inr (6, [.ref wa0, .ref wa1, .ref wa2, .int wn3, .int wn4, .int wn5, .int p2])), (wa0, .inl (K 1, 1024, .inl wf0)), (wa1, .inl (K 1, 1024, .inl wf1)), (wa2, .inl (K 1, 1024, .inl wf2)), (v, .inr (9, [.ref va0, .ref va1, .ref va2, .ref va3, .ref va4, .ref va5, .ref va6, .ref va7, .int vn8, .int vn9, .int vn10, .int vn11])), (va0, .inl (K 1, 40, .inl vf0)), (va1, .inl (K 1, 10, .inl vf1))] H := hP
  replace hD : va_D A [(w, .inr (6, [.ref wa0, .ref wa1, .ref wa2, .int wn3, .int wn4, .int wn5, .int p2])), (wa0, .inl (K 1, 1024, .inl wf0)), (wa1, .inl (K 1, 1024, .inl wf1)), (wa2, .inl (K 1, 1024, .inl wf2)), (v, .inr (9, [.ref va0, .ref va1, .ref va2, .ref va3, .ref va4, .ref va5, .ref va6, .ref va7, .int vn8, .int vn9, .int vn10, .int vn11])), (va0, .inl (K 1, 40, .inl vf0)), (va1, .inl (K 1, 10, .inl vf1))] := hD
  refine lv_aload_n hx hb dX7_seek_5 rfl (lv_at hl 0 rfl) ?_
  refine lv_aload_n hx hb dX7_seek_6 rfl (lv_at hl 1 rfl) ?_
  refine lv_iload_n hx hb dX7_seek_7 rfl (lv_at hl 2 rfl) ?_
  refine cv_U (As := [.ref v, .int p1]) (rest := []) (wc := [(w, .inr (6, [.ref wa0, .ref wa1, .ref wa2, .int wn3, .int wn4, .int wn5, .int p2])), (wa0, .inl (K 1, 1024, .inl wf0)), (wa1, .inl (K 1, 1024, .inl wf1)), (wa2, .inl (K 1, 1024, .inl wf2)), (v, .inr (9, [.ref va0, .ref va1, .ref va2, .ref va3, .ref va4, .ref va5, .ref va6, .ref va7, .int vn8, .int vn9, .int vn10, .int vn11])), (va0, .inl (K 1, 40, .inl vf0)), (va1, .inl (K 1, 10, .inl vf1))]) (wr := []) hC hE kU_X7_15_X6_explore (decl_of hC kU_X7_15_X6_explore rfl) (c_X6_explore_7 l D K w wa0 wa1 wa2 v va0 va1 va2 va3 va4 va5 va6 va7 wn3 wn4 wn5 p2 vn8 vn9 vn10 vn11 wf0 wf1 wf2 vf0 vf1 p1) hP hD hS hA [0, 1, 2, 3, 4, 5, 6] [] rfl rfl rfl (by decide) (by decide) (by decide) 0 6 rfl rfl (hts _ w_349) rfl hl.1 rfl (Nat.le_of_ble_eq_true rfl) (by decide) (by decide) dX7_seek_8 (fun u2249 H locs hw hP hD hS => ?_)
  replace hP : va_P D vwCl [(w, .inr (6, [.ref wa0, .ref wa1, .ref wa2, .int (u2249.1 0), .int (u2249.1 1), .int (u2249.1 2), .int p2])), (wa0, .inl (K 1, 1024, .inl (u2249.2.1 0))), (wa1, .inl (K 1, 1024, .inl (u2249.2.1 1))), (wa2, .inl (K 1, 1024, .inl (u2249.2.1 2))), (v, .inr (9, [.ref va0, .ref va1, .ref va2, .ref va3, .ref va4, .ref va5, .ref va6, .ref va7, .int vn8, .int vn9, .int vn10, .int vn11])), (va0, .inl (K 1, 40, .inl vf0)), (va1, .inl (K 1, 10, .inl vf1))] H := hP
  replace hD : va_D A [(w, .inr (6, [.ref wa0, .ref wa1, .ref wa2, .int (u2249.1 0), .int (u2249.1 1), .int (u2249.1 2), .int p2])), (wa0, .inl (K 1, 1024, .inl (u2249.2.1 0))), (wa1, .inl (K 1, 1024, .inl (u2249.2.1 1))), (wa2, .inl (K 1, 1024, .inl (u2249.2.1 2))), (v, .inr (9, [.ref va0, .ref va1, .ref va2, .ref va3, .ref va4, .ref va5, .ref va6, .ref va7, .int vn8, .int vn9, .int vn10, .int vn11])), (va0, .inl (K 1, 40, .inl vf0)), (va1, .inl (K 1, 10, .inl vf1))] := hD
  replace hP : va_P D vwCl [(w, .inr (6, [.ref wa0, .ref wa1, .ref wa2, .int (u2249.1 0), .int (u2249.1 1), .int (u2249.1 2), .int p2])), (wa0, .inl (K 1, 1024, .inl (u2249.2.1 0))), (wa1, .inl (K 1, 1024, .inl (u2249.2.1 1))), (wa2, .inl (K 1, 1024, .inl (u2249.2.1 2))), (v, .inr (9, [.ref va0, .ref va1, .ref va2, .ref va3, .ref va4, .ref va5, .ref va6, .ref va7, .int vn8, .int vn9, .int vn10, .int vn11])), (va0, .inl (K 1, 40, .inl vf0)), (va1, .inl (K 1, 10, .inl vf1))] H := hP.sub [0, 1, 2, 3, 4, 5, 6] rfl
  replace hD : va_D A [(w, .inr (6, [.ref wa0, .ref wa1, .ref wa2, .int (u2249.1 0), .int (u2249.1 1), .int (u2249.1 2), .int p2])), (wa0, .inl (K 1, 1024, .inl (u2249.2.1 0))), (wa1, .inl (K 1, 1024, .inl (u2249.2.1 1))), (wa2, .inl (K 1, 1024, .inl (u2249.2.1 2))), (v, .inr (9, [.ref va0, .ref va1, .ref va2, .ref va3, .ref va4, .ref va5, .ref va6, .ref va7, .int vn8, .int vn9, .int vn10, .int vn11])), (va0, .inl (K 1, 40, .inl vf0)), (va1, .inl (K 1, 10, .inl vf1))] := hD.sub [0, 1, 2, 3, 4, 5, 6] (by decide) rfl
  refine W.widen (k := 0) (n := 0) (by decide) (by decide) ?_
  refine W.widen (k := 0) (n := 0) (by decide) (by decide) ?_
  exact ch_vret hC hr hk hS dX7_seek_11 ((fun k => [(u2249.1 0), (u2249.1 1), (u2249.1 2), p2].getD k 0, fun k => [(u2249.2.1 0), (u2249.2.1 1), (u2249.2.1 2)].getD k (fun _ => 0), fun k => [].getD k (fun _ => 0)) : ((Nat → Int32) × (Nat → Nat → Int32) × (Nat → Nat → Int64))) trivial (hP.sub [0, 1, 2, 3, 4, 5, 6] rfl) (hD.sub [0, 1, 2, 3, 4, 5, 6] (by decide) rfl)
set_option maxRecDepth 40000 in
set_option maxHeartbeats 4000000 in
theorem c_X7_allShowOne (l : Launch) (D : va_G) (K : Nat → ClassId) (w : Nat) (wa0 : Nat) (wa1 : Nat) (wa2 : Nat) (v : Nat) (va0 : Nat) (va1 : Nat) (va2 : Nat) (va3 : Nat) (va4 : Nat) (va5 : Nat) (va6 : Nat) (va7 : Nat) (wn3 : Int32) (wn4 : Int32) (wn5 : Int32) (wn6 : Int32) (vn8 : Int32) (vn9 : Int32) (vn10 : Int32) (vn11 : Int32) (wf1 : Nat → Int32) (vf1 : Nat → Int32) (p1 : Int32) : Ro l D K yX7_allShowOne cX7_allShowOne 4 (some .boolean) 3 67 [.ref w, .ref v, .int p1] [(w, .inr (6, [.ref wa0, .ref wa1, .ref wa2, .int wn3, .int wn4, .int wn5, .int wn6])), (wa1, .inl (K 1, 1024, .inl wf1)), (v, .inr (9, [.ref va0, .ref va1, .ref va2, .ref va3, .ref va4, .ref va5, .ref va6, .ref va7, .int vn8, .int vn9, .int vn10, .int vn11])), (va1, .inl (K 1, 10, .inl vf1))] (fun r => (r = 0) ∨ (r = 1)) := by
  refine ro_of (by decide) (Nat.le_of_ble_eq_true rfl) ?_
  intro p e s m below meth c hC hr hk hE hP ls hl
  replace hC : CallFix p m c cX7_allShowOne 4 s [.ref w, .ref v, .int p1].toArray wl RX7 := hC
  have hx := hC.1
  have hb := hC.2.1
  have hml := hC.2.2.1
  have hown := hC.2.2.2.1
  have hts := hC.2.2.2.2
  replace hl : lv_has ls 4 [(0, .ref w), (1, .ref v), (2, .int p1)] := hl
  have kc_0 : (0 : Int32).toInt = 0 := by decide
  have kc_1 : (1 : Int32).toInt = 1 := by decide
  have kc_1024 : (1024 : Int32).toInt = 1024 := by decide
  refine lv_iconst (v := 0) hx hb dX7_allShowOne_0 (by decide) ?_
  refine lv_istore_n (lv' := [(3, .int 0), (0, .ref w), (1, .ref v), (2, .int p1)]) hx hb dX7_allShowOne_1 rfl hl (by decide) rfl (fun ls hl => ?_)
  have hl' := hl; clear hl
  obtain ⟨i2257, hi_2, hl⟩ : ∃ (i2257 : Int32), ((0 : Int) ≤ i2257.toInt) ∧ lv_has ls 4 [(3, .int i2257), (0, .ref w), (1, .ref v), (2, .int p1)] := ⟨_, by omega, hl'⟩
  clear hl'
  obtain ⟨n_2, hn_2⟩ : ∃ n : Nat, (1024 - i2257.toInt).toNat < n := ⟨_, Nat.lt_succ_self _⟩
  induction n_2 generalizing i2257 ls with
  | zero => exact absurd hn_2 (Nat.not_lt_zero _)
  | succ n_2 ih_2 =>
    refine lv_iload_n hx hb dX7_allShowOne_2 rfl (lv_at hl 0 rfl) ?_
    refine lv_aload_n hx hb dX7_allShowOne_3 rfl (lv_at hl 1 rfl) ?_
    refine va_get (D := D) (ci := 6) (v := .int wn4) (C := RX7) (T := TX7) (N := 7) hx hb hts in_X7 hown hE.1 hP 0 rfl rfl 4 (by decide) (hts _ w_350) (u_same (hts _ w_352)) rfl dX7_allShowOne_4 ?_
    refine lv_icmp_ge (tgt := 41) hx hb dX7_allShowOne_7 (by decide) (fun c2258 => ?_) (fun c2258 => ?_)
    · replace c2258 := le_i c2258
      refine lv_iconst (v := 1) hx hb dX7_allShowOne_41 (by decide) ?_
      exact ro_zret hC hr hk dX7_allShowOne_42 rfl (Or.inr rfl)
    · replace c2258 := nle_i c2258
      refine lv_iload_n hx hb dX7_allShowOne_10 rfl (lv_at hl 0 rfl) ?_
      refine lv_aload_n hx hb dX7_allShowOne_11 rfl (lv_at hl 1 rfl) ?_
      refine va_get (D := D) (ci := 6) (v := .ref wa1) (C := RX7) (T := TX7) (N := 7) hx hb hts in_X7 hown hE.1 hP 0 rfl rfl 1 (by decide) (hts _ w_351) (u_same (hts _ w_353)) rfl dX7_allShowOne_12 ?_
      refine va_alen (v := 1024) hx hb hE.1 hP 1 1 rfl rfl (show Int32.ofNat 1024 = 1024 by decide) dX7_allShowOne_15 ?_
      refine lv_icmp_ge (tgt := 41) hx hb dX7_allShowOne_16 (by decide) (fun c2259 => ?_) (fun c2259 => ?_)
      · replace c2259 := le_i c2259
        refine lv_iconst (v := 1) hx hb dX7_allShowOne_41 (by decide) ?_
        exact ro_zret hC hr hk dX7_allShowOne_42 rfl (Or.inr rfl)
      · replace c2259 := nle_i c2259
        refine lv_aload_n hx hb dX7_allShowOne_19 rfl (lv_at hl 2 rfl) ?_
        refine lv_aload_n hx hb dX7_allShowOne_20 rfl (lv_at hl 1 rfl) ?_
        refine va_get (D := D) (ci := 6) (v := .ref wa1) (C := RX7) (T := TX7) (N := 7) hx hb hts in_X7 hown hE.1 hP 0 rfl rfl 1 (by decide) (hts _ w_351) (u_same (hts _ w_353)) rfl dX7_allShowOne_21 ?_
        refine lv_iload_n hx hb dX7_allShowOne_24 rfl (lv_at hl 0 rfl) ?_
        refine va_iald hx hb hE.1 hP 1 1 rfl rfl (vp_in_iff.mpr (by omega)) dX7_allShowOne_25 ?_
        refine lv_topi (fun v2260 ev2260 => ?_)
        refine lv_iload_n hx hb dX7_allShowOne_26 rfl (lv_at hl 3 rfl) ?_
        refine ro_S (As := [.ref v, .int v2260, .int p1]) (rest := []) hC hE kS_X7_31 (c_X7_showsOne l D K v va0 va1 va2 va3 va4 va5 va6 va7 vn8 vn9 vn10 vn11 vf1 v2260 p1) (hP.sub (ws' := [(v, .inr (9, [.ref va0, .ref va1, .ref va2, .ref va3, .ref va4, .ref va5, .ref va6, .ref va7, .int vn8, .int vn9, .int vn10, .int vn11])), (va1, .inl (K 1, 10, .inl vf1))]) [2, 3] rfl) rfl hl.1 rfl (Nat.le_of_ble_eq_true rfl) (by decide) (by decide) dX7_allShowOne_27 (fun r2261 hq => ?_)
        rcases hq with rfl | rfl
        · refine lv_if_ne (tgt := 35) hx hb dX7_allShowOne_30 (by decide) (fun h => absurd h (by decide)) (fun _ => ?_)
          refine lv_iconst (v := 0) hx hb dX7_allShowOne_33 (by decide) ?_
          exact ro_zret hC hr hk dX7_allShowOne_34 rfl (Or.inl rfl)
        · refine lv_if_ne (tgt := 35) hx hb dX7_allShowOne_30 (by decide) (fun _ => ?_) (fun h => absurd h (by decide))
          obtain ⟨v2262, ev2262⟩ : ∃ z : Int32, z = i2257 + 1 := ⟨_, rfl⟩
          refine lv_iinc (v := v2262) (lv' := [(3, .int v2262), (0, .ref w), (1, .ref v), (2, .int p1)]) hx hb dX7_allShowOne_35 hl (k := 0) rfl (by rw [ev2262]; rfl) (by decide) rfl (fun ls hl => ?_)
          refine lv_goto (tgt := 2) hx hb dX7_allShowOne_38 (by decide) ?_
          have tv2262 : v2262.toInt = (i2257 : Int32).toInt + (1 : Int32).toInt := add_i ev2262 (by omega) (by omega)
          exact ih_2 (i2257 := v2262) (hi_2 := by omega) (ls := ls) (hn_2 := by omega) (hl := lv_sub hl [0, 1, 2, 3] rfl)
set_option maxRecDepth 40000 in
set_option maxHeartbeats 4000000 in
theorem c_X7_leastGathered (l : Launch) (D : va_G) (K : Nat → ClassId) (w : Nat) (wa0 : Nat) (wa1 : Nat) (wa2 : Nat) (v : Nat) (va0 : Nat) (va1 : Nat) (va2 : Nat) (va3 : Nat) (va4 : Nat) (va5 : Nat) (va6 : Nat) (va7 : Nat) (wn3 : Int32) (wn4 : Int32) (wn5 : Int32) (wn6 : Int32) (vn8 : Int32) (vn9 : Int32) (vn10 : Int32) (vn11 : Int32) (wf0 : Nat → Int32) (wf1 : Nat → Int32) (wf2 : Nat → Int32) (vf0 : Nat → Int32) (vf1 : Nat → Int32) (p1 : Int32) : Ci (S := ((Nat → Int32) × (Nat → Nat → Int32) × (Nat → Nat → Int64))) l D K yX7_leastGathered cX7_leastGathered 6 (some .int) 6 136 0 0 [.ref w, .ref v, .int p1] [(w, .inr (6, [.ref wa0, .ref wa1, .ref wa2, .int wn3, .int wn4, .int wn5, .int wn6])), (wa0, .inl (K 1, 1024, .inl wf0)), (wa1, .inl (K 1, 1024, .inl wf1)), (wa2, .inl (K 1, 1024, .inl wf2)), (v, .inr (9, [.ref va0, .ref va1, .ref va2, .ref va3, .ref va4, .ref va5, .ref va6, .ref va7, .int vn8, .int vn9, .int vn10, .int vn11])), (va0, .inl (K 1, 40, .inl vf0)), (va1, .inl (K 1, 10, .inl vf1))] (fun _ _ => True) (fun u => [(w, .inr (6, [.ref wa0, .ref wa1, .ref wa2, .int (u.1 0), .int (u.1 1), .int (u.1 2), .int (u.1 3)])), (wa0, .inl (K 1, 1024, .inl (u.2.1 0))), (wa1, .inl (K 1, 1024, .inl (u.2.1 1))), (wa2, .inl (K 1, 1024, .inl (u.2.1 2))), (v, .inr (9, [.ref va0, .ref va1, .ref va2, .ref va3, .ref va4, .ref va5, .ref va6, .ref va7, .int vn8, .int vn9, .int vn10, .int vn11])), (va0, .inl (K 1, 40, .inl vf0)), (va1, .inl (K 1, 10, .inl vf1))]) := by
  intro sz
  refine ch_of (y := yX7_leastGathered) (cc := cX7_leastGathered) (maxL := 6) (ret := (some .int)) (av := [.ref w, .ref v, .int p1]) (ws := [(w, .inr (6, [.ref wa0, .ref wa1, .ref wa2, .int wn3, .int wn4, .int wn5, .int wn6])), (wa0, .inl (K 1, 1024, .inl wf0)), (wa1, .inl (K 1, 1024, .inl wf1)), (wa2, .inl (K 1, 1024, .inl wf2)), (v, .inr (9, [.ref va0, .ref va1, .ref va2, .ref va3, .ref va4, .ref va5, .ref va6, .ref va7, .int vn8, .int vn9, .int vn10, .int vn11])), (va0, .inl (K 1, 40, .inl vf0)), (va1, .inl (K 1, 10, .inl vf1))]) (D := D) (K := K) (Qc := fun A => va_Qi (S := ((Nat → Int32) × (Nat → Nat → Int32) × (Nat → Nat → Int64))) (fun _ _ => True) (chB D A (fun u => [(w, .inr (6, [.ref wa0, .ref wa1, .ref wa2, .int (u.1 0), .int (u.1 1), .int (u.1 2), .int (u.1 3)])), (wa0, .inl (K 1, 1024, .inl (u.2.1 0))), (wa1, .inl (K 1, 1024, .inl (u.2.1 1))), (wa2, .inl (K 1, 1024, .inl (u.2.1 2))), (v, .inr (9, [.ref va0, .ref va1, .ref va2, .ref va3, .ref va4, .ref va5, .ref va6, .ref va7, .int vn8, .int vn9, .int vn10, .int vn11])), (va0, .inl (K 1, 40, .inl vf0)), (va1, .inl (K 1, 10, .inl vf1))])) A) (by decide) (Nat.le_of_ble_eq_true rfl) ?_
  intro p e s m below meth c A hC hr hk hin hE hD hA H locs hP hS ls hl
  replace hC : CallFix p m c cX7_leastGathered 6 s [.ref w, .ref v, .int p1].toArray wl RX7 := hC
  have hx := hC.1
  have hb := hC.2.1
  have hml := hC.2.2.1
  have hown := hC.2.2.2.1
  have hts := hC.2.2.2.2
  replace hl : lv_has ls 6 [(0, .ref w), (1, .ref v), (2, .int p1)] := hl
  have kc_m1 : (-1 : Int32).toInt = -1 := by decide
  have kc_0 : (0 : Int32).toInt = 0 := by decide
  have kc_1 : (1 : Int32).toInt = 1 := by decide
  have kc_10 : (10 : Int32).toInt = 10 := by decide
  have kc_1024 : (1024 : Int32).toInt = 1024 := by decide
  refine lv_aload_n hx hb dX7_leastGathered_0 rfl (lv_at hl 0 rfl) ?_
  refine lv_aload_n hx hb dX7_leastGathered_1 rfl (lv_at hl 1 rfl) ?_
  refine lv_iload_n hx hb dX7_leastGathered_2 rfl (lv_at hl 2 rfl) ?_
  refine lv_iconst (v := 1) hx hb dX7_leastGathered_3 (by decide) ?_
  refine cv_V (As := [.ref v, .int p1, .int 1]) (rest := []) (wc := [(w, .inr (6, [.ref wa0, .ref wa1, .ref wa2, .int wn3, .int wn4, .int wn5, .int wn6])), (wa0, .inl (K 1, 1024, .inl wf0)), (wa1, .inl (K 1, 1024, .inl wf1)), (wa2, .inl (K 1, 1024, .inl wf2)), (v, .inr (9, [.ref va0, .ref va1, .ref va2, .ref va3, .ref va4, .ref va5, .ref va6, .ref va7, .int vn8, .int vn9, .int vn10, .int vn11])), (va0, .inl (K 1, 40, .inl vf0)), (va1, .inl (K 1, 10, .inl vf1))]) (wr := []) hC hE kV_X7_48 (c_X7_seek l D K w wa0 wa1 wa2 v va0 va1 va2 va3 va4 va5 va6 va7 wn3 wn4 wn5 wn6 vn8 vn9 vn10 vn11 wf0 wf1 wf2 vf0 vf1 p1 1) hP hD hS hA [0, 1, 2, 3, 4, 5, 6] [] rfl rfl rfl (by decide) (by decide) (by decide) 0 6 rfl rfl rfl hl.1 rfl (Nat.le_of_ble_eq_true rfl) (by decide) (by decide) dX7_leastGathered_4 (fun u2286 H locs hw hP hD hS => ?_)
  replace hP : va_P D vwCl [(w, .inr (6, [.ref wa0, .ref wa1, .ref wa2, .int (u2286.1 0), .int (u2286.1 1), .int (u2286.1 2), .int (u2286.1 3)])), (wa0, .inl (K 1, 1024, .inl (u2286.2.1 0))), (wa1, .inl (K 1, 1024, .inl (u2286.2.1 1))), (wa2, .inl (K 1, 1024, .inl (u2286.2.1 2))), (v, .inr (9, [.ref va0, .ref va1, .ref va2, .ref va3, .ref va4, .ref va5, .ref va6, .ref va7, .int vn8, .int vn9, .int vn10, .int vn11])), (va0, .inl (K 1, 40, .inl vf0)), (va1, .inl (K 1, 10, .inl vf1))] H := hP
  replace hD : va_D A [(w, .inr (6, [.ref wa0, .ref wa1, .ref wa2, .int (u2286.1 0), .int (u2286.1 1), .int (u2286.1 2), .int (u2286.1 3)])), (wa0, .inl (K 1, 1024, .inl (u2286.2.1 0))), (wa1, .inl (K 1, 1024, .inl (u2286.2.1 1))), (wa2, .inl (K 1, 1024, .inl (u2286.2.1 2))), (v, .inr (9, [.ref va0, .ref va1, .ref va2, .ref va3, .ref va4, .ref va5, .ref va6, .ref va7, .int vn8, .int vn9, .int vn10, .int vn11])), (va0, .inl (K 1, 40, .inl vf0)), (va1, .inl (K 1, 10, .inl vf1))] := hD
  replace hP : va_P D vwCl [(w, .inr (6, [.ref wa0, .ref wa1, .ref wa2, .int (u2286.1 0), .int (u2286.1 1), .int (u2286.1 2), .int (u2286.1 3)])), (wa0, .inl (K 1, 1024, .inl (u2286.2.1 0))), (wa1, .inl (K 1, 1024, .inl (u2286.2.1 1))), (wa2, .inl (K 1, 1024, .inl (u2286.2.1 2))), (v, .inr (9, [.ref va0, .ref va1, .ref va2, .ref va3, .ref va4, .ref va5, .ref va6, .ref va7, .int vn8, .int vn9, .int vn10, .int vn11])), (va0, .inl (K 1, 40, .inl vf0)), (va1, .inl (K 1, 10, .inl vf1))] H := hP.sub [0, 1, 2, 3, 4, 5, 6] rfl
  replace hD : va_D A [(w, .inr (6, [.ref wa0, .ref wa1, .ref wa2, .int (u2286.1 0), .int (u2286.1 1), .int (u2286.1 2), .int (u2286.1 3)])), (wa0, .inl (K 1, 1024, .inl (u2286.2.1 0))), (wa1, .inl (K 1, 1024, .inl (u2286.2.1 1))), (wa2, .inl (K 1, 1024, .inl (u2286.2.1 2))), (v, .inr (9, [.ref va0, .ref va1, .ref va2, .ref va3, .ref va4, .ref va5, .ref va6, .ref va7, .int vn8, .int vn9, .int vn10, .int vn11])), (va0, .inl (K 1, 40, .inl vf0)), (va1, .inl (K 1, 10, .inl vf1))] := hD.sub [0, 1, 2, 3, 4, 5, 6] (by decide) rfl
  refine W.widen (k := 0) (n := 0) (by decide) (by decide) ?_
  refine lv_aload_n hx hb dX7_leastGathered_7 rfl (lv_at hl 0 rfl) ?_
  refine ro_U (As := []) (rest := []) hC hE kU_X7_52_X6_goalLength (decl_of hC kU_X7_52_X6_goalLength rfl) (c_X6_goalLength_7 l D K w wa0 wa1 wa2 (u2286.1 0) (u2286.1 1) (u2286.1 2) (u2286.1 3) (u2286.2.1 2)) (hP.sub (ws' := [(w, .inr (6, [.ref wa0, .ref wa1, .ref wa2, .int (u2286.1 0), .int (u2286.1 1), .int (u2286.1 2), .int (u2286.1 3)])), (wa2, .inl (K 1, 1024, .inl (u2286.2.1 2)))]) [0, 3] rfl) 0 6 rfl rfl (hts _ w_361) rfl hl.1 rfl (Nat.le_of_ble_eq_true rfl) (by decide) (by decide) dX7_leastGathered_8 (fun r2290 hq => ?_)
  rcases hq with rfl | ⟨h2288, h2289⟩
  · refine lv_istore_n (lv' := [(3, .int (-1)), (0, .ref w), (1, .ref v), (2, .int p1)]) hx hb dX7_leastGathered_11 rfl hl (by decide) rfl (fun ls hl => ?_)
    refine lv_iload_n hx hb dX7_leastGathered_12 rfl (lv_at hl 0 rfl) ?_
    refine lv_iconst (v := (-1)) hx hb dX7_leastGathered_13 (by decide) ?_
    refine lv_icmp_ne (tgt := 19) hx hb dX7_leastGathered_14 (by decide) (fun h => absurd h (by decide)) (fun _ => ?_)
    refine lv_iconst (v := (-1)) hx hb dX7_leastGathered_17 (by decide) ?_
    refine W.widen (k := 0) (n := 0) (by decide) (by decide) ?_
    exact ch_iret hC hr hk hS dX7_leastGathered_18 ((fun k => [(u2286.1 0), (u2286.1 1), (u2286.1 2), (u2286.1 3)].getD k 0, fun k => [(u2286.2.1 0), (u2286.2.1 1), (u2286.2.1 2)].getD k (fun _ => 0), fun k => [].getD k (fun _ => 0)) : ((Nat → Int32) × (Nat → Nat → Int32) × (Nat → Nat → Int64))) trivial (hP.sub [0, 1, 2, 3, 4, 5, 6] rfl) (hD.sub [0, 1, 2, 3, 4, 5, 6] (by decide) rfl)
  · refine lv_istore_n (lv' := [(3, .int r2290), (0, .ref w), (1, .ref v), (2, .int p1)]) hx hb dX7_leastGathered_11 rfl hl (by decide) rfl (fun ls hl => ?_)
    refine lv_iload_n hx hb dX7_leastGathered_12 rfl (lv_at hl 0 rfl) ?_
    refine lv_iconst (v := (-1)) hx hb dX7_leastGathered_13 (by decide) ?_
    refine lv_icmp_ne (tgt := 19) hx hb dX7_leastGathered_14 (by decide) (fun c2291 => ?_) (fun c2291 => ?_)
    · replace c2291 := ne_i c2291
      refine lv_bipush (v := 10) hx hb dX7_leastGathered_19 (by decide) ?_
      refine lv_istore (lv' := [(4, .int 10), (3, .int r2290), (0, .ref w), (1, .ref v), (2, .int p1)]) hx hb dX7_leastGathered_21 hl (by decide) rfl (fun ls hl => ?_)
      refine lv_iconst (v := 0) hx hb dX7_leastGathered_23 (by decide) ?_
      refine lv_istore (lv' := [(5, .int 0), (4, .int 10), (3, .int r2290), (0, .ref w), (1, .ref v), (2, .int p1)]) hx hb dX7_leastGathered_24 hl (by decide) rfl (fun ls hl => ?_)
      have hl' := hl; have hP' := hP; have hD' := hD; clear hl hP hD
      obtain ⟨i2309, i2310, hi_26, hl, hP, hD⟩ : ∃ (i2309 : Int32) (i2310 : Int32), ((0 : Int) ≤ i2309.toInt) ∧ lv_has ls 6 [(5, .int i2309), (4, .int i2310), (3, .int r2290), (0, .ref w), (1, .ref v), (2, .int p1)] ∧ va_P D vwCl [(w, .inr (6, [.ref wa0, .ref wa1, .ref wa2, .int (u2286.1 0), .int (u2286.1 1), .int (u2286.1 2), .int (u2286.1 3)])), (wa0, .inl (K 1, 1024, .inl (u2286.2.1 0))), (wa1, .inl (K 1, 1024, .inl (u2286.2.1 1))), (wa2, .inl (K 1, 1024, .inl (u2286.2.1 2))), (v, .inr (9, [.ref va0, .ref va1, .ref va2, .ref va3, .ref va4, .ref va5, .ref va6, .ref va7, .int vn8, .int vn9, .int vn10, .int vn11])), (va0, .inl (K 1, 40, .inl vf0)), (va1, .inl (K 1, 10, .inl vf1))] H ∧ va_D A [(w, .inr (6, [.ref wa0, .ref wa1, .ref wa2, .int (u2286.1 0), .int (u2286.1 1), .int (u2286.1 2), .int (u2286.1 3)])), (wa0, .inl (K 1, 1024, .inl (u2286.2.1 0))), (wa1, .inl (K 1, 1024, .inl (u2286.2.1 1))), (wa2, .inl (K 1, 1024, .inl (u2286.2.1 2))), (v, .inr (9, [.ref va0, .ref va1, .ref va2, .ref va3, .ref va4, .ref va5, .ref va6, .ref va7, .int vn8, .int vn9, .int vn10, .int vn11])), (va0, .inl (K 1, 40, .inl vf0)), (va1, .inl (K 1, 10, .inl vf1))] := ⟨_, _, by omega, hl', hP', hD'⟩
      clear hl' hP' hD'
      obtain ⟨n_26, hn_26⟩ : ∃ n : Nat, (1024 - i2309.toInt).toNat < n := ⟨_, Nat.lt_succ_self _⟩
      induction n_26 generalizing i2309 i2310 H locs ls with
      | zero => exact absurd hn_26 (Nat.not_lt_zero _)
      | succ n_26 ih_26 =>
        refine lv_iload hx hb dX7_leastGathered_26 (lv_at hl 0 rfl) ?_
        refine lv_aload_n hx hb dX7_leastGathered_28 rfl (lv_at hl 3 rfl) ?_
        refine va_get (D := D) (ci := 6) (v := .int (u2286.1 1)) (C := RX7) (T := TX7) (N := 7) hx hb hts in_X7 hown hE.1 hP 0 rfl rfl 4 (by decide) (hts _ w_350) (u_same (hts _ w_352)) rfl dX7_leastGathered_29 ?_
        refine lv_icmp_ge (tgt := 92) hx hb dX7_leastGathered_32 (by decide) (fun c2311 => ?_) (fun c2311 => ?_)
        · replace c2311 := le_i c2311
          refine lv_iload hx hb dX7_leastGathered_92 (lv_at hl 1 rfl) ?_
          refine W.widen (k := 0) (n := 0) (by decide) (by decide) ?_
          exact ch_iret hC hr hk hS dX7_leastGathered_94 ((fun k => [(u2286.1 0), (u2286.1 1), (u2286.1 2), (u2286.1 3)].getD k 0, fun k => [(u2286.2.1 0), (u2286.2.1 1), (u2286.2.1 2)].getD k (fun _ => 0), fun k => [].getD k (fun _ => 0)) : ((Nat → Int32) × (Nat → Nat → Int32) × (Nat → Nat → Int64))) trivial (hP.sub [0, 1, 2, 3, 4, 5, 6] rfl) (hD.sub [0, 1, 2, 3, 4, 5, 6] (by decide) rfl)
        · replace c2311 := nle_i c2311
          refine lv_iload hx hb dX7_leastGathered_35 (lv_at hl 0 rfl) ?_
          refine lv_aload_n hx hb dX7_leastGathered_37 rfl (lv_at hl 3 rfl) ?_
          refine va_get (D := D) (ci := 6) (v := .ref wa1) (C := RX7) (T := TX7) (N := 7) hx hb hts in_X7 hown hE.1 hP 0 rfl rfl 1 (by decide) (hts _ w_351) (u_same (hts _ w_353)) rfl dX7_leastGathered_38 ?_
          refine va_alen (v := 1024) hx hb hE.1 hP 2 1 rfl rfl (show Int32.ofNat 1024 = 1024 by decide) dX7_leastGathered_41 ?_
          refine lv_icmp_ge (tgt := 92) hx hb dX7_leastGathered_42 (by decide) (fun c2312 => ?_) (fun c2312 => ?_)
          · replace c2312 := le_i c2312
            refine lv_iload hx hb dX7_leastGathered_92 (lv_at hl 1 rfl) ?_
            refine W.widen (k := 0) (n := 0) (by decide) (by decide) ?_
            exact ch_iret hC hr hk hS dX7_leastGathered_94 ((fun k => [(u2286.1 0), (u2286.1 1), (u2286.1 2), (u2286.1 3)].getD k 0, fun k => [(u2286.2.1 0), (u2286.2.1 1), (u2286.2.1 2)].getD k (fun _ => 0), fun k => [].getD k (fun _ => 0)) : ((Nat → Int32) × (Nat → Nat → Int32) × (Nat → Nat → Int64))) trivial (hP.sub [0, 1, 2, 3, 4, 5, 6] rfl) (hD.sub [0, 1, 2, 3, 4, 5, 6] (by decide) rfl)
          · replace c2312 := nle_i c2312
            refine lv_aload_n hx hb dX7_leastGathered_45 rfl (lv_at hl 3 rfl) ?_
            refine va_get (D := D) (ci := 6) (v := .ref wa1) (C := RX7) (T := TX7) (N := 7) hx hb hts in_X7 hown hE.1 hP 0 rfl rfl 1 (by decide) (hts _ w_351) (u_same (hts _ w_353)) rfl dX7_leastGathered_46 ?_
            refine lv_iload hx hb dX7_leastGathered_49 (lv_at hl 0 rfl) ?_
            refine va_iald hx hb hE.1 hP 2 1 rfl rfl (vp_in_iff.mpr (by omega)) dX7_leastGathered_51 ?_
            refine lv_topi (fun v2313 ev2313 => ?_)
            refine ro_S (As := [.int v2313]) (rest := []) hC hE kS_X7_25 (c_J6_bitCount_0f7a4 l D K v2313) (hP.sub (ws' := []) [] rfl) rfl hl.1 rfl (Nat.le_of_ble_eq_true rfl) (by decide) (by decide) dX7_leastGathered_52 (fun r2314 _ => ?_)
            refine lv_iconst (v := 1) hx hb dX7_leastGathered_55 (by decide) ?_
            refine lv_icmp_ne (tgt := 86) hx hb dX7_leastGathered_56 (by decide) (fun c2315 => ?_) (fun c2315 => ?_)
            · replace c2315 := ne_i c2315
              obtain ⟨v2316, ev2316⟩ : ∃ z : Int32, z = i2309 + 1 := ⟨_, rfl⟩
              refine lv_iinc (v := v2316) (lv' := [(5, .int v2316), (4, .int i2310), (3, .int r2290), (0, .ref w), (1, .ref v), (2, .int p1)]) hx hb dX7_leastGathered_86 hl (k := 0) rfl (by rw [ev2316]; rfl) (by decide) rfl (fun ls hl => ?_)
              refine lv_goto (tgt := 26) hx hb dX7_leastGathered_89 (by decide) ?_
              have tv2316 : v2316.toInt = (i2309 : Int32).toInt + (1 : Int32).toInt := add_i ev2316 (by omega) (by omega)
              exact ih_26 (i2309 := v2316) (i2310 := i2310) (hi_26 := by omega) (H := H) (locs := locs) (ls := ls) (hn_26 := by omega) (hP := hP) (hS := hS) (hl := lv_sub hl [0, 1, 2, 3, 4, 5] rfl)
            · replace c2315 := eq_i c2315
              refine lv_aload_n hx hb dX7_leastGathered_59 rfl (lv_at hl 3 rfl) ?_
              refine lv_iload hx hb dX7_leastGathered_60 (lv_at hl 0 rfl) ?_
              refine ro_U (As := [.int i2309]) (rest := []) hC hE kU_X7_56_X6_lengthTo (decl_of hC kU_X7_56_X6_lengthTo rfl) (c_X6_lengthTo_7 l D K w wa0 wa1 wa2 (u2286.1 0) (u2286.1 1) (u2286.1 2) (u2286.1 3) (u2286.2.1 2) i2309) (hP.sub (ws' := [(w, .inr (6, [.ref wa0, .ref wa1, .ref wa2, .int (u2286.1 0), .int (u2286.1 1), .int (u2286.1 2), .int (u2286.1 3)])), (wa2, .inl (K 1, 1024, .inl (u2286.2.1 2)))]) [0, 3] rfl) 0 6 rfl rfl (hts _ w_364) rfl hl.1 rfl (Nat.le_of_ble_eq_true rfl) (by decide) (by decide) dX7_leastGathered_62 (fun r2319 hq => ?_)
              obtain ⟨h2317, h2318⟩ := hq
              refine lv_iload_n hx hb dX7_leastGathered_65 rfl (lv_at hl 2 rfl) ?_
              refine lv_icmp_ne (tgt := 86) hx hb dX7_leastGathered_66 (by decide) (fun c2320 => ?_) (fun c2320 => ?_)
              · replace c2320 := ne_i c2320
                obtain ⟨v2321, ev2321⟩ : ∃ z : Int32, z = i2309 + 1 := ⟨_, rfl⟩
                refine lv_iinc (v := v2321) (lv' := [(5, .int v2321), (4, .int i2310), (3, .int r2290), (0, .ref w), (1, .ref v), (2, .int p1)]) hx hb dX7_leastGathered_86 hl (k := 0) rfl (by rw [ev2321]; rfl) (by decide) rfl (fun ls hl => ?_)
                refine lv_goto (tgt := 26) hx hb dX7_leastGathered_89 (by decide) ?_
                have tv2321 : v2321.toInt = (i2309 : Int32).toInt + (1 : Int32).toInt := add_i ev2321 (by omega) (by omega)
                exact ih_26 (i2309 := v2321) (i2310 := i2310) (hi_26 := by omega) (H := H) (locs := locs) (ls := ls) (hn_26 := by omega) (hP := hP) (hS := hS) (hl := lv_sub hl [0, 1, 2, 3, 4, 5] rfl)
              · replace c2320 := eq_i c2320
                refine lv_iload hx hb dX7_leastGathered_69 (lv_at hl 1 rfl) ?_
                refine lv_aload_n hx hb dX7_leastGathered_71 rfl (lv_at hl 3 rfl) ?_
                refine va_get (D := D) (ci := 6) (v := .ref wa1) (C := RX7) (T := TX7) (N := 7) hx hb hts in_X7 hown hE.1 hP 0 rfl rfl 1 (by decide) (hts _ w_351) (u_same (hts _ w_353)) rfl dX7_leastGathered_72 ?_
                refine lv_iload hx hb dX7_leastGathered_75 (lv_at hl 0 rfl) ?_
                refine va_iald hx hb hE.1 hP 2 1 rfl rfl (vp_in_iff.mpr (by omega)) dX7_leastGathered_77 ?_
                refine lv_topi (fun v2322 ev2322 => ?_)
                refine ro_S (As := [.int v2322]) (rest := [.int i2310]) hC hE kS_X7_59 (c_J6_numberOfTrailingZeros_0f7a4 l D K v2322) (hP.sub (ws' := []) [] rfl) rfl hl.1 rfl (Nat.le_of_ble_eq_true rfl) (by decide) (by decide) dX7_leastGathered_78 (fun r2323 _ => ?_)
                refine va_mmin hx hb (hml.trans hl.1.symm) hown (hts _ w_354) (hts _ w_142) (hts _ w_143) (hts _ w_144) (by decide) (Nat.le_of_ble_eq_true rfl) (by decide) (by decide) dX7_leastGathered_81 ?_
                refine lv_topi (fun v2324 ev2324 => ?_)
                have tv2324 := min_i ev2324
                refine lv_istore (lv' := [(4, .int v2324), (5, .int i2309), (3, .int r2290), (0, .ref w), (1, .ref v), (2, .int p1)]) hx hb dX7_leastGathered_84 hl (by decide) rfl (fun ls hl => ?_)
                obtain ⟨v2325, ev2325⟩ : ∃ z : Int32, z = i2309 + 1 := ⟨_, rfl⟩
                refine lv_iinc (v := v2325) (lv' := [(5, .int v2325), (4, .int v2324), (3, .int r2290), (0, .ref w), (1, .ref v), (2, .int p1)]) hx hb dX7_leastGathered_86 hl (k := 1) rfl (by rw [ev2325]; rfl) (by decide) rfl (fun ls hl => ?_)
                refine lv_goto (tgt := 26) hx hb dX7_leastGathered_89 (by decide) ?_
                have tv2325 : v2325.toInt = (i2309 : Int32).toInt + (1 : Int32).toInt := add_i ev2325 (by omega) (by omega)
                exact ih_26 (i2309 := v2325) (i2310 := v2324) (hi_26 := by omega) (H := H) (locs := locs) (ls := ls) (hn_26 := by omega) (hP := hP) (hS := hS) (hl := lv_sub hl [0, 1, 2, 3, 4, 5] rfl)
    · replace c2291 := eq_i c2291
      refine lv_iconst (v := (-1)) hx hb dX7_leastGathered_17 (by decide) ?_
      refine W.widen (k := 0) (n := 0) (by decide) (by decide) ?_
      exact ch_iret hC hr hk hS dX7_leastGathered_18 ((fun k => [(u2286.1 0), (u2286.1 1), (u2286.1 2), (u2286.1 3)].getD k 0, fun k => [(u2286.2.1 0), (u2286.2.1 1), (u2286.2.1 2)].getD k (fun _ => 0), fun k => [].getD k (fun _ => 0)) : ((Nat → Int32) × (Nat → Nat → Int32) × (Nat → Nat → Int64))) trivial (hP.sub [0, 1, 2, 3, 4, 5, 6] rfl) (hD.sub [0, 1, 2, 3, 4, 5, 6] (by decide) rfl)
