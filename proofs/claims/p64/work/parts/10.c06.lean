set_option maxRecDepth 40000 in
set_option maxHeartbeats 4000000 in
theorem c_X6_goalLength_7 (l : Launch) (D : va_G) (K : Nat → ClassId) (w : Nat) (wa0 : Nat) (wa1 : Nat) (wa2 : Nat) (wn3 : Int32) (wn4 : Int32) (wn5 : Int32) (wn6 : Int32) (wf2 : Nat → Int32) : Ro l D K yX6_goalLength cX6_goalLength 1 (some .int) 1 24 [.ref w] [(w, .inr (6, [.ref wa0, .ref wa1, .ref wa2, .int wn3, .int wn4, .int wn5, .int wn6])), (wa2, .inl (K 1, 1024, .inl wf2))] (fun _ => True) := by
  refine ro_of (by decide) (Nat.le_of_ble_eq_true rfl) ?_
  intro p e s m below meth c hC hr hk hE hP ls hl
  replace hC : CallFix p m c cX6_goalLength 1 s [.ref w].toArray wl RX6 := hC
  have hx := hC.1
  have hb := hC.2.1
  have hml := hC.2.2.1
  have hown := hC.2.2.2.1
  have hts := hC.2.2.2.2
  replace hl : lv_has ls 1 [(0, .ref w)] := hl
  have kc_m1 : (-1 : Int32).toInt = -1 := by decide
  refine lv_aload_n hx hb dX6_goalLength_0 rfl (lv_at hl 0 rfl) ?_
  refine va_get (D := D) (ci := 6) (v := .int wn5) (C := RX7) (T := TX7) (N := 7) hx hb hts in_X7 hown hE.1 hP 0 rfl rfl 5 (by decide) (hts _ w_279) (fun _ h9 => h9) rfl dX6_goalLength_1 ?_
  refine lv_iconst (v := (-1)) hx hb dX6_goalLength_4 (by decide) ?_
  refine lv_icmp_ne (tgt := 12) hx hb dX6_goalLength_5 (by decide) (fun c1866 => ?_) (fun c1866 => ?_)
  · replace c1866 := ne_i c1866
    refine lv_aload_n hx hb dX6_goalLength_12 rfl (lv_at hl 0 rfl) ?_
    refine lv_aload_n hx hb dX6_goalLength_13 rfl (lv_at hl 0 rfl) ?_
    refine va_get (D := D) (ci := 6) (v := .int wn5) (C := RX7) (T := TX7) (N := 7) hx hb hts in_X7 hown hE.1 hP 0 rfl rfl 5 (by decide) (hts _ w_279) (fun _ h9 => h9) rfl dX6_goalLength_14 ?_
    refine ro_U (As := [.int wn5]) (rest := []) hC hE kU_X6_49_X6_lengthTo (decl_of hC kU_X6_49_X6_lengthTo rfl) (c_X6_lengthTo_7 l D K w wa0 wa1 wa2 wn3 wn4 wn5 wn6 wf2 wn5) (hP.sub (ws' := [(w, .inr (6, [.ref wa0, .ref wa1, .ref wa2, .int wn3, .int wn4, .int wn5, .int wn6])), (wa2, .inl (K 1, 1024, .inl wf2))]) [0, 1] rfl) 0 6 rfl rfl (hts _ w_298) rfl hl.1 rfl (Nat.le_of_ble_eq_true rfl) (by decide) (by decide) dX6_goalLength_17 (fun r1867 _ => ?_)
    exact ro_ret hC hr hk dX6_goalLength_20 trivial
  · replace c1866 := eq_i c1866
    refine lv_iconst (v := (-1)) hx hb dX6_goalLength_8 (by decide) ?_
    refine lv_goto (tgt := 20) hx hb dX6_goalLength_9 (by decide) ?_
    exact ro_ret hC hr hk dX6_goalLength_20 trivial
set_option maxRecDepth 40000 in
set_option maxHeartbeats 4000000 in
theorem c_X6_goalWind_7 (l : Launch) (D : va_G) (K : Nat → ClassId) (w : Nat) (wa0 : Nat) (wa1 : Nat) (wa2 : Nat) (wn3 : Int32) (wn4 : Int32) (wn5 : Int32) (wn6 : Int32) (wf2 : Nat → Int32) (p0 : Int32) : Ro l D K yX6_goalWind cX6_goalWind 5 (some .int) 2 44 [.ref w, .int p0] [(w, .inr (6, [.ref wa0, .ref wa1, .ref wa2, .int wn3, .int wn4, .int wn5, .int wn6])), (wa2, .inl (K 1, 1024, .inl wf2))] (fun _ => True) := by
  refine ro_of (by decide) (Nat.le_of_ble_eq_true rfl) ?_
  intro p e s m below meth c hC hr hk hE hP ls hl
  replace hC : CallFix p m c cX6_goalWind 5 s [.ref w, .int p0].toArray wl RX6 := hC
  have hx := hC.1
  have hb := hC.2.1
  have hml := hC.2.2.1
  have hown := hC.2.2.2.1
  have hts := hC.2.2.2.2
  replace hl : lv_has ls 5 [(0, .ref w), (1, .int p0)] := hl
  have kc_m1 : (-1 : Int32).toInt = -1 := by decide
  have kc_0 : (0 : Int32).toInt = 0 := by decide
  have kc_1 : (1 : Int32).toInt = 1 := by decide
  have kc_1024 : (1024 : Int32).toInt = 1024 := by decide
  refine lv_aload_n hx hb dX6_goalWind_0 rfl (lv_at hl 0 rfl) ?_
  refine ro_U (As := []) (rest := []) hC hE kU_X6_53_X6_goalLength (decl_of hC kU_X6_53_X6_goalLength rfl) (c_X6_goalLength_7 l D K w wa0 wa1 wa2 wn3 wn4 wn5 wn6 wf2) (hP.sub (ws' := [(w, .inr (6, [.ref wa0, .ref wa1, .ref wa2, .int wn3, .int wn4, .int wn5, .int wn6])), (wa2, .inl (K 1, 1024, .inl wf2))]) [0, 1] rfl) 0 6 rfl rfl (hts _ w_299) rfl hl.1 rfl (Nat.le_of_ble_eq_true rfl) (by decide) (by decide) dX6_goalWind_1 (fun r1868 _ => ?_)
  refine lv_istore_n (lv' := [(2, .int r1868), (0, .ref w), (1, .int p0)]) hx hb dX6_goalWind_4 rfl hl (by decide) rfl (fun ls hl => ?_)
  refine lv_iload_n hx hb dX6_goalWind_5 rfl (lv_at hl 2 rfl) ?_
  refine lv_if_lt (tgt := 14) hx hb dX6_goalWind_6 (by decide) (fun c1869 => ?_) (fun c1869 => ?_)
  · replace c1869 := lt_i c1869
    refine lv_iconst (v := (-1)) hx hb dX6_goalWind_14 (by decide) ?_
    exact ro_ret hC hr hk dX6_goalWind_15 trivial
  · replace c1869 := nlt_i c1869
    refine lv_iload_n hx hb dX6_goalWind_9 rfl (lv_at hl 2 rfl) ?_
    refine lv_iload_n hx hb dX6_goalWind_10 rfl (lv_at hl 0 rfl) ?_
    refine lv_icmp_lt (tgt := 16) hx hb dX6_goalWind_11 (by decide) (fun c1870 => ?_) (fun c1870 => ?_)
    · replace c1870 := lt_i c1870
      refine lv_aload_n hx hb dX6_goalWind_16 rfl (lv_at hl 1 rfl) ?_
      refine va_get (D := D) (ci := 6) (v := .int wn5) (C := RX7) (T := TX7) (N := 7) hx hb hts in_X7 hown hE.1 hP 0 rfl rfl 5 (by decide) (hts _ w_279) (fun _ h9 => h9) rfl dX6_goalWind_17 ?_
      refine lv_istore_n (lv' := [(3, .int wn5), (2, .int r1868), (0, .ref w), (1, .int p0)]) hx hb dX6_goalWind_20 rfl hl (by decide) rfl (fun ls hl => ?_)
      refine lv_iload_n hx hb dX6_goalWind_21 rfl (lv_at hl 1 rfl) ?_
      refine lv_iconst (v := 1) hx hb dX6_goalWind_22 (by decide) ?_
      refine lv_isub hx hb dX6_goalWind_23 ?_
      refine lv_topi (fun v1871 ev1871 => ?_)
      refine lv_istore (lv' := [(4, .int v1871), (3, .int wn5), (2, .int r1868), (0, .ref w), (1, .int p0)]) hx hb dX6_goalWind_24 hl (by decide) rfl (fun ls hl => ?_)
      have tv1871 : v1871.toInt = (r1868 : Int32).toInt - (1 : Int32).toInt := sub_i ev1871 (by omega) (by omega)
      have hl' := hl; clear hl
      obtain ⟨i1880, i1881, hl⟩ : ∃ (i1880 : Int32) (i1881 : Int32), lv_has ls 5 [(4, .int i1880), (3, .int i1881), (2, .int r1868), (0, .ref w), (1, .int p0)] := ⟨_, _, hl'⟩
      clear hl'
      obtain ⟨n_26, hn_26⟩ : ∃ n : Nat, (i1880.toInt - p0.toInt).toNat < n := ⟨_, Nat.lt_succ_self _⟩
      induction n_26 generalizing i1880 i1881 ls with
      | zero => exact absurd hn_26 (Nat.not_lt_zero _)
      | succ n_26 ih_26 =>
        refine lv_iload hx hb dX6_goalWind_26 (lv_at hl 0 rfl) ?_
        refine lv_iload_n hx hb dX6_goalWind_28 rfl (lv_at hl 4 rfl) ?_
        refine lv_icmp_le (tgt := 60) hx hb dX6_goalWind_29 (by decide) (fun c1882 => ?_) (fun c1882 => ?_)
        · replace c1882 := le_i c1882
          refine lv_iload_n hx hb dX6_goalWind_60 rfl (lv_at hl 1 rfl) ?_
          refine lv_if_le (tgt := 84) hx hb dX6_goalWind_61 (by decide) (fun c1883 => ?_) (fun c1883 => ?_)
          · replace c1883 := le_i c1883
            refine lv_iconst (v := (-1)) hx hb dX6_goalWind_84 (by decide) ?_
            exact ro_ret hC hr hk dX6_goalWind_85 trivial
          · replace c1883 := nle_i c1883
            refine lv_iload_n hx hb dX6_goalWind_64 rfl (lv_at hl 1 rfl) ?_
            refine lv_aload_n hx hb dX6_goalWind_65 rfl (lv_at hl 3 rfl) ?_
            refine va_get (D := D) (ci := 6) (v := .ref wa2) (C := RX7) (T := TX7) (N := 7) hx hb hts in_X7 hown hE.1 hP 0 rfl rfl 2 (by decide) (hts _ w_278) (fun _ h9 => h9) rfl dX6_goalWind_66 ?_
            refine va_alen (v := 1024) hx hb hE.1 hP 1 1 rfl rfl (show Int32.ofNat 1024 = 1024 by decide) dX6_goalWind_69 ?_
            refine lv_icmp_ge (tgt := 84) hx hb dX6_goalWind_70 (by decide) (fun c1884 => ?_) (fun c1884 => ?_)
            · replace c1884 := le_i c1884
              refine lv_iconst (v := (-1)) hx hb dX6_goalWind_84 (by decide) ?_
              exact ro_ret hC hr hk dX6_goalWind_85 trivial
            · replace c1884 := nle_i c1884
              refine lv_aload_n hx hb dX6_goalWind_73 rfl (lv_at hl 3 rfl) ?_
              refine va_get (D := D) (ci := 6) (v := .ref wa2) (C := RX7) (T := TX7) (N := 7) hx hb hts in_X7 hown hE.1 hP 0 rfl rfl 2 (by decide) (hts _ w_278) (fun _ h9 => h9) rfl dX6_goalWind_74 ?_
              refine lv_iload_n hx hb dX6_goalWind_77 rfl (lv_at hl 1 rfl) ?_
              refine va_iald hx hb hE.1 hP 1 1 rfl rfl (vp_in_iff.mpr (by omega)) dX6_goalWind_78 ?_
              refine lv_topi (fun v1885 ev1885 => ?_)
              refine lv_iconst (v := 4) hx hb dX6_goalWind_79 (by decide) ?_
              refine lv_irem hx hb dX6_goalWind_80 (by decide) ?_
              refine lv_topi (fun v1886 ev1886 => ?_)
              refine lv_goto (tgt := 85) hx hb dX6_goalWind_81 (by decide) ?_
              exact ro_ret hC hr hk dX6_goalWind_85 trivial
        · replace c1882 := nle_i c1882
          refine lv_iload_n hx hb dX6_goalWind_32 rfl (lv_at hl 1 rfl) ?_
          refine lv_if_le (tgt := 60) hx hb dX6_goalWind_33 (by decide) (fun c1887 => ?_) (fun c1887 => ?_)
          · replace c1887 := le_i c1887
            refine lv_iload_n hx hb dX6_goalWind_60 rfl (lv_at hl 1 rfl) ?_
            refine lv_if_le (tgt := 84) hx hb dX6_goalWind_61 (by decide) (fun c1888 => ?_) (fun c1888 => ?_)
            · replace c1888 := le_i c1888
              refine lv_iconst (v := (-1)) hx hb dX6_goalWind_84 (by decide) ?_
              exact ro_ret hC hr hk dX6_goalWind_85 trivial
            · replace c1888 := nle_i c1888
              refine lv_iload_n hx hb dX6_goalWind_64 rfl (lv_at hl 1 rfl) ?_
              refine lv_aload_n hx hb dX6_goalWind_65 rfl (lv_at hl 3 rfl) ?_
              refine va_get (D := D) (ci := 6) (v := .ref wa2) (C := RX7) (T := TX7) (N := 7) hx hb hts in_X7 hown hE.1 hP 0 rfl rfl 2 (by decide) (hts _ w_278) (fun _ h9 => h9) rfl dX6_goalWind_66 ?_
              refine va_alen (v := 1024) hx hb hE.1 hP 1 1 rfl rfl (show Int32.ofNat 1024 = 1024 by decide) dX6_goalWind_69 ?_
              refine lv_icmp_ge (tgt := 84) hx hb dX6_goalWind_70 (by decide) (fun c1889 => ?_) (fun c1889 => ?_)
              · replace c1889 := le_i c1889
                refine lv_iconst (v := (-1)) hx hb dX6_goalWind_84 (by decide) ?_
                exact ro_ret hC hr hk dX6_goalWind_85 trivial
              · replace c1889 := nle_i c1889
                refine lv_aload_n hx hb dX6_goalWind_73 rfl (lv_at hl 3 rfl) ?_
                refine va_get (D := D) (ci := 6) (v := .ref wa2) (C := RX7) (T := TX7) (N := 7) hx hb hts in_X7 hown hE.1 hP 0 rfl rfl 2 (by decide) (hts _ w_278) (fun _ h9 => h9) rfl dX6_goalWind_74 ?_
                refine lv_iload_n hx hb dX6_goalWind_77 rfl (lv_at hl 1 rfl) ?_
                refine va_iald hx hb hE.1 hP 1 1 rfl rfl (vp_in_iff.mpr (by omega)) dX6_goalWind_78 ?_
                refine lv_topi (fun v1890 ev1890 => ?_)
                refine lv_iconst (v := 4) hx hb dX6_goalWind_79 (by decide) ?_
                refine lv_irem hx hb dX6_goalWind_80 (by decide) ?_
                refine lv_topi (fun v1891 ev1891 => ?_)
                refine lv_goto (tgt := 85) hx hb dX6_goalWind_81 (by decide) ?_
                exact ro_ret hC hr hk dX6_goalWind_85 trivial
          · replace c1887 := nle_i c1887
            refine lv_iload_n hx hb dX6_goalWind_36 rfl (lv_at hl 1 rfl) ?_
            refine lv_aload_n hx hb dX6_goalWind_37 rfl (lv_at hl 3 rfl) ?_
            refine va_get (D := D) (ci := 6) (v := .ref wa2) (C := RX7) (T := TX7) (N := 7) hx hb hts in_X7 hown hE.1 hP 0 rfl rfl 2 (by decide) (hts _ w_278) (fun _ h9 => h9) rfl dX6_goalWind_38 ?_
            refine va_alen (v := 1024) hx hb hE.1 hP 1 1 rfl rfl (show Int32.ofNat 1024 = 1024 by decide) dX6_goalWind_41 ?_
            refine lv_icmp_ge (tgt := 60) hx hb dX6_goalWind_42 (by decide) (fun c1892 => ?_) (fun c1892 => ?_)
            · replace c1892 := le_i c1892
              refine lv_iload_n hx hb dX6_goalWind_60 rfl (lv_at hl 1 rfl) ?_
              refine lv_if_le (tgt := 84) hx hb dX6_goalWind_61 (by decide) (fun c1893 => ?_) (fun c1893 => ?_)
              · replace c1893 := le_i c1893
                refine lv_iconst (v := (-1)) hx hb dX6_goalWind_84 (by decide) ?_
                exact ro_ret hC hr hk dX6_goalWind_85 trivial
              · replace c1893 := nle_i c1893
                refine lv_iload_n hx hb dX6_goalWind_64 rfl (lv_at hl 1 rfl) ?_
                refine lv_aload_n hx hb dX6_goalWind_65 rfl (lv_at hl 3 rfl) ?_
                refine va_get (D := D) (ci := 6) (v := .ref wa2) (C := RX7) (T := TX7) (N := 7) hx hb hts in_X7 hown hE.1 hP 0 rfl rfl 2 (by decide) (hts _ w_278) (fun _ h9 => h9) rfl dX6_goalWind_66 ?_
                refine va_alen (v := 1024) hx hb hE.1 hP 1 1 rfl rfl (show Int32.ofNat 1024 = 1024 by decide) dX6_goalWind_69 ?_
                refine lv_icmp_ge (tgt := 84) hx hb dX6_goalWind_70 (by decide) (fun c1894 => ?_) (fun c1894 => ?_)
                · replace c1894 := le_i c1894
                  refine lv_iconst (v := (-1)) hx hb dX6_goalWind_84 (by decide) ?_
                  exact ro_ret hC hr hk dX6_goalWind_85 trivial
                · replace c1894 := nle_i c1894
                  refine lv_aload_n hx hb dX6_goalWind_73 rfl (lv_at hl 3 rfl) ?_
                  refine va_get (D := D) (ci := 6) (v := .ref wa2) (C := RX7) (T := TX7) (N := 7) hx hb hts in_X7 hown hE.1 hP 0 rfl rfl 2 (by decide) (hts _ w_278) (fun _ h9 => h9) rfl dX6_goalWind_74 ?_
                  refine lv_iload_n hx hb dX6_goalWind_77 rfl (lv_at hl 1 rfl) ?_
                  refine va_iald hx hb hE.1 hP 1 1 rfl rfl (vp_in_iff.mpr (by omega)) dX6_goalWind_78 ?_
                  refine lv_topi (fun v1895 ev1895 => ?_)
                  refine lv_iconst (v := 4) hx hb dX6_goalWind_79 (by decide) ?_
                  refine lv_irem hx hb dX6_goalWind_80 (by decide) ?_
                  refine lv_topi (fun v1896 ev1896 => ?_)
                  refine lv_goto (tgt := 85) hx hb dX6_goalWind_81 (by decide) ?_
                  exact ro_ret hC hr hk dX6_goalWind_85 trivial
            · replace c1892 := nle_i c1892
              refine lv_aload_n hx hb dX6_goalWind_45 rfl (lv_at hl 3 rfl) ?_
              refine va_get (D := D) (ci := 6) (v := .ref wa2) (C := RX7) (T := TX7) (N := 7) hx hb hts in_X7 hown hE.1 hP 0 rfl rfl 2 (by decide) (hts _ w_278) (fun _ h9 => h9) rfl dX6_goalWind_46 ?_
              refine lv_iload_n hx hb dX6_goalWind_49 rfl (lv_at hl 1 rfl) ?_
              refine va_iald hx hb hE.1 hP 1 1 rfl rfl (vp_in_iff.mpr (by omega)) dX6_goalWind_50 ?_
              refine lv_topi (fun v1897 ev1897 => ?_)
              refine lv_iconst (v := 4) hx hb dX6_goalWind_51 (by decide) ?_
              refine lv_idiv hx hb dX6_goalWind_52 (by decide) ?_
              refine lv_topi (fun v1898 ev1898 => ?_)
              refine lv_istore_n (lv' := [(3, .int v1898), (4, .int i1880), (2, .int r1868), (0, .ref w), (1, .int p0)]) hx hb dX6_goalWind_53 rfl hl (by decide) rfl (fun ls hl => ?_)
              obtain ⟨v1899, ev1899⟩ : ∃ z : Int32, z = i1880 + (-1) := ⟨_, rfl⟩
              refine lv_iinc (v := v1899) (lv' := [(4, .int v1899), (3, .int v1898), (2, .int r1868), (0, .ref w), (1, .int p0)]) hx hb dX6_goalWind_54 hl (k := 1) rfl (by rw [ev1899]; rfl) (by decide) rfl (fun ls hl => ?_)
              refine lv_goto (tgt := 26) hx hb dX6_goalWind_57 (by decide) ?_
              have tv1899 : v1899.toInt = (i1880 : Int32).toInt + ((-1) : Int32).toInt := add_i ev1899 (by omega) (by omega)
              have tv1898 := div_i (n := 4) ev1898 (by decide) (by decide)
              exact ih_26 (i1880 := v1899) (i1881 := v1898) (ls := ls) (hn_26 := by omega) (hl := lv_sub hl [0, 1, 2, 3, 4] rfl)
    · replace c1870 := nlt_i c1870
      refine lv_iconst (v := (-1)) hx hb dX6_goalWind_14 (by decide) ?_
      exact ro_ret hC hr hk dX6_goalWind_15 trivial
set_option maxRecDepth 40000 in
set_option maxHeartbeats 4000000 in
theorem c_X1_aimAt (l : Launch) (D : va_G) (K : Nat → ClassId) (w : Nat) (wa0 : Nat) (wa1 : Nat) (wa2 : Nat) (wa6 : Nat) (wn3 : Int32) (wn4 : Int32) (wn5 : Int32) (wn7 : Int32) (wn8 : Int32) (wn9 : Int32) (p0 : Int32) (p1 : Int32) (p2 : Int32) : Cv (S := ((Nat → Int32) × (Nat → Nat → Int32) × (Nat → Nat → Int64))) l D K yX1_aimAt cX1_aimAt 4 0 0 0 0 [.ref w, .int p0, .int p1, .int p2] [(w, .inr (1, [.ref wa0, .ref wa1, .ref wa2, .int wn3, .int wn4, .int wn5, .ref wa6, .int wn7, .int wn8, .int wn9]))] (fun _ => True) (fun u => [(w, .inr (1, [.ref wa0, .ref wa1, .ref wa2, .int wn3, .int wn4, .int wn5, .ref wa6, .int (u.1 0), .int (u.1 1), .int (u.1 2)]))]) := by
  intro sz
  refine ch_of (y := yX1_aimAt) (cc := cX1_aimAt) (maxL := 4) (ret := none) (av := [.ref w, .int p0, .int p1, .int p2]) (ws := [(w, .inr (1, [.ref wa0, .ref wa1, .ref wa2, .int wn3, .int wn4, .int wn5, .ref wa6, .int wn7, .int wn8, .int wn9]))]) (D := D) (K := K) (Qc := fun A => va_Qv (S := ((Nat → Int32) × (Nat → Nat → Int32) × (Nat → Nat → Int64))) (fun _ => True) (chB D A (fun u => [(w, .inr (1, [.ref wa0, .ref wa1, .ref wa2, .int wn3, .int wn4, .int wn5, .ref wa6, .int (u.1 0), .int (u.1 1), .int (u.1 2)]))])) A) (by decide) (Nat.le_of_ble_eq_true rfl) ?_
  intro p e s m below meth c A hC hr hk hin hE hD hA H locs hP hS ls hl
  replace hC : CallFix p m c cX1_aimAt 4 s [.ref w, .int p0, .int p1, .int p2].toArray wl RX1 := hC
  have hx := hC.1
  have hb := hC.2.1
  have hml := hC.2.2.1
  have hown := hC.2.2.2.1
  have hts := hC.2.2.2.2
  replace hl : lv_has ls 4 [(0, .ref w), (1, .int p0), (2, .int p1), (3, .int p2)] := hl
  refine lv_aload_n hx hb dX1_aimAt_0 rfl (lv_at hl 0 rfl) ?_
  refine lv_iload_n hx hb dX1_aimAt_1 rfl (lv_at hl 1 rfl) ?_
  refine va_put (D := D) (ci := 1) (v := .int p0) (ty := .int) (C := RX1) (T := TX1) (N := 10) hx hb hts in_X1 tyX1 tyX1_ok nmX1 hown hE.1 hP hD hS 0 rfl rfl 7 (by decide) (hts _ w_300) (fun _ h9 => h9) rfl (by decide +kernel) rfl rfl (Nat.le_of_ble_eq_true rfl) dX1_aimAt_2 (fun H locs hP hD hS => ?_)
  replace hP : va_P D vwCl [(w, .inr (1, [.ref wa0, .ref wa1, .ref wa2, .int wn3, .int wn4, .int wn5, .ref wa6, .int p0, .int wn8, .int wn9]))] H := hP
  replace hD : va_D A [(w, .inr (1, [.ref wa0, .ref wa1, .ref wa2, .int wn3, .int wn4, .int wn5, .ref wa6, .int p0, .int wn8, .int wn9]))] := hD
  refine lv_aload_n hx hb dX1_aimAt_5 rfl (lv_at hl 0 rfl) ?_
  refine lv_iload_n hx hb dX1_aimAt_6 rfl (lv_at hl 2 rfl) ?_
  refine va_put (D := D) (ci := 1) (v := .int p1) (ty := .int) (C := RX1) (T := TX1) (N := 10) hx hb hts in_X1 tyX1 tyX1_ok nmX1 hown hE.1 hP hD hS 0 rfl rfl 8 (by decide) (hts _ w_301) (fun _ h9 => h9) rfl (by decide +kernel) rfl rfl (Nat.le_of_ble_eq_true rfl) dX1_aimAt_7 (fun H locs hP hD hS => ?_)
  replace hP : va_P D vwCl [(w, .inr (1, [.ref wa0, .ref wa1, .ref wa2, .int wn3, .int wn4, .int wn5, .ref wa6, .int p0, .int p1, .int wn9]))] H := hP
  replace hD : va_D A [(w, .inr (1, [.ref wa0, .ref wa1, .ref wa2, .int wn3, .int wn4, .int wn5, .ref wa6, .int p0, .int p1, .int wn9]))] := hD
  refine lv_aload_n hx hb dX1_aimAt_10 rfl (lv_at hl 0 rfl) ?_
  refine lv_iload_n hx hb dX1_aimAt_11 rfl (lv_at hl 3 rfl) ?_
  refine va_put (D := D) (ci := 1) (v := .int p2) (ty := .int) (C := RX1) (T := TX1) (N := 10) hx hb hts in_X1 tyX1 tyX1_ok nmX1 hown hE.1 hP hD hS 0 rfl rfl 9 (by decide) (hts _ w_302) (fun _ h9 => h9) rfl (by decide +kernel) rfl rfl (Nat.le_of_ble_eq_true rfl) dX1_aimAt_12 (fun H locs hP hD hS => ?_)
  replace hP : va_P D vwCl [(w, .inr (1, [.ref wa0, .ref wa1, .ref wa2, .int wn3, .int wn4, .int wn5, .ref wa6, .int p0, .int p1, .int p2]))] H := hP
  replace hD : va_D A [(w, .inr (1, [.ref wa0, .ref wa1, .ref wa2, .int wn3, .int wn4, .int wn5, .ref wa6, .int p0, .int p1, .int p2]))] := hD
  refine W.widen (k := 0) (n := 0) (by decide) (by decide) ?_
  exact ch_vret hC hr hk hS dX1_aimAt_15 ((fun k => [p0, p1, p2].getD k 0, fun k => [].getD k (fun _ => 0), fun k => [].getD k (fun _ => 0)) : ((Nat → Int32) × (Nat → Nat → Int32) × (Nat → Nat → Int64))) trivial (hP.sub [0] rfl) (hD.sub [0] (by decide) rfl)
set_option maxRecDepth 40000 in
set_option maxHeartbeats 4000000 in
theorem c_X1_next (l : Launch) (D : va_G) (K : Nat → ClassId) (w : Nat) (wa0 : Nat) (wa1 : Nat) (wa2 : Nat) (wa6 : Nat) (v : Nat) (va0 : Nat) (va1 : Nat) (va2 : Nat) (va3 : Nat) (va4 : Nat) (va5 : Nat) (va6 : Nat) (va7 : Nat) (wn3 : Int32) (wn4 : Int32) (wn5 : Int32) (wn7 : Int32) (wn8 : Int32) (wn9 : Int32) (wa6n0 : Int32) (wa6n1 : Int32) (wa6n2 : Int32) (vn8 : Int32) (vn9 : Int32) (vn10 : Int32) (vn11 : Int32) (vf0 : Nat → Int32) (vf1 : Nat → Int32) (p1 : Int32) (p2 : Int32) : Ci (S := ((Nat → Int32) × (Nat → Nat → Int32) × (Nat → Nat → Int64))) l D K yX1_next cX1_next 4 (some .int) 3 68 0 0 [.ref w, .ref v, .int p1, .int p2] [(w, .inr (1, [.ref wa0, .ref wa1, .ref wa2, .int wn3, .int wn4, .int wn5, .ref wa6, .int wn7, .int wn8, .int wn9])), (wa6, .inr (8, [.int wa6n0, .int wa6n1, .int wa6n2])), (v, .inr (9, [.ref va0, .ref va1, .ref va2, .ref va3, .ref va4, .ref va5, .ref va6, .ref va7, .int vn8, .int vn9, .int vn10, .int vn11])), (va0, .inl (K 1, 40, .inl vf0)), (va1, .inl (K 1, 10, .inl vf1))] (fun _ _ => True) (fun u => [(w, .inr (1, [.ref wa0, .ref wa1, .ref wa2, .int wn3, .int wn4, .int wn5, .ref wa6, .int wn7, .int wn8, .int wn9])), (wa6, .inr (8, [.int (u.1 0), .int (u.1 1), .int (u.1 2)])), (v, .inr (9, [.ref va0, .ref va1, .ref va2, .ref va3, .ref va4, .ref va5, .ref va6, .ref va7, .int vn8, .int vn9, .int vn10, .int vn11])), (va0, .inl (K 1, 40, .inl vf0)), (va1, .inl (K 1, 10, .inl vf1))]) := by
  intro sz
  refine ch_of (y := yX1_next) (cc := cX1_next) (maxL := 4) (ret := (some .int)) (av := [.ref w, .ref v, .int p1, .int p2]) (ws := [(w, .inr (1, [.ref wa0, .ref wa1, .ref wa2, .int wn3, .int wn4, .int wn5, .ref wa6, .int wn7, .int wn8, .int wn9])), (wa6, .inr (8, [.int wa6n0, .int wa6n1, .int wa6n2])), (v, .inr (9, [.ref va0, .ref va1, .ref va2, .ref va3, .ref va4, .ref va5, .ref va6, .ref va7, .int vn8, .int vn9, .int vn10, .int vn11])), (va0, .inl (K 1, 40, .inl vf0)), (va1, .inl (K 1, 10, .inl vf1))]) (D := D) (K := K) (Qc := fun A => va_Qi (S := ((Nat → Int32) × (Nat → Nat → Int32) × (Nat → Nat → Int64))) (fun _ _ => True) (chB D A (fun u => [(w, .inr (1, [.ref wa0, .ref wa1, .ref wa2, .int wn3, .int wn4, .int wn5, .ref wa6, .int wn7, .int wn8, .int wn9])), (wa6, .inr (8, [.int (u.1 0), .int (u.1 1), .int (u.1 2)])), (v, .inr (9, [.ref va0, .ref va1, .ref va2, .ref va3, .ref va4, .ref va5, .ref va6, .ref va7, .int vn8, .int vn9, .int vn10, .int vn11])), (va0, .inl (K 1, 40, .inl vf0)), (va1, .inl (K 1, 10, .inl vf1))])) A) (by decide) (Nat.le_of_ble_eq_true rfl) ?_
  intro p e s m below meth c A hC hr hk hin hE hD hA H locs hP hS ls hl
  replace hC : CallFix p m c cX1_next 4 s [.ref w, .ref v, .int p1, .int p2].toArray wl RX1 := hC
  have hx := hC.1
  have hb := hC.2.1
  have hml := hC.2.2.1
  have hown := hC.2.2.2.1
  have hts := hC.2.2.2.2
  replace hl : lv_has ls 4 [(0, .ref w), (1, .ref v), (2, .int p1), (3, .int p2)] := hl
  refine lv_aload_n hx hb dX1_next_0 rfl (lv_at hl 0 rfl) ?_
  refine va_get (D := D) (ci := 1) (v := .ref wa6) (C := RX1) (T := TX1) (N := 10) hx hb hts in_X1 hown hE.1 hP 0 rfl rfl 6 (by decide) (hts _ w_303) (fun _ h9 => h9) rfl dX1_next_1 ?_
  refine lv_iload_n hx hb dX1_next_4 rfl (lv_at hl 2 rfl) ?_
  refine lv_sipush (v := 1024) hx hb dX1_next_5 (by decide) ?_
  refine lv_idiv hx hb dX1_next_8 (by decide) ?_
  refine lv_topi (fun v1908 ev1908 => ?_)
  refine lv_iload_n hx hb dX1_next_9 rfl (lv_at hl 2 rfl) ?_
  refine lv_sipush (v := 1024) hx hb dX1_next_10 (by decide) ?_
  refine lv_irem hx hb dX1_next_13 (by decide) ?_
  refine lv_topi (fun v1909 ev1909 => ?_)
  refine lv_aload_n hx hb dX1_next_14 rfl (lv_at hl 0 rfl) ?_
  refine va_get (D := D) (ci := 1) (v := .int wn7) (C := RX1) (T := TX1) (N := 10) hx hb hts in_X1 hown hE.1 hP 0 rfl rfl 7 (by decide) (hts _ w_300) (fun _ h9 => h9) rfl dX1_next_15 ?_
  refine cv_V (As := [.int v1908, .int v1909, .int wn7]) (rest := []) (wc := [(wa6, .inr (8, [.int wa6n0, .int wa6n1, .int wa6n2]))]) (wr := [(w, .inr (1, [.ref wa0, .ref wa1, .ref wa2, .int wn3, .int wn4, .int wn5, .ref wa6, .int wn7, .int wn8, .int wn9])), (v, .inr (9, [.ref va0, .ref va1, .ref va2, .ref va3, .ref va4, .ref va5, .ref va6, .ref va7, .int vn8, .int vn9, .int vn10, .int vn11])), (va0, .inl (K 1, 40, .inl vf0)), (va1, .inl (K 1, 10, .inl vf1))]) hC hE kV_X1_30 (c_X9_place l D K wa6 wa6n0 wa6n1 wa6n2 v1908 v1909 wn7) hP hD hS hA [1] [0, 2, 3, 4] rfl rfl rfl (by decide) (by decide) (by decide) 0 8 rfl rfl rfl hl.1 rfl (Nat.le_of_ble_eq_true rfl) (by decide) (by decide) dX1_next_18 (fun u1910 H locs hw hP hD hS => ?_)
  replace hP : va_P D vwCl [(w, .inr (1, [.ref wa0, .ref wa1, .ref wa2, .int wn3, .int wn4, .int wn5, .ref wa6, .int wn7, .int wn8, .int wn9])), (v, .inr (9, [.ref va0, .ref va1, .ref va2, .ref va3, .ref va4, .ref va5, .ref va6, .ref va7, .int vn8, .int vn9, .int vn10, .int vn11])), (va0, .inl (K 1, 40, .inl vf0)), (va1, .inl (K 1, 10, .inl vf1)), (wa6, .inr (8, [.int (u1910.1 0), .int (u1910.1 1), .int (u1910.1 2)]))] H := hP
  replace hD : va_D A [(w, .inr (1, [.ref wa0, .ref wa1, .ref wa2, .int wn3, .int wn4, .int wn5, .ref wa6, .int wn7, .int wn8, .int wn9])), (v, .inr (9, [.ref va0, .ref va1, .ref va2, .ref va3, .ref va4, .ref va5, .ref va6, .ref va7, .int vn8, .int vn9, .int vn10, .int vn11])), (va0, .inl (K 1, 40, .inl vf0)), (va1, .inl (K 1, 10, .inl vf1)), (wa6, .inr (8, [.int (u1910.1 0), .int (u1910.1 1), .int (u1910.1 2)]))] := hD
  replace hP : va_P D vwCl [(w, .inr (1, [.ref wa0, .ref wa1, .ref wa2, .int wn3, .int wn4, .int wn5, .ref wa6, .int wn7, .int wn8, .int wn9])), (wa6, .inr (8, [.int (u1910.1 0), .int (u1910.1 1), .int (u1910.1 2)])), (v, .inr (9, [.ref va0, .ref va1, .ref va2, .ref va3, .ref va4, .ref va5, .ref va6, .ref va7, .int vn8, .int vn9, .int vn10, .int vn11])), (va0, .inl (K 1, 40, .inl vf0)), (va1, .inl (K 1, 10, .inl vf1))] H := hP.sub [0, 4, 1, 2, 3] rfl
  replace hD : va_D A [(w, .inr (1, [.ref wa0, .ref wa1, .ref wa2, .int wn3, .int wn4, .int wn5, .ref wa6, .int wn7, .int wn8, .int wn9])), (wa6, .inr (8, [.int (u1910.1 0), .int (u1910.1 1), .int (u1910.1 2)])), (v, .inr (9, [.ref va0, .ref va1, .ref va2, .ref va3, .ref va4, .ref va5, .ref va6, .ref va7, .int vn8, .int vn9, .int vn10, .int vn11])), (va0, .inl (K 1, 40, .inl vf0)), (va1, .inl (K 1, 10, .inl vf1))] := hD.sub [0, 4, 1, 2, 3] (by decide) rfl
  refine W.widen (k := 0) (n := 0) (by decide) (by decide) ?_
  refine lv_aload_n hx hb dX1_next_21 rfl (lv_at hl 0 rfl) ?_
  refine va_get (D := D) (ci := 1) (v := .ref wa6) (C := RX1) (T := TX1) (N := 10) hx hb hts in_X1 hown hE.1 hP 0 rfl rfl 6 (by decide) (hts _ w_303) (fun _ h9 => h9) rfl dX1_next_22 ?_
  refine lv_aload_n hx hb dX1_next_25 rfl (lv_at hl 1 rfl) ?_
  refine lv_iload_n hx hb dX1_next_26 rfl (lv_at hl 3 rfl) ?_
  refine cv_V (As := [.ref v, .int p2]) (rest := []) (wc := [(wa6, .inr (8, [.int (u1910.1 0), .int (u1910.1 1), .int (u1910.1 2)])), (v, .inr (9, [.ref va0, .ref va1, .ref va2, .ref va3, .ref va4, .ref va5, .ref va6, .ref va7, .int vn8, .int vn9, .int vn10, .int vn11])), (va0, .inl (K 1, 40, .inl vf0)), (va1, .inl (K 1, 10, .inl vf1))]) (wr := [(w, .inr (1, [.ref wa0, .ref wa1, .ref wa2, .int wn3, .int wn4, .int wn5, .ref wa6, .int wn7, .int wn8, .int wn9]))]) hC hE kV_X1_34 (c_X9_step l D K wa6 v va0 va1 va2 va3 va4 va5 va6 va7 (u1910.1 0) (u1910.1 1) (u1910.1 2) vn8 vn9 vn10 vn11 vf0 vf1 p2) hP hD hS hA [1, 2, 3, 4] [0] rfl rfl rfl (by decide) (by decide) (by decide) 0 8 rfl rfl rfl hl.1 rfl (Nat.le_of_ble_eq_true rfl) (by decide) (by decide) dX1_next_27 (fun u1912 H locs hw hP hD hS => ?_)
  replace hP : va_P D vwCl [(w, .inr (1, [.ref wa0, .ref wa1, .ref wa2, .int wn3, .int wn4, .int wn5, .ref wa6, .int wn7, .int wn8, .int wn9])), (wa6, .inr (8, [.int (u1912.1 0), .int (u1912.1 1), .int (u1910.1 2)])), (v, .inr (9, [.ref va0, .ref va1, .ref va2, .ref va3, .ref va4, .ref va5, .ref va6, .ref va7, .int vn8, .int vn9, .int vn10, .int vn11])), (va0, .inl (K 1, 40, .inl vf0)), (va1, .inl (K 1, 10, .inl vf1))] H := hP
  replace hD : va_D A [(w, .inr (1, [.ref wa0, .ref wa1, .ref wa2, .int wn3, .int wn4, .int wn5, .ref wa6, .int wn7, .int wn8, .int wn9])), (wa6, .inr (8, [.int (u1912.1 0), .int (u1912.1 1), .int (u1910.1 2)])), (v, .inr (9, [.ref va0, .ref va1, .ref va2, .ref va3, .ref va4, .ref va5, .ref va6, .ref va7, .int vn8, .int vn9, .int vn10, .int vn11])), (va0, .inl (K 1, 40, .inl vf0)), (va1, .inl (K 1, 10, .inl vf1))] := hD
  replace hP : va_P D vwCl [(w, .inr (1, [.ref wa0, .ref wa1, .ref wa2, .int wn3, .int wn4, .int wn5, .ref wa6, .int wn7, .int wn8, .int wn9])), (wa6, .inr (8, [.int (u1912.1 0), .int (u1912.1 1), .int (u1910.1 2)])), (v, .inr (9, [.ref va0, .ref va1, .ref va2, .ref va3, .ref va4, .ref va5, .ref va6, .ref va7, .int vn8, .int vn9, .int vn10, .int vn11])), (va0, .inl (K 1, 40, .inl vf0)), (va1, .inl (K 1, 10, .inl vf1))] H := hP.sub [0, 1, 2, 3, 4] rfl
  replace hD : va_D A [(w, .inr (1, [.ref wa0, .ref wa1, .ref wa2, .int wn3, .int wn4, .int wn5, .ref wa6, .int wn7, .int wn8, .int wn9])), (wa6, .inr (8, [.int (u1912.1 0), .int (u1912.1 1), .int (u1910.1 2)])), (v, .inr (9, [.ref va0, .ref va1, .ref va2, .ref va3, .ref va4, .ref va5, .ref va6, .ref va7, .int vn8, .int vn9, .int vn10, .int vn11])), (va0, .inl (K 1, 40, .inl vf0)), (va1, .inl (K 1, 10, .inl vf1))] := hD.sub [0, 1, 2, 3, 4] (by decide) rfl
  refine W.widen (k := 0) (n := 0) (by decide) (by decide) ?_
  refine lv_aload_n hx hb dX1_next_30 rfl (lv_at hl 0 rfl) ?_
  refine va_get (D := D) (ci := 1) (v := .ref wa6) (C := RX1) (T := TX1) (N := 10) hx hb hts in_X1 hown hE.1 hP 0 rfl rfl 6 (by decide) (hts _ w_303) (fun _ h9 => h9) rfl dX1_next_31 ?_
  refine va_get (D := D) (ci := 8) (v := .int (u1912.1 0)) (C := RX9) (T := TX9) (N := 3) hx hb hts in_X9 hown hE.1 hP 1 rfl rfl 0 (by decide) (hts _ w_304) (fun _ h9 => h9) rfl dX1_next_34 ?_
  refine lv_sipush (v := 1024) hx hb dX1_next_37 (by decide) ?_
  refine lv_imul hx hb dX1_next_40 ?_
  refine lv_topi (fun v1914 ev1914 => ?_)
  refine lv_aload_n hx hb dX1_next_41 rfl (lv_at hl 0 rfl) ?_
  refine va_get (D := D) (ci := 1) (v := .ref wa6) (C := RX1) (T := TX1) (N := 10) hx hb hts in_X1 hown hE.1 hP 0 rfl rfl 6 (by decide) (hts _ w_303) (fun _ h9 => h9) rfl dX1_next_42 ?_
  refine va_get (D := D) (ci := 8) (v := .int (u1912.1 1)) (C := RX9) (T := TX9) (N := 3) hx hb hts in_X9 hown hE.1 hP 1 rfl rfl 1 (by decide) (hts _ w_305) (fun _ h9 => h9) rfl dX1_next_45 ?_
  refine lv_iadd hx hb dX1_next_48 ?_
  refine lv_topi (fun v1915 ev1915 => ?_)
  refine W.widen (k := 0) (n := 0) (by decide) (by decide) ?_
  exact ch_iret hC hr hk hS dX1_next_49 ((fun k => [(u1912.1 0), (u1912.1 1), (u1910.1 2)].getD k 0, fun k => [].getD k (fun _ => 0), fun k => [].getD k (fun _ => 0)) : ((Nat → Int32) × (Nat → Nat → Int32) × (Nat → Nat → Int64))) trivial (hP.sub [0, 1, 2, 3, 4] rfl) (hD.sub [0, 1, 2, 3, 4] (by decide) rfl)
set_option maxRecDepth 40000 in
set_option maxHeartbeats 4000000 in
theorem c_X1_ends (l : Launch) (D : va_G) (K : Nat → ClassId) (w : Nat) (wa0 : Nat) (wa1 : Nat) (wa2 : Nat) (wa6 : Nat) (v : Nat) (wn3 : Int32) (wn4 : Int32) (wn5 : Int32) (wn7 : Int32) (wn8 : Int32) (wn9 : Int32) (wa6n0 : Int32) (wa6n1 : Int32) (wa6n2 : Int32) (p1 : Int32) : Ci (S := ((Nat → Int32) × (Nat → Nat → Int32) × (Nat → Nat → Int64))) l D K yX1_ends cX1_ends 3 (some .boolean) 2 40 0 0 [.ref w, .ref v, .int p1] [(w, .inr (1, [.ref wa0, .ref wa1, .ref wa2, .int wn3, .int wn4, .int wn5, .ref wa6, .int wn7, .int wn8, .int wn9])), (wa6, .inr (8, [.int wa6n0, .int wa6n1, .int wa6n2]))] (fun r u => ((r = 0) ∨ (r = 1))) (fun u => [(w, .inr (1, [.ref wa0, .ref wa1, .ref wa2, .int wn3, .int wn4, .int wn5, .ref wa6, .int wn7, .int wn8, .int wn9])), (wa6, .inr (8, [.int (u.1 0), .int (u.1 1), .int (u.1 2)]))]) := by
  intro sz
  refine ch_of (y := yX1_ends) (cc := cX1_ends) (maxL := 3) (ret := (some .boolean)) (av := [.ref w, .ref v, .int p1]) (ws := [(w, .inr (1, [.ref wa0, .ref wa1, .ref wa2, .int wn3, .int wn4, .int wn5, .ref wa6, .int wn7, .int wn8, .int wn9])), (wa6, .inr (8, [.int wa6n0, .int wa6n1, .int wa6n2]))]) (D := D) (K := K) (Qc := fun A => va_Qi (S := ((Nat → Int32) × (Nat → Nat → Int32) × (Nat → Nat → Int64))) (fun r u => ((r = 0) ∨ (r = 1))) (chB D A (fun u => [(w, .inr (1, [.ref wa0, .ref wa1, .ref wa2, .int wn3, .int wn4, .int wn5, .ref wa6, .int wn7, .int wn8, .int wn9])), (wa6, .inr (8, [.int (u.1 0), .int (u.1 1), .int (u.1 2)]))])) A) (by decide) (Nat.le_of_ble_eq_true rfl) ?_
  intro p e s m below meth c A hC hr hk hin hE hD hA H locs hP hS ls hl
  replace hC : CallFix p m c cX1_ends 3 s [.ref w, .ref v, .int p1].toArray wl RX1 := hC
  have hx := hC.1
  have hb := hC.2.1
  have hml := hC.2.2.1
  have hown := hC.2.2.2.1
  have hts := hC.2.2.2.2
  replace hl : lv_has ls 3 [(0, .ref w), (1, .ref v), (2, .int p1)] := hl
  have kc_1 : (1 : Int32).toInt = 1 := by decide
  have kc_2 : (2 : Int32).toInt = 2 := by decide
  have kc_3 : (3 : Int32).toInt = 3 := by decide
  refine lv_aload_n hx hb dX1_ends_0 rfl (lv_at hl 0 rfl) ?_
  refine va_get (D := D) (ci := 1) (v := .ref wa6) (C := RX1) (T := TX1) (N := 10) hx hb hts in_X1 hown hE.1 hP 0 rfl rfl 6 (by decide) (hts _ w_303) (fun _ h9 => h9) rfl dX1_ends_1 ?_
  refine lv_iload_n hx hb dX1_ends_4 rfl (lv_at hl 2 rfl) ?_
  refine lv_sipush (v := 1024) hx hb dX1_ends_5 (by decide) ?_
  refine lv_idiv hx hb dX1_ends_8 (by decide) ?_
  refine lv_topi (fun v1927 ev1927 => ?_)
  refine lv_iload_n hx hb dX1_ends_9 rfl (lv_at hl 2 rfl) ?_
  refine lv_sipush (v := 1024) hx hb dX1_ends_10 (by decide) ?_
  refine lv_irem hx hb dX1_ends_13 (by decide) ?_
  refine lv_topi (fun v1928 ev1928 => ?_)
  refine lv_aload_n hx hb dX1_ends_14 rfl (lv_at hl 0 rfl) ?_
  refine va_get (D := D) (ci := 1) (v := .int wn7) (C := RX1) (T := TX1) (N := 10) hx hb hts in_X1 hown hE.1 hP 0 rfl rfl 7 (by decide) (hts _ w_300) (fun _ h9 => h9) rfl dX1_ends_15 ?_
  refine cv_V (As := [.int v1927, .int v1928, .int wn7]) (rest := []) (wc := [(wa6, .inr (8, [.int wa6n0, .int wa6n1, .int wa6n2]))]) (wr := [(w, .inr (1, [.ref wa0, .ref wa1, .ref wa2, .int wn3, .int wn4, .int wn5, .ref wa6, .int wn7, .int wn8, .int wn9]))]) hC hE kV_X1_30 (c_X9_place l D K wa6 wa6n0 wa6n1 wa6n2 v1927 v1928 wn7) hP hD hS hA [1] [0] rfl rfl rfl (by decide) (by decide) (by decide) 0 8 rfl rfl rfl hl.1 rfl (Nat.le_of_ble_eq_true rfl) (by decide) (by decide) dX1_ends_18 (fun u1929 H locs hw hP hD hS => ?_)
  replace hP : va_P D vwCl [(w, .inr (1, [.ref wa0, .ref wa1, .ref wa2, .int wn3, .int wn4, .int wn5, .ref wa6, .int wn7, .int wn8, .int wn9])), (wa6, .inr (8, [.int (u1929.1 0), .int (u1929.1 1), .int (u1929.1 2)]))] H := hP
  replace hD : va_D A [(w, .inr (1, [.ref wa0, .ref wa1, .ref wa2, .int wn3, .int wn4, .int wn5, .ref wa6, .int wn7, .int wn8, .int wn9])), (wa6, .inr (8, [.int (u1929.1 0), .int (u1929.1 1), .int (u1929.1 2)]))] := hD
  replace hP : va_P D vwCl [(w, .inr (1, [.ref wa0, .ref wa1, .ref wa2, .int wn3, .int wn4, .int wn5, .ref wa6, .int wn7, .int wn8, .int wn9])), (wa6, .inr (8, [.int (u1929.1 0), .int (u1929.1 1), .int (u1929.1 2)]))] H := hP.sub [0, 1] rfl
  replace hD : va_D A [(w, .inr (1, [.ref wa0, .ref wa1, .ref wa2, .int wn3, .int wn4, .int wn5, .ref wa6, .int wn7, .int wn8, .int wn9])), (wa6, .inr (8, [.int (u1929.1 0), .int (u1929.1 1), .int (u1929.1 2)]))] := hD.sub [0, 1] (by decide) rfl
  refine W.widen (k := 0) (n := 0) (by decide) (by decide) ?_
  refine lv_aload_n hx hb dX1_ends_21 rfl (lv_at hl 0 rfl) ?_
  refine va_get (D := D) (ci := 1) (v := .int wn8) (C := RX1) (T := TX1) (N := 10) hx hb hts in_X1 hown hE.1 hP 0 rfl rfl 8 (by decide) (hts _ w_301) (fun _ h9 => h9) rfl dX1_ends_22 ?_
  by_cases c1931 : wn8 = 1
  · refine tc (y := 1) c1931 ?_
    refine lv_tableIn (off := 27) (tgt := 52) hx hb dX1_ends_25 (by decide) (by decide) (by decide +kernel) (by decide) ?_
    refine lv_aload_n hx hb dX1_ends_52 rfl (lv_at hl 0 rfl) ?_
    refine va_get (D := D) (ci := 1) (v := .ref wa6) (C := RX1) (T := TX1) (N := 10) hx hb hts in_X1 hown hE.1 hP 0 rfl rfl 6 (by decide) (hts _ w_303) (fun _ h9 => h9) rfl dX1_ends_53 ?_
    refine ro_V (As := []) (rest := []) hC hE kV_X1_44 (c_X9_doubt l D K wa6 (u1929.1 0) (u1929.1 1) (u1929.1 2)) (hP.sub (ws' := [(wa6, .inr (8, [.int (u1929.1 0), .int (u1929.1 1), .int (u1929.1 2)]))]) [1] rfl) 0 8 rfl rfl rfl hl.1 rfl (Nat.le_of_ble_eq_true rfl) (by decide) (by decide) dX1_ends_56 (fun r1932 _ => ?_)
    refine lv_aload_n hx hb dX1_ends_59 rfl (lv_at hl 0 rfl) ?_
    refine va_get (D := D) (ci := 1) (v := .int wn9) (C := RX1) (T := TX1) (N := 10) hx hb hts in_X1 hown hE.1 hP 0 rfl rfl 9 (by decide) (hts _ w_302) (fun _ h9 => h9) rfl dX1_ends_60 ?_
    refine lv_icmp_lt (tgt := 70) hx hb dX1_ends_63 (by decide) (fun c1933 => ?_) (fun c1933 => ?_)
    · replace c1933 := lt_i c1933
      refine lv_iconst (v := 0) hx hb dX1_ends_70 (by decide) ?_
      refine W.widen (k := 0) (n := 0) (by decide) (by decide) ?_
      exact ch_zret hC hr hk hS dX1_ends_71 rfl ((fun k => [(u1929.1 0), (u1929.1 1), (u1929.1 2)].getD k 0, fun k => [].getD k (fun _ => 0), fun k => [].getD k (fun _ => 0)) : ((Nat → Int32) × (Nat → Nat → Int32) × (Nat → Nat → Int64))) (Or.inl rfl) (hP.sub [0, 1] rfl) (hD.sub [0, 1] (by decide) rfl)
    · replace c1933 := nlt_i c1933
      refine lv_iconst (v := 1) hx hb dX1_ends_66 (by decide) ?_
      refine lv_goto (tgt := 71) hx hb dX1_ends_67 (by decide) ?_
      refine W.widen (k := 0) (n := 0) (by decide) (by decide) ?_
      exact ch_zret hC hr hk hS dX1_ends_71 rfl ((fun k => [(u1929.1 0), (u1929.1 1), (u1929.1 2)].getD k 0, fun k => [].getD k (fun _ => 0), fun k => [].getD k (fun _ => 0)) : ((Nat → Int32) × (Nat → Nat → Int32) × (Nat → Nat → Int64))) (Or.inr rfl) (hP.sub [0, 1] rfl) (hD.sub [0, 1] (by decide) rfl)
  · replace c1931 := ne_i c1931
    by_cases c1934 : wn8 = 2
    · refine tc (y := 2) c1934 ?_
      refine lv_tableIn (off := 47) (tgt := 72) hx hb dX1_ends_25 (by decide) (by decide) (by decide +kernel) (by decide) ?_
      refine lv_aload_n hx hb dX1_ends_72 rfl (lv_at hl 0 rfl) ?_
      refine va_get (D := D) (ci := 1) (v := .ref wa6) (C := RX1) (T := TX1) (N := 10) hx hb hts in_X1 hown hE.1 hP 0 rfl rfl 6 (by decide) (hts _ w_303) (fun _ h9 => h9) rfl dX1_ends_73 ?_
      refine ro_V (As := []) (rest := []) hC hE kV_X1_48 (c_X9_isAstray l D K wa6 (u1929.1 0) (u1929.1 1) (u1929.1 2)) (hP.sub (ws' := [(wa6, .inr (8, [.int (u1929.1 0), .int (u1929.1 1), .int (u1929.1 2)]))]) [1] rfl) 0 8 rfl rfl rfl hl.1 rfl (Nat.le_of_ble_eq_true rfl) (by decide) (by decide) dX1_ends_76 (fun r1935 hq => ?_)
      rcases hq with rfl | rfl
      · refine W.widen (k := 0) (n := 0) (by decide) (by decide) ?_
        exact ch_zret hC hr hk hS dX1_ends_79 rfl ((fun k => [(u1929.1 0), (u1929.1 1), (u1929.1 2)].getD k 0, fun k => [].getD k (fun _ => 0), fun k => [].getD k (fun _ => 0)) : ((Nat → Int32) × (Nat → Nat → Int32) × (Nat → Nat → Int64))) (Or.inl rfl) (hP.sub [0, 1] rfl) (hD.sub [0, 1] (by decide) rfl)
      · refine W.widen (k := 0) (n := 0) (by decide) (by decide) ?_
        exact ch_zret hC hr hk hS dX1_ends_79 rfl ((fun k => [(u1929.1 0), (u1929.1 1), (u1929.1 2)].getD k 0, fun k => [].getD k (fun _ => 0), fun k => [].getD k (fun _ => 0)) : ((Nat → Int32) × (Nat → Nat → Int32) × (Nat → Nat → Int64))) (Or.inr rfl) (hP.sub [0, 1] rfl) (hD.sub [0, 1] (by decide) rfl)
    · replace c1934 := ne_i c1934
      by_cases c1936 : wn8 = 3
      · refine tc (y := 3) c1936 ?_
        refine lv_tableIn (off := 55) (tgt := 80) hx hb dX1_ends_25 (by decide) (by decide) (by decide +kernel) (by decide) ?_
        refine lv_aload_n hx hb dX1_ends_80 rfl (lv_at hl 0 rfl) ?_
        refine va_get (D := D) (ci := 1) (v := .ref wa6) (C := RX1) (T := TX1) (N := 10) hx hb hts in_X1 hown hE.1 hP 0 rfl rfl 6 (by decide) (hts _ w_303) (fun _ h9 => h9) rfl dX1_ends_81 ?_
        refine ro_V (As := []) (rest := []) hC hE kV_X1_52 (c_X9_isSure l D K wa6 (u1929.1 0) (u1929.1 1) (u1929.1 2)) (hP.sub (ws' := [(wa6, .inr (8, [.int (u1929.1 0), .int (u1929.1 1), .int (u1929.1 2)]))]) [1] rfl) 0 8 rfl rfl rfl hl.1 rfl (Nat.le_of_ble_eq_true rfl) (by decide) (by decide) dX1_ends_84 (fun r1937 hq => ?_)
        rcases hq with rfl | rfl
        · refine W.widen (k := 0) (n := 0) (by decide) (by decide) ?_
          exact ch_zret hC hr hk hS dX1_ends_87 rfl ((fun k => [(u1929.1 0), (u1929.1 1), (u1929.1 2)].getD k 0, fun k => [].getD k (fun _ => 0), fun k => [].getD k (fun _ => 0)) : ((Nat → Int32) × (Nat → Nat → Int32) × (Nat → Nat → Int64))) (Or.inl rfl) (hP.sub [0, 1] rfl) (hD.sub [0, 1] (by decide) rfl)
        · refine W.widen (k := 0) (n := 0) (by decide) (by decide) ?_
          exact ch_zret hC hr hk hS dX1_ends_87 rfl ((fun k => [(u1929.1 0), (u1929.1 1), (u1929.1 2)].getD k 0, fun k => [].getD k (fun _ => 0), fun k => [].getD k (fun _ => 0)) : ((Nat → Int32) × (Nat → Nat → Int32) × (Nat → Nat → Int64))) (Or.inr rfl) (hP.sub [0, 1] rfl) (hD.sub [0, 1] (by decide) rfl)
      · replace c1936 := ne_i c1936
        refine lv_tableOut (tgt := 88) hx hb dX1_ends_25 (by omega) (by decide) ?_
        refine lv_iconst (v := 0) hx hb dX1_ends_88 (by decide) ?_
        refine W.widen (k := 0) (n := 0) (by decide) (by decide) ?_
        exact ch_zret hC hr hk hS dX1_ends_89 rfl ((fun k => [(u1929.1 0), (u1929.1 1), (u1929.1 2)].getD k 0, fun k => [].getD k (fun _ => 0), fun k => [].getD k (fun _ => 0)) : ((Nat → Int32) × (Nat → Nat → Int32) × (Nat → Nat → Int64))) (Or.inl rfl) (hP.sub [0, 1] rfl) (hD.sub [0, 1] (by decide) rfl)
set_option maxRecDepth 40000 in
set_option maxHeartbeats 4000000 in
theorem c_X7_next (l : Launch) (D : va_G) (K : Nat → ClassId) (w : Nat) (wa0 : Nat) (wa1 : Nat) (wa2 : Nat) (v : Nat) (va0 : Nat) (va1 : Nat) (va2 : Nat) (va3 : Nat) (va4 : Nat) (va5 : Nat) (va6 : Nat) (va7 : Nat) (wn3 : Int32) (wn4 : Int32) (wn5 : Int32) (wn6 : Int32) (vn8 : Int32) (vn9 : Int32) (vn10 : Int32) (vn11 : Int32) (vf0 : Nat → Int32) (p1 : Int32) (p2 : Int32) : Ro l D K yX7_next cX7_next 4 (some .int) 2 44 [.ref w, .ref v, .int p1, .int p2] [(w, .inr (6, [.ref wa0, .ref wa1, .ref wa2, .int wn3, .int wn4, .int wn5, .int wn6])), (v, .inr (9, [.ref va0, .ref va1, .ref va2, .ref va3, .ref va4, .ref va5, .ref va6, .ref va7, .int vn8, .int vn9, .int vn10, .int vn11])), (va0, .inl (K 1, 40, .inl vf0))] (fun _ => True) := by
  refine ro_of (by decide) (Nat.le_of_ble_eq_true rfl) ?_
  intro p e s m below meth c hC hr hk hE hP ls hl
  replace hC : CallFix p m c cX7_next 4 s [.ref w, .ref v, .int p1, .int p2].toArray wl RX7 := hC
  have hx := hC.1
  have hb := hC.2.1
  have hml := hC.2.2.1
  have hown := hC.2.2.2.1
  have hts := hC.2.2.2.2
  replace hl : lv_has ls 4 [(0, .ref w), (1, .ref v), (2, .int p1), (3, .int p2)] := hl
  refine lv_aload_n hx hb dX7_next_0 rfl (lv_at hl 1 rfl) ?_
  refine lv_iload_n hx hb dX7_next_1 rfl (lv_at hl 2 rfl) ?_
  refine lv_iload_n hx hb dX7_next_2 rfl (lv_at hl 3 rfl) ?_
  refine ro_V (As := [.int p1, .int p2]) (rest := []) hC hE kV_X7_19 (c_X10_spread l D K v va0 va1 va2 va3 va4 va5 va6 va7 vn8 vn9 vn10 vn11 vf0 p1 p2) (hP.sub (ws' := [(v, .inr (9, [.ref va0, .ref va1, .ref va2, .ref va3, .ref va4, .ref va5, .ref va6, .ref va7, .int vn8, .int vn9, .int vn10, .int vn11])), (va0, .inl (K 1, 40, .inl vf0))]) [1, 2] rfl) 0 9 rfl rfl rfl hl.1 rfl (Nat.le_of_ble_eq_true rfl) (by decide) (by decide) dX7_next_3 (fun r1938 _ => ?_)
  exact ro_ret hC hr hk dX7_next_6 trivial
set_option maxRecDepth 40000 in
set_option maxHeartbeats 4000000 in
theorem c_X7_ends (l : Launch) (D : va_G) (K : Nat → ClassId) (w : Nat) (wa0 : Nat) (wa1 : Nat) (wa2 : Nat) (v : Nat) (va0 : Nat) (va1 : Nat) (va2 : Nat) (va3 : Nat) (va4 : Nat) (va5 : Nat) (va6 : Nat) (va7 : Nat) (wn3 : Int32) (wn4 : Int32) (wn5 : Int32) (wn6 : Int32) (vn8 : Int32) (vn9 : Int32) (vn10 : Int32) (vn11 : Int32) (vf1 : Nat → Int32) (p1 : Int32) : Ro l D K yX7_ends cX7_ends 3 (some .boolean) 3 67 [.ref w, .ref v, .int p1] [(w, .inr (6, [.ref wa0, .ref wa1, .ref wa2, .int wn3, .int wn4, .int wn5, .int wn6])), (v, .inr (9, [.ref va0, .ref va1, .ref va2, .ref va3, .ref va4, .ref va5, .ref va6, .ref va7, .int vn8, .int vn9, .int vn10, .int vn11])), (va1, .inl (K 1, 10, .inl vf1))] (fun r => (r = 0) ∨ (r = 1)) := by
  refine ro_of (by decide) (Nat.le_of_ble_eq_true rfl) ?_
  intro p e s m below meth c hC hr hk hE hP ls hl
  replace hC : CallFix p m c cX7_ends 3 s [.ref w, .ref v, .int p1].toArray wl RX7 := hC
  have hx := hC.1
  have hb := hC.2.1
  have hml := hC.2.2.1
  have hown := hC.2.2.2.1
  have hts := hC.2.2.2.2
  replace hl : lv_has ls 3 [(0, .ref w), (1, .ref v), (2, .int p1)] := hl
  have kc_1 : (1 : Int32).toInt = 1 := by decide
  refine lv_aload_n hx hb dX7_ends_0 rfl (lv_at hl 0 rfl) ?_
  refine va_get (D := D) (ci := 6) (v := .int wn6) (C := RX7) (T := TX7) (N := 7) hx hb hts in_X7 hown hE.1 hP 0 rfl rfl 6 (by decide) (hts _ w_318) (fun _ h9 => h9) rfl dX7_ends_1 ?_
  by_cases c1939 : wn6 = 1
  · refine tc (y := 1) c1939 ?_
    refine lv_lookup (off := 28) (tgt := 32) hx hb dX7_ends_4 (by decide) (by decide) (by decide) ?_
    refine lv_iload_n hx hb dX7_ends_32 rfl (lv_at hl 2 rfl) ?_
    refine ro_S (As := [.int p1]) (rest := []) hC hE kS_X7_25 (c_J6_bitCount_0f7a4 l D K p1) (hP.sub (ws' := []) [] rfl) rfl hl.1 rfl (Nat.le_of_ble_eq_true rfl) (by decide) (by decide) dX7_ends_33 (fun r1940 _ => ?_)
    refine lv_iconst (v := 1) hx hb dX7_ends_36 (by decide) ?_
    refine lv_icmp_ne (tgt := 44) hx hb dX7_ends_37 (by decide) (fun c1941 => ?_) (fun c1941 => ?_)
    · replace c1941 := ne_i c1941
      refine lv_iconst (v := 0) hx hb dX7_ends_44 (by decide) ?_
      exact ro_zret hC hr hk dX7_ends_45 rfl (Or.inl rfl)
    · replace c1941 := eq_i c1941
      refine lv_iconst (v := 1) hx hb dX7_ends_40 (by decide) ?_
      refine lv_goto (tgt := 45) hx hb dX7_ends_41 (by decide) ?_
      exact ro_zret hC hr hk dX7_ends_45 rfl (Or.inr rfl)
  · have c1939n := ne_i c1939
    by_cases c1942 : wn6 = 2
    · refine tc (y := 2) c1942 ?_
      refine lv_lookup (off := 42) (tgt := 46) hx hb dX7_ends_4 (by decide) (by decide) (by decide) ?_
      refine lv_aload_n hx hb dX7_ends_46 rfl (lv_at hl 1 rfl) ?_
      refine lv_iload_n hx hb dX7_ends_47 rfl (lv_at hl 2 rfl) ?_
      refine lv_iconst (v := 0) hx hb dX7_ends_48 (by decide) ?_
      refine ro_S (As := [.ref v, .int p1, .int 0]) (rest := []) hC hE kS_X7_31 (c_X7_showsOne l D K v va0 va1 va2 va3 va4 va5 va6 va7 vn8 vn9 vn10 vn11 vf1 p1 0) (hP.sub (ws' := [(v, .inr (9, [.ref va0, .ref va1, .ref va2, .ref va3, .ref va4, .ref va5, .ref va6, .ref va7, .int vn8, .int vn9, .int vn10, .int vn11])), (va1, .inl (K 1, 10, .inl vf1))]) [1, 2] rfl) rfl hl.1 rfl (Nat.le_of_ble_eq_true rfl) (by decide) (by decide) dX7_ends_49 (fun r1943 hq => ?_)
      rcases hq with rfl | rfl
      · refine lv_if_ne (tgt := 59) hx hb dX7_ends_52 (by decide) (fun h => absurd h (by decide)) (fun _ => ?_)
        refine lv_iconst (v := 1) hx hb dX7_ends_55 (by decide) ?_
        refine lv_goto (tgt := 60) hx hb dX7_ends_56 (by decide) ?_
        exact ro_zret hC hr hk dX7_ends_60 rfl (Or.inr rfl)
      · refine lv_if_ne (tgt := 59) hx hb dX7_ends_52 (by decide) (fun _ => ?_) (fun h => absurd h (by decide))
        refine lv_iconst (v := 0) hx hb dX7_ends_59 (by decide) ?_
        exact ro_zret hC hr hk dX7_ends_60 rfl (Or.inl rfl)
    · have c1942n := ne_i c1942
      refine lv_lookup (off := 57) (tgt := 61) hx hb dX7_ends_4 (by decide) (by rw [lv_osw c1939 (by decide), lv_osw c1942 (by decide)]; rfl) (by decide) ?_
      refine lv_iconst (v := 0) hx hb dX7_ends_61 (by decide) ?_
      exact ro_zret hC hr hk dX7_ends_62 rfl (Or.inl rfl)
set_option maxRecDepth 40000 in
set_option maxHeartbeats 4000000 in
theorem c_X6_explore_1 (l : Launch) (D : va_G) (K : Nat → ClassId) (w : Nat) (wa0 : Nat) (wa1 : Nat) (wa2 : Nat) (wa6 : Nat) (v : Nat) (va0 : Nat) (va1 : Nat) (va2 : Nat) (va3 : Nat) (va4 : Nat) (va5 : Nat) (va6 : Nat) (va7 : Nat) (wn3 : Int32) (wn4 : Int32) (wn5 : Int32) (wn7 : Int32) (wn8 : Int32) (wn9 : Int32) (wa6n0 : Int32) (wa6n1 : Int32) (wa6n2 : Int32) (vn8 : Int32) (vn9 : Int32) (vn10 : Int32) (vn11 : Int32) (wf0 : Nat → Int32) (wf1 : Nat → Int32) (wf2 : Nat → Int32) (vf0 : Nat → Int32) (vf1 : Nat → Int32) (p1 : Int32) : Cv (S := ((Nat → Int32) × (Nat → Nat → Int32) × (Nat → Nat → Int64))) l D K yX6_explore cX6_explore 5 4 91 0 0 [.ref w, .ref v, .int p1] [(w, .inr (1, [.ref wa0, .ref wa1, .ref wa2, .int wn3, .int wn4, .int wn5, .ref wa6, .int wn7, .int wn8, .int wn9])), (wa0, .inl (K 1, 10240, .inl wf0)), (wa1, .inl (K 1, 10240, .inl wf1)), (wa2, .inl (K 1, 10240, .inl wf2)), (wa6, .inr (8, [.int wa6n0, .int wa6n1, .int wa6n2])), (v, .inr (9, [.ref va0, .ref va1, .ref va2, .ref va3, .ref va4, .ref va5, .ref va6, .ref va7, .int vn8, .int vn9, .int vn10, .int vn11])), (va0, .inl (K 1, 40, .inl vf0)), (va1, .inl (K 1, 10, .inl vf1))] (fun _ => True) (fun u => [(w, .inr (1, [.ref wa0, .ref wa1, .ref wa2, .int (u.1 0), .int (u.1 1), .int (u.1 2), .ref wa6, .int wn7, .int wn8, .int wn9])), (wa0, .inl (K 1, 10240, .inl (u.2.1 0))), (wa1, .inl (K 1, 10240, .inl (u.2.1 1))), (wa2, .inl (K 1, 10240, .inl (u.2.1 2))), (wa6, .inr (8, [.int (u.1 3), .int (u.1 4), .int (u.1 5)])), (v, .inr (9, [.ref va0, .ref va1, .ref va2, .ref va3, .ref va4, .ref va5, .ref va6, .ref va7, .int vn8, .int vn9, .int vn10, .int vn11])), (va0, .inl (K 1, 40, .inl vf0)), (va1, .inl (K 1, 10, .inl vf1))]) := by
  intro sz
  refine ch_of (y := yX6_explore) (cc := cX6_explore) (maxL := 5) (ret := none) (av := [.ref w, .ref v, .int p1]) (ws := [(w, .inr (1, [.ref wa0, .ref wa1, .ref wa2, .int wn3, .int wn4, .int wn5, .ref wa6, .int wn7, .int wn8, .int wn9])), (wa0, .inl (K 1, 10240, .inl wf0)), (wa1, .inl (K 1, 10240, .inl wf1)), (wa2, .inl (K 1, 10240, .inl wf2)), (wa6, .inr (8, [.int wa6n0, .int wa6n1, .int wa6n2])), (v, .inr (9, [.ref va0, .ref va1, .ref va2, .ref va3, .ref va4, .ref va5, .ref va6, .ref va7, .int vn8, .int vn9, .int vn10, .int vn11])), (va0, .inl (K 1, 40, .inl vf0)), (va1, .inl (K 1, 10, .inl vf1))]) (D := D) (K := K) (Qc := fun A => va_Qv (S := ((Nat → Int32) × (Nat → Nat → Int32) × (Nat → Nat → Int64))) (fun _ => True) (chB D A (fun u => [(w, .inr (1, [.ref wa0, .ref wa1, .ref wa2, .int (u.1 0), .int (u.1 1), .int (u.1 2), .ref wa6, .int wn7, .int wn8, .int wn9])), (wa0, .inl (K 1, 10240, .inl (u.2.1 0))), (wa1, .inl (K 1, 10240, .inl (u.2.1 1))), (wa2, .inl (K 1, 10240, .inl (u.2.1 2))), (wa6, .inr (8, [.int (u.1 3), .int (u.1 4), .int (u.1 5)])), (v, .inr (9, [.ref va0, .ref va1, .ref va2, .ref va3, .ref va4, .ref va5, .ref va6, .ref va7, .int vn8, .int vn9, .int vn10, .int vn11])), (va0, .inl (K 1, 40, .inl vf0)), (va1, .inl (K 1, 10, .inl vf1))])) A) (by decide) (Nat.le_of_ble_eq_true rfl) ?_
  intro p e s m below meth c A hC hr hk hin hE hD hA H locs hP hS ls hl
  replace hC : CallFix p m c cX6_explore 5 s [.ref w, .ref v, .int p1].toArray wl RX6 := hC
  have hx := hC.1
  have hb := hC.2.1
  have hml := hC.2.2.1
  have hown := hC.2.2.2.1
  have hts := hC.2.2.2.2
  replace hl : lv_has ls 5 [(0, .ref w), (1, .ref v), (2, .int p1)] := hl
  have kc_0 : (0 : Int32).toInt = 0 := by decide
  have kc_1 : (1 : Int32).toInt = 1 := by decide
  have kc_4 : (4 : Int32).toInt = 4 := by decide
  have kc_10240 : (10240 : Int32).toInt = 10240 := by decide
  refine lv_aload_n hx hb dX6_explore_0 rfl (lv_at hl 0 rfl) ?_
  refine lv_dup hx hb dX6_explore_1 rfl ?_
  refine va_get (D := D) (ci := 1) (v := .int wn3) (C := RX1) (T := TX1) (N := 10) hx hb hts in_X1 hown hE.1 hP 0 rfl rfl 3 (by decide) (hts _ w_275) (fun _ h9 => h9) rfl dX6_explore_2 ?_
  refine lv_iconst (v := 1) hx hb dX6_explore_5 (by decide) ?_
  refine lv_iadd hx hb dX6_explore_6 ?_
  refine lv_topi (fun v1966 ev1966 => ?_)
  refine va_put (D := D) (ci := 1) (v := .int v1966) (ty := .int) (C := RX1) (T := TX1) (N := 10) hx hb hts in_X1 tyX1 tyX1_ok nmX1 hown hE.1 hP hD hS 0 rfl rfl 3 (by decide) (hts _ w_275) (fun _ h9 => h9) rfl (by decide +kernel) rfl rfl (Nat.le_of_ble_eq_true rfl) dX6_explore_7 (fun H locs hP hD hS => ?_)
  replace hP : va_P D vwCl [(w, .inr (1, [.ref wa0, .ref wa1, .ref wa2, .int v1966, .int wn4, .int wn5, .ref wa6, .int wn7, .int wn8, .int wn9])), (wa0, .inl (K 1, 10240, .inl wf0)), (wa1, .inl (K 1, 10240, .inl wf1)), (wa2, .inl (K 1, 10240, .inl wf2)), (wa6, .inr (8, [.int wa6n0, .int wa6n1, .int wa6n2])), (v, .inr (9, [.ref va0, .ref va1, .ref va2, .ref va3, .ref va4, .ref va5, .ref va6, .ref va7, .int vn8, .int vn9, .int vn10, .int vn11])), (va0, .inl (K 1, 40, .inl vf0)), (va1, .inl (K 1, 10, .inl vf1))] H := hP
  replace hD : va_D A [(w, .inr (1, [.ref wa0, .ref wa1, .ref wa2, .int v1966, .int wn4, .int wn5, .ref wa6, .int wn7, .int wn8, .int wn9])), (wa0, .inl (K 1, 10240, .inl wf0)), (wa1, .inl (K 1, 10240, .inl wf1)), (wa2, .inl (K 1, 10240, .inl wf2)), (wa6, .inr (8, [.int wa6n0, .int wa6n1, .int wa6n2])), (v, .inr (9, [.ref va0, .ref va1, .ref va2, .ref va3, .ref va4, .ref va5, .ref va6, .ref va7, .int vn8, .int vn9, .int vn10, .int vn11])), (va0, .inl (K 1, 40, .inl vf0)), (va1, .inl (K 1, 10, .inl vf1))] := hD
  refine lv_aload_n hx hb dX6_explore_10 rfl (lv_at hl 0 rfl) ?_
  refine lv_iconst (v := 0) hx hb dX6_explore_11 (by decide) ?_
  refine va_put (D := D) (ci := 1) (v := .int 0) (ty := .int) (C := RX1) (T := TX1) (N := 10) hx hb hts in_X1 tyX1 tyX1_ok nmX1 hown hE.1 hP hD hS 0 rfl rfl 4 (by decide) (hts _ w_276) (fun _ h9 => h9) rfl (by decide +kernel) rfl rfl (Nat.le_of_ble_eq_true rfl) dX6_explore_12 (fun H locs hP hD hS => ?_)
  replace hP : va_P D vwCl [(w, .inr (1, [.ref wa0, .ref wa1, .ref wa2, .int v1966, .int 0, .int wn5, .ref wa6, .int wn7, .int wn8, .int wn9])), (wa0, .inl (K 1, 10240, .inl wf0)), (wa1, .inl (K 1, 10240, .inl wf1)), (wa2, .inl (K 1, 10240, .inl wf2)), (wa6, .inr (8, [.int wa6n0, .int wa6n1, .int wa6n2])), (v, .inr (9, [.ref va0, .ref va1, .ref va2, .ref va3, .ref va4, .ref va5, .ref va6, .ref va7, .int vn8, .int vn9, .int vn10, .int vn11])), (va0, .inl (K 1, 40, .inl vf0)), (va1, .inl (K 1, 10, .inl vf1))] H := hP
  replace hD : va_D A [(w, .inr (1, [.ref wa0, .ref wa1, .ref wa2, .int v1966, .int 0, .int wn5, .ref wa6, .int wn7, .int wn8, .int wn9])), (wa0, .inl (K 1, 10240, .inl wf0)), (wa1, .inl (K 1, 10240, .inl wf1)), (wa2, .inl (K 1, 10240, .inl wf2)), (wa6, .inr (8, [.int wa6n0, .int wa6n1, .int wa6n2])), (v, .inr (9, [.ref va0, .ref va1, .ref va2, .ref va3, .ref va4, .ref va5, .ref va6, .ref va7, .int vn8, .int vn9, .int vn10, .int vn11])), (va0, .inl (K 1, 40, .inl vf0)), (va1, .inl (K 1, 10, .inl vf1))] := hD
  refine lv_aload_n hx hb dX6_explore_15 rfl (lv_at hl 0 rfl) ?_
  refine lv_iconst (v := (-1)) hx hb dX6_explore_16 (by decide) ?_
  refine va_put (D := D) (ci := 1) (v := .int (-1)) (ty := .int) (C := RX1) (T := TX1) (N := 10) hx hb hts in_X1 tyX1 tyX1_ok nmX1 hown hE.1 hP hD hS 0 rfl rfl 5 (by decide) (hts _ w_279) (fun _ h9 => h9) rfl (by decide +kernel) rfl rfl (Nat.le_of_ble_eq_true rfl) dX6_explore_17 (fun H locs hP hD hS => ?_)
  replace hP : va_P D vwCl [(w, .inr (1, [.ref wa0, .ref wa1, .ref wa2, .int v1966, .int 0, .int (-1), .ref wa6, .int wn7, .int wn8, .int wn9])), (wa0, .inl (K 1, 10240, .inl wf0)), (wa1, .inl (K 1, 10240, .inl wf1)), (wa2, .inl (K 1, 10240, .inl wf2)), (wa6, .inr (8, [.int wa6n0, .int wa6n1, .int wa6n2])), (v, .inr (9, [.ref va0, .ref va1, .ref va2, .ref va3, .ref va4, .ref va5, .ref va6, .ref va7, .int vn8, .int vn9, .int vn10, .int vn11])), (va0, .inl (K 1, 40, .inl vf0)), (va1, .inl (K 1, 10, .inl vf1))] H := hP
  replace hD : va_D A [(w, .inr (1, [.ref wa0, .ref wa1, .ref wa2, .int v1966, .int 0, .int (-1), .ref wa6, .int wn7, .int wn8, .int wn9])), (wa0, .inl (K 1, 10240, .inl wf0)), (wa1, .inl (K 1, 10240, .inl wf1)), (wa2, .inl (K 1, 10240, .inl wf2)), (wa6, .inr (8, [.int wa6n0, .int wa6n1, .int wa6n2])), (v, .inr (9, [.ref va0, .ref va1, .ref va2, .ref va3, .ref va4, .ref va5, .ref va6, .ref va7, .int vn8, .int vn9, .int vn10, .int vn11])), (va0, .inl (K 1, 40, .inl vf0)), (va1, .inl (K 1, 10, .inl vf1))] := hD
  refine lv_aload_n hx hb dX6_explore_20 rfl (lv_at hl 0 rfl) ?_
  refine lv_iload_n hx hb dX6_explore_21 rfl (lv_at hl 2 rfl) ?_
  refine lv_iconst (v := 0) hx hb dX6_explore_22 (by decide) ?_
  refine cv_U (As := [.int p1, .int 0]) (rest := []) (wc := [(w, .inr (1, [.ref wa0, .ref wa1, .ref wa2, .int v1966, .int 0, .int (-1), .ref wa6, .int wn7, .int wn8, .int wn9])), (wa0, .inl (K 1, 10240, .inl wf0)), (wa1, .inl (K 1, 10240, .inl wf1)), (wa2, .inl (K 1, 10240, .inl wf2))]) (wr := [(wa6, .inr (8, [.int wa6n0, .int wa6n1, .int wa6n2])), (v, .inr (9, [.ref va0, .ref va1, .ref va2, .ref va3, .ref va4, .ref va5, .ref va6, .ref va7, .int vn8, .int vn9, .int vn10, .int vn11])), (va0, .inl (K 1, 40, .inl vf0)), (va1, .inl (K 1, 10, .inl vf1))]) hC hE kU_X6_37_X6_meetState (decl_of hC kU_X6_37_X6_meetState rfl) (c_X6_meetState_1 l D K w wa0 wa1 wa2 wa6 v1966 0 (-1) wn7 wn8 wn9 wf0 wf1 wf2 p1 0 (by omega)) hP hD hS hA [0, 1, 2, 3] [4, 5, 6, 7] rfl rfl rfl (by decide) (by decide) (by decide) 0 1 rfl rfl (va_Nw.use rfl hE.2.2.2.2.2.2.1) rfl hl.1 rfl (Nat.le_of_ble_eq_true rfl) (by decide) (by decide) dX6_explore_23 (fun u1967 H locs hw hP hD hS => ?_)
  replace hP : va_P D vwCl [(wa6, .inr (8, [.int wa6n0, .int wa6n1, .int wa6n2])), (v, .inr (9, [.ref va0, .ref va1, .ref va2, .ref va3, .ref va4, .ref va5, .ref va6, .ref va7, .int vn8, .int vn9, .int vn10, .int vn11])), (va0, .inl (K 1, 40, .inl vf0)), (va1, .inl (K 1, 10, .inl vf1)), (w, .inr (1, [.ref wa0, .ref wa1, .ref wa2, .int v1966, .int (u1967.1 0), .int (-1), .ref wa6, .int wn7, .int wn8, .int wn9])), (wa0, .inl (K 1, 10240, .inl (u1967.2.1 0))), (wa1, .inl (K 1, 10240, .inl (u1967.2.1 1))), (wa2, .inl (K 1, 10240, .inl (u1967.2.1 2)))] H := hP
  replace hD : va_D A [(wa6, .inr (8, [.int wa6n0, .int wa6n1, .int wa6n2])), (v, .inr (9, [.ref va0, .ref va1, .ref va2, .ref va3, .ref va4, .ref va5, .ref va6, .ref va7, .int vn8, .int vn9, .int vn10, .int vn11])), (va0, .inl (K 1, 40, .inl vf0)), (va1, .inl (K 1, 10, .inl vf1)), (w, .inr (1, [.ref wa0, .ref wa1, .ref wa2, .int v1966, .int (u1967.1 0), .int (-1), .ref wa6, .int wn7, .int wn8, .int wn9])), (wa0, .inl (K 1, 10240, .inl (u1967.2.1 0))), (wa1, .inl (K 1, 10240, .inl (u1967.2.1 1))), (wa2, .inl (K 1, 10240, .inl (u1967.2.1 2)))] := hD
  replace hP : va_P D vwCl [(w, .inr (1, [.ref wa0, .ref wa1, .ref wa2, .int v1966, .int (u1967.1 0), .int (-1), .ref wa6, .int wn7, .int wn8, .int wn9])), (wa0, .inl (K 1, 10240, .inl (u1967.2.1 0))), (wa1, .inl (K 1, 10240, .inl (u1967.2.1 1))), (wa2, .inl (K 1, 10240, .inl (u1967.2.1 2))), (wa6, .inr (8, [.int wa6n0, .int wa6n1, .int wa6n2])), (v, .inr (9, [.ref va0, .ref va1, .ref va2, .ref va3, .ref va4, .ref va5, .ref va6, .ref va7, .int vn8, .int vn9, .int vn10, .int vn11])), (va0, .inl (K 1, 40, .inl vf0)), (va1, .inl (K 1, 10, .inl vf1))] H := hP.sub [4, 5, 6, 7, 0, 1, 2, 3] rfl
  replace hD : va_D A [(w, .inr (1, [.ref wa0, .ref wa1, .ref wa2, .int v1966, .int (u1967.1 0), .int (-1), .ref wa6, .int wn7, .int wn8, .int wn9])), (wa0, .inl (K 1, 10240, .inl (u1967.2.1 0))), (wa1, .inl (K 1, 10240, .inl (u1967.2.1 1))), (wa2, .inl (K 1, 10240, .inl (u1967.2.1 2))), (wa6, .inr (8, [.int wa6n0, .int wa6n1, .int wa6n2])), (v, .inr (9, [.ref va0, .ref va1, .ref va2, .ref va3, .ref va4, .ref va5, .ref va6, .ref va7, .int vn8, .int vn9, .int vn10, .int vn11])), (va0, .inl (K 1, 40, .inl vf0)), (va1, .inl (K 1, 10, .inl vf1))] := hD.sub [4, 5, 6, 7, 0, 1, 2, 3] (by decide) rfl
  refine W.widen (k := 0) (n := 0) (by decide) (by decide) ?_
  have hf := hw
  have f1969 : 0 ≤ (u1967.1 0).toInt := hf
  refine lv_iconst (v := 0) hx hb dX6_explore_26 (by decide) ?_
  refine lv_istore_n (lv' := [(3, .int 0), (0, .ref w), (1, .ref v), (2, .int p1)]) hx hb dX6_explore_27 rfl hl (by decide) rfl (fun ls hl => ?_)
  have hl' := hl; have hP' := hP; have hD' := hD; clear hl hP hD
  obtain ⟨i1988, w1989, w1990, g1991, g1992, g1993, w1994, w1995, w1996, hi_28, hl, hP, hD⟩ : ∃ (i1988 : Int32) (w1989 : Int32) (w1990 : Int32) (g1991 : Nat → Int32) (g1992 : Nat → Int32) (g1993 : Nat → Int32) (w1994 : Int32) (w1995 : Int32) (w1996 : Int32), ((0 : Int) ≤ i1988.toInt) ∧ lv_has ls 5 [(3, .int i1988), (0, .ref w), (1, .ref v), (2, .int p1)] ∧ va_P D vwCl [(w, .inr (1, [.ref wa0, .ref wa1, .ref wa2, .int v1966, .int w1989, .int w1990, .ref wa6, .int wn7, .int wn8, .int wn9])), (wa0, .inl (K 1, 10240, .inl g1991)), (wa1, .inl (K 1, 10240, .inl g1992)), (wa2, .inl (K 1, 10240, .inl g1993)), (wa6, .inr (8, [.int w1994, .int w1995, .int w1996])), (v, .inr (9, [.ref va0, .ref va1, .ref va2, .ref va3, .ref va4, .ref va5, .ref va6, .ref va7, .int vn8, .int vn9, .int vn10, .int vn11])), (va0, .inl (K 1, 40, .inl vf0)), (va1, .inl (K 1, 10, .inl vf1))] H ∧ va_D A [(w, .inr (1, [.ref wa0, .ref wa1, .ref wa2, .int v1966, .int w1989, .int w1990, .ref wa6, .int wn7, .int wn8, .int wn9])), (wa0, .inl (K 1, 10240, .inl g1991)), (wa1, .inl (K 1, 10240, .inl g1992)), (wa2, .inl (K 1, 10240, .inl g1993)), (wa6, .inr (8, [.int w1994, .int w1995, .int w1996])), (v, .inr (9, [.ref va0, .ref va1, .ref va2, .ref va3, .ref va4, .ref va5, .ref va6, .ref va7, .int vn8, .int vn9, .int vn10, .int vn11])), (va0, .inl (K 1, 40, .inl vf0)), (va1, .inl (K 1, 10, .inl vf1))] := ⟨_, _, _, _, _, _, _, _, _, by omega, hl', hP', hD'⟩
  clear hl' hP' hD'
  obtain ⟨n_28, hn_28⟩ : ∃ n : Nat, (10240 - i1988.toInt).toNat < n := ⟨_, Nat.lt_succ_self _⟩
  induction n_28 generalizing i1988 w1989 w1990 g1991 g1992 g1993 w1994 w1995 w1996 H locs ls with
  | zero => exact absurd hn_28 (Nat.not_lt_zero _)
  | succ n_28 ih_28 =>
    refine lv_iload_n hx hb dX6_explore_28 rfl (lv_at hl 0 rfl) ?_
    refine lv_aload_n hx hb dX6_explore_29 rfl (lv_at hl 1 rfl) ?_
    refine va_get (D := D) (ci := 1) (v := .int w1989) (C := RX1) (T := TX1) (N := 10) hx hb hts in_X1 hown hE.1 hP 0 rfl rfl 4 (by decide) (hts _ w_276) (fun _ h9 => h9) rfl dX6_explore_30 ?_
    refine lv_icmp_ge (tgt := 109) hx hb dX6_explore_33 (by decide) (fun c1997 => ?_) (fun c1997 => ?_)
    · replace c1997 := le_i c1997
      refine W.widen (k := 0) (n := 0) (by decide) (by decide) ?_
      exact ch_vret hC hr hk hS dX6_explore_109 ((fun k => [v1966, w1989, w1990, w1994, w1995, w1996].getD k 0, fun k => [g1991, g1992, g1993].getD k (fun _ => 0), fun k => [].getD k (fun _ => 0)) : ((Nat → Int32) × (Nat → Nat → Int32) × (Nat → Nat → Int64))) trivial (hP.sub [0, 1, 2, 3, 4, 5, 6, 7] rfl) (hD.sub [0, 1, 2, 3, 4, 5, 6, 7] (by decide) rfl)
    · replace c1997 := nle_i c1997
      refine lv_iload_n hx hb dX6_explore_36 rfl (lv_at hl 0 rfl) ?_
      refine lv_aload_n hx hb dX6_explore_37 rfl (lv_at hl 1 rfl) ?_
      refine va_get (D := D) (ci := 1) (v := .ref wa1) (C := RX1) (T := TX1) (N := 10) hx hb hts in_X1 hown hE.1 hP 0 rfl rfl 1 (by decide) (hts _ w_277) (fun _ h9 => h9) rfl dX6_explore_38 ?_
      refine va_alen (v := 10240) hx hb hE.1 hP 2 1 rfl rfl (show Int32.ofNat 10240 = 10240 by decide) dX6_explore_41 ?_
      refine lv_icmp_ge (tgt := 109) hx hb dX6_explore_42 (by decide) (fun c1998 => ?_) (fun c1998 => ?_)
      · replace c1998 := le_i c1998
        refine W.widen (k := 0) (n := 0) (by decide) (by decide) ?_
        exact ch_vret hC hr hk hS dX6_explore_109 ((fun k => [v1966, w1989, w1990, w1994, w1995, w1996].getD k 0, fun k => [g1991, g1992, g1993].getD k (fun _ => 0), fun k => [].getD k (fun _ => 0)) : ((Nat → Int32) × (Nat → Nat → Int32) × (Nat → Nat → Int64))) trivial (hP.sub [0, 1, 2, 3, 4, 5, 6, 7] rfl) (hD.sub [0, 1, 2, 3, 4, 5, 6, 7] (by decide) rfl)
      · replace c1998 := nle_i c1998
        refine lv_aload_n hx hb dX6_explore_45 rfl (lv_at hl 1 rfl) ?_
        refine lv_aload_n hx hb dX6_explore_46 rfl (lv_at hl 2 rfl) ?_
        refine lv_aload_n hx hb dX6_explore_47 rfl (lv_at hl 1 rfl) ?_
        refine va_get (D := D) (ci := 1) (v := .ref wa1) (C := RX1) (T := TX1) (N := 10) hx hb hts in_X1 hown hE.1 hP 0 rfl rfl 1 (by decide) (hts _ w_277) (fun _ h9 => h9) rfl dX6_explore_48 ?_
        refine lv_iload_n hx hb dX6_explore_51 rfl (lv_at hl 0 rfl) ?_
        refine va_iald hx hb hE.1 hP 2 1 rfl rfl (vp_in_iff.mpr (by omega)) dX6_explore_52 ?_
        refine lv_topi (fun v1999 ev1999 => ?_)
        refine ci_U (As := [.ref v, .int v1999]) (rest := []) (wc := [(w, .inr (1, [.ref wa0, .ref wa1, .ref wa2, .int v1966, .int w1989, .int w1990, .ref wa6, .int wn7, .int wn8, .int wn9])), (wa6, .inr (8, [.int w1994, .int w1995, .int w1996]))]) (wr := [(wa0, .inl (K 1, 10240, .inl g1991)), (wa1, .inl (K 1, 10240, .inl g1992)), (wa2, .inl (K 1, 10240, .inl g1993)), (v, .inr (9, [.ref va0, .ref va1, .ref va2, .ref va3, .ref va4, .ref va5, .ref va6, .ref va7, .int vn8, .int vn9, .int vn10, .int vn11])), (va0, .inl (K 1, 40, .inl vf0)), (va1, .inl (K 1, 10, .inl vf1))]) hC hE kU_X6_41_X1_ends (va_Decl.abs hE.2.2.2.2.1) (c_X1_ends l D K w wa0 wa1 wa2 wa6 v v1966 w1989 w1990 wn7 wn8 wn9 w1994 w1995 w1996 v1999) hP hD hS hA [0, 4] [1, 2, 3, 5, 6, 7] rfl rfl rfl (by decide) (by decide) (by decide) 0 1 rfl rfl (hts _ w_333) rfl hl.1 rfl (Nat.le_of_ble_eq_true rfl) (by decide) (by decide) dX6_explore_53 (fun r2001 u2000 H locs hw hP hD hS => ?_)
        replace hP : va_P D vwCl [(wa0, .inl (K 1, 10240, .inl g1991)), (wa1, .inl (K 1, 10240, .inl g1992)), (wa2, .inl (K 1, 10240, .inl g1993)), (v, .inr (9, [.ref va0, .ref va1, .ref va2, .ref va3, .ref va4, .ref va5, .ref va6, .ref va7, .int vn8, .int vn9, .int vn10, .int vn11])), (va0, .inl (K 1, 40, .inl vf0)), (va1, .inl (K 1, 10, .inl vf1)), (w, .inr (1, [.ref wa0, .ref wa1, .ref wa2, .int v1966, .int w1989, .int w1990, .ref wa6, .int wn7, .int wn8, .int wn9])), (wa6, .inr (8, [.int (u2000.1 0), .int (u2000.1 1), .int (u2000.1 2)]))] H := hP
        replace hD : va_D A [(wa0, .inl (K 1, 10240, .inl g1991)), (wa1, .inl (K 1, 10240, .inl g1992)), (wa2, .inl (K 1, 10240, .inl g1993)), (v, .inr (9, [.ref va0, .ref va1, .ref va2, .ref va3, .ref va4, .ref va5, .ref va6, .ref va7, .int vn8, .int vn9, .int vn10, .int vn11])), (va0, .inl (K 1, 40, .inl vf0)), (va1, .inl (K 1, 10, .inl vf1)), (w, .inr (1, [.ref wa0, .ref wa1, .ref wa2, .int v1966, .int w1989, .int w1990, .ref wa6, .int wn7, .int wn8, .int wn9])), (wa6, .inr (8, [.int (u2000.1 0), .int (u2000.1 1), .int (u2000.1 2)]))] := hD
        replace hP : va_P D vwCl [(w, .inr (1, [.ref wa0, .ref wa1, .ref wa2, .int v1966, .int w1989, .int w1990, .ref wa6, .int wn7, .int wn8, .int wn9])), (wa0, .inl (K 1, 10240, .inl g1991)), (wa1, .inl (K 1, 10240, .inl g1992)), (wa2, .inl (K 1, 10240, .inl g1993)), (wa6, .inr (8, [.int (u2000.1 0), .int (u2000.1 1), .int (u2000.1 2)])), (v, .inr (9, [.ref va0, .ref va1, .ref va2, .ref va3, .ref va4, .ref va5, .ref va6, .ref va7, .int vn8, .int vn9, .int vn10, .int vn11])), (va0, .inl (K 1, 40, .inl vf0)), (va1, .inl (K 1, 10, .inl vf1))] H := hP.sub [6, 0, 1, 2, 7, 3, 4, 5] rfl
        replace hD : va_D A [(w, .inr (1, [.ref wa0, .ref wa1, .ref wa2, .int v1966, .int w1989, .int w1990, .ref wa6, .int wn7, .int wn8, .int wn9])), (wa0, .inl (K 1, 10240, .inl g1991)), (wa1, .inl (K 1, 10240, .inl g1992)), (wa2, .inl (K 1, 10240, .inl g1993)), (wa6, .inr (8, [.int (u2000.1 0), .int (u2000.1 1), .int (u2000.1 2)])), (v, .inr (9, [.ref va0, .ref va1, .ref va2, .ref va3, .ref va4, .ref va5, .ref va6, .ref va7, .int vn8, .int vn9, .int vn10, .int vn11])), (va0, .inl (K 1, 40, .inl vf0)), (va1, .inl (K 1, 10, .inl vf1))] := hD.sub [6, 0, 1, 2, 7, 3, 4, 5] (by decide) rfl
        refine W.widen (k := 0) (n := 0) (by decide) (by decide) ?_
        rcases hw with rfl | rfl
        · refine lv_if_eq (tgt := 65) hx hb dX6_explore_56 (by decide) (fun _ => ?_) (fun h => absurd h (by decide))
          refine lv_iconst (v := 0) hx hb dX6_explore_65 (by decide) ?_
          refine lv_istore (lv' := [(4, .int 0), (3, .int i1988), (0, .ref w), (1, .ref v), (2, .int p1)]) hx hb dX6_explore_66 hl (by decide) rfl (fun ls hl => ?_)
          have hl' := hl; have hP' := hP; have hD' := hD; clear hl hP hD
          obtain ⟨i2013, w2014, g2015, g2016, g2017, w2018, w2019, w2020, hi_68, hl, hP, hD⟩ : ∃ (i2013 : Int32) (w2014 : Int32) (g2015 : Nat → Int32) (g2016 : Nat → Int32) (g2017 : Nat → Int32) (w2018 : Int32) (w2019 : Int32) (w2020 : Int32), ((0 : Int) ≤ i2013.toInt) ∧ lv_has ls 5 [(4, .int i2013), (3, .int i1988), (0, .ref w), (1, .ref v), (2, .int p1)] ∧ va_P D vwCl [(w, .inr (1, [.ref wa0, .ref wa1, .ref wa2, .int v1966, .int w2014, .int w1990, .ref wa6, .int wn7, .int wn8, .int wn9])), (wa0, .inl (K 1, 10240, .inl g2015)), (wa1, .inl (K 1, 10240, .inl g2016)), (wa2, .inl (K 1, 10240, .inl g2017)), (wa6, .inr (8, [.int w2018, .int w2019, .int w2020])), (v, .inr (9, [.ref va0, .ref va1, .ref va2, .ref va3, .ref va4, .ref va5, .ref va6, .ref va7, .int vn8, .int vn9, .int vn10, .int vn11])), (va0, .inl (K 1, 40, .inl vf0)), (va1, .inl (K 1, 10, .inl vf1))] H ∧ va_D A [(w, .inr (1, [.ref wa0, .ref wa1, .ref wa2, .int v1966, .int w2014, .int w1990, .ref wa6, .int wn7, .int wn8, .int wn9])), (wa0, .inl (K 1, 10240, .inl g2015)), (wa1, .inl (K 1, 10240, .inl g2016)), (wa2, .inl (K 1, 10240, .inl g2017)), (wa6, .inr (8, [.int w2018, .int w2019, .int w2020])), (v, .inr (9, [.ref va0, .ref va1, .ref va2, .ref va3, .ref va4, .ref va5, .ref va6, .ref va7, .int vn8, .int vn9, .int vn10, .int vn11])), (va0, .inl (K 1, 40, .inl vf0)), (va1, .inl (K 1, 10, .inl vf1))] := ⟨_, _, _, _, _, _, _, _, by omega, hl', hP', hD'⟩
          clear hl' hP' hD'
          obtain ⟨n_68, hn_68⟩ : ∃ n : Nat, (4 - i2013.toInt).toNat < n := ⟨_, Nat.lt_succ_self _⟩
          induction n_68 generalizing i2013 w2014 g2015 g2016 g2017 w2018 w2019 w2020 H locs ls with
          | zero => exact absurd hn_68 (Nat.not_lt_zero _)
          | succ n_68 ih_68 =>
            refine lv_iload hx hb dX6_explore_68 (lv_at hl 0 rfl) ?_
            refine lv_iconst (v := 4) hx hb dX6_explore_70 (by decide) ?_
            refine lv_icmp_ge (tgt := 103) hx hb dX6_explore_71 (by decide) (fun c2021 => ?_) (fun c2021 => ?_)
            · replace c2021 := le_i c2021
              obtain ⟨v2022, ev2022⟩ : ∃ z : Int32, z = i1988 + 1 := ⟨_, rfl⟩
              refine lv_iinc (v := v2022) (lv' := [(3, .int v2022), (4, .int i2013), (0, .ref w), (1, .ref v), (2, .int p1)]) hx hb dX6_explore_103 hl (k := 1) rfl (by rw [ev2022]; rfl) (by decide) rfl (fun ls hl => ?_)
              refine lv_goto (tgt := 28) hx hb dX6_explore_106 (by decide) ?_
              have tv2022 : v2022.toInt = (i1988 : Int32).toInt + (1 : Int32).toInt := add_i ev2022 (by omega) (by omega)
              exact ih_28 (i1988 := v2022) (w1989 := w2014) (w1990 := w1990) (g1991 := g2015) (g1992 := g2016) (g1993 := g2017) (w1994 := w2018) (w1995 := w2019) (w1996 := w2020) (hi_28 := by omega) (H := H) (locs := locs) (ls := ls) (hn_28 := by omega) (hP := hP) (hD := hD) (hS := hS) (hl := lv_sub hl [0, 2, 3, 4] rfl)
            · replace c2021 := nle_i c2021
              refine lv_aload_n hx hb dX6_explore_74 rfl (lv_at hl 2 rfl) ?_
              refine lv_aload_n hx hb dX6_explore_75 rfl (lv_at hl 2 rfl) ?_
              refine lv_aload_n hx hb dX6_explore_76 rfl (lv_at hl 3 rfl) ?_
              refine lv_aload_n hx hb dX6_explore_77 rfl (lv_at hl 2 rfl) ?_
              refine va_get (D := D) (ci := 1) (v := .ref wa1) (C := RX1) (T := TX1) (N := 10) hx hb hts in_X1 hown hE.1 hP 0 rfl rfl 1 (by decide) (hts _ w_277) (fun _ h9 => h9) rfl dX6_explore_78 ?_
              refine lv_iload_n hx hb dX6_explore_81 rfl (lv_at hl 1 rfl) ?_
              refine va_iald hx hb hE.1 hP 2 1 rfl rfl (vp_in_iff.mpr (by omega)) dX6_explore_82 ?_
              refine lv_topi (fun v2023 ev2023 => ?_)
              refine lv_iload hx hb dX6_explore_83 (lv_at hl 0 rfl) ?_
              refine ci_U (As := [.ref v, .int v2023, .int i2013]) (rest := [.ref w]) (wc := [(w, .inr (1, [.ref wa0, .ref wa1, .ref wa2, .int v1966, .int w2014, .int w1990, .ref wa6, .int wn7, .int wn8, .int wn9])), (wa6, .inr (8, [.int w2018, .int w2019, .int w2020])), (v, .inr (9, [.ref va0, .ref va1, .ref va2, .ref va3, .ref va4, .ref va5, .ref va6, .ref va7, .int vn8, .int vn9, .int vn10, .int vn11])), (va0, .inl (K 1, 40, .inl vf0)), (va1, .inl (K 1, 10, .inl vf1))]) (wr := [(wa0, .inl (K 1, 10240, .inl g2015)), (wa1, .inl (K 1, 10240, .inl g2016)), (wa2, .inl (K 1, 10240, .inl g2017))]) hC hE kU_X6_45_X1_next (va_Decl.abs hE.2.2.2.2.2.1) (c_X1_next l D K w wa0 wa1 wa2 wa6 v va0 va1 va2 va3 va4 va5 va6 va7 v1966 w2014 w1990 wn7 wn8 wn9 w2018 w2019 w2020 vn8 vn9 vn10 vn11 vf0 vf1 v2023 i2013) hP hD hS hA [0, 4, 5, 6, 7] [1, 2, 3] rfl rfl rfl (by decide) (by decide) (by decide) 0 1 rfl rfl (hts _ w_338) rfl hl.1 rfl (Nat.le_of_ble_eq_true rfl) (by decide) (by decide) dX6_explore_85 (fun r2025 u2024 H locs hw hP hD hS => ?_)
              replace hP : va_P D vwCl [(wa0, .inl (K 1, 10240, .inl g2015)), (wa1, .inl (K 1, 10240, .inl g2016)), (wa2, .inl (K 1, 10240, .inl g2017)), (w, .inr (1, [.ref wa0, .ref wa1, .ref wa2, .int v1966, .int w2014, .int w1990, .ref wa6, .int wn7, .int wn8, .int wn9])), (wa6, .inr (8, [.int (u2024.1 0), .int (u2024.1 1), .int (u2024.1 2)])), (v, .inr (9, [.ref va0, .ref va1, .ref va2, .ref va3, .ref va4, .ref va5, .ref va6, .ref va7, .int vn8, .int vn9, .int vn10, .int vn11])), (va0, .inl (K 1, 40, .inl vf0)), (va1, .inl (K 1, 10, .inl vf1))] H := hP
              replace hD : va_D A [(wa0, .inl (K 1, 10240, .inl g2015)), (wa1, .inl (K 1, 10240, .inl g2016)), (wa2, .inl (K 1, 10240, .inl g2017)), (w, .inr (1, [.ref wa0, .ref wa1, .ref wa2, .int v1966, .int w2014, .int w1990, .ref wa6, .int wn7, .int wn8, .int wn9])), (wa6, .inr (8, [.int (u2024.1 0), .int (u2024.1 1), .int (u2024.1 2)])), (v, .inr (9, [.ref va0, .ref va1, .ref va2, .ref va3, .ref va4, .ref va5, .ref va6, .ref va7, .int vn8, .int vn9, .int vn10, .int vn11])), (va0, .inl (K 1, 40, .inl vf0)), (va1, .inl (K 1, 10, .inl vf1))] := hD
              replace hP : va_P D vwCl [(w, .inr (1, [.ref wa0, .ref wa1, .ref wa2, .int v1966, .int w2014, .int w1990, .ref wa6, .int wn7, .int wn8, .int wn9])), (wa0, .inl (K 1, 10240, .inl g2015)), (wa1, .inl (K 1, 10240, .inl g2016)), (wa2, .inl (K 1, 10240, .inl g2017)), (wa6, .inr (8, [.int (u2024.1 0), .int (u2024.1 1), .int (u2024.1 2)])), (v, .inr (9, [.ref va0, .ref va1, .ref va2, .ref va3, .ref va4, .ref va5, .ref va6, .ref va7, .int vn8, .int vn9, .int vn10, .int vn11])), (va0, .inl (K 1, 40, .inl vf0)), (va1, .inl (K 1, 10, .inl vf1))] H := hP.sub [3, 0, 1, 2, 4, 5, 6, 7] rfl
              replace hD : va_D A [(w, .inr (1, [.ref wa0, .ref wa1, .ref wa2, .int v1966, .int w2014, .int w1990, .ref wa6, .int wn7, .int wn8, .int wn9])), (wa0, .inl (K 1, 10240, .inl g2015)), (wa1, .inl (K 1, 10240, .inl g2016)), (wa2, .inl (K 1, 10240, .inl g2017)), (wa6, .inr (8, [.int (u2024.1 0), .int (u2024.1 1), .int (u2024.1 2)])), (v, .inr (9, [.ref va0, .ref va1, .ref va2, .ref va3, .ref va4, .ref va5, .ref va6, .ref va7, .int vn8, .int vn9, .int vn10, .int vn11])), (va0, .inl (K 1, 40, .inl vf0)), (va1, .inl (K 1, 10, .inl vf1))] := hD.sub [3, 0, 1, 2, 4, 5, 6, 7] (by decide) rfl
              refine W.widen (k := 0) (n := 0) (by decide) (by decide) ?_
              refine lv_iload_n hx hb dX6_explore_88 rfl (lv_at hl 1 rfl) ?_
              refine lv_iconst (v := 4) hx hb dX6_explore_89 (by decide) ?_
              refine lv_imul hx hb dX6_explore_90 ?_
              refine lv_topi (fun v2026 ev2026 => ?_)
              refine lv_iload hx hb dX6_explore_91 (lv_at hl 0 rfl) ?_
              refine lv_iadd hx hb dX6_explore_93 ?_
              refine lv_topi (fun v2027 ev2027 => ?_)
              have tv2026 : v2026.toInt = i1988.toInt * 4 := mul_i ev2026 rfl (by decide) (by omega) (by omega)
              have tv2027 : v2027.toInt = (v2026 : Int32).toInt + (i2013 : Int32).toInt := add_i ev2027 (by omega) (by omega)
              refine cv_U (As := [.int r2025, .int v2027]) (rest := []) (wc := [(w, .inr (1, [.ref wa0, .ref wa1, .ref wa2, .int v1966, .int w2014, .int w1990, .ref wa6, .int wn7, .int wn8, .int wn9])), (wa0, .inl (K 1, 10240, .inl g2015)), (wa1, .inl (K 1, 10240, .inl g2016)), (wa2, .inl (K 1, 10240, .inl g2017))]) (wr := [(wa6, .inr (8, [.int (u2024.1 0), .int (u2024.1 1), .int (u2024.1 2)])), (v, .inr (9, [.ref va0, .ref va1, .ref va2, .ref va3, .ref va4, .ref va5, .ref va6, .ref va7, .int vn8, .int vn9, .int vn10, .int vn11])), (va0, .inl (K 1, 40, .inl vf0)), (va1, .inl (K 1, 10, .inl vf1))]) hC hE kU_X6_37_X6_meetState (decl_of hC kU_X6_37_X6_meetState rfl) (c_X6_meetState_1 l D K w wa0 wa1 wa2 wa6 v1966 w2014 w1990 wn7 wn8 wn9 g2015 g2016 g2017 r2025 v2027 (by omega)) hP hD hS hA [0, 1, 2, 3] [4, 5, 6, 7] rfl rfl rfl (by decide) (by decide) (by decide) 0 1 rfl rfl (va_Nw.use rfl hE.2.2.2.2.2.2.1) rfl hl.1 rfl (Nat.le_of_ble_eq_true rfl) (by decide) (by decide) dX6_explore_94 (fun u2028 H locs hw hP hD hS => ?_)
              replace hP : va_P D vwCl [(wa6, .inr (8, [.int (u2024.1 0), .int (u2024.1 1), .int (u2024.1 2)])), (v, .inr (9, [.ref va0, .ref va1, .ref va2, .ref va3, .ref va4, .ref va5, .ref va6, .ref va7, .int vn8, .int vn9, .int vn10, .int vn11])), (va0, .inl (K 1, 40, .inl vf0)), (va1, .inl (K 1, 10, .inl vf1)), (w, .inr (1, [.ref wa0, .ref wa1, .ref wa2, .int v1966, .int (u2028.1 0), .int w1990, .ref wa6, .int wn7, .int wn8, .int wn9])), (wa0, .inl (K 1, 10240, .inl (u2028.2.1 0))), (wa1, .inl (K 1, 10240, .inl (u2028.2.1 1))), (wa2, .inl (K 1, 10240, .inl (u2028.2.1 2)))] H := hP
              replace hD : va_D A [(wa6, .inr (8, [.int (u2024.1 0), .int (u2024.1 1), .int (u2024.1 2)])), (v, .inr (9, [.ref va0, .ref va1, .ref va2, .ref va3, .ref va4, .ref va5, .ref va6, .ref va7, .int vn8, .int vn9, .int vn10, .int vn11])), (va0, .inl (K 1, 40, .inl vf0)), (va1, .inl (K 1, 10, .inl vf1)), (w, .inr (1, [.ref wa0, .ref wa1, .ref wa2, .int v1966, .int (u2028.1 0), .int w1990, .ref wa6, .int wn7, .int wn8, .int wn9])), (wa0, .inl (K 1, 10240, .inl (u2028.2.1 0))), (wa1, .inl (K 1, 10240, .inl (u2028.2.1 1))), (wa2, .inl (K 1, 10240, .inl (u2028.2.1 2)))] := hD
              replace hP : va_P D vwCl [(w, .inr (1, [.ref wa0, .ref wa1, .ref wa2, .int v1966, .int (u2028.1 0), .int w1990, .ref wa6, .int wn7, .int wn8, .int wn9])), (wa0, .inl (K 1, 10240, .inl (u2028.2.1 0))), (wa1, .inl (K 1, 10240, .inl (u2028.2.1 1))), (wa2, .inl (K 1, 10240, .inl (u2028.2.1 2))), (wa6, .inr (8, [.int (u2024.1 0), .int (u2024.1 1), .int (u2024.1 2)])), (v, .inr (9, [.ref va0, .ref va1, .ref va2, .ref va3, .ref va4, .ref va5, .ref va6, .ref va7, .int vn8, .int vn9, .int vn10, .int vn11])), (va0, .inl (K 1, 40, .inl vf0)), (va1, .inl (K 1, 10, .inl vf1))] H := hP.sub [4, 5, 6, 7, 0, 1, 2, 3] rfl
              replace hD : va_D A [(w, .inr (1, [.ref wa0, .ref wa1, .ref wa2, .int v1966, .int (u2028.1 0), .int w1990, .ref wa6, .int wn7, .int wn8, .int wn9])), (wa0, .inl (K 1, 10240, .inl (u2028.2.1 0))), (wa1, .inl (K 1, 10240, .inl (u2028.2.1 1))), (wa2, .inl (K 1, 10240, .inl (u2028.2.1 2))), (wa6, .inr (8, [.int (u2024.1 0), .int (u2024.1 1), .int (u2024.1 2)])), (v, .inr (9, [.ref va0, .ref va1, .ref va2, .ref va3, .ref va4, .ref va5, .ref va6, .ref va7, .int vn8, .int vn9, .int vn10, .int vn11])), (va0, .inl (K 1, 40, .inl vf0)), (va1, .inl (K 1, 10, .inl vf1))] := hD.sub [4, 5, 6, 7, 0, 1, 2, 3] (by decide) rfl
              refine W.widen (k := 0) (n := 0) (by decide) (by decide) ?_
              have hf := hw
              have f2030 : 0 ≤ (u2028.1 0).toInt := hf
              obtain ⟨v2031, ev2031⟩ : ∃ z : Int32, z = i2013 + 1 := ⟨_, rfl⟩
              refine lv_iinc (v := v2031) (lv' := [(4, .int v2031), (3, .int i1988), (0, .ref w), (1, .ref v), (2, .int p1)]) hx hb dX6_explore_97 hl (k := 0) rfl (by rw [ev2031]; rfl) (by decide) rfl (fun ls hl => ?_)
              refine lv_goto (tgt := 68) hx hb dX6_explore_100 (by decide) ?_
              have tv2031 : v2031.toInt = (i2013 : Int32).toInt + (1 : Int32).toInt := add_i ev2031 (by omega) (by omega)
              exact ih_68 (i2013 := v2031) (w2014 := (u2028.1 0)) (g2015 := (u2028.2.1 0)) (g2016 := (u2028.2.1 1)) (g2017 := (u2028.2.1 2)) (w2018 := (u2024.1 0)) (w2019 := (u2024.1 1)) (w2020 := (u2024.1 2)) (hi_68 := by omega) (H := H) (locs := locs) (ls := ls) (hn_68 := by omega) (hP := hP) (hD := hD) (hS := hS) (hl := lv_sub hl [0, 1, 2, 3, 4] rfl)
        · refine lv_if_eq (tgt := 65) hx hb dX6_explore_56 (by decide) (fun h => absurd h (by decide)) (fun _ => ?_)
          refine lv_aload_n hx hb dX6_explore_59 rfl (lv_at hl 1 rfl) ?_
          refine lv_iload_n hx hb dX6_explore_60 rfl (lv_at hl 0 rfl) ?_
          refine va_put (D := D) (ci := 1) (v := .int i1988) (ty := .int) (C := RX1) (T := TX1) (N := 10) hx hb hts in_X1 tyX1 tyX1_ok nmX1 hown hE.1 hP hD hS 0 rfl rfl 5 (by decide) (hts _ w_279) (fun _ h9 => h9) rfl (by decide +kernel) rfl rfl (Nat.le_of_ble_eq_true rfl) dX6_explore_61 (fun H locs hP hD hS => ?_)
          replace hP : va_P D vwCl [(w, .inr (1, [.ref wa0, .ref wa1, .ref wa2, .int v1966, .int w1989, .int i1988, .ref wa6, .int wn7, .int wn8, .int wn9])), (wa0, .inl (K 1, 10240, .inl g1991)), (wa1, .inl (K 1, 10240, .inl g1992)), (wa2, .inl (K 1, 10240, .inl g1993)), (wa6, .inr (8, [.int (u2000.1 0), .int (u2000.1 1), .int (u2000.1 2)])), (v, .inr (9, [.ref va0, .ref va1, .ref va2, .ref va3, .ref va4, .ref va5, .ref va6, .ref va7, .int vn8, .int vn9, .int vn10, .int vn11])), (va0, .inl (K 1, 40, .inl vf0)), (va1, .inl (K 1, 10, .inl vf1))] H := hP
          replace hD : va_D A [(w, .inr (1, [.ref wa0, .ref wa1, .ref wa2, .int v1966, .int w1989, .int i1988, .ref wa6, .int wn7, .int wn8, .int wn9])), (wa0, .inl (K 1, 10240, .inl g1991)), (wa1, .inl (K 1, 10240, .inl g1992)), (wa2, .inl (K 1, 10240, .inl g1993)), (wa6, .inr (8, [.int (u2000.1 0), .int (u2000.1 1), .int (u2000.1 2)])), (v, .inr (9, [.ref va0, .ref va1, .ref va2, .ref va3, .ref va4, .ref va5, .ref va6, .ref va7, .int vn8, .int vn9, .int vn10, .int vn11])), (va0, .inl (K 1, 40, .inl vf0)), (va1, .inl (K 1, 10, .inl vf1))] := hD
          refine W.widen (k := 0) (n := 0) (by decide) (by decide) ?_
          exact ch_vret hC hr hk hS dX6_explore_64 ((fun k => [v1966, w1989, i1988, (u2000.1 0), (u2000.1 1), (u2000.1 2)].getD k 0, fun k => [g1991, g1992, g1993].getD k (fun _ => 0), fun k => [].getD k (fun _ => 0)) : ((Nat → Int32) × (Nat → Nat → Int32) × (Nat → Nat → Int64))) trivial (hP.sub [0, 1, 2, 3, 4, 5, 6, 7] rfl) (hD.sub [0, 1, 2, 3, 4, 5, 6, 7] (by decide) rfl)
set_option maxRecDepth 40000 in
set_option maxHeartbeats 4000000 in
theorem c_X6_explore_7 (l : Launch) (D : va_G) (K : Nat → ClassId) (w : Nat) (wa0 : Nat) (wa1 : Nat) (wa2 : Nat) (v : Nat) (va0 : Nat) (va1 : Nat) (va2 : Nat) (va3 : Nat) (va4 : Nat) (va5 : Nat) (va6 : Nat) (va7 : Nat) (wn3 : Int32) (wn4 : Int32) (wn5 : Int32) (wn6 : Int32) (vn8 : Int32) (vn9 : Int32) (vn10 : Int32) (vn11 : Int32) (wf0 : Nat → Int32) (wf1 : Nat → Int32) (wf2 : Nat → Int32) (vf0 : Nat → Int32) (vf1 : Nat → Int32) (p1 : Int32) : Cv (S := ((Nat → Int32) × (Nat → Nat → Int32) × (Nat → Nat → Int64))) l D K yX6_explore cX6_explore 5 4 89 0 0 [.ref w, .ref v, .int p1] [(w, .inr (6, [.ref wa0, .ref wa1, .ref wa2, .int wn3, .int wn4, .int wn5, .int wn6])), (wa0, .inl (K 1, 1024, .inl wf0)), (wa1, .inl (K 1, 1024, .inl wf1)), (wa2, .inl (K 1, 1024, .inl wf2)), (v, .inr (9, [.ref va0, .ref va1, .ref va2, .ref va3, .ref va4, .ref va5, .ref va6, .ref va7, .int vn8, .int vn9, .int vn10, .int vn11])), (va0, .inl (K 1, 40, .inl vf0)), (va1, .inl (K 1, 10, .inl vf1))] (fun _ => True) (fun u => [(w, .inr (6, [.ref wa0, .ref wa1, .ref wa2, .int (u.1 0), .int (u.1 1), .int (u.1 2), .int wn6])), (wa0, .inl (K 1, 1024, .inl (u.2.1 0))), (wa1, .inl (K 1, 1024, .inl (u.2.1 1))), (wa2, .inl (K 1, 1024, .inl (u.2.1 2))), (v, .inr (9, [.ref va0, .ref va1, .ref va2, .ref va3, .ref va4, .ref va5, .ref va6, .ref va7, .int vn8, .int vn9, .int vn10, .int vn11])), (va0, .inl (K 1, 40, .inl vf0)), (va1, .inl (K 1, 10, .inl vf1))]) := by
  intro sz
  refine ch_of (y := yX6_explore) (cc := cX6_explore) (maxL := 5) (ret := none) (av := [.ref w, .ref v, .int p1]) (ws := [(w, .inr (6, [.ref wa0, .ref wa1, .ref wa2, .int wn3, .int wn4, .int wn5, .int wn6])), (wa0, .inl (K 1, 1024, .inl wf0)), (wa1, .inl (K 1, 1024, .inl wf1)), (wa2, .inl (K 1, 1024, .inl wf2)), (v, .inr (9, [.ref va0, .ref va1, .ref va2, .ref va3, .ref va4, .ref va5, .ref va6, .ref va7, .int vn8, .int vn9, .int vn10, .int vn11])), (va0, .inl (K 1, 40, .inl vf0)), (va1, .inl (K 1, 10, .inl vf1))]) (D := D) (K := K) (Qc := fun A => va_Qv (S := ((Nat → Int32) × (Nat → Nat → Int32) × (Nat → Nat → Int64))) (fun _ => True) (chB D A (fun u => [(w, .inr (6, [.ref wa0, .ref wa1, .ref wa2, .int (u.1 0), .int (u.1 1), .int (u.1 2), .int wn6])), (wa0, .inl (K 1, 1024, .inl (u.2.1 0))), (wa1, .inl (K 1, 1024, .inl (u.2.1 1))), (wa2, .inl (K 1, 1024, .inl (u.2.1 2))), (v, .inr (9, [.ref va0, .ref va1, .ref va2, .ref va3, .ref va4, .ref va5, .ref va6, .ref va7, .int vn8, .int vn9, .int vn10, .int vn11])), (va0, .inl (K 1, 40, .inl vf0)), (va1, .inl (K 1, 10, .inl vf1))])) A) (by decide) (Nat.le_of_ble_eq_true rfl) ?_
  intro p e s m below meth c A hC hr hk hin hE hD hA H locs hP hS ls hl
  replace hC : CallFix p m c cX6_explore 5 s [.ref w, .ref v, .int p1].toArray wl RX6 := hC
  have hx := hC.1
  have hb := hC.2.1
  have hml := hC.2.2.1
  have hown := hC.2.2.2.1
  have hts := hC.2.2.2.2
  replace hl : lv_has ls 5 [(0, .ref w), (1, .ref v), (2, .int p1)] := hl
  have kc_0 : (0 : Int32).toInt = 0 := by decide
  have kc_1 : (1 : Int32).toInt = 1 := by decide
  have kc_4 : (4 : Int32).toInt = 4 := by decide
  have kc_1024 : (1024 : Int32).toInt = 1024 := by decide
  refine lv_aload_n hx hb dX6_explore_0 rfl (lv_at hl 0 rfl) ?_
  refine lv_dup hx hb dX6_explore_1 rfl ?_
  refine va_get (D := D) (ci := 6) (v := .int wn3) (C := RX7) (T := TX7) (N := 7) hx hb hts in_X7 hown hE.1 hP 0 rfl rfl 3 (by decide) (hts _ w_275) (fun _ h9 => h9) rfl dX6_explore_2 ?_
  refine lv_iconst (v := 1) hx hb dX6_explore_5 (by decide) ?_
  refine lv_iadd hx hb dX6_explore_6 ?_
  refine lv_topi (fun v2052 ev2052 => ?_)
  refine va_put (D := D) (ci := 6) (v := .int v2052) (ty := .int) (C := RX7) (T := TX7) (N := 7) hx hb hts in_X7 tyX7 tyX7_ok nmX7 hown hE.1 hP hD hS 0 rfl rfl 3 (by decide) (hts _ w_275) (fun _ h9 => h9) rfl (by decide +kernel) rfl rfl (Nat.le_of_ble_eq_true rfl) dX6_explore_7 (fun H locs hP hD hS => ?_)
  replace hP : va_P D vwCl [(w, .inr (6, [.ref wa0, .ref wa1, .ref wa2, .int v2052, .int wn4, .int wn5, .int wn6])), (wa0, .inl (K 1, 1024, .inl wf0)), (wa1, .inl (K 1, 1024, .inl wf1)), (wa2, .inl (K 1, 1024, .inl wf2)), (v, .inr (9, [.ref va0, .ref va1, .ref va2, .ref va3, .ref va4, .ref va5, .ref va6, .ref va7, .int vn8, .int vn9, .int vn10, .int vn11])), (va0, .inl (K 1, 40, .inl vf0)), (va1, .inl (K 1, 10, .inl vf1))] H := hP
  replace hD : va_D A [(w, .inr (6, [.ref wa0, .ref wa1, .ref wa2, .int v2052, .int wn4, .int wn5, .int wn6])), (wa0, .inl (K 1, 1024, .inl wf0)), (wa1, .inl (K 1, 1024, .inl wf1)), (wa2, .inl (K 1, 1024, .inl wf2)), (v, .inr (9, [.ref va0, .ref va1, .ref va2, .ref va3, .ref va4, .ref va5, .ref va6, .ref va7, .int vn8, .int vn9, .int vn10, .int vn11])), (va0, .inl (K 1, 40, .inl vf0)), (va1, .inl (K 1, 10, .inl vf1))] := hD
  refine lv_aload_n hx hb dX6_explore_10 rfl (lv_at hl 0 rfl) ?_
  refine lv_iconst (v := 0) hx hb dX6_explore_11 (by decide) ?_
  refine va_put (D := D) (ci := 6) (v := .int 0) (ty := .int) (C := RX7) (T := TX7) (N := 7) hx hb hts in_X7 tyX7 tyX7_ok nmX7 hown hE.1 hP hD hS 0 rfl rfl 4 (by decide) (hts _ w_276) (fun _ h9 => h9) rfl (by decide +kernel) rfl rfl (Nat.le_of_ble_eq_true rfl) dX6_explore_12 (fun H locs hP hD hS => ?_)
  replace hP : va_P D vwCl [(w, .inr (6, [.ref wa0, .ref wa1, .ref wa2, .int v2052, .int 0, .int wn5, .int wn6])), (wa0, .inl (K 1, 1024, .inl wf0)), (wa1, .inl (K 1, 1024, .inl wf1)), (wa2, .inl (K 1, 1024, .inl wf2)), (v, .inr (9, [.ref va0, .ref va1, .ref va2, .ref va3, .ref va4, .ref va5, .ref va6, .ref va7, .int vn8, .int vn9, .int vn10, .int vn11])), (va0, .inl (K 1, 40, .inl vf0)), (va1, .inl (K 1, 10, .inl vf1))] H := hP
  replace hD : va_D A [(w, .inr (6, [.ref wa0, .ref wa1, .ref wa2, .int v2052, .int 0, .int wn5, .int wn6])), (wa0, .inl (K 1, 1024, .inl wf0)), (wa1, .inl (K 1, 1024, .inl wf1)), (wa2, .inl (K 1, 1024, .inl wf2)), (v, .inr (9, [.ref va0, .ref va1, .ref va2, .ref va3, .ref va4, .ref va5, .ref va6, .ref va7, .int vn8, .int vn9, .int vn10, .int vn11])), (va0, .inl (K 1, 40, .inl vf0)), (va1, .inl (K 1, 10, .inl vf1))] := hD
  refine lv_aload_n hx hb dX6_explore_15 rfl (lv_at hl 0 rfl) ?_
  refine lv_iconst (v := (-1)) hx hb dX6_explore_16 (by decide) ?_
  refine va_put (D := D) (ci := 6) (v := .int (-1)) (ty := .int) (C := RX7) (T := TX7) (N := 7) hx hb hts in_X7 tyX7 tyX7_ok nmX7 hown hE.1 hP hD hS 0 rfl rfl 5 (by decide) (hts _ w_279) (fun _ h9 => h9) rfl (by decide +kernel) rfl rfl (Nat.le_of_ble_eq_true rfl) dX6_explore_17 (fun H locs hP hD hS => ?_)
  replace hP : va_P D vwCl [(w, .inr (6, [.ref wa0, .ref wa1, .ref wa2, .int v2052, .int 0, .int (-1), .int wn6])), (wa0, .inl (K 1, 1024, .inl wf0)), (wa1, .inl (K 1, 1024, .inl wf1)), (wa2, .inl (K 1, 1024, .inl wf2)), (v, .inr (9, [.ref va0, .ref va1, .ref va2, .ref va3, .ref va4, .ref va5, .ref va6, .ref va7, .int vn8, .int vn9, .int vn10, .int vn11])), (va0, .inl (K 1, 40, .inl vf0)), (va1, .inl (K 1, 10, .inl vf1))] H := hP
  replace hD : va_D A [(w, .inr (6, [.ref wa0, .ref wa1, .ref wa2, .int v2052, .int 0, .int (-1), .int wn6])), (wa0, .inl (K 1, 1024, .inl wf0)), (wa1, .inl (K 1, 1024, .inl wf1)), (wa2, .inl (K 1, 1024, .inl wf2)), (v, .inr (9, [.ref va0, .ref va1, .ref va2, .ref va3, .ref va4, .ref va5, .ref va6, .ref va7, .int vn8, .int vn9, .int vn10, .int vn11])), (va0, .inl (K 1, 40, .inl vf0)), (va1, .inl (K 1, 10, .inl vf1))] := hD
  refine lv_aload_n hx hb dX6_explore_20 rfl (lv_at hl 0 rfl) ?_
  refine lv_iload_n hx hb dX6_explore_21 rfl (lv_at hl 2 rfl) ?_
  refine lv_iconst (v := 0) hx hb dX6_explore_22 (by decide) ?_
  refine cv_U (As := [.int p1, .int 0]) (rest := []) (wc := [(w, .inr (6, [.ref wa0, .ref wa1, .ref wa2, .int v2052, .int 0, .int (-1), .int wn6])), (wa0, .inl (K 1, 1024, .inl wf0)), (wa1, .inl (K 1, 1024, .inl wf1)), (wa2, .inl (K 1, 1024, .inl wf2))]) (wr := [(v, .inr (9, [.ref va0, .ref va1, .ref va2, .ref va3, .ref va4, .ref va5, .ref va6, .ref va7, .int vn8, .int vn9, .int vn10, .int vn11])), (va0, .inl (K 1, 40, .inl vf0)), (va1, .inl (K 1, 10, .inl vf1))]) hC hE kU_X6_37_X6_meetState (decl_of hC kU_X6_37_X6_meetState rfl) (c_X6_meetState_7 l D K w wa0 wa1 wa2 v2052 0 (-1) wn6 wf0 wf1 wf2 p1 0 (by omega)) hP hD hS hA [0, 1, 2, 3] [4, 5, 6] rfl rfl rfl (by decide) (by decide) (by decide) 0 6 rfl rfl (va_Nw.use rfl hE.2.2.2.2.2.2.2) rfl hl.1 rfl (Nat.le_of_ble_eq_true rfl) (by decide) (by decide) dX6_explore_23 (fun u2053 H locs hw hP hD hS => ?_)
  replace hP : va_P D vwCl [(v, .inr (9, [.ref va0, .ref va1, .ref va2, .ref va3, .ref va4, .ref va5, .ref va6, .ref va7, .int vn8, .int vn9, .int vn10, .int vn11])), (va0, .inl (K 1, 40, .inl vf0)), (va1, .inl (K 1, 10, .inl vf1)), (w, .inr (6, [.ref wa0, .ref wa1, .ref wa2, .int v2052, .int (u2053.1 0), .int (-1), .int wn6])), (wa0, .inl (K 1, 1024, .inl (u2053.2.1 0))), (wa1, .inl (K 1, 1024, .inl (u2053.2.1 1))), (wa2, .inl (K 1, 1024, .inl (u2053.2.1 2)))] H := hP
  replace hD : va_D A [(v, .inr (9, [.ref va0, .ref va1, .ref va2, .ref va3, .ref va4, .ref va5, .ref va6, .ref va7, .int vn8, .int vn9, .int vn10, .int vn11])), (va0, .inl (K 1, 40, .inl vf0)), (va1, .inl (K 1, 10, .inl vf1)), (w, .inr (6, [.ref wa0, .ref wa1, .ref wa2, .int v2052, .int (u2053.1 0), .int (-1), .int wn6])), (wa0, .inl (K 1, 1024, .inl (u2053.2.1 0))), (wa1, .inl (K 1, 1024, .inl (u2053.2.1 1))), (wa2, .inl (K 1, 1024, .inl (u2053.2.1 2)))] := hD
  replace hP : va_P D vwCl [(w, .inr (6, [.ref wa0, .ref wa1, .ref wa2, .int v2052, .int (u2053.1 0), .int (-1), .int wn6])), (wa0, .inl (K 1, 1024, .inl (u2053.2.1 0))), (wa1, .inl (K 1, 1024, .inl (u2053.2.1 1))), (wa2, .inl (K 1, 1024, .inl (u2053.2.1 2))), (v, .inr (9, [.ref va0, .ref va1, .ref va2, .ref va3, .ref va4, .ref va5, .ref va6, .ref va7, .int vn8, .int vn9, .int vn10, .int vn11])), (va0, .inl (K 1, 40, .inl vf0)), (va1, .inl (K 1, 10, .inl vf1))] H := hP.sub [3, 4, 5, 6, 0, 1, 2] rfl
  replace hD : va_D A [(w, .inr (6, [.ref wa0, .ref wa1, .ref wa2, .int v2052, .int (u2053.1 0), .int (-1), .int wn6])), (wa0, .inl (K 1, 1024, .inl (u2053.2.1 0))), (wa1, .inl (K 1, 1024, .inl (u2053.2.1 1))), (wa2, .inl (K 1, 1024, .inl (u2053.2.1 2))), (v, .inr (9, [.ref va0, .ref va1, .ref va2, .ref va3, .ref va4, .ref va5, .ref va6, .ref va7, .int vn8, .int vn9, .int vn10, .int vn11])), (va0, .inl (K 1, 40, .inl vf0)), (va1, .inl (K 1, 10, .inl vf1))] := hD.sub [3, 4, 5, 6, 0, 1, 2] (by decide) rfl
  refine W.widen (k := 0) (n := 0) (by decide) (by decide) ?_
  have hf := hw
  have f2055 : 0 ≤ (u2053.1 0).toInt := hf
  refine lv_iconst (v := 0) hx hb dX6_explore_26 (by decide) ?_
  refine lv_istore_n (lv' := [(3, .int 0), (0, .ref w), (1, .ref v), (2, .int p1)]) hx hb dX6_explore_27 rfl hl (by decide) rfl (fun ls hl => ?_)
  have hl' := hl; have hP' := hP; have hD' := hD; clear hl hP hD
  obtain ⟨i2072, w2073, w2074, g2075, g2076, g2077, hi_28, hl, hP, hD⟩ : ∃ (i2072 : Int32) (w2073 : Int32) (w2074 : Int32) (g2075 : Nat → Int32) (g2076 : Nat → Int32) (g2077 : Nat → Int32), ((0 : Int) ≤ i2072.toInt) ∧ lv_has ls 5 [(3, .int i2072), (0, .ref w), (1, .ref v), (2, .int p1)] ∧ va_P D vwCl [(w, .inr (6, [.ref wa0, .ref wa1, .ref wa2, .int v2052, .int w2073, .int w2074, .int wn6])), (wa0, .inl (K 1, 1024, .inl g2075)), (wa1, .inl (K 1, 1024, .inl g2076)), (wa2, .inl (K 1, 1024, .inl g2077)), (v, .inr (9, [.ref va0, .ref va1, .ref va2, .ref va3, .ref va4, .ref va5, .ref va6, .ref va7, .int vn8, .int vn9, .int vn10, .int vn11])), (va0, .inl (K 1, 40, .inl vf0)), (va1, .inl (K 1, 10, .inl vf1))] H ∧ va_D A [(w, .inr (6, [.ref wa0, .ref wa1, .ref wa2, .int v2052, .int w2073, .int w2074, .int wn6])), (wa0, .inl (K 1, 1024, .inl g2075)), (wa1, .inl (K 1, 1024, .inl g2076)), (wa2, .inl (K 1, 1024, .inl g2077)), (v, .inr (9, [.ref va0, .ref va1, .ref va2, .ref va3, .ref va4, .ref va5, .ref va6, .ref va7, .int vn8, .int vn9, .int vn10, .int vn11])), (va0, .inl (K 1, 40, .inl vf0)), (va1, .inl (K 1, 10, .inl vf1))] := ⟨_, _, _, _, _, _, by omega, hl', hP', hD'⟩
  clear hl' hP' hD'
  obtain ⟨n_28, hn_28⟩ : ∃ n : Nat, (1024 - i2072.toInt).toNat < n := ⟨_, Nat.lt_succ_self _⟩
  induction n_28 generalizing i2072 w2073 w2074 g2075 g2076 g2077 H locs ls with
  | zero => exact absurd hn_28 (Nat.not_lt_zero _)
  | succ n_28 ih_28 =>
    refine lv_iload_n hx hb dX6_explore_28 rfl (lv_at hl 0 rfl) ?_
    refine lv_aload_n hx hb dX6_explore_29 rfl (lv_at hl 1 rfl) ?_
    refine va_get (D := D) (ci := 6) (v := .int w2073) (C := RX7) (T := TX7) (N := 7) hx hb hts in_X7 hown hE.1 hP 0 rfl rfl 4 (by decide) (hts _ w_276) (fun _ h9 => h9) rfl dX6_explore_30 ?_
    refine lv_icmp_ge (tgt := 109) hx hb dX6_explore_33 (by decide) (fun c2078 => ?_) (fun c2078 => ?_)
    · replace c2078 := le_i c2078
      refine W.widen (k := 0) (n := 0) (by decide) (by decide) ?_
      exact ch_vret hC hr hk hS dX6_explore_109 ((fun k => [v2052, w2073, w2074].getD k 0, fun k => [g2075, g2076, g2077].getD k (fun _ => 0), fun k => [].getD k (fun _ => 0)) : ((Nat → Int32) × (Nat → Nat → Int32) × (Nat → Nat → Int64))) trivial (hP.sub [0, 1, 2, 3, 4, 5, 6] rfl) (hD.sub [0, 1, 2, 3, 4, 5, 6] (by decide) rfl)
    · replace c2078 := nle_i c2078
      refine lv_iload_n hx hb dX6_explore_36 rfl (lv_at hl 0 rfl) ?_
      refine lv_aload_n hx hb dX6_explore_37 rfl (lv_at hl 1 rfl) ?_
      refine va_get (D := D) (ci := 6) (v := .ref wa1) (C := RX7) (T := TX7) (N := 7) hx hb hts in_X7 hown hE.1 hP 0 rfl rfl 1 (by decide) (hts _ w_277) (fun _ h9 => h9) rfl dX6_explore_38 ?_
      refine va_alen (v := 1024) hx hb hE.1 hP 2 1 rfl rfl (show Int32.ofNat 1024 = 1024 by decide) dX6_explore_41 ?_
      refine lv_icmp_ge (tgt := 109) hx hb dX6_explore_42 (by decide) (fun c2079 => ?_) (fun c2079 => ?_)
      · replace c2079 := le_i c2079
        refine W.widen (k := 0) (n := 0) (by decide) (by decide) ?_
        exact ch_vret hC hr hk hS dX6_explore_109 ((fun k => [v2052, w2073, w2074].getD k 0, fun k => [g2075, g2076, g2077].getD k (fun _ => 0), fun k => [].getD k (fun _ => 0)) : ((Nat → Int32) × (Nat → Nat → Int32) × (Nat → Nat → Int64))) trivial (hP.sub [0, 1, 2, 3, 4, 5, 6] rfl) (hD.sub [0, 1, 2, 3, 4, 5, 6] (by decide) rfl)
      · replace c2079 := nle_i c2079
        refine lv_aload_n hx hb dX6_explore_45 rfl (lv_at hl 1 rfl) ?_
        refine lv_aload_n hx hb dX6_explore_46 rfl (lv_at hl 2 rfl) ?_
        refine lv_aload_n hx hb dX6_explore_47 rfl (lv_at hl 1 rfl) ?_
        refine va_get (D := D) (ci := 6) (v := .ref wa1) (C := RX7) (T := TX7) (N := 7) hx hb hts in_X7 hown hE.1 hP 0 rfl rfl 1 (by decide) (hts _ w_277) (fun _ h9 => h9) rfl dX6_explore_48 ?_
        refine lv_iload_n hx hb dX6_explore_51 rfl (lv_at hl 0 rfl) ?_
        refine va_iald hx hb hE.1 hP 2 1 rfl rfl (vp_in_iff.mpr (by omega)) dX6_explore_52 ?_
        refine lv_topi (fun v2080 ev2080 => ?_)
        refine ro_U (As := [.ref v, .int v2080]) (rest := []) hC hE kU_X6_41_X7_ends (va_Decl.abs hE.2.2.2.2.1) (c_X7_ends l D K w wa0 wa1 wa2 v va0 va1 va2 va3 va4 va5 va6 va7 v2052 w2073 w2074 wn6 vn8 vn9 vn10 vn11 vf1 v2080) (hP.sub (ws' := [(w, .inr (6, [.ref wa0, .ref wa1, .ref wa2, .int v2052, .int w2073, .int w2074, .int wn6])), (v, .inr (9, [.ref va0, .ref va1, .ref va2, .ref va3, .ref va4, .ref va5, .ref va6, .ref va7, .int vn8, .int vn9, .int vn10, .int vn11])), (va1, .inl (K 1, 10, .inl vf1))]) [0, 4, 6] rfl) 0 6 rfl rfl (hts _ w_341) rfl hl.1 rfl (Nat.le_of_ble_eq_true rfl) (by decide) (by decide) dX6_explore_53 (fun r2081 hq => ?_)
        rcases hq with rfl | rfl
        · refine lv_if_eq (tgt := 65) hx hb dX6_explore_56 (by decide) (fun _ => ?_) (fun h => absurd h (by decide))
          refine lv_iconst (v := 0) hx hb dX6_explore_65 (by decide) ?_
          refine lv_istore (lv' := [(4, .int 0), (3, .int i2072), (0, .ref w), (1, .ref v), (2, .int p1)]) hx hb dX6_explore_66 hl (by decide) rfl (fun ls hl => ?_)
          have hl' := hl; have hP' := hP; have hD' := hD; clear hl hP hD
          obtain ⟨i2092, w2093, g2094, g2095, g2096, hi_68, hl, hP, hD⟩ : ∃ (i2092 : Int32) (w2093 : Int32) (g2094 : Nat → Int32) (g2095 : Nat → Int32) (g2096 : Nat → Int32), ((0 : Int) ≤ i2092.toInt) ∧ lv_has ls 5 [(4, .int i2092), (3, .int i2072), (0, .ref w), (1, .ref v), (2, .int p1)] ∧ va_P D vwCl [(w, .inr (6, [.ref wa0, .ref wa1, .ref wa2, .int v2052, .int w2093, .int w2074, .int wn6])), (wa0, .inl (K 1, 1024, .inl g2094)), (wa1, .inl (K 1, 1024, .inl g2095)), (wa2, .inl (K 1, 1024, .inl g2096)), (v, .inr (9, [.ref va0, .ref va1, .ref va2, .ref va3, .ref va4, .ref va5, .ref va6, .ref va7, .int vn8, .int vn9, .int vn10, .int vn11])), (va0, .inl (K 1, 40, .inl vf0)), (va1, .inl (K 1, 10, .inl vf1))] H ∧ va_D A [(w, .inr (6, [.ref wa0, .ref wa1, .ref wa2, .int v2052, .int w2093, .int w2074, .int wn6])), (wa0, .inl (K 1, 1024, .inl g2094)), (wa1, .inl (K 1, 1024, .inl g2095)), (wa2, .inl (K 1, 1024, .inl g2096)), (v, .inr (9, [.ref va0, .ref va1, .ref va2, .ref va3, .ref va4, .ref va5, .ref va6, .ref va7, .int vn8, .int vn9, .int vn10, .int vn11])), (va0, .inl (K 1, 40, .inl vf0)), (va1, .inl (K 1, 10, .inl vf1))] := ⟨_, _, _, _, _, by omega, hl', hP', hD'⟩
          clear hl' hP' hD'
          obtain ⟨n_68, hn_68⟩ : ∃ n : Nat, (4 - i2092.toInt).toNat < n := ⟨_, Nat.lt_succ_self _⟩
          induction n_68 generalizing i2092 w2093 g2094 g2095 g2096 H locs ls with
          | zero => exact absurd hn_68 (Nat.not_lt_zero _)
          | succ n_68 ih_68 =>
            refine lv_iload hx hb dX6_explore_68 (lv_at hl 0 rfl) ?_
            refine lv_iconst (v := 4) hx hb dX6_explore_70 (by decide) ?_
            refine lv_icmp_ge (tgt := 103) hx hb dX6_explore_71 (by decide) (fun c2097 => ?_) (fun c2097 => ?_)
            · replace c2097 := le_i c2097
              obtain ⟨v2098, ev2098⟩ : ∃ z : Int32, z = i2072 + 1 := ⟨_, rfl⟩
              refine lv_iinc (v := v2098) (lv' := [(3, .int v2098), (4, .int i2092), (0, .ref w), (1, .ref v), (2, .int p1)]) hx hb dX6_explore_103 hl (k := 1) rfl (by rw [ev2098]; rfl) (by decide) rfl (fun ls hl => ?_)
              refine lv_goto (tgt := 28) hx hb dX6_explore_106 (by decide) ?_
              have tv2098 : v2098.toInt = (i2072 : Int32).toInt + (1 : Int32).toInt := add_i ev2098 (by omega) (by omega)
              exact ih_28 (i2072 := v2098) (w2073 := w2093) (w2074 := w2074) (g2075 := g2094) (g2076 := g2095) (g2077 := g2096) (hi_28 := by omega) (H := H) (locs := locs) (ls := ls) (hn_28 := by omega) (hP := hP) (hD := hD) (hS := hS) (hl := lv_sub hl [0, 2, 3, 4] rfl)
            · replace c2097 := nle_i c2097
              refine lv_aload_n hx hb dX6_explore_74 rfl (lv_at hl 2 rfl) ?_
              refine lv_aload_n hx hb dX6_explore_75 rfl (lv_at hl 2 rfl) ?_
              refine lv_aload_n hx hb dX6_explore_76 rfl (lv_at hl 3 rfl) ?_
              refine lv_aload_n hx hb dX6_explore_77 rfl (lv_at hl 2 rfl) ?_
              refine va_get (D := D) (ci := 6) (v := .ref wa1) (C := RX7) (T := TX7) (N := 7) hx hb hts in_X7 hown hE.1 hP 0 rfl rfl 1 (by decide) (hts _ w_277) (fun _ h9 => h9) rfl dX6_explore_78 ?_
              refine lv_iload_n hx hb dX6_explore_81 rfl (lv_at hl 1 rfl) ?_
              refine va_iald hx hb hE.1 hP 2 1 rfl rfl (vp_in_iff.mpr (by omega)) dX6_explore_82 ?_
              refine lv_topi (fun v2099 ev2099 => ?_)
              refine lv_iload hx hb dX6_explore_83 (lv_at hl 0 rfl) ?_
              refine ro_U (As := [.ref v, .int v2099, .int i2092]) (rest := [.ref w]) hC hE kU_X6_45_X7_next (va_Decl.abs hE.2.2.2.2.2.1) (c_X7_next l D K w wa0 wa1 wa2 v va0 va1 va2 va3 va4 va5 va6 va7 v2052 w2093 w2074 wn6 vn8 vn9 vn10 vn11 vf0 v2099 i2092) (hP.sub (ws' := [(w, .inr (6, [.ref wa0, .ref wa1, .ref wa2, .int v2052, .int w2093, .int w2074, .int wn6])), (v, .inr (9, [.ref va0, .ref va1, .ref va2, .ref va3, .ref va4, .ref va5, .ref va6, .ref va7, .int vn8, .int vn9, .int vn10, .int vn11])), (va0, .inl (K 1, 40, .inl vf0))]) [0, 4, 5] rfl) 0 6 rfl rfl (hts _ w_344) rfl hl.1 rfl (Nat.le_of_ble_eq_true rfl) (by decide) (by decide) dX6_explore_85 (fun r2100 _ => ?_)
              refine lv_iload_n hx hb dX6_explore_88 rfl (lv_at hl 1 rfl) ?_
              refine lv_iconst (v := 4) hx hb dX6_explore_89 (by decide) ?_
              refine lv_imul hx hb dX6_explore_90 ?_
              refine lv_topi (fun v2101 ev2101 => ?_)
              refine lv_iload hx hb dX6_explore_91 (lv_at hl 0 rfl) ?_
              refine lv_iadd hx hb dX6_explore_93 ?_
              refine lv_topi (fun v2102 ev2102 => ?_)
              have tv2101 : v2101.toInt = i2072.toInt * 4 := mul_i ev2101 rfl (by decide) (by omega) (by omega)
              have tv2102 : v2102.toInt = (v2101 : Int32).toInt + (i2092 : Int32).toInt := add_i ev2102 (by omega) (by omega)
              refine cv_U (As := [.int r2100, .int v2102]) (rest := []) (wc := [(w, .inr (6, [.ref wa0, .ref wa1, .ref wa2, .int v2052, .int w2093, .int w2074, .int wn6])), (wa0, .inl (K 1, 1024, .inl g2094)), (wa1, .inl (K 1, 1024, .inl g2095)), (wa2, .inl (K 1, 1024, .inl g2096))]) (wr := [(v, .inr (9, [.ref va0, .ref va1, .ref va2, .ref va3, .ref va4, .ref va5, .ref va6, .ref va7, .int vn8, .int vn9, .int vn10, .int vn11])), (va0, .inl (K 1, 40, .inl vf0)), (va1, .inl (K 1, 10, .inl vf1))]) hC hE kU_X6_37_X6_meetState (decl_of hC kU_X6_37_X6_meetState rfl) (c_X6_meetState_7 l D K w wa0 wa1 wa2 v2052 w2093 w2074 wn6 g2094 g2095 g2096 r2100 v2102 (by omega)) hP hD hS hA [0, 1, 2, 3] [4, 5, 6] rfl rfl rfl (by decide) (by decide) (by decide) 0 6 rfl rfl (va_Nw.use rfl hE.2.2.2.2.2.2.2) rfl hl.1 rfl (Nat.le_of_ble_eq_true rfl) (by decide) (by decide) dX6_explore_94 (fun u2103 H locs hw hP hD hS => ?_)
              replace hP : va_P D vwCl [(v, .inr (9, [.ref va0, .ref va1, .ref va2, .ref va3, .ref va4, .ref va5, .ref va6, .ref va7, .int vn8, .int vn9, .int vn10, .int vn11])), (va0, .inl (K 1, 40, .inl vf0)), (va1, .inl (K 1, 10, .inl vf1)), (w, .inr (6, [.ref wa0, .ref wa1, .ref wa2, .int v2052, .int (u2103.1 0), .int w2074, .int wn6])), (wa0, .inl (K 1, 1024, .inl (u2103.2.1 0))), (wa1, .inl (K 1, 1024, .inl (u2103.2.1 1))), (wa2, .inl (K 1, 1024, .inl (u2103.2.1 2)))] H := hP
              replace hD : va_D A [(v, .inr (9, [.ref va0, .ref va1, .ref va2, .ref va3, .ref va4, .ref va5, .ref va6, .ref va7, .int vn8, .int vn9, .int vn10, .int vn11])), (va0, .inl (K 1, 40, .inl vf0)), (va1, .inl (K 1, 10, .inl vf1)), (w, .inr (6, [.ref wa0, .ref wa1, .ref wa2, .int v2052, .int (u2103.1 0), .int w2074, .int wn6])), (wa0, .inl (K 1, 1024, .inl (u2103.2.1 0))), (wa1, .inl (K 1, 1024, .inl (u2103.2.1 1))), (wa2, .inl (K 1, 1024, .inl (u2103.2.1 2)))] := hD
              replace hP : va_P D vwCl [(w, .inr (6, [.ref wa0, .ref wa1, .ref wa2, .int v2052, .int (u2103.1 0), .int w2074, .int wn6])), (wa0, .inl (K 1, 1024, .inl (u2103.2.1 0))), (wa1, .inl (K 1, 1024, .inl (u2103.2.1 1))), (wa2, .inl (K 1, 1024, .inl (u2103.2.1 2))), (v, .inr (9, [.ref va0, .ref va1, .ref va2, .ref va3, .ref va4, .ref va5, .ref va6, .ref va7, .int vn8, .int vn9, .int vn10, .int vn11])), (va0, .inl (K 1, 40, .inl vf0)), (va1, .inl (K 1, 10, .inl vf1))] H := hP.sub [3, 4, 5, 6, 0, 1, 2] rfl
              replace hD : va_D A [(w, .inr (6, [.ref wa0, .ref wa1, .ref wa2, .int v2052, .int (u2103.1 0), .int w2074, .int wn6])), (wa0, .inl (K 1, 1024, .inl (u2103.2.1 0))), (wa1, .inl (K 1, 1024, .inl (u2103.2.1 1))), (wa2, .inl (K 1, 1024, .inl (u2103.2.1 2))), (v, .inr (9, [.ref va0, .ref va1, .ref va2, .ref va3, .ref va4, .ref va5, .ref va6, .ref va7, .int vn8, .int vn9, .int vn10, .int vn11])), (va0, .inl (K 1, 40, .inl vf0)), (va1, .inl (K 1, 10, .inl vf1))] := hD.sub [3, 4, 5, 6, 0, 1, 2] (by decide) rfl
              refine W.widen (k := 0) (n := 0) (by decide) (by decide) ?_
              have hf := hw
              have f2105 : 0 ≤ (u2103.1 0).toInt := hf
              obtain ⟨v2106, ev2106⟩ : ∃ z : Int32, z = i2092 + 1 := ⟨_, rfl⟩
              refine lv_iinc (v := v2106) (lv' := [(4, .int v2106), (3, .int i2072), (0, .ref w), (1, .ref v), (2, .int p1)]) hx hb dX6_explore_97 hl (k := 0) rfl (by rw [ev2106]; rfl) (by decide) rfl (fun ls hl => ?_)
              refine lv_goto (tgt := 68) hx hb dX6_explore_100 (by decide) ?_
              have tv2106 : v2106.toInt = (i2092 : Int32).toInt + (1 : Int32).toInt := add_i ev2106 (by omega) (by omega)
              exact ih_68 (i2092 := v2106) (w2093 := (u2103.1 0)) (g2094 := (u2103.2.1 0)) (g2095 := (u2103.2.1 1)) (g2096 := (u2103.2.1 2)) (hi_68 := by omega) (H := H) (locs := locs) (ls := ls) (hn_68 := by omega) (hP := hP) (hD := hD) (hS := hS) (hl := lv_sub hl [0, 1, 2, 3, 4] rfl)
        · refine lv_if_eq (tgt := 65) hx hb dX6_explore_56 (by decide) (fun h => absurd h (by decide)) (fun _ => ?_)
          refine lv_aload_n hx hb dX6_explore_59 rfl (lv_at hl 1 rfl) ?_
          refine lv_iload_n hx hb dX6_explore_60 rfl (lv_at hl 0 rfl) ?_
          refine va_put (D := D) (ci := 6) (v := .int i2072) (ty := .int) (C := RX7) (T := TX7) (N := 7) hx hb hts in_X7 tyX7 tyX7_ok nmX7 hown hE.1 hP hD hS 0 rfl rfl 5 (by decide) (hts _ w_279) (fun _ h9 => h9) rfl (by decide +kernel) rfl rfl (Nat.le_of_ble_eq_true rfl) dX6_explore_61 (fun H locs hP hD hS => ?_)
          replace hP : va_P D vwCl [(w, .inr (6, [.ref wa0, .ref wa1, .ref wa2, .int v2052, .int w2073, .int i2072, .int wn6])), (wa0, .inl (K 1, 1024, .inl g2075)), (wa1, .inl (K 1, 1024, .inl g2076)), (wa2, .inl (K 1, 1024, .inl g2077)), (v, .inr (9, [.ref va0, .ref va1, .ref va2, .ref va3, .ref va4, .ref va5, .ref va6, .ref va7, .int vn8, .int vn9, .int vn10, .int vn11])), (va0, .inl (K 1, 40, .inl vf0)), (va1, .inl (K 1, 10, .inl vf1))] H := hP
          replace hD : va_D A [(w, .inr (6, [.ref wa0, .ref wa1, .ref wa2, .int v2052, .int w2073, .int i2072, .int wn6])), (wa0, .inl (K 1, 1024, .inl g2075)), (wa1, .inl (K 1, 1024, .inl g2076)), (wa2, .inl (K 1, 1024, .inl g2077)), (v, .inr (9, [.ref va0, .ref va1, .ref va2, .ref va3, .ref va4, .ref va5, .ref va6, .ref va7, .int vn8, .int vn9, .int vn10, .int vn11])), (va0, .inl (K 1, 40, .inl vf0)), (va1, .inl (K 1, 10, .inl vf1))] := hD
          refine W.widen (k := 0) (n := 0) (by decide) (by decide) ?_
          exact ch_vret hC hr hk hS dX6_explore_64 ((fun k => [v2052, w2073, i2072].getD k 0, fun k => [g2075, g2076, g2077].getD k (fun _ => 0), fun k => [].getD k (fun _ => 0)) : ((Nat → Int32) × (Nat → Nat → Int32) × (Nat → Nat → Int64))) trivial (hP.sub [0, 1, 2, 3, 4, 5, 6] rfl) (hD.sub [0, 1, 2, 3, 4, 5, 6] (by decide) rfl)
set_option maxRecDepth 40000 in
set_option maxHeartbeats 4000000 in
theorem c_X7_seek (l : Launch) (D : va_G) (K : Nat → ClassId) (w : Nat) (wa0 : Nat) (wa1 : Nat) (wa2 : Nat) (v : Nat) (va0 : Nat) (va1 : Nat) (va2 : Nat) (va3 : Nat) (va4 : Nat) (va5 : Nat) (va6 : Nat) (va7 : Nat) (wn3 : Int32) (wn4 : Int32) (wn5 : Int32) (wn6 : Int32) (vn8 : Int32) (vn9 : Int32) (vn10 : Int32) (vn11 : Int32) (wf0 : Nat → Int32) (wf1 : Nat → Int32) (wf2 : Nat → Int32) (vf0 : Nat → Int32) (vf1 : Nat → Int32) (p1 : Int32) (p2 : Int32) : Cv (S := ((Nat → Int32) × (Nat → Nat → Int32) × (Nat → Nat → Int64))) l D K yX7_seek cX7_seek 4 5 113 0 0 [.ref w, .ref v, .int p1, .int p2] [(w, .inr (6, [.ref wa0, .ref wa1, .ref wa2, .int wn3, .int wn4, .int wn5, .int wn6])), (wa0, .inl (K 1, 1024, .inl wf0)), (wa1, .inl (K 1, 1024, .inl wf1)), (wa2, .inl (K 1, 1024, .inl wf2)), (v, .inr (9, [.ref va0, .ref va1, .ref va2, .ref va3, .ref va4, .ref va5, .ref va6, .ref va7, .int vn8, .int vn9, .int vn10, .int vn11])), (va0, .inl (K 1, 40, .inl vf0)), (va1, .inl (K 1, 10, .inl vf1))] (fun _ => True) (fun u => [(w, .inr (6, [.ref wa0, .ref wa1, .ref wa2, .int (u.1 0), .int (u.1 1), .int (u.1 2), .int (u.1 3)])), (wa0, .inl (K 1, 1024, .inl (u.2.1 0))), (wa1, .inl (K 1, 1024, .inl (u.2.1 1))), (wa2, .inl (K 1, 1024, .inl (u.2.1 2))), (v, .inr (9, [.ref va0, .ref va1, .ref va2, .ref va3, .ref va4, .ref va5, .ref va6, .ref va7, .int vn8, .int vn9, .int vn10, .int vn11])), (va0, .inl (K 1, 40, .inl vf0)), (va1, .inl (K 1, 10, .inl vf1))]) := by
  intro sz
  refine ch_of (y := yX7_seek) (cc := cX7_seek) (maxL := 4) (ret := none) (av := [.ref w, .ref v, .int p1, .int p2]) (ws := [(w, .inr (6, [.ref wa0, .ref wa1, .ref wa2, .int wn3, .int wn4, .int wn5, .int wn6])), (wa0, .inl (K 1, 1024, .inl wf0)), (wa1, .inl (K 1, 1024, .inl wf1)), (wa2, .inl (K 1, 1024, .inl wf2)), (v, .inr (9, [.ref va0, .ref va1, .ref va2, .ref va3, .ref va4, .ref va5, .ref va6, .ref va7, .int vn8, .int vn9, .int vn10, .int vn11])), (va0, .inl (K 1, 40, .inl vf0)), (va1, .inl (K 1, 10, .inl vf1))]) (D := D) (K := K) (Qc := fun A => va_Qv (S := ((Nat → Int32) × (Nat → Nat → Int32) × (Nat → Nat → Int64))) (fun _ => True) (chB D A (fun u => [(w, .inr (6, [.ref wa0, .ref wa1, .ref wa2, .int (u.1 0), .int (u.1 1), .int (u.1 2), .int (u.1 3)])), (wa0, .inl (K 1, 1024, .inl (u.2.1 0))), (wa1, .inl (K 1, 1024, .inl (u.2.1 1))), (wa2, .inl (K 1, 1024, .inl (u.2.1 2))), (v, .inr (9, [.ref va0, .ref va1, .ref va2, .ref va3, .ref va4, .ref va5, .ref va6, .ref va7, .int vn8, .int vn9, .int vn10, .int vn11])), (va0, .inl (K 1, 40, .inl vf0)), (va1, .inl (K 1, 10, .inl vf1))])) A) (by decide) (Nat.le_of_ble_eq_true rfl) ?_
  intro p e s m below meth c A hC hr hk hin hE hD hA H locs hP hS ls hl
  replace hC : CallFix p m c cX7_seek 4 s [.ref w, .ref v, .int p1, .int p2].toArray wl RX7 := hC
  have hx := hC.1
  have hb := hC.2.1
  have hml := hC.2.2.1
  have hown := hC.2.2.2.1
  have hts := hC.2.2.2.2
  replace hl : lv_has ls 4 [(0, .ref w), (1, .ref v), (2, .int p1), (3, .int p2)] := hl
  refine lv_aload_n hx hb dX7_seek_0 rfl (lv_at hl 0 rfl) ?_
  refine lv_iload_n hx hb dX7_seek_1 rfl (lv_at hl 3 rfl) ?_
  refine va_put (D := D) (ci := 6) (v := .int p2) (ty := .int) (C := RX7) (T := TX7) (N := 7) hx hb hts in_X7 tyX7 tyX7_ok nmX7 hown hE.1 hP hD hS 0 rfl rfl 6 (by decide) (hts _ w_318) (fun _ h9 => h9) rfl (by decide +kernel) rfl rfl (Nat.le_of_ble_eq_true rfl) dX7_seek_2 (fun H locs hP hD hS => ?_)
  replace hP : va_P D vwCl [(w, .inr (6, [.ref wa0, .ref wa1, .ref wa2, .int wn3, .int wn4, .int wn5, .int p2])), (wa0, .inl (K 1, 1024, .inl wf0)), (wa1, .inl (K 1, 1024, .inl wf1)), (wa2, .inl (K 1, 1024, .inl wf2)), (v, .inr (9, [.ref va0, .ref va1, .ref va2, .ref va3, .ref va4, .ref va5, .ref va6, .ref va7, .int vn8, .int vn9, .int vn10, .int vn11])), (va0, .inl (K 1, 40, .inl vf0)), (va1, .inl (K 1, 10, .inl vf1))] H := hP
  replace hD : va_D A [(w, .inr (6, [.ref wa0, .ref wa1, .ref wa2, .int wn3, .int wn4, .int wn5, .int p2])), (wa0, .inl (K 1, 1024, .inl wf0)), (wa1, .inl (K 1, 1024, .inl wf1)), (wa2, .inl (K 1, 1024, .inl wf2)), (v, .inr (9, [.ref va0, .ref va1, .ref va2, .ref va3, .ref va4, .ref va5, .ref va6, .ref va7, .int vn8, .int vn9, .int vn10, .int vn11])), (va0, .inl (K 1, 40, .inl vf0)), (va1, .inl (K 1, 10, .inl vf1))] := hD
  refine lv_aload_n hx hb dX7_seek_5 rfl (lv_at hl 0 rfl) ?_
  refine lv_aload_n hx hb dX7_seek_6 rfl (lv_at hl 1 rfl) ?_
  refine lv_iload_n hx hb dX7_seek_7 rfl (lv_at hl 2 rfl) ?_
  refine cv_U (As := [.ref v, .int p1]) (rest := []) (wc := [(w, .inr (6, [.ref wa0, .ref wa1, .ref wa2, .int wn3, .int wn4, .int wn5, .int p2])), (wa0, .inl (K 1, 1024, .inl wf0)), (wa1, .inl (K 1, 1024, .inl wf1)), (wa2, .inl (K 1, 1024, .inl wf2)), (v, .inr (9, [.ref va0, .ref va1, .ref va2, .ref va3, .ref va4, .ref va5, .ref va6, .ref va7, .int vn8, .int vn9, .int vn10, .int vn11])), (va0, .inl (K 1, 40, .inl vf0)), (va1, .inl (K 1, 10, .inl vf1))]) (wr := []) hC hE kU_X7_15_X6_explore (decl_of hC kU_X7_15_X6_explore rfl) (c_X6_explore_7 l D K w wa0 wa1 wa2 v va0 va1 va2 va3 va4 va5 va6 va7 wn3 wn4 wn5 p2 vn8 vn9 vn10 vn11 wf0 wf1 wf2 vf0 vf1 p1) hP hD hS hA [0, 1, 2, 3, 4, 5, 6] [] rfl rfl rfl (by decide) (by decide) (by decide) 0 6 rfl rfl (hts _ w_349) rfl hl.1 rfl (Nat.le_of_ble_eq_true rfl) (by decide) (by decide) dX7_seek_8 (fun u2109 H locs hw hP hD hS => ?_)
  replace hP : va_P D vwCl [(w, .inr (6, [.ref wa0, .ref wa1, .ref wa2, .int (u2109.1 0), .int (u2109.1 1), .int (u2109.1 2), .int p2])), (wa0, .inl (K 1, 1024, .inl (u2109.2.1 0))), (wa1, .inl (K 1, 1024, .inl (u2109.2.1 1))), (wa2, .inl (K 1, 1024, .inl (u2109.2.1 2))), (v, .inr (9, [.ref va0, .ref va1, .ref va2, .ref va3, .ref va4, .ref va5, .ref va6, .ref va7, .int vn8, .int vn9, .int vn10, .int vn11])), (va0, .inl (K 1, 40, .inl vf0)), (va1, .inl (K 1, 10, .inl vf1))] H := hP
  replace hD : va_D A [(w, .inr (6, [.ref wa0, .ref wa1, .ref wa2, .int (u2109.1 0), .int (u2109.1 1), .int (u2109.1 2), .int p2])), (wa0, .inl (K 1, 1024, .inl (u2109.2.1 0))), (wa1, .inl (K 1, 1024, .inl (u2109.2.1 1))), (wa2, .inl (K 1, 1024, .inl (u2109.2.1 2))), (v, .inr (9, [.ref va0, .ref va1, .ref va2, .ref va3, .ref va4, .ref va5, .ref va6, .ref va7, .int vn8, .int vn9, .int vn10, .int vn11])), (va0, .inl (K 1, 40, .inl vf0)), (va1, .inl (K 1, 10, .inl vf1))] := hD
  replace hP : va_P D vwCl [(w, .inr (6, [.ref wa0, .ref wa1, .ref wa2, .int (u2109.1 0), .int (u2109.1 1), .int (u2109.1 2), .int p2])), (wa0, .inl (K 1, 1024, .inl (u2109.2.1 0))), (wa1, .inl (K 1, 1024, .inl (u2109.2.1 1))), (wa2, .inl (K 1, 1024, .inl (u2109.2.1 2))), (v, .inr (9, [.ref va0, .ref va1, .ref va2, .ref va3, .ref va4, .ref va5, .ref va6, .ref va7, .int vn8, .int vn9, .int vn10, .int vn11])), (va0, .inl (K 1, 40, .inl vf0)), (va1, .inl (K 1, 10, .inl vf1))] H := hP.sub [0, 1, 2, 3, 4, 5, 6] rfl
  replace hD : va_D A [(w, .inr (6, [.ref wa0, .ref wa1, .ref wa2, .int (u2109.1 0), .int (u2109.1 1), .int (u2109.1 2), .int p2])), (wa0, .inl (K 1, 1024, .inl (u2109.2.1 0))), (wa1, .inl (K 1, 1024, .inl (u2109.2.1 1))), (wa2, .inl (K 1, 1024, .inl (u2109.2.1 2))), (v, .inr (9, [.ref va0, .ref va1, .ref va2, .ref va3, .ref va4, .ref va5, .ref va6, .ref va7, .int vn8, .int vn9, .int vn10, .int vn11])), (va0, .inl (K 1, 40, .inl vf0)), (va1, .inl (K 1, 10, .inl vf1))] := hD.sub [0, 1, 2, 3, 4, 5, 6] (by decide) rfl
  refine W.widen (k := 0) (n := 0) (by decide) (by decide) ?_
  refine W.widen (k := 0) (n := 0) (by decide) (by decide) ?_
  exact ch_vret hC hr hk hS dX7_seek_11 ((fun k => [(u2109.1 0), (u2109.1 1), (u2109.1 2), p2].getD k 0, fun k => [(u2109.2.1 0), (u2109.2.1 1), (u2109.2.1 2)].getD k (fun _ => 0), fun k => [].getD k (fun _ => 0)) : ((Nat → Int32) × (Nat → Nat → Int32) × (Nat → Nat → Int64))) trivial (hP.sub [0, 1, 2, 3, 4, 5, 6] rfl) (hD.sub [0, 1, 2, 3, 4, 5, 6] (by decide) rfl)
set_option maxRecDepth 40000 in
set_option maxHeartbeats 4000000 in
theorem c_X7_allShowOne (l : Launch) (D : va_G) (K : Nat → ClassId) (w : Nat) (wa0 : Nat) (wa1 : Nat) (wa2 : Nat) (v : Nat) (va0 : Nat) (va1 : Nat) (va2 : Nat) (va3 : Nat) (va4 : Nat) (va5 : Nat) (va6 : Nat) (va7 : Nat) (wn3 : Int32) (wn4 : Int32) (wn5 : Int32) (wn6 : Int32) (vn8 : Int32) (vn9 : Int32) (vn10 : Int32) (vn11 : Int32) (wf1 : Nat → Int32) (vf1 : Nat → Int32) (p1 : Int32) : Ro l D K yX7_allShowOne cX7_allShowOne 4 (some .boolean) 3 67 [.ref w, .ref v, .int p1] [(w, .inr (6, [.ref wa0, .ref wa1, .ref wa2, .int wn3, .int wn4, .int wn5, .int wn6])), (wa1, .inl (K 1, 1024, .inl wf1)), (v, .inr (9, [.ref va0, .ref va1, .ref va2, .ref va3, .ref va4, .ref va5, .ref va6, .ref va7, .int vn8, .int vn9, .int vn10, .int vn11])), (va1, .inl (K 1, 10, .inl vf1))] (fun r => (r = 0) ∨ (r = 1)) := by
  refine ro_of (by decide) (Nat.le_of_ble_eq_true rfl) ?_
  intro p e s m below meth c hC hr hk hE hP ls hl
  replace hC : CallFix p m c cX7_allShowOne 4 s [.ref w, .ref v, .int p1].toArray wl RX7 := hC
  have hx := hC.1
  have hb := hC.2.1
  have hml := hC.2.2.1
  have hown := hC.2.2.2.1
  have hts := hC.2.2.2.2
  replace hl : lv_has ls 4 [(0, .ref w), (1, .ref v), (2, .int p1)] := hl
  have kc_0 : (0 : Int32).toInt = 0 := by decide
  have kc_1 : (1 : Int32).toInt = 1 := by decide
  have kc_1024 : (1024 : Int32).toInt = 1024 := by decide
  refine lv_iconst (v := 0) hx hb dX7_allShowOne_0 (by decide) ?_
  refine lv_istore_n (lv' := [(3, .int 0), (0, .ref w), (1, .ref v), (2, .int p1)]) hx hb dX7_allShowOne_1 rfl hl (by decide) rfl (fun ls hl => ?_)
  have hl' := hl; clear hl
  obtain ⟨i2117, hi_2, hl⟩ : ∃ (i2117 : Int32), ((0 : Int) ≤ i2117.toInt) ∧ lv_has ls 4 [(3, .int i2117), (0, .ref w), (1, .ref v), (2, .int p1)] := ⟨_, by omega, hl'⟩
  clear hl'
  obtain ⟨n_2, hn_2⟩ : ∃ n : Nat, (1024 - i2117.toInt).toNat < n := ⟨_, Nat.lt_succ_self _⟩
  induction n_2 generalizing i2117 ls with
  | zero => exact absurd hn_2 (Nat.not_lt_zero _)
  | succ n_2 ih_2 =>
    refine lv_iload_n hx hb dX7_allShowOne_2 rfl (lv_at hl 0 rfl) ?_
    refine lv_aload_n hx hb dX7_allShowOne_3 rfl (lv_at hl 1 rfl) ?_
    refine va_get (D := D) (ci := 6) (v := .int wn4) (C := RX7) (T := TX7) (N := 7) hx hb hts in_X7 hown hE.1 hP 0 rfl rfl 4 (by decide) (hts _ w_350) (u_same (hts _ w_352)) rfl dX7_allShowOne_4 ?_
    refine lv_icmp_ge (tgt := 41) hx hb dX7_allShowOne_7 (by decide) (fun c2118 => ?_) (fun c2118 => ?_)
    · replace c2118 := le_i c2118
      refine lv_iconst (v := 1) hx hb dX7_allShowOne_41 (by decide) ?_
      exact ro_zret hC hr hk dX7_allShowOne_42 rfl (Or.inr rfl)
    · replace c2118 := nle_i c2118
      refine lv_iload_n hx hb dX7_allShowOne_10 rfl (lv_at hl 0 rfl) ?_
      refine lv_aload_n hx hb dX7_allShowOne_11 rfl (lv_at hl 1 rfl) ?_
      refine va_get (D := D) (ci := 6) (v := .ref wa1) (C := RX7) (T := TX7) (N := 7) hx hb hts in_X7 hown hE.1 hP 0 rfl rfl 1 (by decide) (hts _ w_351) (u_same (hts _ w_353)) rfl dX7_allShowOne_12 ?_
      refine va_alen (v := 1024) hx hb hE.1 hP 1 1 rfl rfl (show Int32.ofNat 1024 = 1024 by decide) dX7_allShowOne_15 ?_
      refine lv_icmp_ge (tgt := 41) hx hb dX7_allShowOne_16 (by decide) (fun c2119 => ?_) (fun c2119 => ?_)
      · replace c2119 := le_i c2119
        refine lv_iconst (v := 1) hx hb dX7_allShowOne_41 (by decide) ?_
        exact ro_zret hC hr hk dX7_allShowOne_42 rfl (Or.inr rfl)
      · replace c2119 := nle_i c2119
        refine lv_aload_n hx hb dX7_allShowOne_19 rfl (lv_at hl 2 rfl) ?_
        refine lv_aload_n hx hb dX7_allShowOne_20 rfl (lv_at hl 1 rfl) ?_
        refine va_get (D := D) (ci := 6) (v := .ref wa1) (C := RX7) (T := TX7) (N := 7) hx hb hts in_X7 hown hE.1 hP 0 rfl rfl 1 (by decide) (hts _ w_351) (u_same (hts _ w_353)) rfl dX7_allShowOne_21 ?_
        refine lv_iload_n hx hb dX7_allShowOne_24 rfl (lv_at hl 0 rfl) ?_
        refine va_iald hx hb hE.1 hP 1 1 rfl rfl (vp_in_iff.mpr (by omega)) dX7_allShowOne_25 ?_
        refine lv_topi (fun v2120 ev2120 => ?_)
        refine lv_iload_n hx hb dX7_allShowOne_26 rfl (lv_at hl 3 rfl) ?_
        refine ro_S (As := [.ref v, .int v2120, .int p1]) (rest := []) hC hE kS_X7_31 (c_X7_showsOne l D K v va0 va1 va2 va3 va4 va5 va6 va7 vn8 vn9 vn10 vn11 vf1 v2120 p1) (hP.sub (ws' := [(v, .inr (9, [.ref va0, .ref va1, .ref va2, .ref va3, .ref va4, .ref va5, .ref va6, .ref va7, .int vn8, .int vn9, .int vn10, .int vn11])), (va1, .inl (K 1, 10, .inl vf1))]) [2, 3] rfl) rfl hl.1 rfl (Nat.le_of_ble_eq_true rfl) (by decide) (by decide) dX7_allShowOne_27 (fun r2121 hq => ?_)
        rcases hq with rfl | rfl
        · refine lv_if_ne (tgt := 35) hx hb dX7_allShowOne_30 (by decide) (fun h => absurd h (by decide)) (fun _ => ?_)
          refine lv_iconst (v := 0) hx hb dX7_allShowOne_33 (by decide) ?_
          exact ro_zret hC hr hk dX7_allShowOne_34 rfl (Or.inl rfl)
        · refine lv_if_ne (tgt := 35) hx hb dX7_allShowOne_30 (by decide) (fun _ => ?_) (fun h => absurd h (by decide))
          obtain ⟨v2122, ev2122⟩ : ∃ z : Int32, z = i2117 + 1 := ⟨_, rfl⟩
          refine lv_iinc (v := v2122) (lv' := [(3, .int v2122), (0, .ref w), (1, .ref v), (2, .int p1)]) hx hb dX7_allShowOne_35 hl (k := 0) rfl (by rw [ev2122]; rfl) (by decide) rfl (fun ls hl => ?_)
          refine lv_goto (tgt := 2) hx hb dX7_allShowOne_38 (by decide) ?_
          have tv2122 : v2122.toInt = (i2117 : Int32).toInt + (1 : Int32).toInt := add_i ev2122 (by omega) (by omega)
          exact ih_2 (i2117 := v2122) (hi_2 := by omega) (ls := ls) (hn_2 := by omega) (hl := lv_sub hl [0, 1, 2, 3] rfl)
set_option maxRecDepth 40000 in
set_option maxHeartbeats 4000000 in
theorem c_X7_leastGathered (l : Launch) (D : va_G) (K : Nat → ClassId) (w : Nat) (wa0 : Nat) (wa1 : Nat) (wa2 : Nat) (v : Nat) (va0 : Nat) (va1 : Nat) (va2 : Nat) (va3 : Nat) (va4 : Nat) (va5 : Nat) (va6 : Nat) (va7 : Nat) (wn3 : Int32) (wn4 : Int32) (wn5 : Int32) (wn6 : Int32) (vn8 : Int32) (vn9 : Int32) (vn10 : Int32) (vn11 : Int32) (wf0 : Nat → Int32) (wf1 : Nat → Int32) (wf2 : Nat → Int32) (vf0 : Nat → Int32) (vf1 : Nat → Int32) (p1 : Int32) : Ci (S := ((Nat → Int32) × (Nat → Nat → Int32) × (Nat → Nat → Int64))) l D K yX7_leastGathered cX7_leastGathered 6 (some .int) 6 136 0 0 [.ref w, .ref v, .int p1] [(w, .inr (6, [.ref wa0, .ref wa1, .ref wa2, .int wn3, .int wn4, .int wn5, .int wn6])), (wa0, .inl (K 1, 1024, .inl wf0)), (wa1, .inl (K 1, 1024, .inl wf1)), (wa2, .inl (K 1, 1024, .inl wf2)), (v, .inr (9, [.ref va0, .ref va1, .ref va2, .ref va3, .ref va4, .ref va5, .ref va6, .ref va7, .int vn8, .int vn9, .int vn10, .int vn11])), (va0, .inl (K 1, 40, .inl vf0)), (va1, .inl (K 1, 10, .inl vf1))] (fun _ _ => True) (fun u => [(w, .inr (6, [.ref wa0, .ref wa1, .ref wa2, .int (u.1 0), .int (u.1 1), .int (u.1 2), .int (u.1 3)])), (wa0, .inl (K 1, 1024, .inl (u.2.1 0))), (wa1, .inl (K 1, 1024, .inl (u.2.1 1))), (wa2, .inl (K 1, 1024, .inl (u.2.1 2))), (v, .inr (9, [.ref va0, .ref va1, .ref va2, .ref va3, .ref va4, .ref va5, .ref va6, .ref va7, .int vn8, .int vn9, .int vn10, .int vn11])), (va0, .inl (K 1, 40, .inl vf0)), (va1, .inl (K 1, 10, .inl vf1))]) := by
  intro sz
  refine ch_of (y := yX7_leastGathered) (cc := cX7_leastGathered) (maxL := 6) (ret := (some .int)) (av := [.ref w, .ref v, .int p1]) (ws := [(w, .inr (6, [.ref wa0, .ref wa1, .ref wa2, .int wn3, .int wn4, .int wn5, .int wn6])), (wa0, .inl (K 1, 1024, .inl wf0)), (wa1, .inl (K 1, 1024, .inl wf1)), (wa2, .inl (K 1, 1024, .inl wf2)), (v, .inr (9, [.ref va0, .ref va1, .ref va2, .ref va3, .ref va4, .ref va5, .ref va6, .ref va7, .int vn8, .int vn9, .int vn10, .int vn11])), (va0, .inl (K 1, 40, .inl vf0)), (va1, .inl (K 1, 10, .inl vf1))]) (D := D) (K := K) (Qc := fun A => va_Qi (S := ((Nat → Int32) × (Nat → Nat → Int32) × (Nat → Nat → Int64))) (fun _ _ => True) (chB D A (fun u => [(w, .inr (6, [.ref wa0, .ref wa1, .ref wa2, .int (u.1 0), .int (u.1 1), .int (u.1 2), .int (u.1 3)])), (wa0, .inl (K 1, 1024, .inl (u.2.1 0))), (wa1, .inl (K 1, 1024, .inl (u.2.1 1))), (wa2, .inl (K 1, 1024, .inl (u.2.1 2))), (v, .inr (9, [.ref va0, .ref va1, .ref va2, .ref va3, .ref va4, .ref va5, .ref va6, .ref va7, .int vn8, .int vn9, .int vn10, .int vn11])), (va0, .inl (K 1, 40, .inl vf0)), (va1, .inl (K 1, 10, .inl vf1))])) A) (by decide) (Nat.le_of_ble_eq_true rfl) ?_
  intro p e s m below meth c A hC hr hk hin hE hD hA H locs hP hS ls hl
  replace hC : CallFix p m c cX7_leastGathered 6 s [.ref w, .ref v, .int p1].toArray wl RX7 := hC
  have hx := hC.1
  have hb := hC.2.1
  have hml := hC.2.2.1
  have hown := hC.2.2.2.1
  have hts := hC.2.2.2.2
  replace hl : lv_has ls 6 [(0, .ref w), (1, .ref v), (2, .int p1)] := hl
  have kc_m1 : (-1 : Int32).toInt = -1 := by decide
  have kc_0 : (0 : Int32).toInt = 0 := by decide
  have kc_1 : (1 : Int32).toInt = 1 := by decide
  have kc_10 : (10 : Int32).toInt = 10 := by decide
  have kc_1024 : (1024 : Int32).toInt = 1024 := by decide
  refine lv_aload_n hx hb dX7_leastGathered_0 rfl (lv_at hl 0 rfl) ?_
  refine lv_aload_n hx hb dX7_leastGathered_1 rfl (lv_at hl 1 rfl) ?_
  refine lv_iload_n hx hb dX7_leastGathered_2 rfl (lv_at hl 2 rfl) ?_
  refine lv_iconst (v := 1) hx hb dX7_leastGathered_3 (by decide) ?_
  refine cv_V (As := [.ref v, .int p1, .int 1]) (rest := []) (wc := [(w, .inr (6, [.ref wa0, .ref wa1, .ref wa2, .int wn3, .int wn4, .int wn5, .int wn6])), (wa0, .inl (K 1, 1024, .inl wf0)), (wa1, .inl (K 1, 1024, .inl wf1)), (wa2, .inl (K 1, 1024, .inl wf2)), (v, .inr (9, [.ref va0, .ref va1, .ref va2, .ref va3, .ref va4, .ref va5, .ref va6, .ref va7, .int vn8, .int vn9, .int vn10, .int vn11])), (va0, .inl (K 1, 40, .inl vf0)), (va1, .inl (K 1, 10, .inl vf1))]) (wr := []) hC hE kV_X7_48 (c_X7_seek l D K w wa0 wa1 wa2 v va0 va1 va2 va3 va4 va5 va6 va7 wn3 wn4 wn5 wn6 vn8 vn9 vn10 vn11 wf0 wf1 wf2 vf0 vf1 p1 1) hP hD hS hA [0, 1, 2, 3, 4, 5, 6] [] rfl rfl rfl (by decide) (by decide) (by decide) 0 6 rfl rfl rfl hl.1 rfl (Nat.le_of_ble_eq_true rfl) (by decide) (by decide) dX7_leastGathered_4 (fun u2142 H locs hw hP hD hS => ?_)
  replace hP : va_P D vwCl [(w, .inr (6, [.ref wa0, .ref wa1, .ref wa2, .int (u2142.1 0), .int (u2142.1 1), .int (u2142.1 2), .int (u2142.1 3)])), (wa0, .inl (K 1, 1024, .inl (u2142.2.1 0))), (wa1, .inl (K 1, 1024, .inl (u2142.2.1 1))), (wa2, .inl (K 1, 1024, .inl (u2142.2.1 2))), (v, .inr (9, [.ref va0, .ref va1, .ref va2, .ref va3, .ref va4, .ref va5, .ref va6, .ref va7, .int vn8, .int vn9, .int vn10, .int vn11])), (va0, .inl (K 1, 40, .inl vf0)), (va1, .inl (K 1, 10, .inl vf1))] H := hP
  replace hD : va_D A [(w, .inr (6, [.ref wa0, .ref wa1, .ref wa2, .int (u2142.1 0), .int (u2142.1 1), .int (u2142.1 2), .int (u2142.1 3)])), (wa0, .inl (K 1, 1024, .inl (u2142.2.1 0))), (wa1, .inl (K 1, 1024, .inl (u2142.2.1 1))), (wa2, .inl (K 1, 1024, .inl (u2142.2.1 2))), (v, .inr (9, [.ref va0, .ref va1, .ref va2, .ref va3, .ref va4, .ref va5, .ref va6, .ref va7, .int vn8, .int vn9, .int vn10, .int vn11])), (va0, .inl (K 1, 40, .inl vf0)), (va1, .inl (K 1, 10, .inl vf1))] := hD
  replace hP : va_P D vwCl [(w, .inr (6, [.ref wa0, .ref wa1, .ref wa2, .int (u2142.1 0), .int (u2142.1 1), .int (u2142.1 2), .int (u2142.1 3)])), (wa0, .inl (K 1, 1024, .inl (u2142.2.1 0))), (wa1, .inl (K 1, 1024, .inl (u2142.2.1 1))), (wa2, .inl (K 1, 1024, .inl (u2142.2.1 2))), (v, .inr (9, [.ref va0, .ref va1, .ref va2, .ref va3, .ref va4, .ref va5, .ref va6, .ref va7, .int vn8, .int vn9, .int vn10, .int vn11])), (va0, .inl (K 1, 40, .inl vf0)), (va1, .inl (K 1, 10, .inl vf1))] H := hP.sub [0, 1, 2, 3, 4, 5, 6] rfl
  replace hD : va_D A [(w, .inr (6, [.ref wa0, .ref wa1, .ref wa2, .int (u2142.1 0), .int (u2142.1 1), .int (u2142.1 2), .int (u2142.1 3)])), (wa0, .inl (K 1, 1024, .inl (u2142.2.1 0))), (wa1, .inl (K 1, 1024, .inl (u2142.2.1 1))), (wa2, .inl (K 1, 1024, .inl (u2142.2.1 2))), (v, .inr (9, [.ref va0, .ref va1, .ref va2, .ref va3, .ref va4, .ref va5, .ref va6, .ref va7, .int vn8, .int vn9, .int vn10, .int vn11])), (va0, .inl (K 1, 40, .inl vf0)), (va1, .inl (K 1, 10, .inl vf1))] := hD.sub [0, 1, 2, 3, 4, 5, 6] (by decide) rfl
  refine W.widen (k := 0) (n := 0) (by decide) (by decide) ?_
  refine lv_aload_n hx hb dX7_leastGathered_7 rfl (lv_at hl 0 rfl) ?_
  refine ro_U (As := []) (rest := []) hC hE kU_X7_52_X6_goalLength (decl_of hC kU_X7_52_X6_goalLength rfl) (c_X6_goalLength_7 l D K w wa0 wa1 wa2 (u2142.1 0) (u2142.1 1) (u2142.1 2) (u2142.1 3) (u2142.2.1 2)) (hP.sub (ws' := [(w, .inr (6, [.ref wa0, .ref wa1, .ref wa2, .int (u2142.1 0), .int (u2142.1 1), .int (u2142.1 2), .int (u2142.1 3)])), (wa2, .inl (K 1, 1024, .inl (u2142.2.1 2)))]) [0, 3] rfl) 0 6 rfl rfl (hts _ w_361) rfl hl.1 rfl (Nat.le_of_ble_eq_true rfl) (by decide) (by decide) dX7_leastGathered_8 (fun r2144 _ => ?_)
  refine lv_istore_n (lv' := [(3, .int r2144), (0, .ref w), (1, .ref v), (2, .int p1)]) hx hb dX7_leastGathered_11 rfl hl (by decide) rfl (fun ls hl => ?_)
  refine lv_iload_n hx hb dX7_leastGathered_12 rfl (lv_at hl 0 rfl) ?_
  refine lv_iconst (v := (-1)) hx hb dX7_leastGathered_13 (by decide) ?_
  refine lv_icmp_ne (tgt := 19) hx hb dX7_leastGathered_14 (by decide) (fun c2145 => ?_) (fun c2145 => ?_)
  · replace c2145 := ne_i c2145
    refine lv_bipush (v := 10) hx hb dX7_leastGathered_19 (by decide) ?_
    refine lv_istore (lv' := [(4, .int 10), (3, .int r2144), (0, .ref w), (1, .ref v), (2, .int p1)]) hx hb dX7_leastGathered_21 hl (by decide) rfl (fun ls hl => ?_)
    refine lv_iconst (v := 0) hx hb dX7_leastGathered_23 (by decide) ?_
    refine lv_istore (lv' := [(5, .int 0), (4, .int 10), (3, .int r2144), (0, .ref w), (1, .ref v), (2, .int p1)]) hx hb dX7_leastGathered_24 hl (by decide) rfl (fun ls hl => ?_)
    have hl' := hl; have hP' := hP; have hD' := hD; clear hl hP hD
    obtain ⟨i2161, i2162, hi_26, hl, hP, hD⟩ : ∃ (i2161 : Int32) (i2162 : Int32), ((0 : Int) ≤ i2161.toInt) ∧ lv_has ls 6 [(5, .int i2161), (4, .int i2162), (3, .int r2144), (0, .ref w), (1, .ref v), (2, .int p1)] ∧ va_P D vwCl [(w, .inr (6, [.ref wa0, .ref wa1, .ref wa2, .int (u2142.1 0), .int (u2142.1 1), .int (u2142.1 2), .int (u2142.1 3)])), (wa0, .inl (K 1, 1024, .inl (u2142.2.1 0))), (wa1, .inl (K 1, 1024, .inl (u2142.2.1 1))), (wa2, .inl (K 1, 1024, .inl (u2142.2.1 2))), (v, .inr (9, [.ref va0, .ref va1, .ref va2, .ref va3, .ref va4, .ref va5, .ref va6, .ref va7, .int vn8, .int vn9, .int vn10, .int vn11])), (va0, .inl (K 1, 40, .inl vf0)), (va1, .inl (K 1, 10, .inl vf1))] H ∧ va_D A [(w, .inr (6, [.ref wa0, .ref wa1, .ref wa2, .int (u2142.1 0), .int (u2142.1 1), .int (u2142.1 2), .int (u2142.1 3)])), (wa0, .inl (K 1, 1024, .inl (u2142.2.1 0))), (wa1, .inl (K 1, 1024, .inl (u2142.2.1 1))), (wa2, .inl (K 1, 1024, .inl (u2142.2.1 2))), (v, .inr (9, [.ref va0, .ref va1, .ref va2, .ref va3, .ref va4, .ref va5, .ref va6, .ref va7, .int vn8, .int vn9, .int vn10, .int vn11])), (va0, .inl (K 1, 40, .inl vf0)), (va1, .inl (K 1, 10, .inl vf1))] := ⟨_, _, by omega, hl', hP', hD'⟩
    clear hl' hP' hD'
    obtain ⟨n_26, hn_26⟩ : ∃ n : Nat, (1024 - i2161.toInt).toNat < n := ⟨_, Nat.lt_succ_self _⟩
    induction n_26 generalizing i2161 i2162 H locs ls with
    | zero => exact absurd hn_26 (Nat.not_lt_zero _)
    | succ n_26 ih_26 =>
      refine lv_iload hx hb dX7_leastGathered_26 (lv_at hl 0 rfl) ?_
      refine lv_aload_n hx hb dX7_leastGathered_28 rfl (lv_at hl 3 rfl) ?_
      refine va_get (D := D) (ci := 6) (v := .int (u2142.1 1)) (C := RX7) (T := TX7) (N := 7) hx hb hts in_X7 hown hE.1 hP 0 rfl rfl 4 (by decide) (hts _ w_350) (u_same (hts _ w_352)) rfl dX7_leastGathered_29 ?_
      refine lv_icmp_ge (tgt := 92) hx hb dX7_leastGathered_32 (by decide) (fun c2163 => ?_) (fun c2163 => ?_)
      · replace c2163 := le_i c2163
        refine lv_iload hx hb dX7_leastGathered_92 (lv_at hl 1 rfl) ?_
        refine W.widen (k := 0) (n := 0) (by decide) (by decide) ?_
        exact ch_iret hC hr hk hS dX7_leastGathered_94 ((fun k => [(u2142.1 0), (u2142.1 1), (u2142.1 2), (u2142.1 3)].getD k 0, fun k => [(u2142.2.1 0), (u2142.2.1 1), (u2142.2.1 2)].getD k (fun _ => 0), fun k => [].getD k (fun _ => 0)) : ((Nat → Int32) × (Nat → Nat → Int32) × (Nat → Nat → Int64))) trivial (hP.sub [0, 1, 2, 3, 4, 5, 6] rfl) (hD.sub [0, 1, 2, 3, 4, 5, 6] (by decide) rfl)
      · replace c2163 := nle_i c2163
        refine lv_iload hx hb dX7_leastGathered_35 (lv_at hl 0 rfl) ?_
        refine lv_aload_n hx hb dX7_leastGathered_37 rfl (lv_at hl 3 rfl) ?_
        refine va_get (D := D) (ci := 6) (v := .ref wa1) (C := RX7) (T := TX7) (N := 7) hx hb hts in_X7 hown hE.1 hP 0 rfl rfl 1 (by decide) (hts _ w_351) (u_same (hts _ w_353)) rfl dX7_leastGathered_38 ?_
        refine va_alen (v := 1024) hx hb hE.1 hP 2 1 rfl rfl (show Int32.ofNat 1024 = 1024 by decide) dX7_leastGathered_41 ?_
        refine lv_icmp_ge (tgt := 92) hx hb dX7_leastGathered_42 (by decide) (fun c2164 => ?_) (fun c2164 => ?_)
        · replace c2164 := le_i c2164
          refine lv_iload hx hb dX7_leastGathered_92 (lv_at hl 1 rfl) ?_
          refine W.widen (k := 0) (n := 0) (by decide) (by decide) ?_
          exact ch_iret hC hr hk hS dX7_leastGathered_94 ((fun k => [(u2142.1 0), (u2142.1 1), (u2142.1 2), (u2142.1 3)].getD k 0, fun k => [(u2142.2.1 0), (u2142.2.1 1), (u2142.2.1 2)].getD k (fun _ => 0), fun k => [].getD k (fun _ => 0)) : ((Nat → Int32) × (Nat → Nat → Int32) × (Nat → Nat → Int64))) trivial (hP.sub [0, 1, 2, 3, 4, 5, 6] rfl) (hD.sub [0, 1, 2, 3, 4, 5, 6] (by decide) rfl)
        · replace c2164 := nle_i c2164
          refine lv_aload_n hx hb dX7_leastGathered_45 rfl (lv_at hl 3 rfl) ?_
          refine va_get (D := D) (ci := 6) (v := .ref wa1) (C := RX7) (T := TX7) (N := 7) hx hb hts in_X7 hown hE.1 hP 0 rfl rfl 1 (by decide) (hts _ w_351) (u_same (hts _ w_353)) rfl dX7_leastGathered_46 ?_
          refine lv_iload hx hb dX7_leastGathered_49 (lv_at hl 0 rfl) ?_
          refine va_iald hx hb hE.1 hP 2 1 rfl rfl (vp_in_iff.mpr (by omega)) dX7_leastGathered_51 ?_
          refine lv_topi (fun v2165 ev2165 => ?_)
          refine ro_S (As := [.int v2165]) (rest := []) hC hE kS_X7_25 (c_J6_bitCount_0f7a4 l D K v2165) (hP.sub (ws' := []) [] rfl) rfl hl.1 rfl (Nat.le_of_ble_eq_true rfl) (by decide) (by decide) dX7_leastGathered_52 (fun r2166 _ => ?_)
          refine lv_iconst (v := 1) hx hb dX7_leastGathered_55 (by decide) ?_
          refine lv_icmp_ne (tgt := 86) hx hb dX7_leastGathered_56 (by decide) (fun c2167 => ?_) (fun c2167 => ?_)
          · replace c2167 := ne_i c2167
            obtain ⟨v2168, ev2168⟩ : ∃ z : Int32, z = i2161 + 1 := ⟨_, rfl⟩
            refine lv_iinc (v := v2168) (lv' := [(5, .int v2168), (4, .int i2162), (3, .int r2144), (0, .ref w), (1, .ref v), (2, .int p1)]) hx hb dX7_leastGathered_86 hl (k := 0) rfl (by rw [ev2168]; rfl) (by decide) rfl (fun ls hl => ?_)
            refine lv_goto (tgt := 26) hx hb dX7_leastGathered_89 (by decide) ?_
            have tv2168 : v2168.toInt = (i2161 : Int32).toInt + (1 : Int32).toInt := add_i ev2168 (by omega) (by omega)
            exact ih_26 (i2161 := v2168) (i2162 := i2162) (hi_26 := by omega) (H := H) (locs := locs) (ls := ls) (hn_26 := by omega) (hP := hP) (hS := hS) (hl := lv_sub hl [0, 1, 2, 3, 4, 5] rfl)
          · replace c2167 := eq_i c2167
            refine lv_aload_n hx hb dX7_leastGathered_59 rfl (lv_at hl 3 rfl) ?_
            refine lv_iload hx hb dX7_leastGathered_60 (lv_at hl 0 rfl) ?_
            refine ro_U (As := [.int i2161]) (rest := []) hC hE kU_X7_56_X6_lengthTo (decl_of hC kU_X7_56_X6_lengthTo rfl) (c_X6_lengthTo_7 l D K w wa0 wa1 wa2 (u2142.1 0) (u2142.1 1) (u2142.1 2) (u2142.1 3) (u2142.2.1 2) i2161) (hP.sub (ws' := [(w, .inr (6, [.ref wa0, .ref wa1, .ref wa2, .int (u2142.1 0), .int (u2142.1 1), .int (u2142.1 2), .int (u2142.1 3)])), (wa2, .inl (K 1, 1024, .inl (u2142.2.1 2)))]) [0, 3] rfl) 0 6 rfl rfl (hts _ w_364) rfl hl.1 rfl (Nat.le_of_ble_eq_true rfl) (by decide) (by decide) dX7_leastGathered_62 (fun r2169 _ => ?_)
            refine lv_iload_n hx hb dX7_leastGathered_65 rfl (lv_at hl 2 rfl) ?_
            refine lv_icmp_ne (tgt := 86) hx hb dX7_leastGathered_66 (by decide) (fun c2170 => ?_) (fun c2170 => ?_)
            · replace c2170 := ne_i c2170
              obtain ⟨v2171, ev2171⟩ : ∃ z : Int32, z = i2161 + 1 := ⟨_, rfl⟩
              refine lv_iinc (v := v2171) (lv' := [(5, .int v2171), (4, .int i2162), (3, .int r2144), (0, .ref w), (1, .ref v), (2, .int p1)]) hx hb dX7_leastGathered_86 hl (k := 0) rfl (by rw [ev2171]; rfl) (by decide) rfl (fun ls hl => ?_)
              refine lv_goto (tgt := 26) hx hb dX7_leastGathered_89 (by decide) ?_
              have tv2171 : v2171.toInt = (i2161 : Int32).toInt + (1 : Int32).toInt := add_i ev2171 (by omega) (by omega)
              exact ih_26 (i2161 := v2171) (i2162 := i2162) (hi_26 := by omega) (H := H) (locs := locs) (ls := ls) (hn_26 := by omega) (hP := hP) (hS := hS) (hl := lv_sub hl [0, 1, 2, 3, 4, 5] rfl)
            · replace c2170 := eq_i c2170
              refine lv_iload hx hb dX7_leastGathered_69 (lv_at hl 1 rfl) ?_
              refine lv_aload_n hx hb dX7_leastGathered_71 rfl (lv_at hl 3 rfl) ?_
              refine va_get (D := D) (ci := 6) (v := .ref wa1) (C := RX7) (T := TX7) (N := 7) hx hb hts in_X7 hown hE.1 hP 0 rfl rfl 1 (by decide) (hts _ w_351) (u_same (hts _ w_353)) rfl dX7_leastGathered_72 ?_
              refine lv_iload hx hb dX7_leastGathered_75 (lv_at hl 0 rfl) ?_
              refine va_iald hx hb hE.1 hP 2 1 rfl rfl (vp_in_iff.mpr (by omega)) dX7_leastGathered_77 ?_
              refine lv_topi (fun v2172 ev2172 => ?_)
              refine ro_S (As := [.int v2172]) (rest := [.int i2162]) hC hE kS_X7_59 (c_J6_numberOfTrailingZeros_0f7a4 l D K v2172) (hP.sub (ws' := []) [] rfl) rfl hl.1 rfl (Nat.le_of_ble_eq_true rfl) (by decide) (by decide) dX7_leastGathered_78 (fun r2173 _ => ?_)
              refine va_mmin hx hb (hml.trans hl.1.symm) hown (hts _ w_354) (hts _ w_142) (hts _ w_143) (hts _ w_144) (by decide) (Nat.le_of_ble_eq_true rfl) (by decide) (by decide) dX7_leastGathered_81 ?_
              refine lv_topi (fun v2174 ev2174 => ?_)
              have tv2174 := min_i ev2174
              refine lv_istore (lv' := [(4, .int v2174), (5, .int i2161), (3, .int r2144), (0, .ref w), (1, .ref v), (2, .int p1)]) hx hb dX7_leastGathered_84 hl (by decide) rfl (fun ls hl => ?_)
              obtain ⟨v2175, ev2175⟩ : ∃ z : Int32, z = i2161 + 1 := ⟨_, rfl⟩
              refine lv_iinc (v := v2175) (lv' := [(5, .int v2175), (4, .int v2174), (3, .int r2144), (0, .ref w), (1, .ref v), (2, .int p1)]) hx hb dX7_leastGathered_86 hl (k := 1) rfl (by rw [ev2175]; rfl) (by decide) rfl (fun ls hl => ?_)
              refine lv_goto (tgt := 26) hx hb dX7_leastGathered_89 (by decide) ?_
              have tv2175 : v2175.toInt = (i2161 : Int32).toInt + (1 : Int32).toInt := add_i ev2175 (by omega) (by omega)
              exact ih_26 (i2161 := v2175) (i2162 := v2174) (hi_26 := by omega) (H := H) (locs := locs) (ls := ls) (hn_26 := by omega) (hP := hP) (hS := hS) (hl := lv_sub hl [0, 1, 2, 3, 4, 5] rfl)
  · replace c2145 := eq_i c2145
    refine lv_iconst (v := (-1)) hx hb dX7_leastGathered_17 (by decide) ?_
    refine W.widen (k := 0) (n := 0) (by decide) (by decide) ?_
    exact ch_iret hC hr hk hS dX7_leastGathered_18 ((fun k => [(u2142.1 0), (u2142.1 1), (u2142.1 2), (u2142.1 3)].getD k 0, fun k => [(u2142.2.1 0), (u2142.2.1 1), (u2142.2.1 2)].getD k (fun _ => 0), fun k => [].getD k (fun _ => 0)) : ((Nat → Int32) × (Nat → Nat → Int32) × (Nat → Nat → Int64))) trivial (hP.sub [0, 1, 2, 3, 4, 5, 6] rfl) (hD.sub [0, 1, 2, 3, 4, 5, 6] (by decide) rfl)
