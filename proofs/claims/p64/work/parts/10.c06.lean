set_option maxRecDepth 40000 in
set_option maxHeartbeats 4000000 in
theorem c_X6_goalLength_7 (l : Launch) (D : va_G) (K : Nat → ClassId) (w : Nat) (wa0 : Nat) (wa1 : Nat) (wa2 : Nat) (wn3 : Int32) (wn4 : Int32) (wn5 : Int32) (wn6 : Int32) (wf2 : Nat → Int32) : Ro l D K yX6_goalLength cX6_goalLength 1 (some .int) 1 24 [.ref w] [(w, .inr (6, [.ref wa0, .ref wa1, .ref wa2, .int wn3, .int wn4, .int wn5, .int wn6])), (wa2, .inl (K 1, 1024, .inl wf2))] (fun r => (r = (-1)) ∨ ((0 ≤ r.toInt) ∧ (r.toInt ≤ 1024))) := by
  refine ro_of (by decide) (Nat.le_of_ble_eq_true rfl) ?_
  intro p e s m below meth c hC hr hk hE hP ls hl
  replace hC : CallFix p m c cX6_goalLength 1 s [.ref w].toArray wl RX6 := hC
  have hx := hC.1
  have hb := hC.2.1
  have hml := hC.2.2.1
  have hown := hC.2.2.2.1
  have hts := hC.2.2.2.2
  replace hl : lv_has ls 1 [(0, .ref w)] := hl
  have kc_m1 : (-1 : Int32).toInt = -1 := by decide
  refine lv_aload_n hx hb dX6_goalLength_0 rfl (lv_at hl 0 rfl) ?_
  refine va_get (D := D) (ci := 6) (v := .int wn5) (C := RX7) (T := TX7) (N := 7) hx hb hts in_X7 hown hE.1 hP 0 rfl rfl 5 (by decide) (hts _ w_279) (fun _ h9 => h9) rfl dX6_goalLength_1 ?_
  refine lv_iconst (v := (-1)) hx hb dX6_goalLength_4 (by decide) ?_
  refine lv_icmp_ne (tgt := 12) hx hb dX6_goalLength_5 (by decide) (fun c1900 => ?_) (fun c1900 => ?_)
  · replace c1900 := ne_i c1900
    refine lv_aload_n hx hb dX6_goalLength_12 rfl (lv_at hl 0 rfl) ?_
    refine lv_aload_n hx hb dX6_goalLength_13 rfl (lv_at hl 0 rfl) ?_
    refine va_get (D := D) (ci := 6) (v := .int wn5) (C := RX7) (T := TX7) (N := 7) hx hb hts in_X7 hown hE.1 hP 0 rfl rfl 5 (by decide) (hts _ w_279) (fun _ h9 => h9) rfl dX6_goalLength_14 ?_
    refine ro_U (As := [.int wn5]) (rest := []) hC hE kU_X6_49_X6_lengthTo (decl_of hC kU_X6_49_X6_lengthTo rfl) (c_X6_lengthTo_7 l D K w wa0 wa1 wa2 wn3 wn4 wn5 wn6 wf2 wn5) (hP.sub (ws' := [(w, .inr (6, [.ref wa0, .ref wa1, .ref wa2, .int wn3, .int wn4, .int wn5, .int wn6])), (wa2, .inl (K 1, 1024, .inl wf2))]) [0, 1] rfl) 0 6 rfl rfl (hts _ w_298) rfl hl.1 rfl (Nat.le_of_ble_eq_true rfl) (by decide) (by decide) dX6_goalLength_17 (fun r1903 hq => ?_)
    obtain ⟨h1901, h1902⟩ := hq
    exact ro_ret hC hr hk dX6_goalLength_20 (Or.inr ⟨(by omega), (by omega)⟩)
  · replace c1900 := eq_i c1900
    refine lv_iconst (v := (-1)) hx hb dX6_goalLength_8 (by decide) ?_
    refine lv_goto (tgt := 20) hx hb dX6_goalLength_9 (by decide) ?_
    exact ro_ret hC hr hk dX6_goalLength_20 (Or.inl rfl)
set_option maxRecDepth 40000 in
set_option maxHeartbeats 4000000 in
theorem c_X6_goalWind_7 (l : Launch) (D : va_G) (K : Nat → ClassId) (w : Nat) (wa0 : Nat) (wa1 : Nat) (wa2 : Nat) (wn3 : Int32) (wn4 : Int32) (wn5 : Int32) (wn6 : Int32) (wf2 : Nat → Int32) (p0 : Int32) : Ro l D K yX6_goalWind cX6_goalWind 5 (some .int) 2 44 [.ref w, .int p0] [(w, .inr (6, [.ref wa0, .ref wa1, .ref wa2, .int wn3, .int wn4, .int wn5, .int wn6])), (wa2, .inl (K 1, 1024, .inl wf2))] (fun _ => True) := by
  refine ro_of (by decide) (Nat.le_of_ble_eq_true rfl) ?_
  intro p e s m below meth c hC hr hk hE hP ls hl
  replace hC : CallFix p m c cX6_goalWind 5 s [.ref w, .int p0].toArray wl RX6 := hC
  have hx := hC.1
  have hb := hC.2.1
  have hml := hC.2.2.1
  have hown := hC.2.2.2.1
  have hts := hC.2.2.2.2
  replace hl : lv_has ls 5 [(0, .ref w), (1, .int p0)] := hl
  have kc_m2 : (-2 : Int32).toInt = -2 := by decide
  have kc_m1 : (-1 : Int32).toInt = -1 := by decide
  have kc_0 : (0 : Int32).toInt = 0 := by decide
  have kc_1 : (1 : Int32).toInt = 1 := by decide
  have kc_1024 : (1024 : Int32).toInt = 1024 := by decide
  refine lv_aload_n hx hb dX6_goalWind_0 rfl (lv_at hl 0 rfl) ?_
  refine ro_U (As := []) (rest := []) hC hE kU_X6_53_X6_goalLength (decl_of hC kU_X6_53_X6_goalLength rfl) (c_X6_goalLength_7 l D K w wa0 wa1 wa2 wn3 wn4 wn5 wn6 wf2) (hP.sub (ws' := [(w, .inr (6, [.ref wa0, .ref wa1, .ref wa2, .int wn3, .int wn4, .int wn5, .int wn6])), (wa2, .inl (K 1, 1024, .inl wf2))]) [0, 1] rfl) 0 6 rfl rfl (hts _ w_299) rfl hl.1 rfl (Nat.le_of_ble_eq_true rfl) (by decide) (by decide) dX6_goalWind_1 (fun r1906 hq => ?_)
  rcases hq with rfl | ⟨h1904, h1905⟩
  · refine lv_istore_n (lv' := [(2, .int (-1)), (0, .ref w), (1, .int p0)]) hx hb dX6_goalWind_4 rfl hl (by decide) rfl (fun ls hl => ?_)
    refine lv_iload_n hx hb dX6_goalWind_5 rfl (lv_at hl 2 rfl) ?_
    refine lv_if_lt (tgt := 14) hx hb dX6_goalWind_6 (by decide) (fun c1907 => ?_) (fun c1907 => ?_)
    · replace c1907 := lt_i c1907
      refine lv_iconst (v := (-1)) hx hb dX6_goalWind_14 (by decide) ?_
      exact ro_ret hC hr hk dX6_goalWind_15 trivial
    · replace c1907 := nlt_i c1907
      refine lv_iload_n hx hb dX6_goalWind_9 rfl (lv_at hl 2 rfl) ?_
      refine lv_iload_n hx hb dX6_goalWind_10 rfl (lv_at hl 0 rfl) ?_
      refine lv_icmp_lt (tgt := 16) hx hb dX6_goalWind_11 (by decide) (fun c1908 => ?_) (fun c1908 => ?_)
      · replace c1908 := lt_i c1908
        refine lv_aload_n hx hb dX6_goalWind_16 rfl (lv_at hl 1 rfl) ?_
        refine va_get (D := D) (ci := 6) (v := .int wn5) (C := RX7) (T := TX7) (N := 7) hx hb hts in_X7 hown hE.1 hP 0 rfl rfl 5 (by decide) (hts _ w_279) (fun _ h9 => h9) rfl dX6_goalWind_17 ?_
        refine lv_istore_n (lv' := [(3, .int wn5), (2, .int (-1)), (0, .ref w), (1, .int p0)]) hx hb dX6_goalWind_20 rfl hl (by decide) rfl (fun ls hl => ?_)
        refine lv_iload_n hx hb dX6_goalWind_21 rfl (lv_at hl 1 rfl) ?_
        refine lv_iconst (v := 1) hx hb dX6_goalWind_22 (by decide) ?_
        refine lv_isub hx hb dX6_goalWind_23 ?_
        refine tc (y := (-2)) (by decide) ?_
        refine lv_istore (lv' := [(4, .int (-2)), (3, .int wn5), (2, .int (-1)), (0, .ref w), (1, .int p0)]) hx hb dX6_goalWind_24 hl (by decide) rfl (fun ls hl => ?_)
        have hl' := hl; clear hl
        obtain ⟨i1917, i1918, hw_26, hl⟩ : ∃ (i1917 : Int32) (i1918 : Int32), (i1917.toInt ≤ 10240) ∧ lv_has ls 5 [(4, .int i1917), (3, .int i1918), (2, .int (-1)), (0, .ref w), (1, .int p0)] := ⟨_, _, by omega, hl'⟩
        clear hl'
        obtain ⟨n_26, hn_26⟩ : ∃ n : Nat, (i1917.toInt - p0.toInt).toNat < n := ⟨_, Nat.lt_succ_self _⟩
        induction n_26 generalizing i1917 i1918 ls with
        | zero => exact absurd hn_26 (Nat.not_lt_zero _)
        | succ n_26 ih_26 =>
          refine lv_iload hx hb dX6_goalWind_26 (lv_at hl 0 rfl) ?_
          refine lv_iload_n hx hb dX6_goalWind_28 rfl (lv_at hl 4 rfl) ?_
          refine lv_icmp_le (tgt := 60) hx hb dX6_goalWind_29 (by decide) (fun c1919 => ?_) (fun c1919 => ?_)
          · replace c1919 := le_i c1919
            refine lv_iload_n hx hb dX6_goalWind_60 rfl (lv_at hl 1 rfl) ?_
            refine lv_if_le (tgt := 84) hx hb dX6_goalWind_61 (by decide) (fun c1920 => ?_) (fun c1920 => ?_)
            · replace c1920 := le_i c1920
              refine lv_iconst (v := (-1)) hx hb dX6_goalWind_84 (by decide) ?_
              exact ro_ret hC hr hk dX6_goalWind_85 trivial
            · replace c1920 := nle_i c1920
              refine lv_iload_n hx hb dX6_goalWind_64 rfl (lv_at hl 1 rfl) ?_
              refine lv_aload_n hx hb dX6_goalWind_65 rfl (lv_at hl 3 rfl) ?_
              refine va_get (D := D) (ci := 6) (v := .ref wa2) (C := RX7) (T := TX7) (N := 7) hx hb hts in_X7 hown hE.1 hP 0 rfl rfl 2 (by decide) (hts _ w_278) (fun _ h9 => h9) rfl dX6_goalWind_66 ?_
              refine va_alen (v := 1024) hx hb hE.1 hP 1 1 rfl rfl (show Int32.ofNat 1024 = 1024 by decide) dX6_goalWind_69 ?_
              refine lv_icmp_ge (tgt := 84) hx hb dX6_goalWind_70 (by decide) (fun c1921 => ?_) (fun c1921 => ?_)
              · replace c1921 := le_i c1921
                refine lv_iconst (v := (-1)) hx hb dX6_goalWind_84 (by decide) ?_
                exact ro_ret hC hr hk dX6_goalWind_85 trivial
              · replace c1921 := nle_i c1921
                refine lv_aload_n hx hb dX6_goalWind_73 rfl (lv_at hl 3 rfl) ?_
                refine va_get (D := D) (ci := 6) (v := .ref wa2) (C := RX7) (T := TX7) (N := 7) hx hb hts in_X7 hown hE.1 hP 0 rfl rfl 2 (by decide) (hts _ w_278) (fun _ h9 => h9) rfl dX6_goalWind_74 ?_
                refine lv_iload_n hx hb dX6_goalWind_77 rfl (lv_at hl 1 rfl) ?_
                refine va_iald hx hb hE.1 hP 1 1 rfl rfl (vp_in_iff.mpr (by omega)) dX6_goalWind_78 ?_
                refine lv_topi (fun v1922 ev1922 => ?_)
                refine lv_iconst (v := 4) hx hb dX6_goalWind_79 (by decide) ?_
                refine lv_irem hx hb dX6_goalWind_80 (by decide) ?_
                refine lv_topi (fun v1923 ev1923 => ?_)
                refine lv_goto (tgt := 85) hx hb dX6_goalWind_81 (by decide) ?_
                exact ro_ret hC hr hk dX6_goalWind_85 trivial
          · replace c1919 := nle_i c1919
            refine lv_iload_n hx hb dX6_goalWind_32 rfl (lv_at hl 1 rfl) ?_
            refine lv_if_le (tgt := 60) hx hb dX6_goalWind_33 (by decide) (fun c1924 => ?_) (fun c1924 => ?_)
            · replace c1924 := le_i c1924
              refine lv_iload_n hx hb dX6_goalWind_60 rfl (lv_at hl 1 rfl) ?_
              refine lv_if_le (tgt := 84) hx hb dX6_goalWind_61 (by decide) (fun c1925 => ?_) (fun c1925 => ?_)
              · replace c1925 := le_i c1925
                refine lv_iconst (v := (-1)) hx hb dX6_goalWind_84 (by decide) ?_
                exact ro_ret hC hr hk dX6_goalWind_85 trivial
              · replace c1925 := nle_i c1925
                refine lv_iload_n hx hb dX6_goalWind_64 rfl (lv_at hl 1 rfl) ?_
                refine lv_aload_n hx hb dX6_goalWind_65 rfl (lv_at hl 3 rfl) ?_
                refine va_get (D := D) (ci := 6) (v := .ref wa2) (C := RX7) (T := TX7) (N := 7) hx hb hts in_X7 hown hE.1 hP 0 rfl rfl 2 (by decide) (hts _ w_278) (fun _ h9 => h9) rfl dX6_goalWind_66 ?_
                refine va_alen (v := 1024) hx hb hE.1 hP 1 1 rfl rfl (show Int32.ofNat 1024 = 1024 by decide) dX6_goalWind_69 ?_
                refine lv_icmp_ge (tgt := 84) hx hb dX6_goalWind_70 (by decide) (fun c1926 => ?_) (fun c1926 => ?_)
                · replace c1926 := le_i c1926
                  refine lv_iconst (v := (-1)) hx hb dX6_goalWind_84 (by decide) ?_
                  exact ro_ret hC hr hk dX6_goalWind_85 trivial
                · replace c1926 := nle_i c1926
                  refine lv_aload_n hx hb dX6_goalWind_73 rfl (lv_at hl 3 rfl) ?_
                  refine va_get (D := D) (ci := 6) (v := .ref wa2) (C := RX7) (T := TX7) (N := 7) hx hb hts in_X7 hown hE.1 hP 0 rfl rfl 2 (by decide) (hts _ w_278) (fun _ h9 => h9) rfl dX6_goalWind_74 ?_
                  refine lv_iload_n hx hb dX6_goalWind_77 rfl (lv_at hl 1 rfl) ?_
                  refine va_iald hx hb hE.1 hP 1 1 rfl rfl (vp_in_iff.mpr (by omega)) dX6_goalWind_78 ?_
                  refine lv_topi (fun v1927 ev1927 => ?_)
                  refine lv_iconst (v := 4) hx hb dX6_goalWind_79 (by decide) ?_
                  refine lv_irem hx hb dX6_goalWind_80 (by decide) ?_
                  refine lv_topi (fun v1928 ev1928 => ?_)
                  refine lv_goto (tgt := 85) hx hb dX6_goalWind_81 (by decide) ?_
                  exact ro_ret hC hr hk dX6_goalWind_85 trivial
            · replace c1924 := nle_i c1924
              refine lv_iload_n hx hb dX6_goalWind_36 rfl (lv_at hl 1 rfl) ?_
              refine lv_aload_n hx hb dX6_goalWind_37 rfl (lv_at hl 3 rfl) ?_
              refine va_get (D := D) (ci := 6) (v := .ref wa2) (C := RX7) (T := TX7) (N := 7) hx hb hts in_X7 hown hE.1 hP 0 rfl rfl 2 (by decide) (hts _ w_278) (fun _ h9 => h9) rfl dX6_goalWind_38 ?_
              refine va_alen (v := 1024) hx hb hE.1 hP 1 1 rfl rfl (show Int32.ofNat 1024 = 1024 by decide) dX6_goalWind_41 ?_
              refine lv_icmp_ge (tgt := 60) hx hb dX6_goalWind_42 (by decide) (fun c1929 => ?_) (fun c1929 => ?_)
              · replace c1929 := le_i c1929
                refine lv_iload_n hx hb dX6_goalWind_60 rfl (lv_at hl 1 rfl) ?_
                refine lv_if_le (tgt := 84) hx hb dX6_goalWind_61 (by decide) (fun c1930 => ?_) (fun c1930 => ?_)
                · replace c1930 := le_i c1930
                  refine lv_iconst (v := (-1)) hx hb dX6_goalWind_84 (by decide) ?_
                  exact ro_ret hC hr hk dX6_goalWind_85 trivial
                · replace c1930 := nle_i c1930
                  refine lv_iload_n hx hb dX6_goalWind_64 rfl (lv_at hl 1 rfl) ?_
                  refine lv_aload_n hx hb dX6_goalWind_65 rfl (lv_at hl 3 rfl) ?_
                  refine va_get (D := D) (ci := 6) (v := .ref wa2) (C := RX7) (T := TX7) (N := 7) hx hb hts in_X7 hown hE.1 hP 0 rfl rfl 2 (by decide) (hts _ w_278) (fun _ h9 => h9) rfl dX6_goalWind_66 ?_
                  refine va_alen (v := 1024) hx hb hE.1 hP 1 1 rfl rfl (show Int32.ofNat 1024 = 1024 by decide) dX6_goalWind_69 ?_
                  refine lv_icmp_ge (tgt := 84) hx hb dX6_goalWind_70 (by decide) (fun c1931 => ?_) (fun c1931 => ?_)
                  · replace c1931 := le_i c1931
                    refine lv_iconst (v := (-1)) hx hb dX6_goalWind_84 (by decide) ?_
                    exact ro_ret hC hr hk dX6_goalWind_85 trivial
                  · replace c1931 := nle_i c1931
                    refine lv_aload_n hx hb dX6_goalWind_73 rfl (lv_at hl 3 rfl) ?_
                    refine va_get (D := D) (ci := 6) (v := .ref wa2) (C := RX7) (T := TX7) (N := 7) hx hb hts in_X7 hown hE.1 hP 0 rfl rfl 2 (by decide) (hts _ w_278) (fun _ h9 => h9) rfl dX6_goalWind_74 ?_
                    refine lv_iload_n hx hb dX6_goalWind_77 rfl (lv_at hl 1 rfl) ?_
                    refine va_iald hx hb hE.1 hP 1 1 rfl rfl (vp_in_iff.mpr (by omega)) dX6_goalWind_78 ?_
                    refine lv_topi (fun v1932 ev1932 => ?_)
                    refine lv_iconst (v := 4) hx hb dX6_goalWind_79 (by decide) ?_
                    refine lv_irem hx hb dX6_goalWind_80 (by decide) ?_
                    refine lv_topi (fun v1933 ev1933 => ?_)
                    refine lv_goto (tgt := 85) hx hb dX6_goalWind_81 (by decide) ?_
                    exact ro_ret hC hr hk dX6_goalWind_85 trivial
              · replace c1929 := nle_i c1929
                refine lv_aload_n hx hb dX6_goalWind_45 rfl (lv_at hl 3 rfl) ?_
                refine va_get (D := D) (ci := 6) (v := .ref wa2) (C := RX7) (T := TX7) (N := 7) hx hb hts in_X7 hown hE.1 hP 0 rfl rfl 2 (by decide) (hts _ w_278) (fun _ h9 => h9) rfl dX6_goalWind_46 ?_
                refine lv_iload_n hx hb dX6_goalWind_49 rfl (lv_at hl 1 rfl) ?_
                refine va_iald hx hb hE.1 hP 1 1 rfl rfl (vp_in_iff.mpr (by omega)) dX6_goalWind_50 ?_
                refine lv_topi (fun v1934 ev1934 => ?_)
                refine lv_iconst (v := 4) hx hb dX6_goalWind_51 (by decide) ?_
                refine lv_idiv hx hb dX6_goalWind_52 (by decide) ?_
                refine lv_topi (fun v1935 ev1935 => ?_)
                refine lv_istore_n (lv' := [(3, .int v1935), (4, .int i1917), (2, .int (-1)), (0, .ref w), (1, .int p0)]) hx hb dX6_goalWind_53 rfl hl (by decide) rfl (fun ls hl => ?_)
                obtain ⟨v1936, ev1936⟩ : ∃ z : Int32, z = i1917 + (-1) := ⟨_, rfl⟩
                refine lv_iinc (v := v1936) (lv' := [(4, .int v1936), (3, .int v1935), (2, .int (-1)), (0, .ref w), (1, .int p0)]) hx hb dX6_goalWind_54 hl (k := 1) rfl (by rw [ev1936]; rfl) (by decide) rfl (fun ls hl => ?_)
                refine lv_goto (tgt := 26) hx hb dX6_goalWind_57 (by decide) ?_
                have tv1936 : v1936.toInt = (i1917 : Int32).toInt + ((-1) : Int32).toInt := add_i ev1936 (by omega) (by omega)
                have tv1935 := div_i (n := 4) ev1935 (by decide) (by decide)
                exact ih_26 (i1917 := v1936) (i1918 := v1935) (hw_26 := by omega) (ls := ls) (hn_26 := by omega) (hl := lv_sub hl [0, 1, 2, 3, 4] rfl)
      · replace c1908 := nlt_i c1908
        refine lv_iconst (v := (-1)) hx hb dX6_goalWind_14 (by decide) ?_
        exact ro_ret hC hr hk dX6_goalWind_15 trivial
  · refine lv_istore_n (lv' := [(2, .int r1906), (0, .ref w), (1, .int p0)]) hx hb dX6_goalWind_4 rfl hl (by decide) rfl (fun ls hl => ?_)
    refine lv_iload_n hx hb dX6_goalWind_5 rfl (lv_at hl 2 rfl) ?_
    refine lv_if_lt (tgt := 14) hx hb dX6_goalWind_6 (by decide) (fun c1937 => ?_) (fun c1937 => ?_)
    · replace c1937 := lt_i c1937
      refine lv_iconst (v := (-1)) hx hb dX6_goalWind_14 (by decide) ?_
      exact ro_ret hC hr hk dX6_goalWind_15 trivial
    · replace c1937 := nlt_i c1937
      refine lv_iload_n hx hb dX6_goalWind_9 rfl (lv_at hl 2 rfl) ?_
      refine lv_iload_n hx hb dX6_goalWind_10 rfl (lv_at hl 0 rfl) ?_
      refine lv_icmp_lt (tgt := 16) hx hb dX6_goalWind_11 (by decide) (fun c1938 => ?_) (fun c1938 => ?_)
      · replace c1938 := lt_i c1938
        refine lv_aload_n hx hb dX6_goalWind_16 rfl (lv_at hl 1 rfl) ?_
        refine va_get (D := D) (ci := 6) (v := .int wn5) (C := RX7) (T := TX7) (N := 7) hx hb hts in_X7 hown hE.1 hP 0 rfl rfl 5 (by decide) (hts _ w_279) (fun _ h9 => h9) rfl dX6_goalWind_17 ?_
        refine lv_istore_n (lv' := [(3, .int wn5), (2, .int r1906), (0, .ref w), (1, .int p0)]) hx hb dX6_goalWind_20 rfl hl (by decide) rfl (fun ls hl => ?_)
        refine lv_iload_n hx hb dX6_goalWind_21 rfl (lv_at hl 1 rfl) ?_
        refine lv_iconst (v := 1) hx hb dX6_goalWind_22 (by decide) ?_
        refine lv_isub hx hb dX6_goalWind_23 ?_
        refine lv_topi (fun v1939 ev1939 => ?_)
        refine lv_istore (lv' := [(4, .int v1939), (3, .int wn5), (2, .int r1906), (0, .ref w), (1, .int p0)]) hx hb dX6_goalWind_24 hl (by decide) rfl (fun ls hl => ?_)
        have tv1939 : v1939.toInt = (r1906 : Int32).toInt - (1 : Int32).toInt := sub_i ev1939 (by omega) (by omega)
        have hl' := hl; clear hl
        obtain ⟨i1948, i1949, hw_26, hl⟩ : ∃ (i1948 : Int32) (i1949 : Int32), (i1948.toInt ≤ 10240) ∧ lv_has ls 5 [(4, .int i1948), (3, .int i1949), (2, .int r1906), (0, .ref w), (1, .int p0)] := ⟨_, _, by omega, hl'⟩
        clear hl'
        obtain ⟨n_26, hn_26⟩ : ∃ n : Nat, (i1948.toInt - p0.toInt).toNat < n := ⟨_, Nat.lt_succ_self _⟩
        induction n_26 generalizing i1948 i1949 ls with
        | zero => exact absurd hn_26 (Nat.not_lt_zero _)
        | succ n_26 ih_26 =>
          refine lv_iload hx hb dX6_goalWind_26 (lv_at hl 0 rfl) ?_
          refine lv_iload_n hx hb dX6_goalWind_28 rfl (lv_at hl 4 rfl) ?_
          refine lv_icmp_le (tgt := 60) hx hb dX6_goalWind_29 (by decide) (fun c1950 => ?_) (fun c1950 => ?_)
          · replace c1950 := le_i c1950
            refine lv_iload_n hx hb dX6_goalWind_60 rfl (lv_at hl 1 rfl) ?_
            refine lv_if_le (tgt := 84) hx hb dX6_goalWind_61 (by decide) (fun c1951 => ?_) (fun c1951 => ?_)
            · replace c1951 := le_i c1951
              refine lv_iconst (v := (-1)) hx hb dX6_goalWind_84 (by decide) ?_
              exact ro_ret hC hr hk dX6_goalWind_85 trivial
            · replace c1951 := nle_i c1951
              refine lv_iload_n hx hb dX6_goalWind_64 rfl (lv_at hl 1 rfl) ?_
              refine lv_aload_n hx hb dX6_goalWind_65 rfl (lv_at hl 3 rfl) ?_
              refine va_get (D := D) (ci := 6) (v := .ref wa2) (C := RX7) (T := TX7) (N := 7) hx hb hts in_X7 hown hE.1 hP 0 rfl rfl 2 (by decide) (hts _ w_278) (fun _ h9 => h9) rfl dX6_goalWind_66 ?_
              refine va_alen (v := 1024) hx hb hE.1 hP 1 1 rfl rfl (show Int32.ofNat 1024 = 1024 by decide) dX6_goalWind_69 ?_
              refine lv_icmp_ge (tgt := 84) hx hb dX6_goalWind_70 (by decide) (fun c1952 => ?_) (fun c1952 => ?_)
              · replace c1952 := le_i c1952
                refine lv_iconst (v := (-1)) hx hb dX6_goalWind_84 (by decide) ?_
                exact ro_ret hC hr hk dX6_goalWind_85 trivial
              · replace c1952 := nle_i c1952
                refine lv_aload_n hx hb dX6_goalWind_73 rfl (lv_at hl 3 rfl) ?_
                refine va_get (D := D) (ci := 6) (v := .ref wa2) (C := RX7) (T := TX7) (N := 7) hx hb hts in_X7 hown hE.1 hP 0 rfl rfl 2 (by decide) (hts _ w_278) (fun _ h9 => h9) rfl dX6_goalWind_74 ?_
                refine lv_iload_n hx hb dX6_goalWind_77 rfl (lv_at hl 1 rfl) ?_
                refine va_iald hx hb hE.1 hP 1 1 rfl rfl (vp_in_iff.mpr (by omega)) dX6_goalWind_78 ?_
                refine lv_topi (fun v1953 ev1953 => ?_)
                refine lv_iconst (v := 4) hx hb dX6_goalWind_79 (by decide) ?_
                refine lv_irem hx hb dX6_goalWind_80 (by decide) ?_
                refine lv_topi (fun v1954 ev1954 => ?_)
                refine lv_goto (tgt := 85) hx hb dX6_goalWind_81 (by decide) ?_
                exact ro_ret hC hr hk dX6_goalWind_85 trivial
          · replace c1950 := nle_i c1950
            refine lv_iload_n hx hb dX6_goalWind_32 rfl (lv_at hl 1 rfl) ?_
            refine lv_if_le (tgt := 60) hx hb dX6_goalWind_33 (by decide) (fun c1955 => ?_) (fun c1955 => ?_)
            · replace c1955 := le_i c1955
              refine lv_iload_n hx hb dX6_goalWind_60 rfl (lv_at hl 1 rfl) ?_
              refine lv_if_le (tgt := 84) hx hb dX6_goalWind_61 (by decide) (fun c1956 => ?_) (fun c1956 => ?_)
              · replace c1956 := le_i c1956
                refine lv_iconst (v := (-1)) hx hb dX6_goalWind_84 (by decide) ?_
                exact ro_ret hC hr hk dX6_goalWind_85 trivial
              · replace c1956 := nle_i c1956
                refine lv_iload_n hx hb dX6_goalWind_64 rfl (lv_at hl 1 rfl) ?_
                refine lv_aload_n hx hb dX6_goalWind_65 rfl (lv_at hl 3 rfl) ?_
                refine va_get (D := D) (ci := 6) (v := .ref wa2) (C := RX7) (T := TX7) (N := 7) hx hb hts in_X7 hown hE.1 hP 0 rfl rfl 2 (by decide) (hts _ w_278) (fun _ h9 => h9) rfl dX6_goalWind_66 ?_
                refine va_alen (v := 1024) hx hb hE.1 hP 1 1 rfl rfl (show Int32.ofNat 1024 = 1024 by decide) dX6_goalWind_69 ?_
                refine lv_icmp_ge (tgt := 84) hx hb dX6_goalWind_70 (by decide) (fun c1957 => ?_) (fun c1957 => ?_)
                · replace c1957 := le_i c1957
                  refine lv_iconst (v := (-1)) hx hb dX6_goalWind_84 (by decide) ?_
                  exact ro_ret hC hr hk dX6_goalWind_85 trivial
                · replace c1957 := nle_i c1957
                  refine lv_aload_n hx hb dX6_goalWind_73 rfl (lv_at hl 3 rfl) ?_
                  refine va_get (D := D) (ci := 6) (v := .ref wa2) (C := RX7) (T := TX7) (N := 7) hx hb hts in_X7 hown hE.1 hP 0 rfl rfl 2 (by decide) (hts _ w_278) (fun _ h9 => h9) rfl dX6_goalWind_74 ?_
                  refine lv_iload_n hx hb dX6_goalWind_77 rfl (lv_at hl 1 rfl) ?_
                  refine va_iald hx hb hE.1 hP 1 1 rfl rfl (vp_in_iff.mpr (by omega)) dX6_goalWind_78 ?_
                  refine lv_topi (fun v1958 ev1958 => ?_)
                  refine lv_iconst (v := 4) hx hb dX6_goalWind_79 (by decide) ?_
                  refine lv_irem hx hb dX6_goalWind_80 (by decide) ?_
                  refine lv_topi (fun v1959 ev1959 => ?_)
                  refine lv_goto (tgt := 85) hx hb dX6_goalWind_81 (by decide) ?_
                  exact ro_ret hC hr hk dX6_goalWind_85 trivial
            · replace c1955 := nle_i c1955
              refine lv_iload_n hx hb dX6_goalWind_36 rfl (lv_at hl 1 rfl) ?_
              refine lv_aload_n hx hb dX6_goalWind_37 rfl (lv_at hl 3 rfl) ?_
              refine va_get (D := D) (ci := 6) (v := .ref wa2) (C := RX7) (T := TX7) (N := 7) hx hb hts in_X7 hown hE.1 hP 0 rfl rfl 2 (by decide) (hts _ w_278) (fun _ h9 => h9) rfl dX6_goalWind_38 ?_
              refine va_alen (v := 1024) hx hb hE.1 hP 1 1 rfl rfl (show Int32.ofNat 1024 = 1024 by decide) dX6_goalWind_41 ?_
              refine lv_icmp_ge (tgt := 60) hx hb dX6_goalWind_42 (by decide) (fun c1960 => ?_) (fun c1960 => ?_)
              · replace c1960 := le_i c1960
                refine lv_iload_n hx hb dX6_goalWind_60 rfl (lv_at hl 1 rfl) ?_
                refine lv_if_le (tgt := 84) hx hb dX6_goalWind_61 (by decide) (fun c1961 => ?_) (fun c1961 => ?_)
                · replace c1961 := le_i c1961
                  refine lv_iconst (v := (-1)) hx hb dX6_goalWind_84 (by decide) ?_
                  exact ro_ret hC hr hk dX6_goalWind_85 trivial
                · replace c1961 := nle_i c1961
                  refine lv_iload_n hx hb dX6_goalWind_64 rfl (lv_at hl 1 rfl) ?_
                  refine lv_aload_n hx hb dX6_goalWind_65 rfl (lv_at hl 3 rfl) ?_
                  refine va_get (D := D) (ci := 6) (v := .ref wa2) (C := RX7) (T := TX7) (N := 7) hx hb hts in_X7 hown hE.1 hP 0 rfl rfl 2 (by decide) (hts _ w_278) (fun _ h9 => h9) rfl dX6_goalWind_66 ?_
                  refine va_alen (v := 1024) hx hb hE.1 hP 1 1 rfl rfl (show Int32.ofNat 1024 = 1024 by decide) dX6_goalWind_69 ?_
                  refine lv_icmp_ge (tgt := 84) hx hb dX6_goalWind_70 (by decide) (fun c1962 => ?_) (fun c1962 => ?_)
                  · replace c1962 := le_i c1962
                    refine lv_iconst (v := (-1)) hx hb dX6_goalWind_84 (by decide) ?_
                    exact ro_ret hC hr hk dX6_goalWind_85 trivial
                  · replace c1962 := nle_i c1962
                    refine lv_aload_n hx hb dX6_goalWind_73 rfl (lv_at hl 3 rfl) ?_
                    refine va_get (D := D) (ci := 6) (v := .ref wa2) (C := RX7) (T := TX7) (N := 7) hx hb hts in_X7 hown hE.1 hP 0 rfl rfl 2 (by decide) (hts _ w_278) (fun _ h9 => h9) rfl dX6_goalWind_74 ?_
                    refine lv_iload_n hx hb dX6_goalWind_77 rfl (lv_at hl 1 rfl) ?_
                    refine va_iald hx hb hE.1 hP 1 1 rfl rfl (vp_in_iff.mpr (by omega)) dX6_goalWind_78 ?_
                    refine lv_topi (fun v1963 ev1963 => ?_)
                    refine lv_iconst (v := 4) hx hb dX6_goalWind_79 (by decide) ?_
                    refine lv_irem hx hb dX6_goalWind_80 (by decide) ?_
                    refine lv_topi (fun v1964 ev1964 => ?_)
                    refine lv_goto (tgt := 85) hx hb dX6_goalWind_81 (by decide) ?_
                    exact ro_ret hC hr hk dX6_goalWind_85 trivial
              · replace c1960 := nle_i c1960
                refine lv_aload_n hx hb dX6_goalWind_45 rfl (lv_at hl 3 rfl) ?_
                refine va_get (D := D) (ci := 6) (v := .ref wa2) (C := RX7) (T := TX7) (N := 7) hx hb hts in_X7 hown hE.1 hP 0 rfl rfl 2 (by decide) (hts _ w_278) (fun _ h9 => h9) rfl dX6_goalWind_46 ?_
                refine lv_iload_n hx hb dX6_goalWind_49 rfl (lv_at hl 1 rfl) ?_
                refine va_iald hx hb hE.1 hP 1 1 rfl rfl (vp_in_iff.mpr (by omega)) dX6_goalWind_50 ?_
                refine lv_topi (fun v1965 ev1965 => ?_)
                refine lv_iconst (v := 4) hx hb dX6_goalWind_51 (by decide) ?_
                refine lv_idiv hx hb dX6_goalWind_52 (by decide) ?_
                refine lv_topi (fun v1966 ev1966 => ?_)
                refine lv_istore_n (lv' := [(3, .int v1966), (4, .int i1948), (2, .int r1906), (0, .ref w), (1, .int p0)]) hx hb dX6_goalWind_53 rfl hl (by decide) rfl (fun ls hl => ?_)
                obtain ⟨v1967, ev1967⟩ : ∃ z : Int32, z = i1948 + (-1) := ⟨_, rfl⟩
                refine lv_iinc (v := v1967) (lv' := [(4, .int v1967), (3, .int v1966), (2, .int r1906), (0, .ref w), (1, .int p0)]) hx hb dX6_goalWind_54 hl (k := 1) rfl (by rw [ev1967]; rfl) (by decide) rfl (fun ls hl => ?_)
                refine lv_goto (tgt := 26) hx hb dX6_goalWind_57 (by decide) ?_
                have tv1967 : v1967.toInt = (i1948 : Int32).toInt + ((-1) : Int32).toInt := add_i ev1967 (by omega) (by omega)
                have tv1966 := div_i (n := 4) ev1966 (by decide) (by decide)
                exact ih_26 (i1948 := v1967) (i1949 := v1966) (hw_26 := by omega) (ls := ls) (hn_26 := by omega) (hl := lv_sub hl [0, 1, 2, 3, 4] rfl)
      · replace c1938 := nlt_i c1938
        refine lv_iconst (v := (-1)) hx hb dX6_goalWind_14 (by decide) ?_
        exact ro_ret hC hr hk dX6_goalWind_15 trivial
set_option maxRecDepth 40000 in
set_option maxHeartbeats 4000000 in
theorem c_X1_aimAt (l : Launch) (D : va_G) (K : Nat → ClassId) (w : Nat) (wa0 : Nat) (wa1 : Nat) (wa2 : Nat) (wa6 : Nat) (wn3 : Int32) (wn4 : Int32) (wn5 : Int32) (wn7 : Int32) (wn8 : Int32) (wn9 : Int32) (p0 : Int32) (p1 : Int32) (p2 : Int32) : Cv (S := ((Nat → Int32) × (Nat → Nat → Int32) × (Nat → Nat → Int64))) l D K yX1_aimAt cX1_aimAt 4 0 0 0 0 [.ref w, .int p0, .int p1, .int p2] [(w, .inr (1, [.ref wa0, .ref wa1, .ref wa2, .int wn3, .int wn4, .int wn5, .ref wa6, .int wn7, .int wn8, .int wn9]))] (fun _ => True) (fun u => [(w, .inr (1, [.ref wa0, .ref wa1, .ref wa2, .int wn3, .int wn4, .int wn5, .ref wa6, .int (u.1 0), .int (u.1 1), .int (u.1 2)]))]) := by
  intro sz
  refine ch_of (y := yX1_aimAt) (cc := cX1_aimAt) (maxL := 4) (ret := none) (av := [.ref w, .int p0, .int p1, .int p2]) (ws := [(w, .inr (1, [.ref wa0, .ref wa1, .ref wa2, .int wn3, .int wn4, .int wn5, .ref wa6, .int wn7, .int wn8, .int wn9]))]) (D := D) (K := K) (Qc := fun A => va_Qv (S := ((Nat → Int32) × (Nat → Nat → Int32) × (Nat → Nat → Int64))) (fun _ => True) (chB D A (fun u => [(w, .inr (1, [.ref wa0, .ref wa1, .ref wa2, .int wn3, .int wn4, .int wn5, .ref wa6, .int (u.1 0), .int (u.1 1), .int (u.1 2)]))])) A) (by decide) (Nat.le_of_ble_eq_true rfl) ?_
  intro p e s m below meth c A hC hr hk hin hE hD hA H locs hP hS ls hl
  replace hC : CallFix p m c cX1_aimAt 4 s [.ref w, .int p0, .int p1, .int p2].toArray wl RX1 := hC
  have hx := hC.1
  have hb := hC.2.1
  have hml := hC.2.2.1
  have hown := hC.2.2.2.1
  have hts := hC.2.2.2.2
  replace hl : lv_has ls 4 [(0, .ref w), (1, .int p0), (2, .int p1), (3, .int p2)] := hl
  refine lv_aload_n hx hb dX1_aimAt_0 rfl (lv_at hl 0 rfl) ?_
  refine lv_iload_n hx hb dX1_aimAt_1 rfl (lv_at hl 1 rfl) ?_
  refine va_put (D := D) (ci := 1) (v := .int p0) (ty := .int) (C := RX1) (T := TX1) (N := 10) hx hb hts in_X1 tyX1 tyX1_ok nmX1 hown hE.1 hP hD hS 0 rfl rfl 7 (by decide) (hts _ w_300) (fun _ h9 => h9) rfl (by decide +kernel) rfl rfl (Nat.le_of_ble_eq_true rfl) dX1_aimAt_2 (fun H locs hP hD hS => ?_)
  replace hP : va_P D vwCl [(w, .inr (1, [.ref wa0, .ref wa1, .ref wa2, .int wn3, .int wn4, .int wn5, .ref wa6, .int p0, .int wn8, .int wn9]))] H := hP
  replace hD : va_D A [(w, .inr (1, [.ref wa0, .ref wa1, .ref wa2, .int wn3, .int wn4, .int wn5, .ref wa6, .int p0, .int wn8, .int wn9]))] := hD
  refine lv_aload_n hx hb dX1_aimAt_5 rfl (lv_at hl 0 rfl) ?_
  refine lv_iload_n hx hb dX1_aimAt_6 rfl (lv_at hl 2 rfl) ?_
  refine va_put (D := D) (ci := 1) (v := .int p1) (ty := .int) (C := RX1) (T := TX1) (N := 10) hx hb hts in_X1 tyX1 tyX1_ok nmX1 hown hE.1 hP hD hS 0 rfl rfl 8 (by decide) (hts _ w_301) (fun _ h9 => h9) rfl (by decide +kernel) rfl rfl (Nat.le_of_ble_eq_true rfl) dX1_aimAt_7 (fun H locs hP hD hS => ?_)
  replace hP : va_P D vwCl [(w, .inr (1, [.ref wa0, .ref wa1, .ref wa2, .int wn3, .int wn4, .int wn5, .ref wa6, .int p0, .int p1, .int wn9]))] H := hP
  replace hD : va_D A [(w, .inr (1, [.ref wa0, .ref wa1, .ref wa2, .int wn3, .int wn4, .int wn5, .ref wa6, .int p0, .int p1, .int wn9]))] := hD
  refine lv_aload_n hx hb dX1_aimAt_10 rfl (lv_at hl 0 rfl) ?_
  refine lv_iload_n hx hb dX1_aimAt_11 rfl (lv_at hl 3 rfl) ?_
  refine va_put (D := D) (ci := 1) (v := .int p2) (ty := .int) (C := RX1) (T := TX1) (N := 10) hx hb hts in_X1 tyX1 tyX1_ok nmX1 hown hE.1 hP hD hS 0 rfl rfl 9 (by decide) (hts _ w_302) (fun _ h9 => h9) rfl (by decide +kernel) rfl rfl (Nat.le_of_ble_eq_true rfl) dX1_aimAt_12 (fun H locs hP hD hS => ?_)
  replace hP : va_P D vwCl [(w, .inr (1, [.ref wa0, .ref wa1, .ref wa2, .int wn3, .int wn4, .int wn5, .ref wa6, .int p0, .int p1, .int p2]))] H := hP
  replace hD : va_D A [(w, .inr (1, [.ref wa0, .ref wa1, .ref wa2, .int wn3, .int wn4, .int wn5, .ref wa6, .int p0, .int p1, .int p2]))] := hD
  refine W.widen (k := 0) (n := 0) (by decide) (by decide) ?_
  exact ch_vret hC hr hk hS dX1_aimAt_15 ((fun k => [p0, p1, p2].getD k 0, fun k => [].getD k (fun _ => 0), fun k => [].getD k (fun _ => 0)) : ((Nat → Int32) × (Nat → Nat → Int32) × (Nat → Nat → Int64))) trivial (hP.sub [0] rfl) (hD.sub [0] (by decide) rfl)
set_option maxRecDepth 40000 in
set_option maxHeartbeats 4000000 in
theorem c_X1_next (l : Launch) (D : va_G) (K : Nat → ClassId) (w : Nat) (wa0 : Nat) (wa1 : Nat) (wa2 : Nat) (wa6 : Nat) (v : Nat) (va0 : Nat) (va1 : Nat) (va2 : Nat) (va3 : Nat) (va4 : Nat) (va5 : Nat) (va6 : Nat) (va7 : Nat) (wn3 : Int32) (wn4 : Int32) (wn5 : Int32) (wn7 : Int32) (wn8 : Int32) (wn9 : Int32) (wa6n0 : Int32) (wa6n1 : Int32) (wa6n2 : Int32) (vn8 : Int32) (vn9 : Int32) (vn10 : Int32) (vn11 : Int32) (vf0 : Nat → Int32) (vf1 : Nat → Int32) (p1 : Int32) (p2 : Int32) : Ci (S := ((Nat → Int32) × (Nat → Nat → Int32) × (Nat → Nat → Int64))) l D K yX1_next cX1_next 4 (some .int) 3 68 0 0 [.ref w, .ref v, .int p1, .int p2] [(w, .inr (1, [.ref wa0, .ref wa1, .ref wa2, .int wn3, .int wn4, .int wn5, .ref wa6, .int wn7, .int wn8, .int wn9])), (wa6, .inr (8, [.int wa6n0, .int wa6n1, .int wa6n2])), (v, .inr (9, [.ref va0, .ref va1, .ref va2, .ref va3, .ref va4, .ref va5, .ref va6, .ref va7, .int vn8, .int vn9, .int vn10, .int vn11])), (va0, .inl (K 1, 40, .inl vf0)), (va1, .inl (K 1, 10, .inl vf1))] (fun _ _ => True) (fun u => [(w, .inr (1, [.ref wa0, .ref wa1, .ref wa2, .int wn3, .int wn4, .int wn5, .ref wa6, .int wn7, .int wn8, .int wn9])), (wa6, .inr (8, [.int (u.1 0), .int (u.1 1), .int (u.1 2)])), (v, .inr (9, [.ref va0, .ref va1, .ref va2, .ref va3, .ref va4, .ref va5, .ref va6, .ref va7, .int vn8, .int vn9, .int vn10, .int vn11])), (va0, .inl (K 1, 40, .inl vf0)), (va1, .inl (K 1, 10, .inl vf1))]) := by
  intro sz
  refine ch_of (y := yX1_next) (cc := cX1_next) (maxL := 4) (ret := (some .int)) (av := [.ref w, .ref v, .int p1, .int p2]) (ws := [(w, .inr (1, [.ref wa0, .ref wa1, .ref wa2, .int wn3, .int wn4, .int wn5, .ref wa6, .int wn7, .int wn8, .int wn9])), (wa6, .inr (8, [.int wa6n0, .int wa6n1, .int wa6n2])), (v, .inr (9, [.ref va0, .ref va1, .ref va2, .ref va3, .ref va4, .ref va5, .ref va6, .ref va7, .int vn8, .int vn9, .int vn10, .int vn11])), (va0, .inl (K 1, 40, .inl vf0)), (va1, .inl (K 1, 10, .inl vf1))]) (D := D) (K := K) (Qc := fun A => va_Qi (S := ((Nat → Int32) × (Nat → Nat → Int32) × (Nat → Nat → Int64))) (fun _ _ => True) (chB D A (fun u => [(w, .inr (1, [.ref wa0, .ref wa1, .ref wa2, .int wn3, .int wn4, .int wn5, .ref wa6, .int wn7, .int wn8, .int wn9])), (wa6, .inr (8, [.int (u.1 0), .int (u.1 1), .int (u.1 2)])), (v, .inr (9, [.ref va0, .ref va1, .ref va2, .ref va3, .ref va4, .ref va5, .ref va6, .ref va7, .int vn8, .int vn9, .int vn10, .int vn11])), (va0, .inl (K 1, 40, .inl vf0)), (va1, .inl (K 1, 10, .inl vf1))])) A) (by decide) (Nat.le_of_ble_eq_true rfl) ?_
  intro p e s m below meth c A hC hr hk hin hE hD hA H locs hP hS ls hl
  replace hC : CallFix p m c cX1_next 4 s [.ref w, .ref v, .int p1, .int p2].toArray wl RX1 := hC
  have hx := hC.1
  have hb := hC.2.1
  have hml := hC.2.2.1
  have hown := hC.2.2.2.1
  have hts := hC.2.2.2.2
  replace hl : lv_has ls 4 [(0, .ref w), (1, .ref v), (2, .int p1), (3, .int p2)] := hl
  refine lv_aload_n hx hb dX1_next_0 rfl (lv_at hl 0 rfl) ?_
  refine va_get (D := D) (ci := 1) (v := .ref wa6) (C := RX1) (T := TX1) (N := 10) hx hb hts in_X1 hown hE.1 hP 0 rfl rfl 6 (by decide) (hts _ w_303) (fun _ h9 => h9) rfl dX1_next_1 ?_
  refine lv_iload_n hx hb dX1_next_4 rfl (lv_at hl 2 rfl) ?_
  refine lv_sipush (v := 1024) hx hb dX1_next_5 (by decide) ?_
  refine lv_idiv hx hb dX1_next_8 (by decide) ?_
  refine lv_topi (fun v1976 ev1976 => ?_)
  refine lv_iload_n hx hb dX1_next_9 rfl (lv_at hl 2 rfl) ?_
  refine lv_sipush (v := 1024) hx hb dX1_next_10 (by decide) ?_
  refine lv_irem hx hb dX1_next_13 (by decide) ?_
  refine lv_topi (fun v1977 ev1977 => ?_)
  refine lv_aload_n hx hb dX1_next_14 rfl (lv_at hl 0 rfl) ?_
  refine va_get (D := D) (ci := 1) (v := .int wn7) (C := RX1) (T := TX1) (N := 10) hx hb hts in_X1 hown hE.1 hP 0 rfl rfl 7 (by decide) (hts _ w_300) (fun _ h9 => h9) rfl dX1_next_15 ?_
  refine cv_V (As := [.int v1976, .int v1977, .int wn7]) (rest := []) (wc := [(wa6, .inr (8, [.int wa6n0, .int wa6n1, .int wa6n2]))]) (wr := [(w, .inr (1, [.ref wa0, .ref wa1, .ref wa2, .int wn3, .int wn4, .int wn5, .ref wa6, .int wn7, .int wn8, .int wn9])), (v, .inr (9, [.ref va0, .ref va1, .ref va2, .ref va3, .ref va4, .ref va5, .ref va6, .ref va7, .int vn8, .int vn9, .int vn10, .int vn11])), (va0, .inl (K 1, 40, .inl vf0)), (va1, .inl (K 1, 10, .inl vf1))]) hC hE kV_X1_30 (c_X9_place l D K wa6 wa6n0 wa6n1 wa6n2 v1976 v1977 wn7) hP hD hS hA [1] [0, 2, 3, 4] rfl rfl rfl (by decide) (by decide) (by decide) 0 8 rfl rfl rfl hl.1 rfl (Nat.le_of_ble_eq_true rfl) (by decide) (by decide) dX1_next_18 (fun u1978 H locs hw hP hD hS => ?_)
  replace hP : va_P D vwCl [(w, .inr (1, [.ref wa0, .ref wa1, .ref wa2, .int wn3, .int wn4, .int wn5, .ref wa6, .int wn7, .int wn8, .int wn9])), (v, .inr (9, [.ref va0, .ref va1, .ref va2, .ref va3, .ref va4, .ref va5, .ref va6, .ref va7, .int vn8, .int vn9, .int vn10, .int vn11])), (va0, .inl (K 1, 40, .inl vf0)), (va1, .inl (K 1, 10, .inl vf1)), (wa6, .inr (8, [.int (u1978.1 0), .int (u1978.1 1), .int (u1978.1 2)]))] H := hP
  replace hD : va_D A [(w, .inr (1, [.ref wa0, .ref wa1, .ref wa2, .int wn3, .int wn4, .int wn5, .ref wa6, .int wn7, .int wn8, .int wn9])), (v, .inr (9, [.ref va0, .ref va1, .ref va2, .ref va3, .ref va4, .ref va5, .ref va6, .ref va7, .int vn8, .int vn9, .int vn10, .int vn11])), (va0, .inl (K 1, 40, .inl vf0)), (va1, .inl (K 1, 10, .inl vf1)), (wa6, .inr (8, [.int (u1978.1 0), .int (u1978.1 1), .int (u1978.1 2)]))] := hD
  replace hP : va_P D vwCl [(w, .inr (1, [.ref wa0, .ref wa1, .ref wa2, .int wn3, .int wn4, .int wn5, .ref wa6, .int wn7, .int wn8, .int wn9])), (wa6, .inr (8, [.int (u1978.1 0), .int (u1978.1 1), .int (u1978.1 2)])), (v, .inr (9, [.ref va0, .ref va1, .ref va2, .ref va3, .ref va4, .ref va5, .ref va6, .ref va7, .int vn8, .int vn9, .int vn10, .int vn11])), (va0, .inl (K 1, 40, .inl vf0)), (va1, .inl (K 1, 10, .inl vf1))] H := hP.sub [0, 4, 1, 2, 3] rfl
  replace hD : va_D A [(w, .inr (1, [.ref wa0, .ref wa1, .ref wa2, .int wn3, .int wn4, .int wn5, .ref wa6, .int wn7, .int wn8, .int wn9])), (wa6, .inr (8, [.int (u1978.1 0), .int (u1978.1 1), .int (u1978.1 2)])), (v, .inr (9, [.ref va0, .ref va1, .ref va2, .ref va3, .ref va4, .ref va5, .ref va6, .ref va7, .int vn8, .int vn9, .int vn10, .int vn11])), (va0, .inl (K 1, 40, .inl vf0)), (va1, .inl (K 1, 10, .inl vf1))] := hD.sub [0, 4, 1, 2, 3] (by decide) rfl
  refine W.widen (k := 0) (n := 0) (by decide) (by decide) ?_
  refine lv_aload_n hx hb dX1_next_21 rfl (lv_at hl 0 rfl) ?_
  refine va_get (D := D) (ci := 1) (v := .ref wa6) (C := RX1) (T := TX1) (N := 10) hx hb hts in_X1 hown hE.1 hP 0 rfl rfl 6 (by decide) (hts _ w_303) (fun _ h9 => h9) rfl dX1_next_22 ?_
  refine lv_aload_n hx hb dX1_next_25 rfl (lv_at hl 1 rfl) ?_
  refine lv_iload_n hx hb dX1_next_26 rfl (lv_at hl 3 rfl) ?_
  refine cv_V (As := [.ref v, .int p2]) (rest := []) (wc := [(wa6, .inr (8, [.int (u1978.1 0), .int (u1978.1 1), .int (u1978.1 2)])), (v, .inr (9, [.ref va0, .ref va1, .ref va2, .ref va3, .ref va4, .ref va5, .ref va6, .ref va7, .int vn8, .int vn9, .int vn10, .int vn11])), (va0, .inl (K 1, 40, .inl vf0)), (va1, .inl (K 1, 10, .inl vf1))]) (wr := [(w, .inr (1, [.ref wa0, .ref wa1, .ref wa2, .int wn3, .int wn4, .int wn5, .ref wa6, .int wn7, .int wn8, .int wn9]))]) hC hE kV_X1_34 (c_X9_step l D K wa6 v va0 va1 va2 va3 va4 va5 va6 va7 (u1978.1 0) (u1978.1 1) (u1978.1 2) vn8 vn9 vn10 vn11 vf0 vf1 p2) hP hD hS hA [1, 2, 3, 4] [0] rfl rfl rfl (by decide) (by decide) (by decide) 0 8 rfl rfl rfl hl.1 rfl (Nat.le_of_ble_eq_true rfl) (by decide) (by decide) dX1_next_27 (fun u1980 H locs hw hP hD hS => ?_)
  replace hP : va_P D vwCl [(w, .inr (1, [.ref wa0, .ref wa1, .ref wa2, .int wn3, .int wn4, .int wn5, .ref wa6, .int wn7, .int wn8, .int wn9])), (wa6, .inr (8, [.int (u1980.1 0), .int (u1980.1 1), .int (u1978.1 2)])), (v, .inr (9, [.ref va0, .ref va1, .ref va2, .ref va3, .ref va4, .ref va5, .ref va6, .ref va7, .int vn8, .int vn9, .int vn10, .int vn11])), (va0, .inl (K 1, 40, .inl vf0)), (va1, .inl (K 1, 10, .inl vf1))] H := hP
  replace hD : va_D A [(w, .inr (1, [.ref wa0, .ref wa1, .ref wa2, .int wn3, .int wn4, .int wn5, .ref wa6, .int wn7, .int wn8, .int wn9])), (wa6, .inr (8, [.int (u1980.1 0), .int (u1980.1 1), .int (u1978.1 2)])), (v, .inr (9, [.ref va0, .ref va1, .ref va2, .ref va3, .ref va4, .ref va5, .ref va6, .ref va7, .int vn8, .int vn9, .int vn10, .int vn11])), (va0, .inl (K 1, 40, .inl vf0)), (va1, .inl (K 1, 10, .inl vf1))] := hD
  replace hP : va_P D vwCl [(w, .inr (1, [.ref wa0, .ref wa1, .ref wa2, .int wn3, .int wn4, .int wn5, .ref wa6, .int wn7, .int wn8, .int wn9])), (wa6, .inr (8, [.int (u1980.1 0), .int (u1980.1 1), .int (u1978.1 2)])), (v, .inr (9, [.ref va0, .ref va1, .ref va2, .ref va3, .ref va4, .ref va5, .ref va6, .ref va7, .int vn8, .int vn9, .int vn10, .int vn11])), (va0, .inl (K 1, 40, .inl vf0)), (va1, .inl (K 1, 10, .inl vf1))] H := hP.sub [0, 1, 2, 3, 4] rfl
  replace hD : va_D A [(w, .inr (1, [.ref wa0, .ref wa1, .ref wa2, .int wn3, .int wn4, .int wn5, .ref wa6, .int wn7, .int wn8, .int wn9])), (wa6, .inr (8, [.int (u1980.1 0), .int (u1980.1 1), .int (u1978.1 2)])), (v, .inr (9, [.ref va0, .ref va1, .ref va2, .ref va3, .ref va4, .ref va5, .ref va6, .ref va7, .int vn8, .int vn9, .int vn10, .int vn11])), (va0, .inl (K 1, 40, .inl vf0)), (va1, .inl (K 1, 10, .inl vf1))] := hD.sub [0, 1, 2, 3, 4] (by decide) rfl
  refine W.widen (k := 0) (n := 0) (by decide) (by decide) ?_
  refine lv_aload_n hx hb dX1_next_30 rfl (lv_at hl 0 rfl) ?_
  refine va_get (D := D) (ci := 1) (v := .ref wa6) (C := RX1) (T := TX1) (N := 10) hx hb hts in_X1 hown hE.1 hP 0 rfl rfl 6 (by decide) (hts _ w_303) (fun _ h9 => h9) rfl dX1_next_31 ?_
  refine va_get (D := D) (ci := 8) (v := .int (u1980.1 0)) (C := RX9) (T := TX9) (N := 3) hx hb hts in_X9 hown hE.1 hP 1 rfl rfl 0 (by decide) (hts _ w_304) (fun _ h9 => h9) rfl dX1_next_34 ?_
  refine lv_sipush (v := 1024) hx hb dX1_next_37 (by decide) ?_
  refine lv_imul hx hb dX1_next_40 ?_
  refine lv_topi (fun v1982 ev1982 => ?_)
  refine lv_aload_n hx hb dX1_next_41 rfl (lv_at hl 0 rfl) ?_
  refine va_get (D := D) (ci := 1) (v := .ref wa6) (C := RX1) (T := TX1) (N := 10) hx hb hts in_X1 hown hE.1 hP 0 rfl rfl 6 (by decide) (hts _ w_303) (fun _ h9 => h9) rfl dX1_next_42 ?_
  refine va_get (D := D) (ci := 8) (v := .int (u1980.1 1)) (C := RX9) (T := TX9) (N := 3) hx hb hts in_X9 hown hE.1 hP 1 rfl rfl 1 (by decide) (hts _ w_305) (fun _ h9 => h9) rfl dX1_next_45 ?_
  refine lv_iadd hx hb dX1_next_48 ?_
  refine lv_topi (fun v1983 ev1983 => ?_)
  refine W.widen (k := 0) (n := 0) (by decide) (by decide) ?_
  exact ch_iret hC hr hk hS dX1_next_49 ((fun k => [(u1980.1 0), (u1980.1 1), (u1978.1 2)].getD k 0, fun k => [].getD k (fun _ => 0), fun k => [].getD k (fun _ => 0)) : ((Nat → Int32) × (Nat → Nat → Int32) × (Nat → Nat → Int64))) trivial (hP.sub [0, 1, 2, 3, 4] rfl) (hD.sub [0, 1, 2, 3, 4] (by decide) rfl)
set_option maxRecDepth 40000 in
set_option maxHeartbeats 4000000 in
theorem c_X1_ends (l : Launch) (D : va_G) (K : Nat → ClassId) (w : Nat) (wa0 : Nat) (wa1 : Nat) (wa2 : Nat) (wa6 : Nat) (v : Nat) (wn3 : Int32) (wn4 : Int32) (wn5 : Int32) (wn7 : Int32) (wn8 : Int32) (wn9 : Int32) (wa6n0 : Int32) (wa6n1 : Int32) (wa6n2 : Int32) (p1 : Int32) : Ci (S := ((Nat → Int32) × (Nat → Nat → Int32) × (Nat → Nat → Int64))) l D K yX1_ends cX1_ends 3 (some .boolean) 2 40 0 0 [.ref w, .ref v, .int p1] [(w, .inr (1, [.ref wa0, .ref wa1, .ref wa2, .int wn3, .int wn4, .int wn5, .ref wa6, .int wn7, .int wn8, .int wn9])), (wa6, .inr (8, [.int wa6n0, .int wa6n1, .int wa6n2]))] (fun r u => ((r = 0) ∨ (r = 1))) (fun u => [(w, .inr (1, [.ref wa0, .ref wa1, .ref wa2, .int wn3, .int wn4, .int wn5, .ref wa6, .int wn7, .int wn8, .int wn9])), (wa6, .inr (8, [.int (u.1 0), .int (u.1 1), .int (u.1 2)]))]) := by
  intro sz
  refine ch_of (y := yX1_ends) (cc := cX1_ends) (maxL := 3) (ret := (some .boolean)) (av := [.ref w, .ref v, .int p1]) (ws := [(w, .inr (1, [.ref wa0, .ref wa1, .ref wa2, .int wn3, .int wn4, .int wn5, .ref wa6, .int wn7, .int wn8, .int wn9])), (wa6, .inr (8, [.int wa6n0, .int wa6n1, .int wa6n2]))]) (D := D) (K := K) (Qc := fun A => va_Qi (S := ((Nat → Int32) × (Nat → Nat → Int32) × (Nat → Nat → Int64))) (fun r u => ((r = 0) ∨ (r = 1))) (chB D A (fun u => [(w, .inr (1, [.ref wa0, .ref wa1, .ref wa2, .int wn3, .int wn4, .int wn5, .ref wa6, .int wn7, .int wn8, .int wn9])), (wa6, .inr (8, [.int (u.1 0), .int (u.1 1), .int (u.1 2)]))])) A) (by decide) (Nat.le_of_ble_eq_true rfl) ?_
  intro p e s m below meth c A hC hr hk hin hE hD hA H locs hP hS ls hl
  replace hC : CallFix p m c cX1_ends 3 s [.ref w, .ref v, .int p1].toArray wl RX1 := hC
  have hx := hC.1
  have hb := hC.2.1
  have hml := hC.2.2.1
  have hown := hC.2.2.2.1
  have hts := hC.2.2.2.2
  replace hl : lv_has ls 3 [(0, .ref w), (1, .ref v), (2, .int p1)] := hl
  have kc_1 : (1 : Int32).toInt = 1 := by decide
  have kc_2 : (2 : Int32).toInt = 2 := by decide
  have kc_3 : (3 : Int32).toInt = 3 := by decide
  refine lv_aload_n hx hb dX1_ends_0 rfl (lv_at hl 0 rfl) ?_
  refine va_get (D := D) (ci := 1) (v := .ref wa6) (C := RX1) (T := TX1) (N := 10) hx hb hts in_X1 hown hE.1 hP 0 rfl rfl 6 (by decide) (hts _ w_303) (fun _ h9 => h9) rfl dX1_ends_1 ?_
  refine lv_iload_n hx hb dX1_ends_4 rfl (lv_at hl 2 rfl) ?_
  refine lv_sipush (v := 1024) hx hb dX1_ends_5 (by decide) ?_
  refine lv_idiv hx hb dX1_ends_8 (by decide) ?_
  refine lv_topi (fun v1995 ev1995 => ?_)
  refine lv_iload_n hx hb dX1_ends_9 rfl (lv_at hl 2 rfl) ?_
  refine lv_sipush (v := 1024) hx hb dX1_ends_10 (by decide) ?_
  refine lv_irem hx hb dX1_ends_13 (by decide) ?_
  refine lv_topi (fun v1996 ev1996 => ?_)
  refine lv_aload_n hx hb dX1_ends_14 rfl (lv_at hl 0 rfl) ?_
  refine va_get (D := D) (ci := 1) (v := .int wn7) (C := RX1) (T := TX1) (N := 10) hx hb hts in_X1 hown hE.1 hP 0 rfl rfl 7 (by decide) (hts _ w_300) (fun _ h9 => h9) rfl dX1_ends_15 ?_
  refine cv_V (As := [.int v1995, .int v1996, .int wn7]) (rest := []) (wc := [(wa6, .inr (8, [.int wa6n0, .int wa6n1, .int wa6n2]))]) (wr := [(w, .inr (1, [.ref wa0, .ref wa1, .ref wa2, .int wn3, .int wn4, .int wn5, .ref wa6, .int wn7, .int wn8, .int wn9]))]) hC hE kV_X1_30 (c_X9_place l D K wa6 wa6n0 wa6n1 wa6n2 v1995 v1996 wn7) hP hD hS hA [1] [0] rfl rfl rfl (by decide) (by decide) (by decide) 0 8 rfl rfl rfl hl.1 rfl (Nat.le_of_ble_eq_true rfl) (by decide) (by decide) dX1_ends_18 (fun u1997 H locs hw hP hD hS => ?_)
  replace hP : va_P D vwCl [(w, .inr (1, [.ref wa0, .ref wa1, .ref wa2, .int wn3, .int wn4, .int wn5, .ref wa6, .int wn7, .int wn8, .int wn9])), (wa6, .inr (8, [.int (u1997.1 0), .int (u1997.1 1), .int (u1997.1 2)]))] H := hP
  replace hD : va_D A [(w, .inr (1, [.ref wa0, .ref wa1, .ref wa2, .int wn3, .int wn4, .int wn5, .ref wa6, .int wn7, .int wn8, .int wn9])), (wa6, .inr (8, [.int (u1997.1 0), .int (u1997.1 1), .int (u1997.1 2)]))] := hD
  replace hP : va_P D vwCl [(w, .inr (1, [.ref wa0, .ref wa1, .ref wa2, .int wn3, .int wn4, .int wn5, .ref wa6, .int wn7, .int wn8, .int wn9])), (wa6, .inr (8, [.int (u1997.1 0), .int (u1997.1 1), .int (u1997.1 2)]))] H := hP.sub [0, 1] rfl
  replace hD : va_D A [(w, .inr (1, [.ref wa0, .ref wa1, .ref wa2, .int wn3, .int wn4, .int wn5, .ref wa6, .int wn7, .int wn8, .int wn9])), (wa6, .inr (8, [.int (u1997.1 0), .int (u1997.1 1), .int (u1997.1 2)]))] := hD.sub [0, 1] (by decide) rfl
  refine W.widen (k := 0) (n := 0) (by decide) (by decide) ?_
  refine lv_aload_n hx hb dX1_ends_21 rfl (lv_at hl 0 rfl) ?_
  refine va_get (D := D) (ci := 1) (v := .int wn8) (C := RX1) (T := TX1) (N := 10) hx hb hts in_X1 hown hE.1 hP 0 rfl rfl 8 (by decide) (hts _ w_301) (fun _ h9 => h9) rfl dX1_ends_22 ?_
  by_cases c1999 : wn8 = 1
  · refine tc (y := 1) c1999 ?_
    refine lv_tableIn (off := 27) (tgt := 52) hx hb dX1_ends_25 (by decide) (by decide) (by decide +kernel) (by decide) ?_
    refine lv_aload_n hx hb dX1_ends_52 rfl (lv_at hl 0 rfl) ?_
    refine va_get (D := D) (ci := 1) (v := .ref wa6) (C := RX1) (T := TX1) (N := 10) hx hb hts in_X1 hown hE.1 hP 0 rfl rfl 6 (by decide) (hts _ w_303) (fun _ h9 => h9) rfl dX1_ends_53 ?_
    refine ro_V (As := []) (rest := []) hC hE kV_X1_44 (c_X9_doubt l D K wa6 (u1997.1 0) (u1997.1 1) (u1997.1 2)) (hP.sub (ws' := [(wa6, .inr (8, [.int (u1997.1 0), .int (u1997.1 1), .int (u1997.1 2)]))]) [1] rfl) 0 8 rfl rfl rfl hl.1 rfl (Nat.le_of_ble_eq_true rfl) (by decide) (by decide) dX1_ends_56 (fun r2000 _ => ?_)
    refine lv_aload_n hx hb dX1_ends_59 rfl (lv_at hl 0 rfl) ?_
    refine va_get (D := D) (ci := 1) (v := .int wn9) (C := RX1) (T := TX1) (N := 10) hx hb hts in_X1 hown hE.1 hP 0 rfl rfl 9 (by decide) (hts _ w_302) (fun _ h9 => h9) rfl dX1_ends_60 ?_
    refine lv_icmp_lt (tgt := 70) hx hb dX1_ends_63 (by decide) (fun c2001 => ?_) (fun c2001 => ?_)
    · replace c2001 := lt_i c2001
      refine lv_iconst (v := 0) hx hb dX1_ends_70 (by decide) ?_
      refine W.widen (k := 0) (n := 0) (by decide) (by decide) ?_
      exact ch_zret hC hr hk hS dX1_ends_71 rfl ((fun k => [(u1997.1 0), (u1997.1 1), (u1997.1 2)].getD k 0, fun k => [].getD k (fun _ => 0), fun k => [].getD k (fun _ => 0)) : ((Nat → Int32) × (Nat → Nat → Int32) × (Nat → Nat → Int64))) (Or.inl rfl) (hP.sub [0, 1] rfl) (hD.sub [0, 1] (by decide) rfl)
    · replace c2001 := nlt_i c2001
      refine lv_iconst (v := 1) hx hb dX1_ends_66 (by decide) ?_
      refine lv_goto (tgt := 71) hx hb dX1_ends_67 (by decide) ?_
      refine W.widen (k := 0) (n := 0) (by decide) (by decide) ?_
      exact ch_zret hC hr hk hS dX1_ends_71 rfl ((fun k => [(u1997.1 0), (u1997.1 1), (u1997.1 2)].getD k 0, fun k => [].getD k (fun _ => 0), fun k => [].getD k (fun _ => 0)) : ((Nat → Int32) × (Nat → Nat → Int32) × (Nat → Nat → Int64))) (Or.inr rfl) (hP.sub [0, 1] rfl) (hD.sub [0, 1] (by decide) rfl)
  · replace c1999 := ne_i c1999
    by_cases c2002 : wn8 = 2
    · refine tc (y := 2) c2002 ?_
      refine lv_tableIn (off := 47) (tgt := 72) hx hb dX1_ends_25 (by decide) (by decide) (by decide +kernel) (by decide) ?_
      refine lv_aload_n hx hb dX1_ends_72 rfl (lv_at hl 0 rfl) ?_
      refine va_get (D := D) (ci := 1) (v := .ref wa6) (C := RX1) (T := TX1) (N := 10) hx hb hts in_X1 hown hE.1 hP 0 rfl rfl 6 (by decide) (hts _ w_303) (fun _ h9 => h9) rfl dX1_ends_73 ?_
      refine ro_V (As := []) (rest := []) hC hE kV_X1_48 (c_X9_isAstray l D K wa6 (u1997.1 0) (u1997.1 1) (u1997.1 2)) (hP.sub (ws' := [(wa6, .inr (8, [.int (u1997.1 0), .int (u1997.1 1), .int (u1997.1 2)]))]) [1] rfl) 0 8 rfl rfl rfl hl.1 rfl (Nat.le_of_ble_eq_true rfl) (by decide) (by decide) dX1_ends_76 (fun r2003 hq => ?_)
      rcases hq with rfl | rfl
      · refine W.widen (k := 0) (n := 0) (by decide) (by decide) ?_
        exact ch_zret hC hr hk hS dX1_ends_79 rfl ((fun k => [(u1997.1 0), (u1997.1 1), (u1997.1 2)].getD k 0, fun k => [].getD k (fun _ => 0), fun k => [].getD k (fun _ => 0)) : ((Nat → Int32) × (Nat → Nat → Int32) × (Nat → Nat → Int64))) (Or.inl rfl) (hP.sub [0, 1] rfl) (hD.sub [0, 1] (by decide) rfl)
      · refine W.widen (k := 0) (n := 0) (by decide) (by decide) ?_
        exact ch_zret hC hr hk hS dX1_ends_79 rfl ((fun k => [(u1997.1 0), (u1997.1 1), (u1997.1 2)].getD k 0, fun k => [].getD k (fun _ => 0), fun k => [].getD k (fun _ => 0)) : ((Nat → Int32) × (Nat → Nat → Int32) × (Nat → Nat → Int64))) (Or.inr rfl) (hP.sub [0, 1] rfl) (hD.sub [0, 1] (by decide) rfl)
    · replace c2002 := ne_i c2002
      by_cases c2004 : wn8 = 3
      · refine tc (y := 3) c2004 ?_
        refine lv_tableIn (off := 55) (tgt := 80) hx hb dX1_ends_25 (by decide) (by decide) (by decide +kernel) (by decide) ?_
        refine lv_aload_n hx hb dX1_ends_80 rfl (lv_at hl 0 rfl) ?_
        refine va_get (D := D) (ci := 1) (v := .ref wa6) (C := RX1) (T := TX1) (N := 10) hx hb hts in_X1 hown hE.1 hP 0 rfl rfl 6 (by decide) (hts _ w_303) (fun _ h9 => h9) rfl dX1_ends_81 ?_
        refine ro_V (As := []) (rest := []) hC hE kV_X1_52 (c_X9_isSure l D K wa6 (u1997.1 0) (u1997.1 1) (u1997.1 2)) (hP.sub (ws' := [(wa6, .inr (8, [.int (u1997.1 0), .int (u1997.1 1), .int (u1997.1 2)]))]) [1] rfl) 0 8 rfl rfl rfl hl.1 rfl (Nat.le_of_ble_eq_true rfl) (by decide) (by decide) dX1_ends_84 (fun r2005 hq => ?_)
        rcases hq with rfl | rfl
        · refine W.widen (k := 0) (n := 0) (by decide) (by decide) ?_
          exact ch_zret hC hr hk hS dX1_ends_87 rfl ((fun k => [(u1997.1 0), (u1997.1 1), (u1997.1 2)].getD k 0, fun k => [].getD k (fun _ => 0), fun k => [].getD k (fun _ => 0)) : ((Nat → Int32) × (Nat → Nat → Int32) × (Nat → Nat → Int64))) (Or.inl rfl) (hP.sub [0, 1] rfl) (hD.sub [0, 1] (by decide) rfl)
        · refine W.widen (k := 0) (n := 0) (by decide) (by decide) ?_
          exact ch_zret hC hr hk hS dX1_ends_87 rfl ((fun k => [(u1997.1 0), (u1997.1 1), (u1997.1 2)].getD k 0, fun k => [].getD k (fun _ => 0), fun k => [].getD k (fun _ => 0)) : ((Nat → Int32) × (Nat → Nat → Int32) × (Nat → Nat → Int64))) (Or.inr rfl) (hP.sub [0, 1] rfl) (hD.sub [0, 1] (by decide) rfl)
      · replace c2004 := ne_i c2004
        refine lv_tableOut (tgt := 88) hx hb dX1_ends_25 (by omega) (by decide) ?_
        refine lv_iconst (v := 0) hx hb dX1_ends_88 (by decide) ?_
        refine W.widen (k := 0) (n := 0) (by decide) (by decide) ?_
        exact ch_zret hC hr hk hS dX1_ends_89 rfl ((fun k => [(u1997.1 0), (u1997.1 1), (u1997.1 2)].getD k 0, fun k => [].getD k (fun _ => 0), fun k => [].getD k (fun _ => 0)) : ((Nat → Int32) × (Nat → Nat → Int32) × (Nat → Nat → Int64))) (Or.inl rfl) (hP.sub [0, 1] rfl) (hD.sub [0, 1] (by decide) rfl)
set_option maxRecDepth 40000 in
set_option maxHeartbeats 4000000 in
theorem c_X7_next (l : Launch) (D : va_G) (K : Nat → ClassId) (w : Nat) (wa0 : Nat) (wa1 : Nat) (wa2 : Nat) (v : Nat) (va0 : Nat) (va1 : Nat) (va2 : Nat) (va3 : Nat) (va4 : Nat) (va5 : Nat) (va6 : Nat) (va7 : Nat) (wn3 : Int32) (wn4 : Int32) (wn5 : Int32) (wn6 : Int32) (vn8 : Int32) (vn9 : Int32) (vn10 : Int32) (vn11 : Int32) (vf0 : Nat → Int32) (p1 : Int32) (p2 : Int32) : Ro l D K yX7_next cX7_next 4 (some .int) 2 44 [.ref w, .ref v, .int p1, .int p2] [(w, .inr (6, [.ref wa0, .ref wa1, .ref wa2, .int wn3, .int wn4, .int wn5, .int wn6])), (v, .inr (9, [.ref va0, .ref va1, .ref va2, .ref va3, .ref va4, .ref va5, .ref va6, .ref va7, .int vn8, .int vn9, .int vn10, .int vn11])), (va0, .inl (K 1, 40, .inl vf0))] (fun _ => True) := by
  refine ro_of (by decide) (Nat.le_of_ble_eq_true rfl) ?_
  intro p e s m below meth c hC hr hk hE hP ls hl
  replace hC : CallFix p m c cX7_next 4 s [.ref w, .ref v, .int p1, .int p2].toArray wl RX7 := hC
  have hx := hC.1
  have hb := hC.2.1
  have hml := hC.2.2.1
  have hown := hC.2.2.2.1
  have hts := hC.2.2.2.2
  replace hl : lv_has ls 4 [(0, .ref w), (1, .ref v), (2, .int p1), (3, .int p2)] := hl
  refine lv_aload_n hx hb dX7_next_0 rfl (lv_at hl 1 rfl) ?_
  refine lv_iload_n hx hb dX7_next_1 rfl (lv_at hl 2 rfl) ?_
  refine lv_iload_n hx hb dX7_next_2 rfl (lv_at hl 3 rfl) ?_
  refine ro_V (As := [.int p1, .int p2]) (rest := []) hC hE kV_X7_19 (c_X10_spread l D K v va0 va1 va2 va3 va4 va5 va6 va7 vn8 vn9 vn10 vn11 vf0 p1 p2) (hP.sub (ws' := [(v, .inr (9, [.ref va0, .ref va1, .ref va2, .ref va3, .ref va4, .ref va5, .ref va6, .ref va7, .int vn8, .int vn9, .int vn10, .int vn11])), (va0, .inl (K 1, 40, .inl vf0))]) [1, 2] rfl) 0 9 rfl rfl rfl hl.1 rfl (Nat.le_of_ble_eq_true rfl) (by decide) (by decide) dX7_next_3 (fun r2006 _ => ?_)
  exact ro_ret hC hr hk dX7_next_6 trivial
set_option maxRecDepth 40000 in
set_option maxHeartbeats 4000000 in
theorem c_X7_ends (l : Launch) (D : va_G) (K : Nat → ClassId) (w : Nat) (wa0 : Nat) (wa1 : Nat) (wa2 : Nat) (v : Nat) (va0 : Nat) (va1 : Nat) (va2 : Nat) (va3 : Nat) (va4 : Nat) (va5 : Nat) (va6 : Nat) (va7 : Nat) (wn3 : Int32) (wn4 : Int32) (wn5 : Int32) (wn6 : Int32) (vn8 : Int32) (vn9 : Int32) (vn10 : Int32) (vn11 : Int32) (vf1 : Nat → Int32) (p1 : Int32) : Ro l D K yX7_ends cX7_ends 3 (some .boolean) 3 67 [.ref w, .ref v, .int p1] [(w, .inr (6, [.ref wa0, .ref wa1, .ref wa2, .int wn3, .int wn4, .int wn5, .int wn6])), (v, .inr (9, [.ref va0, .ref va1, .ref va2, .ref va3, .ref va4, .ref va5, .ref va6, .ref va7, .int vn8, .int vn9, .int vn10, .int vn11])), (va1, .inl (K 1, 10, .inl vf1))] (fun r => (r = 0) ∨ (r = 1)) := by
  refine ro_of (by decide) (Nat.le_of_ble_eq_true rfl) ?_
  intro p e s m below meth c hC hr hk hE hP ls hl
  replace hC : CallFix p m c cX7_ends 3 s [.ref w, .ref v, .int p1].toArray wl RX7 := hC
  have hx := hC.1
  have hb := hC.2.1
  have hml := hC.2.2.1
  have hown := hC.2.2.2.1
  have hts := hC.2.2.2.2
  replace hl : lv_has ls 3 [(0, .ref w), (1, .ref v), (2, .int p1)] := hl
  have kc_1 : (1 : Int32).toInt = 1 := by decide
  refine lv_aload_n hx hb dX7_ends_0 rfl (lv_at hl 0 rfl) ?_
  refine va_get (D := D) (ci := 6) (v := .int wn6) (C := RX7) (T := TX7) (N := 7) hx hb hts in_X7 hown hE.1 hP 0 rfl rfl 6 (by decide) (hts _ w_318) (fun _ h9 => h9) rfl dX7_ends_1 ?_
  by_cases c2007 : wn6 = 1
  · refine tc (y := 1) c2007 ?_
    refine lv_lookup (off := 28) (tgt := 32) hx hb dX7_ends_4 (by decide) (by decide) (by decide) ?_
    refine lv_iload_n hx hb dX7_ends_32 rfl (lv_at hl 2 rfl) ?_
    refine ro_S (As := [.int p1]) (rest := []) hC hE kS_X7_25 (c_J6_bitCount_0f7a4 l D K p1) (hP.sub (ws' := []) [] rfl) rfl hl.1 rfl (Nat.le_of_ble_eq_true rfl) (by decide) (by decide) dX7_ends_33 (fun r2008 _ => ?_)
    refine lv_iconst (v := 1) hx hb dX7_ends_36 (by decide) ?_
    refine lv_icmp_ne (tgt := 44) hx hb dX7_ends_37 (by decide) (fun c2009 => ?_) (fun c2009 => ?_)
    · replace c2009 := ne_i c2009
      refine lv_iconst (v := 0) hx hb dX7_ends_44 (by decide) ?_
      exact ro_zret hC hr hk dX7_ends_45 rfl (Or.inl rfl)
    · replace c2009 := eq_i c2009
      refine lv_iconst (v := 1) hx hb dX7_ends_40 (by decide) ?_
      refine lv_goto (tgt := 45) hx hb dX7_ends_41 (by decide) ?_
      exact ro_zret hC hr hk dX7_ends_45 rfl (Or.inr rfl)
  · have c2007n := ne_i c2007
    by_cases c2010 : wn6 = 2
    · refine tc (y := 2) c2010 ?_
      refine lv_lookup (off := 42) (tgt := 46) hx hb dX7_ends_4 (by decide) (by decide) (by decide) ?_
      refine lv_aload_n hx hb dX7_ends_46 rfl (lv_at hl 1 rfl) ?_
      refine lv_iload_n hx hb dX7_ends_47 rfl (lv_at hl 2 rfl) ?_
      refine lv_iconst (v := 0) hx hb dX7_ends_48 (by decide) ?_
      refine ro_S (As := [.ref v, .int p1, .int 0]) (rest := []) hC hE kS_X7_31 (c_X7_showsOne l D K v va0 va1 va2 va3 va4 va5 va6 va7 vn8 vn9 vn10 vn11 vf1 p1 0) (hP.sub (ws' := [(v, .inr (9, [.ref va0, .ref va1, .ref va2, .ref va3, .ref va4, .ref va5, .ref va6, .ref va7, .int vn8, .int vn9, .int vn10, .int vn11])), (va1, .inl (K 1, 10, .inl vf1))]) [1, 2] rfl) rfl hl.1 rfl (Nat.le_of_ble_eq_true rfl) (by decide) (by decide) dX7_ends_49 (fun r2011 hq => ?_)
      rcases hq with rfl | rfl
      · refine lv_if_ne (tgt := 59) hx hb dX7_ends_52 (by decide) (fun h => absurd h (by decide)) (fun _ => ?_)
        refine lv_iconst (v := 1) hx hb dX7_ends_55 (by decide) ?_
        refine lv_goto (tgt := 60) hx hb dX7_ends_56 (by decide) ?_
        exact ro_zret hC hr hk dX7_ends_60 rfl (Or.inr rfl)
      · refine lv_if_ne (tgt := 59) hx hb dX7_ends_52 (by decide) (fun _ => ?_) (fun h => absurd h (by decide))
        refine lv_iconst (v := 0) hx hb dX7_ends_59 (by decide) ?_
        exact ro_zret hC hr hk dX7_ends_60 rfl (Or.inl rfl)
    · have c2010n := ne_i c2010
      refine lv_lookup (off := 57) (tgt := 61) hx hb dX7_ends_4 (by decide) (by rw [lv_osw c2007 (by decide), lv_osw c2010 (by decide)]; rfl) (by decide) ?_
      refine lv_iconst (v := 0) hx hb dX7_ends_61 (by decide) ?_
      exact ro_zret hC hr hk dX7_ends_62 rfl (Or.inl rfl)
set_option maxRecDepth 40000 in
set_option maxHeartbeats 4000000 in
theorem c_X6_explore_1 (l : Launch) (D : va_G) (K : Nat → ClassId) (w : Nat) (wa0 : Nat) (wa1 : Nat) (wa2 : Nat) (wa6 : Nat) (v : Nat) (va0 : Nat) (va1 : Nat) (va2 : Nat) (va3 : Nat) (va4 : Nat) (va5 : Nat) (va6 : Nat) (va7 : Nat) (wn3 : Int32) (wn4 : Int32) (wn5 : Int32) (wn7 : Int32) (wn8 : Int32) (wn9 : Int32) (wa6n0 : Int32) (wa6n1 : Int32) (wa6n2 : Int32) (vn8 : Int32) (vn9 : Int32) (vn10 : Int32) (vn11 : Int32) (wf0 : Nat → Int32) (wf1 : Nat → Int32) (wf2 : Nat → Int32) (vf0 : Nat → Int32) (vf1 : Nat → Int32) (p1 : Int32) : Cv (S := ((Nat → Int32) × (Nat → Nat → Int32) × (Nat → Nat → Int64))) l D K yX6_explore cX6_explore 5 4 91 0 0 [.ref w, .ref v, .int p1] [(w, .inr (1, [.ref wa0, .ref wa1, .ref wa2, .int wn3, .int wn4, .int wn5, .ref wa6, .int wn7, .int wn8, .int wn9])), (wa0, .inl (K 1, 10240, .inl wf0)), (wa1, .inl (K 1, 10240, .inl wf1)), (wa2, .inl (K 1, 10240, .inl wf2)), (wa6, .inr (8, [.int wa6n0, .int wa6n1, .int wa6n2])), (v, .inr (9, [.ref va0, .ref va1, .ref va2, .ref va3, .ref va4, .ref va5, .ref va6, .ref va7, .int vn8, .int vn9, .int vn10, .int vn11])), (va0, .inl (K 1, 40, .inl vf0)), (va1, .inl (K 1, 10, .inl vf1))] (fun _ => True) (fun u => [(w, .inr (1, [.ref wa0, .ref wa1, .ref wa2, .int (u.1 0), .int (u.1 1), .int (u.1 2), .ref wa6, .int wn7, .int wn8, .int wn9])), (wa0, .inl (K 1, 10240, .inl (u.2.1 0))), (wa1, .inl (K 1, 10240, .inl (u.2.1 1))), (wa2, .inl (K 1, 10240, .inl (u.2.1 2))), (wa6, .inr (8, [.int (u.1 3), .int (u.1 4), .int (u.1 5)])), (v, .inr (9, [.ref va0, .ref va1, .ref va2, .ref va3, .ref va4, .ref va5, .ref va6, .ref va7, .int vn8, .int vn9, .int vn10, .int vn11])), (va0, .inl (K 1, 40, .inl vf0)), (va1, .inl (K 1, 10, .inl vf1))]) := by
  intro sz
  refine ch_of (y := yX6_explore) (cc := cX6_explore) (maxL := 5) (ret := none) (av := [.ref w, .ref v, .int p1]) (ws := [(w, .inr (1, [.ref wa0, .ref wa1, .ref wa2, .int wn3, .int wn4, .int wn5, .ref wa6, .int wn7, .int wn8, .int wn9])), (wa0, .inl (K 1, 10240, .inl wf0)), (wa1, .inl (K 1, 10240, .inl wf1)), (wa2, .inl (K 1, 10240, .inl wf2)), (wa6, .inr (8, [.int wa6n0, .int wa6n1, .int wa6n2])), (v, .inr (9, [.ref va0, .ref va1, .ref va2, .ref va3, .ref va4, .ref va5, .ref va6, .ref va7, .int vn8, .int vn9, .int vn10, .int vn11])), (va0, .inl (K 1, 40, .inl vf0)), (va1, .inl (K 1, 10, .inl vf1))]) (D := D) (K := K) (Qc := fun A => va_Qv (S := ((Nat → Int32) × (Nat → Nat → Int32) × (Nat → Nat → Int64))) (fun _ => True) (chB D A (fun u => [(w, .inr (1, [.ref wa0, .ref wa1, .ref wa2, .int (u.1 0), .int (u.1 1), .int (u.1 2), .ref wa6, .int wn7, .int wn8, .int wn9])), (wa0, .inl (K 1, 10240, .inl (u.2.1 0))), (wa1, .inl (K 1, 10240, .inl (u.2.1 1))), (wa2, .inl (K 1, 10240, .inl (u.2.1 2))), (wa6, .inr (8, [.int (u.1 3), .int (u.1 4), .int (u.1 5)])), (v, .inr (9, [.ref va0, .ref va1, .ref va2, .ref va3, .ref va4, .ref va5, .ref va6, .ref va7, .int vn8, .int vn9, .int vn10, .int vn11])), (va0, .inl (K 1, 40, .inl vf0)), (va1, .inl (K 1, 10, .inl vf1))])) A) (by decide) (Nat.le_of_ble_eq_true rfl) ?_
  intro p e s m below meth c A hC hr hk hin hE hD hA H locs hP hS ls hl
  replace hC : CallFix p m c cX6_explore 5 s [.ref w, .ref v, .int p1].toArray wl RX6 := hC
  have hx := hC.1
  have hb := hC.2.1
  have hml := hC.2.2.1
  have hown := hC.2.2.2.1
  have hts := hC.2.2.2.2
  replace hl : lv_has ls 5 [(0, .ref w), (1, .ref v), (2, .int p1)] := hl
  have kc_0 : (0 : Int32).toInt = 0 := by decide
  have kc_1 : (1 : Int32).toInt = 1 := by decide
  have kc_4 : (4 : Int32).toInt = 4 := by decide
  have kc_10240 : (10240 : Int32).toInt = 10240 := by decide
  refine lv_aload_n hx hb dX6_explore_0 rfl (lv_at hl 0 rfl) ?_
  refine lv_dup hx hb dX6_explore_1 rfl ?_
  refine va_get (D := D) (ci := 1) (v := .int wn3) (C := RX1) (T := TX1) (N := 10) hx hb hts in_X1 hown hE.1 hP 0 rfl rfl 3 (by decide) (hts _ w_275) (fun _ h9 => h9) rfl dX6_explore_2 ?_
  refine lv_iconst (v := 1) hx hb dX6_explore_5 (by decide) ?_
  refine lv_iadd hx hb dX6_explore_6 ?_
  refine lv_topi (fun v2034 ev2034 => ?_)
  refine va_put (D := D) (ci := 1) (v := .int v2034) (ty := .int) (C := RX1) (T := TX1) (N := 10) hx hb hts in_X1 tyX1 tyX1_ok nmX1 hown hE.1 hP hD hS 0 rfl rfl 3 (by decide) (hts _ w_275) (fun _ h9 => h9) rfl (by decide +kernel) rfl rfl (Nat.le_of_ble_eq_true rfl) dX6_explore_7 (fun H locs hP hD hS => ?_)
  replace hP : va_P D vwCl [(w, .inr (1, [.ref wa0, .ref wa1, .ref wa2, .int v2034, .int wn4, .int wn5, .ref wa6, .int wn7, .int wn8, .int wn9])), (wa0, .inl (K 1, 10240, .inl wf0)), (wa1, .inl (K 1, 10240, .inl wf1)), (wa2, .inl (K 1, 10240, .inl wf2)), (wa6, .inr (8, [.int wa6n0, .int wa6n1, .int wa6n2])), (v, .inr (9, [.ref va0, .ref va1, .ref va2, .ref va3, .ref va4, .ref va5, .ref va6, .ref va7, .int vn8, .int vn9, .int vn10, .int vn11])), (va0, .inl (K 1, 40, .inl vf0)), (va1, .inl (K 1, 10, .inl vf1))] H := hP
  replace hD : va_D A [(w, .inr (1, [.ref wa0, .ref wa1, .ref wa2, .int v2034, .int wn4, .int wn5, .ref wa6, .int wn7, .int wn8, .int wn9])), (wa0, .inl (K 1, 10240, .inl wf0)), (wa1, .inl (K 1, 10240, .inl wf1)), (wa2, .inl (K 1, 10240, .inl wf2)), (wa6, .inr (8, [.int wa6n0, .int wa6n1, .int wa6n2])), (v, .inr (9, [.ref va0, .ref va1, .ref va2, .ref va3, .ref va4, .ref va5, .ref va6, .ref va7, .int vn8, .int vn9, .int vn10, .int vn11])), (va0, .inl (K 1, 40, .inl vf0)), (va1, .inl (K 1, 10, .inl vf1))] := hD
  refine lv_aload_n hx hb dX6_explore_10 rfl (lv_at hl 0 rfl) ?_
  refine lv_iconst (v := 0) hx hb dX6_explore_11 (by decide) ?_
  refine va_put (D := D) (ci := 1) (v := .int 0) (ty := .int) (C := RX1) (T := TX1) (N := 10) hx hb hts in_X1 tyX1 tyX1_ok nmX1 hown hE.1 hP hD hS 0 rfl rfl 4 (by decide) (hts _ w_276) (fun _ h9 => h9) rfl (by decide +kernel) rfl rfl (Nat.le_of_ble_eq_true rfl) dX6_explore_12 (fun H locs hP hD hS => ?_)
  replace hP : va_P D vwCl [(w, .inr (1, [.ref wa0, .ref wa1, .ref wa2, .int v2034, .int 0, .int wn5, .ref wa6, .int wn7, .int wn8, .int wn9])), (wa0, .inl (K 1, 10240, .inl wf0)), (wa1, .inl (K 1, 10240, .inl wf1)), (wa2, .inl (K 1, 10240, .inl wf2)), (wa6, .inr (8, [.int wa6n0, .int wa6n1, .int wa6n2])), (v, .inr (9, [.ref va0, .ref va1, .ref va2, .ref va3, .ref va4, .ref va5, .ref va6, .ref va7, .int vn8, .int vn9, .int vn10, .int vn11])), (va0, .inl (K 1, 40, .inl vf0)), (va1, .inl (K 1, 10, .inl vf1))] H := hP
  replace hD : va_D A [(w, .inr (1, [.ref wa0, .ref wa1, .ref wa2, .int v2034, .int 0, .int wn5, .ref wa6, .int wn7, .int wn8, .int wn9])), (wa0, .inl (K 1, 10240, .inl wf0)), (wa1, .inl (K 1, 10240, .inl wf1)), (wa2, .inl (K 1, 10240, .inl wf2)), (wa6, .inr (8, [.int wa6n0, .int wa6n1, .int wa6n2])), (v, .inr (9, [.ref va0, .ref va1, .ref va2, .ref va3, .ref va4, .ref va5, .ref va6, .ref va7, .int vn8, .int vn9, .int vn10, .int vn11])), (va0, .inl (K 1, 40, .inl vf0)), (va1, .inl (K 1, 10, .inl vf1))] := hD
  refine lv_aload_n hx hb dX6_explore_15 rfl (lv_at hl 0 rfl) ?_
  refine lv_iconst (v := (-1)) hx hb dX6_explore_16 (by decide) ?_
  refine va_put (D := D) (ci := 1) (v := .int (-1)) (ty := .int) (C := RX1) (T := TX1) (N := 10) hx hb hts in_X1 tyX1 tyX1_ok nmX1 hown hE.1 hP hD hS 0 rfl rfl 5 (by decide) (hts _ w_279) (fun _ h9 => h9) rfl (by decide +kernel) rfl rfl (Nat.le_of_ble_eq_true rfl) dX6_explore_17 (fun H locs hP hD hS => ?_)
  replace hP : va_P D vwCl [(w, .inr (1, [.ref wa0, .ref wa1, .ref wa2, .int v2034, .int 0, .int (-1), .ref wa6, .int wn7, .int wn8, .int wn9])), (wa0, .inl (K 1, 10240, .inl wf0)), (wa1, .inl (K 1, 10240, .inl wf1)), (wa2, .inl (K 1, 10240, .inl wf2)), (wa6, .inr (8, [.int wa6n0, .int wa6n1, .int wa6n2])), (v, .inr (9, [.ref va0, .ref va1, .ref va2, .ref va3, .ref va4, .ref va5, .ref va6, .ref va7, .int vn8, .int vn9, .int vn10, .int vn11])), (va0, .inl (K 1, 40, .inl vf0)), (va1, .inl (K 1, 10, .inl vf1))] H := hP
  replace hD : va_D A [(w, .inr (1, [.ref wa0, .ref wa1, .ref wa2, .int v2034, .int 0, .int (-1), .ref wa6, .int wn7, .int wn8, .int wn9])), (wa0, .inl (K 1, 10240, .inl wf0)), (wa1, .inl (K 1, 10240, .inl wf1)), (wa2, .inl (K 1, 10240, .inl wf2)), (wa6, .inr (8, [.int wa6n0, .int wa6n1, .int wa6n2])), (v, .inr (9, [.ref va0, .ref va1, .ref va2, .ref va3, .ref va4, .ref va5, .ref va6, .ref va7, .int vn8, .int vn9, .int vn10, .int vn11])), (va0, .inl (K 1, 40, .inl vf0)), (va1, .inl (K 1, 10, .inl vf1))] := hD
  refine lv_aload_n hx hb dX6_explore_20 rfl (lv_at hl 0 rfl) ?_
  refine lv_iload_n hx hb dX6_explore_21 rfl (lv_at hl 2 rfl) ?_
  refine lv_iconst (v := 0) hx hb dX6_explore_22 (by decide) ?_
  refine cv_U (As := [.int p1, .int 0]) (rest := []) (wc := [(w, .inr (1, [.ref wa0, .ref wa1, .ref wa2, .int v2034, .int 0, .int (-1), .ref wa6, .int wn7, .int wn8, .int wn9])), (wa0, .inl (K 1, 10240, .inl wf0)), (wa1, .inl (K 1, 10240, .inl wf1)), (wa2, .inl (K 1, 10240, .inl wf2))]) (wr := [(wa6, .inr (8, [.int wa6n0, .int wa6n1, .int wa6n2])), (v, .inr (9, [.ref va0, .ref va1, .ref va2, .ref va3, .ref va4, .ref va5, .ref va6, .ref va7, .int vn8, .int vn9, .int vn10, .int vn11])), (va0, .inl (K 1, 40, .inl vf0)), (va1, .inl (K 1, 10, .inl vf1))]) hC hE kU_X6_37_X6_meetState (decl_of hC kU_X6_37_X6_meetState rfl) (c_X6_meetState_1 l D K w wa0 wa1 wa2 wa6 v2034 0 (-1) wn7 wn8 wn9 wf0 wf1 wf2 p1 0 (by omega)) hP hD hS hA [0, 1, 2, 3] [4, 5, 6, 7] rfl rfl rfl (by decide) (by decide) (by decide) 0 1 rfl rfl (va_Nw.use rfl hE.2.2.2.2.2.2.1) rfl hl.1 rfl (Nat.le_of_ble_eq_true rfl) (by decide) (by decide) dX6_explore_23 (fun u2035 H locs hw hP hD hS => ?_)
  replace hP : va_P D vwCl [(wa6, .inr (8, [.int wa6n0, .int wa6n1, .int wa6n2])), (v, .inr (9, [.ref va0, .ref va1, .ref va2, .ref va3, .ref va4, .ref va5, .ref va6, .ref va7, .int vn8, .int vn9, .int vn10, .int vn11])), (va0, .inl (K 1, 40, .inl vf0)), (va1, .inl (K 1, 10, .inl vf1)), (w, .inr (1, [.ref wa0, .ref wa1, .ref wa2, .int v2034, .int (u2035.1 0), .int (-1), .ref wa6, .int wn7, .int wn8, .int wn9])), (wa0, .inl (K 1, 10240, .inl (u2035.2.1 0))), (wa1, .inl (K 1, 10240, .inl (u2035.2.1 1))), (wa2, .inl (K 1, 10240, .inl (u2035.2.1 2)))] H := hP
  replace hD : va_D A [(wa6, .inr (8, [.int wa6n0, .int wa6n1, .int wa6n2])), (v, .inr (9, [.ref va0, .ref va1, .ref va2, .ref va3, .ref va4, .ref va5, .ref va6, .ref va7, .int vn8, .int vn9, .int vn10, .int vn11])), (va0, .inl (K 1, 40, .inl vf0)), (va1, .inl (K 1, 10, .inl vf1)), (w, .inr (1, [.ref wa0, .ref wa1, .ref wa2, .int v2034, .int (u2035.1 0), .int (-1), .ref wa6, .int wn7, .int wn8, .int wn9])), (wa0, .inl (K 1, 10240, .inl (u2035.2.1 0))), (wa1, .inl (K 1, 10240, .inl (u2035.2.1 1))), (wa2, .inl (K 1, 10240, .inl (u2035.2.1 2)))] := hD
  replace hP : va_P D vwCl [(w, .inr (1, [.ref wa0, .ref wa1, .ref wa2, .int v2034, .int (u2035.1 0), .int (-1), .ref wa6, .int wn7, .int wn8, .int wn9])), (wa0, .inl (K 1, 10240, .inl (u2035.2.1 0))), (wa1, .inl (K 1, 10240, .inl (u2035.2.1 1))), (wa2, .inl (K 1, 10240, .inl (u2035.2.1 2))), (wa6, .inr (8, [.int wa6n0, .int wa6n1, .int wa6n2])), (v, .inr (9, [.ref va0, .ref va1, .ref va2, .ref va3, .ref va4, .ref va5, .ref va6, .ref va7, .int vn8, .int vn9, .int vn10, .int vn11])), (va0, .inl (K 1, 40, .inl vf0)), (va1, .inl (K 1, 10, .inl vf1))] H := hP.sub [4, 5, 6, 7, 0, 1, 2, 3] rfl
  replace hD : va_D A [(w, .inr (1, [.ref wa0, .ref wa1, .ref wa2, .int v2034, .int (u2035.1 0), .int (-1), .ref wa6, .int wn7, .int wn8, .int wn9])), (wa0, .inl (K 1, 10240, .inl (u2035.2.1 0))), (wa1, .inl (K 1, 10240, .inl (u2035.2.1 1))), (wa2, .inl (K 1, 10240, .inl (u2035.2.1 2))), (wa6, .inr (8, [.int wa6n0, .int wa6n1, .int wa6n2])), (v, .inr (9, [.ref va0, .ref va1, .ref va2, .ref va3, .ref va4, .ref va5, .ref va6, .ref va7, .int vn8, .int vn9, .int vn10, .int vn11])), (va0, .inl (K 1, 40, .inl vf0)), (va1, .inl (K 1, 10, .inl vf1))] := hD.sub [4, 5, 6, 7, 0, 1, 2, 3] (by decide) rfl
  refine W.widen (k := 0) (n := 0) (by decide) (by decide) ?_
  have hf := hw
  have f2037 : 0 ≤ (u2035.1 0).toInt := hf
  refine lv_iconst (v := 0) hx hb dX6_explore_26 (by decide) ?_
  refine lv_istore_n (lv' := [(3, .int 0), (0, .ref w), (1, .ref v), (2, .int p1)]) hx hb dX6_explore_27 rfl hl (by decide) rfl (fun ls hl => ?_)
  have hl' := hl; have hP' := hP; have hD' := hD; clear hl hP hD
  obtain ⟨i2056, w2057, w2058, g2059, g2060, g2061, w2062, w2063, w2064, hi_28, hz_28, hl, hP, hD⟩ : ∃ (i2056 : Int32) (w2057 : Int32) (w2058 : Int32) (g2059 : Nat → Int32) (g2060 : Nat → Int32) (g2061 : Nat → Int32) (w2062 : Int32) (w2063 : Int32) (w2064 : Int32), ((0 : Int) ≤ i2056.toInt) ∧ (0 ≤ w2057.toInt) ∧ lv_has ls 5 [(3, .int i2056), (0, .ref w), (1, .ref v), (2, .int p1)] ∧ va_P D vwCl [(w, .inr (1, [.ref wa0, .ref wa1, .ref wa2, .int v2034, .int w2057, .int w2058, .ref wa6, .int wn7, .int wn8, .int wn9])), (wa0, .inl (K 1, 10240, .inl g2059)), (wa1, .inl (K 1, 10240, .inl g2060)), (wa2, .inl (K 1, 10240, .inl g2061)), (wa6, .inr (8, [.int w2062, .int w2063, .int w2064])), (v, .inr (9, [.ref va0, .ref va1, .ref va2, .ref va3, .ref va4, .ref va5, .ref va6, .ref va7, .int vn8, .int vn9, .int vn10, .int vn11])), (va0, .inl (K 1, 40, .inl vf0)), (va1, .inl (K 1, 10, .inl vf1))] H ∧ va_D A [(w, .inr (1, [.ref wa0, .ref wa1, .ref wa2, .int v2034, .int w2057, .int w2058, .ref wa6, .int wn7, .int wn8, .int wn9])), (wa0, .inl (K 1, 10240, .inl g2059)), (wa1, .inl (K 1, 10240, .inl g2060)), (wa2, .inl (K 1, 10240, .inl g2061)), (wa6, .inr (8, [.int w2062, .int w2063, .int w2064])), (v, .inr (9, [.ref va0, .ref va1, .ref va2, .ref va3, .ref va4, .ref va5, .ref va6, .ref va7, .int vn8, .int vn9, .int vn10, .int vn11])), (va0, .inl (K 1, 40, .inl vf0)), (va1, .inl (K 1, 10, .inl vf1))] := ⟨_, _, _, _, _, _, _, _, _, by omega, by omega, hl', hP', hD'⟩
  clear hl' hP' hD'
  obtain ⟨n_28, hn_28⟩ : ∃ n : Nat, (10240 - i2056.toInt).toNat < n := ⟨_, Nat.lt_succ_self _⟩
  induction n_28 generalizing i2056 w2057 w2058 g2059 g2060 g2061 w2062 w2063 w2064 H locs ls with
  | zero => exact absurd hn_28 (Nat.not_lt_zero _)
  | succ n_28 ih_28 =>
    refine lv_iload_n hx hb dX6_explore_28 rfl (lv_at hl 0 rfl) ?_
    refine lv_aload_n hx hb dX6_explore_29 rfl (lv_at hl 1 rfl) ?_
    refine va_get (D := D) (ci := 1) (v := .int w2057) (C := RX1) (T := TX1) (N := 10) hx hb hts in_X1 hown hE.1 hP 0 rfl rfl 4 (by decide) (hts _ w_276) (fun _ h9 => h9) rfl dX6_explore_30 ?_
    refine lv_icmp_ge (tgt := 109) hx hb dX6_explore_33 (by decide) (fun c2065 => ?_) (fun c2065 => ?_)
    · replace c2065 := le_i c2065
      refine W.widen (k := 0) (n := 0) (by decide) (by decide) ?_
      exact ch_vret hC hr hk hS dX6_explore_109 ((fun k => [v2034, w2057, w2058, w2062, w2063, w2064].getD k 0, fun k => [g2059, g2060, g2061].getD k (fun _ => 0), fun k => [].getD k (fun _ => 0)) : ((Nat → Int32) × (Nat → Nat → Int32) × (Nat → Nat → Int64))) trivial (hP.sub [0, 1, 2, 3, 4, 5, 6, 7] rfl) (hD.sub [0, 1, 2, 3, 4, 5, 6, 7] (by decide) rfl)
    · replace c2065 := nle_i c2065
      refine lv_iload_n hx hb dX6_explore_36 rfl (lv_at hl 0 rfl) ?_
      refine lv_aload_n hx hb dX6_explore_37 rfl (lv_at hl 1 rfl) ?_
      refine va_get (D := D) (ci := 1) (v := .ref wa1) (C := RX1) (T := TX1) (N := 10) hx hb hts in_X1 hown hE.1 hP 0 rfl rfl 1 (by decide) (hts _ w_277) (fun _ h9 => h9) rfl dX6_explore_38 ?_
      refine va_alen (v := 10240) hx hb hE.1 hP 2 1 rfl rfl (show Int32.ofNat 10240 = 10240 by decide) dX6_explore_41 ?_
      refine lv_icmp_ge (tgt := 109) hx hb dX6_explore_42 (by decide) (fun c2066 => ?_) (fun c2066 => ?_)
      · replace c2066 := le_i c2066
        refine W.widen (k := 0) (n := 0) (by decide) (by decide) ?_
        exact ch_vret hC hr hk hS dX6_explore_109 ((fun k => [v2034, w2057, w2058, w2062, w2063, w2064].getD k 0, fun k => [g2059, g2060, g2061].getD k (fun _ => 0), fun k => [].getD k (fun _ => 0)) : ((Nat → Int32) × (Nat → Nat → Int32) × (Nat → Nat → Int64))) trivial (hP.sub [0, 1, 2, 3, 4, 5, 6, 7] rfl) (hD.sub [0, 1, 2, 3, 4, 5, 6, 7] (by decide) rfl)
      · replace c2066 := nle_i c2066
        refine lv_aload_n hx hb dX6_explore_45 rfl (lv_at hl 1 rfl) ?_
        refine lv_aload_n hx hb dX6_explore_46 rfl (lv_at hl 2 rfl) ?_
        refine lv_aload_n hx hb dX6_explore_47 rfl (lv_at hl 1 rfl) ?_
        refine va_get (D := D) (ci := 1) (v := .ref wa1) (C := RX1) (T := TX1) (N := 10) hx hb hts in_X1 hown hE.1 hP 0 rfl rfl 1 (by decide) (hts _ w_277) (fun _ h9 => h9) rfl dX6_explore_48 ?_
        refine lv_iload_n hx hb dX6_explore_51 rfl (lv_at hl 0 rfl) ?_
        refine va_iald hx hb hE.1 hP 2 1 rfl rfl (vp_in_iff.mpr (by omega)) dX6_explore_52 ?_
        refine lv_topi (fun v2067 ev2067 => ?_)
        refine ci_U (As := [.ref v, .int v2067]) (rest := []) (wc := [(w, .inr (1, [.ref wa0, .ref wa1, .ref wa2, .int v2034, .int w2057, .int w2058, .ref wa6, .int wn7, .int wn8, .int wn9])), (wa6, .inr (8, [.int w2062, .int w2063, .int w2064]))]) (wr := [(wa0, .inl (K 1, 10240, .inl g2059)), (wa1, .inl (K 1, 10240, .inl g2060)), (wa2, .inl (K 1, 10240, .inl g2061)), (v, .inr (9, [.ref va0, .ref va1, .ref va2, .ref va3, .ref va4, .ref va5, .ref va6, .ref va7, .int vn8, .int vn9, .int vn10, .int vn11])), (va0, .inl (K 1, 40, .inl vf0)), (va1, .inl (K 1, 10, .inl vf1))]) hC hE kU_X6_41_X1_ends (va_Decl.abs hE.2.2.2.2.1) (c_X1_ends l D K w wa0 wa1 wa2 wa6 v v2034 w2057 w2058 wn7 wn8 wn9 w2062 w2063 w2064 v2067) hP hD hS hA [0, 4] [1, 2, 3, 5, 6, 7] rfl rfl rfl (by decide) (by decide) (by decide) 0 1 rfl rfl (hts _ w_333) rfl hl.1 rfl (Nat.le_of_ble_eq_true rfl) (by decide) (by decide) dX6_explore_53 (fun r2069 u2068 H locs hw hP hD hS => ?_)
        replace hP : va_P D vwCl [(wa0, .inl (K 1, 10240, .inl g2059)), (wa1, .inl (K 1, 10240, .inl g2060)), (wa2, .inl (K 1, 10240, .inl g2061)), (v, .inr (9, [.ref va0, .ref va1, .ref va2, .ref va3, .ref va4, .ref va5, .ref va6, .ref va7, .int vn8, .int vn9, .int vn10, .int vn11])), (va0, .inl (K 1, 40, .inl vf0)), (va1, .inl (K 1, 10, .inl vf1)), (w, .inr (1, [.ref wa0, .ref wa1, .ref wa2, .int v2034, .int w2057, .int w2058, .ref wa6, .int wn7, .int wn8, .int wn9])), (wa6, .inr (8, [.int (u2068.1 0), .int (u2068.1 1), .int (u2068.1 2)]))] H := hP
        replace hD : va_D A [(wa0, .inl (K 1, 10240, .inl g2059)), (wa1, .inl (K 1, 10240, .inl g2060)), (wa2, .inl (K 1, 10240, .inl g2061)), (v, .inr (9, [.ref va0, .ref va1, .ref va2, .ref va3, .ref va4, .ref va5, .ref va6, .ref va7, .int vn8, .int vn9, .int vn10, .int vn11])), (va0, .inl (K 1, 40, .inl vf0)), (va1, .inl (K 1, 10, .inl vf1)), (w, .inr (1, [.ref wa0, .ref wa1, .ref wa2, .int v2034, .int w2057, .int w2058, .ref wa6, .int wn7, .int wn8, .int wn9])), (wa6, .inr (8, [.int (u2068.1 0), .int (u2068.1 1), .int (u2068.1 2)]))] := hD
        replace hP : va_P D vwCl [(w, .inr (1, [.ref wa0, .ref wa1, .ref wa2, .int v2034, .int w2057, .int w2058, .ref wa6, .int wn7, .int wn8, .int wn9])), (wa0, .inl (K 1, 10240, .inl g2059)), (wa1, .inl (K 1, 10240, .inl g2060)), (wa2, .inl (K 1, 10240, .inl g2061)), (wa6, .inr (8, [.int (u2068.1 0), .int (u2068.1 1), .int (u2068.1 2)])), (v, .inr (9, [.ref va0, .ref va1, .ref va2, .ref va3, .ref va4, .ref va5, .ref va6, .ref va7, .int vn8, .int vn9, .int vn10, .int vn11])), (va0, .inl (K 1, 40, .inl vf0)), (va1, .inl (K 1, 10, .inl vf1))] H := hP.sub [6, 0, 1, 2, 7, 3, 4, 5] rfl
        replace hD : va_D A [(w, .inr (1, [.ref wa0, .ref wa1, .ref wa2, .int v2034, .int w2057, .int w2058, .ref wa6, .int wn7, .int wn8, .int wn9])), (wa0, .inl (K 1, 10240, .inl g2059)), (wa1, .inl (K 1, 10240, .inl g2060)), (wa2, .inl (K 1, 10240, .inl g2061)), (wa6, .inr (8, [.int (u2068.1 0), .int (u2068.1 1), .int (u2068.1 2)])), (v, .inr (9, [.ref va0, .ref va1, .ref va2, .ref va3, .ref va4, .ref va5, .ref va6, .ref va7, .int vn8, .int vn9, .int vn10, .int vn11])), (va0, .inl (K 1, 40, .inl vf0)), (va1, .inl (K 1, 10, .inl vf1))] := hD.sub [6, 0, 1, 2, 7, 3, 4, 5] (by decide) rfl
        refine W.widen (k := 0) (n := 0) (by decide) (by decide) ?_
        rcases hw with rfl | rfl
        · refine lv_if_eq (tgt := 65) hx hb dX6_explore_56 (by decide) (fun _ => ?_) (fun h => absurd h (by decide))
          refine lv_iconst (v := 0) hx hb dX6_explore_65 (by decide) ?_
          refine lv_istore (lv' := [(4, .int 0), (3, .int i2056), (0, .ref w), (1, .ref v), (2, .int p1)]) hx hb dX6_explore_66 hl (by decide) rfl (fun ls hl => ?_)
          have hl' := hl; have hP' := hP; have hD' := hD; clear hl hP hD
          obtain ⟨i2081, w2082, g2083, g2084, g2085, w2086, w2087, w2088, hi_68, hz_68, hl, hP, hD⟩ : ∃ (i2081 : Int32) (w2082 : Int32) (g2083 : Nat → Int32) (g2084 : Nat → Int32) (g2085 : Nat → Int32) (w2086 : Int32) (w2087 : Int32) (w2088 : Int32), ((0 : Int) ≤ i2081.toInt) ∧ (0 ≤ w2082.toInt) ∧ lv_has ls 5 [(4, .int i2081), (3, .int i2056), (0, .ref w), (1, .ref v), (2, .int p1)] ∧ va_P D vwCl [(w, .inr (1, [.ref wa0, .ref wa1, .ref wa2, .int v2034, .int w2082, .int w2058, .ref wa6, .int wn7, .int wn8, .int wn9])), (wa0, .inl (K 1, 10240, .inl g2083)), (wa1, .inl (K 1, 10240, .inl g2084)), (wa2, .inl (K 1, 10240, .inl g2085)), (wa6, .inr (8, [.int w2086, .int w2087, .int w2088])), (v, .inr (9, [.ref va0, .ref va1, .ref va2, .ref va3, .ref va4, .ref va5, .ref va6, .ref va7, .int vn8, .int vn9, .int vn10, .int vn11])), (va0, .inl (K 1, 40, .inl vf0)), (va1, .inl (K 1, 10, .inl vf1))] H ∧ va_D A [(w, .inr (1, [.ref wa0, .ref wa1, .ref wa2, .int v2034, .int w2082, .int w2058, .ref wa6, .int wn7, .int wn8, .int wn9])), (wa0, .inl (K 1, 10240, .inl g2083)), (wa1, .inl (K 1, 10240, .inl g2084)), (wa2, .inl (K 1, 10240, .inl g2085)), (wa6, .inr (8, [.int w2086, .int w2087, .int w2088])), (v, .inr (9, [.ref va0, .ref va1, .ref va2, .ref va3, .ref va4, .ref va5, .ref va6, .ref va7, .int vn8, .int vn9, .int vn10, .int vn11])), (va0, .inl (K 1, 40, .inl vf0)), (va1, .inl (K 1, 10, .inl vf1))] := ⟨_, _, _, _, _, _, _, _, by omega, by omega, hl', hP', hD'⟩
          clear hl' hP' hD'
          obtain ⟨n_68, hn_68⟩ : ∃ n : Nat, (4 - i2081.toInt).toNat < n := ⟨_, Nat.lt_succ_self _⟩
          induction n_68 generalizing i2081 w2082 g2083 g2084 g2085 w2086 w2087 w2088 H locs ls with
          | zero => exact absurd hn_68 (Nat.not_lt_zero _)
          | succ n_68 ih_68 =>
            refine lv_iload hx hb dX6_explore_68 (lv_at hl 0 rfl) ?_
            refine lv_iconst (v := 4) hx hb dX6_explore_70 (by decide) ?_
            refine lv_icmp_ge (tgt := 103) hx hb dX6_explore_71 (by decide) (fun c2089 => ?_) (fun c2089 => ?_)
            · replace c2089 := le_i c2089
              obtain ⟨v2090, ev2090⟩ : ∃ z : Int32, z = i2056 + 1 := ⟨_, rfl⟩
              refine lv_iinc (v := v2090) (lv' := [(3, .int v2090), (4, .int i2081), (0, .ref w), (1, .ref v), (2, .int p1)]) hx hb dX6_explore_103 hl (k := 1) rfl (by rw [ev2090]; rfl) (by decide) rfl (fun ls hl => ?_)
              refine lv_goto (tgt := 28) hx hb dX6_explore_106 (by decide) ?_
              have tv2090 : v2090.toInt = (i2056 : Int32).toInt + (1 : Int32).toInt := add_i ev2090 (by omega) (by omega)
              exact ih_28 (i2056 := v2090) (w2057 := w2082) (w2058 := w2058) (g2059 := g2083) (g2060 := g2084) (g2061 := g2085) (w2062 := w2086) (w2063 := w2087) (w2064 := w2088) (hi_28 := by omega) (hz_28 := by omega) (H := H) (locs := locs) (ls := ls) (hn_28 := by omega) (hP := hP) (hD := hD) (hS := hS) (hl := lv_sub hl [0, 2, 3, 4] rfl)
            · replace c2089 := nle_i c2089
              refine lv_aload_n hx hb dX6_explore_74 rfl (lv_at hl 2 rfl) ?_
              refine lv_aload_n hx hb dX6_explore_75 rfl (lv_at hl 2 rfl) ?_
              refine lv_aload_n hx hb dX6_explore_76 rfl (lv_at hl 3 rfl) ?_
              refine lv_aload_n hx hb dX6_explore_77 rfl (lv_at hl 2 rfl) ?_
              refine va_get (D := D) (ci := 1) (v := .ref wa1) (C := RX1) (T := TX1) (N := 10) hx hb hts in_X1 hown hE.1 hP 0 rfl rfl 1 (by decide) (hts _ w_277) (fun _ h9 => h9) rfl dX6_explore_78 ?_
              refine lv_iload_n hx hb dX6_explore_81 rfl (lv_at hl 1 rfl) ?_
              refine va_iald hx hb hE.1 hP 2 1 rfl rfl (vp_in_iff.mpr (by omega)) dX6_explore_82 ?_
              refine lv_topi (fun v2091 ev2091 => ?_)
              refine lv_iload hx hb dX6_explore_83 (lv_at hl 0 rfl) ?_
              refine ci_U (As := [.ref v, .int v2091, .int i2081]) (rest := [.ref w]) (wc := [(w, .inr (1, [.ref wa0, .ref wa1, .ref wa2, .int v2034, .int w2082, .int w2058, .ref wa6, .int wn7, .int wn8, .int wn9])), (wa6, .inr (8, [.int w2086, .int w2087, .int w2088])), (v, .inr (9, [.ref va0, .ref va1, .ref va2, .ref va3, .ref va4, .ref va5, .ref va6, .ref va7, .int vn8, .int vn9, .int vn10, .int vn11])), (va0, .inl (K 1, 40, .inl vf0)), (va1, .inl (K 1, 10, .inl vf1))]) (wr := [(wa0, .inl (K 1, 10240, .inl g2083)), (wa1, .inl (K 1, 10240, .inl g2084)), (wa2, .inl (K 1, 10240, .inl g2085))]) hC hE kU_X6_45_X1_next (va_Decl.abs hE.2.2.2.2.2.1) (c_X1_next l D K w wa0 wa1 wa2 wa6 v va0 va1 va2 va3 va4 va5 va6 va7 v2034 w2082 w2058 wn7 wn8 wn9 w2086 w2087 w2088 vn8 vn9 vn10 vn11 vf0 vf1 v2091 i2081) hP hD hS hA [0, 4, 5, 6, 7] [1, 2, 3] rfl rfl rfl (by decide) (by decide) (by decide) 0 1 rfl rfl (hts _ w_338) rfl hl.1 rfl (Nat.le_of_ble_eq_true rfl) (by decide) (by decide) dX6_explore_85 (fun r2093 u2092 H locs hw hP hD hS => ?_)
              replace hP : va_P D vwCl [(wa0, .inl (K 1, 10240, .inl g2083)), (wa1, .inl (K 1, 10240, .inl g2084)), (wa2, .inl (K 1, 10240, .inl g2085)), (w, .inr (1, [.ref wa0, .ref wa1, .ref wa2, .int v2034, .int w2082, .int w2058, .ref wa6, .int wn7, .int wn8, .int wn9])), (wa6, .inr (8, [.int (u2092.1 0), .int (u2092.1 1), .int (u2092.1 2)])), (v, .inr (9, [.ref va0, .ref va1, .ref va2, .ref va3, .ref va4, .ref va5, .ref va6, .ref va7, .int vn8, .int vn9, .int vn10, .int vn11])), (va0, .inl (K 1, 40, .inl vf0)), (va1, .inl (K 1, 10, .inl vf1))] H := hP
              replace hD : va_D A [(wa0, .inl (K 1, 10240, .inl g2083)), (wa1, .inl (K 1, 10240, .inl g2084)), (wa2, .inl (K 1, 10240, .inl g2085)), (w, .inr (1, [.ref wa0, .ref wa1, .ref wa2, .int v2034, .int w2082, .int w2058, .ref wa6, .int wn7, .int wn8, .int wn9])), (wa6, .inr (8, [.int (u2092.1 0), .int (u2092.1 1), .int (u2092.1 2)])), (v, .inr (9, [.ref va0, .ref va1, .ref va2, .ref va3, .ref va4, .ref va5, .ref va6, .ref va7, .int vn8, .int vn9, .int vn10, .int vn11])), (va0, .inl (K 1, 40, .inl vf0)), (va1, .inl (K 1, 10, .inl vf1))] := hD
              replace hP : va_P D vwCl [(w, .inr (1, [.ref wa0, .ref wa1, .ref wa2, .int v2034, .int w2082, .int w2058, .ref wa6, .int wn7, .int wn8, .int wn9])), (wa0, .inl (K 1, 10240, .inl g2083)), (wa1, .inl (K 1, 10240, .inl g2084)), (wa2, .inl (K 1, 10240, .inl g2085)), (wa6, .inr (8, [.int (u2092.1 0), .int (u2092.1 1), .int (u2092.1 2)])), (v, .inr (9, [.ref va0, .ref va1, .ref va2, .ref va3, .ref va4, .ref va5, .ref va6, .ref va7, .int vn8, .int vn9, .int vn10, .int vn11])), (va0, .inl (K 1, 40, .inl vf0)), (va1, .inl (K 1, 10, .inl vf1))] H := hP.sub [3, 0, 1, 2, 4, 5, 6, 7] rfl
              replace hD : va_D A [(w, .inr (1, [.ref wa0, .ref wa1, .ref wa2, .int v2034, .int w2082, .int w2058, .ref wa6, .int wn7, .int wn8, .int wn9])), (wa0, .inl (K 1, 10240, .inl g2083)), (wa1, .inl (K 1, 10240, .inl g2084)), (wa2, .inl (K 1, 10240, .inl g2085)), (wa6, .inr (8, [.int (u2092.1 0), .int (u2092.1 1), .int (u2092.1 2)])), (v, .inr (9, [.ref va0, .ref va1, .ref va2, .ref va3, .ref va4, .ref va5, .ref va6, .ref va7, .int vn8, .int vn9, .int vn10, .int vn11])), (va0, .inl (K 1, 40, .inl vf0)), (va1, .inl (K 1, 10, .inl vf1))] := hD.sub [3, 0, 1, 2, 4, 5, 6, 7] (by decide) rfl
              refine W.widen (k := 0) (n := 0) (by decide) (by decide) ?_
              refine lv_iload_n hx hb dX6_explore_88 rfl (lv_at hl 1 rfl) ?_
              refine lv_iconst (v := 4) hx hb dX6_explore_89 (by decide) ?_
              refine lv_imul hx hb dX6_explore_90 ?_
              refine lv_topi (fun v2094 ev2094 => ?_)
              refine lv_iload hx hb dX6_explore_91 (lv_at hl 0 rfl) ?_
              refine lv_iadd hx hb dX6_explore_93 ?_
              refine lv_topi (fun v2095 ev2095 => ?_)
              have tv2094 : v2094.toInt = i2056.toInt * 4 := mul_i ev2094 rfl (by decide) (by omega) (by omega)
              have tv2095 : v2095.toInt = (v2094 : Int32).toInt + (i2081 : Int32).toInt := add_i ev2095 (by omega) (by omega)
              refine cv_U (As := [.int r2093, .int v2095]) (rest := []) (wc := [(w, .inr (1, [.ref wa0, .ref wa1, .ref wa2, .int v2034, .int w2082, .int w2058, .ref wa6, .int wn7, .int wn8, .int wn9])), (wa0, .inl (K 1, 10240, .inl g2083)), (wa1, .inl (K 1, 10240, .inl g2084)), (wa2, .inl (K 1, 10240, .inl g2085))]) (wr := [(wa6, .inr (8, [.int (u2092.1 0), .int (u2092.1 1), .int (u2092.1 2)])), (v, .inr (9, [.ref va0, .ref va1, .ref va2, .ref va3, .ref va4, .ref va5, .ref va6, .ref va7, .int vn8, .int vn9, .int vn10, .int vn11])), (va0, .inl (K 1, 40, .inl vf0)), (va1, .inl (K 1, 10, .inl vf1))]) hC hE kU_X6_37_X6_meetState (decl_of hC kU_X6_37_X6_meetState rfl) (c_X6_meetState_1 l D K w wa0 wa1 wa2 wa6 v2034 w2082 w2058 wn7 wn8 wn9 g2083 g2084 g2085 r2093 v2095 (by omega)) hP hD hS hA [0, 1, 2, 3] [4, 5, 6, 7] rfl rfl rfl (by decide) (by decide) (by decide) 0 1 rfl rfl (va_Nw.use rfl hE.2.2.2.2.2.2.1) rfl hl.1 rfl (Nat.le_of_ble_eq_true rfl) (by decide) (by decide) dX6_explore_94 (fun u2096 H locs hw hP hD hS => ?_)
              replace hP : va_P D vwCl [(wa6, .inr (8, [.int (u2092.1 0), .int (u2092.1 1), .int (u2092.1 2)])), (v, .inr (9, [.ref va0, .ref va1, .ref va2, .ref va3, .ref va4, .ref va5, .ref va6, .ref va7, .int vn8, .int vn9, .int vn10, .int vn11])), (va0, .inl (K 1, 40, .inl vf0)), (va1, .inl (K 1, 10, .inl vf1)), (w, .inr (1, [.ref wa0, .ref wa1, .ref wa2, .int v2034, .int (u2096.1 0), .int w2058, .ref wa6, .int wn7, .int wn8, .int wn9])), (wa0, .inl (K 1, 10240, .inl (u2096.2.1 0))), (wa1, .inl (K 1, 10240, .inl (u2096.2.1 1))), (wa2, .inl (K 1, 10240, .inl (u2096.2.1 2)))] H := hP
              replace hD : va_D A [(wa6, .inr (8, [.int (u2092.1 0), .int (u2092.1 1), .int (u2092.1 2)])), (v, .inr (9, [.ref va0, .ref va1, .ref va2, .ref va3, .ref va4, .ref va5, .ref va6, .ref va7, .int vn8, .int vn9, .int vn10, .int vn11])), (va0, .inl (K 1, 40, .inl vf0)), (va1, .inl (K 1, 10, .inl vf1)), (w, .inr (1, [.ref wa0, .ref wa1, .ref wa2, .int v2034, .int (u2096.1 0), .int w2058, .ref wa6, .int wn7, .int wn8, .int wn9])), (wa0, .inl (K 1, 10240, .inl (u2096.2.1 0))), (wa1, .inl (K 1, 10240, .inl (u2096.2.1 1))), (wa2, .inl (K 1, 10240, .inl (u2096.2.1 2)))] := hD
              replace hP : va_P D vwCl [(w, .inr (1, [.ref wa0, .ref wa1, .ref wa2, .int v2034, .int (u2096.1 0), .int w2058, .ref wa6, .int wn7, .int wn8, .int wn9])), (wa0, .inl (K 1, 10240, .inl (u2096.2.1 0))), (wa1, .inl (K 1, 10240, .inl (u2096.2.1 1))), (wa2, .inl (K 1, 10240, .inl (u2096.2.1 2))), (wa6, .inr (8, [.int (u2092.1 0), .int (u2092.1 1), .int (u2092.1 2)])), (v, .inr (9, [.ref va0, .ref va1, .ref va2, .ref va3, .ref va4, .ref va5, .ref va6, .ref va7, .int vn8, .int vn9, .int vn10, .int vn11])), (va0, .inl (K 1, 40, .inl vf0)), (va1, .inl (K 1, 10, .inl vf1))] H := hP.sub [4, 5, 6, 7, 0, 1, 2, 3] rfl
              replace hD : va_D A [(w, .inr (1, [.ref wa0, .ref wa1, .ref wa2, .int v2034, .int (u2096.1 0), .int w2058, .ref wa6, .int wn7, .int wn8, .int wn9])), (wa0, .inl (K 1, 10240, .inl (u2096.2.1 0))), (wa1, .inl (K 1, 10240, .inl (u2096.2.1 1))), (wa2, .inl (K 1, 10240, .inl (u2096.2.1 2))), (wa6, .inr (8, [.int (u2092.1 0), .int (u2092.1 1), .int (u2092.1 2)])), (v, .inr (9, [.ref va0, .ref va1, .ref va2, .ref va3, .ref va4, .ref va5, .ref va6, .ref va7, .int vn8, .int vn9, .int vn10, .int vn11])), (va0, .inl (K 1, 40, .inl vf0)), (va1, .inl (K 1, 10, .inl vf1))] := hD.sub [4, 5, 6, 7, 0, 1, 2, 3] (by decide) rfl
              refine W.widen (k := 0) (n := 0) (by decide) (by decide) ?_
              have hf := hw
              have f2098 : 0 ≤ (u2096.1 0).toInt := hf
              obtain ⟨v2099, ev2099⟩ : ∃ z : Int32, z = i2081 + 1 := ⟨_, rfl⟩
              refine lv_iinc (v := v2099) (lv' := [(4, .int v2099), (3, .int i2056), (0, .ref w), (1, .ref v), (2, .int p1)]) hx hb dX6_explore_97 hl (k := 0) rfl (by rw [ev2099]; rfl) (by decide) rfl (fun ls hl => ?_)
              refine lv_goto (tgt := 68) hx hb dX6_explore_100 (by decide) ?_
              have tv2099 : v2099.toInt = (i2081 : Int32).toInt + (1 : Int32).toInt := add_i ev2099 (by omega) (by omega)
              exact ih_68 (i2081 := v2099) (w2082 := (u2096.1 0)) (g2083 := (u2096.2.1 0)) (g2084 := (u2096.2.1 1)) (g2085 := (u2096.2.1 2)) (w2086 := (u2092.1 0)) (w2087 := (u2092.1 1)) (w2088 := (u2092.1 2)) (hi_68 := by omega) (hz_68 := by omega) (H := H) (locs := locs) (ls := ls) (hn_68 := by omega) (hP := hP) (hD := hD) (hS := hS) (hl := lv_sub hl [0, 1, 2, 3, 4] rfl)
        · refine lv_if_eq (tgt := 65) hx hb dX6_explore_56 (by decide) (fun h => absurd h (by decide)) (fun _ => ?_)
          refine lv_aload_n hx hb dX6_explore_59 rfl (lv_at hl 1 rfl) ?_
          refine lv_iload_n hx hb dX6_explore_60 rfl (lv_at hl 0 rfl) ?_
          refine va_put (D := D) (ci := 1) (v := .int i2056) (ty := .int) (C := RX1) (T := TX1) (N := 10) hx hb hts in_X1 tyX1 tyX1_ok nmX1 hown hE.1 hP hD hS 0 rfl rfl 5 (by decide) (hts _ w_279) (fun _ h9 => h9) rfl (by decide +kernel) rfl rfl (Nat.le_of_ble_eq_true rfl) dX6_explore_61 (fun H locs hP hD hS => ?_)
          replace hP : va_P D vwCl [(w, .inr (1, [.ref wa0, .ref wa1, .ref wa2, .int v2034, .int w2057, .int i2056, .ref wa6, .int wn7, .int wn8, .int wn9])), (wa0, .inl (K 1, 10240, .inl g2059)), (wa1, .inl (K 1, 10240, .inl g2060)), (wa2, .inl (K 1, 10240, .inl g2061)), (wa6, .inr (8, [.int (u2068.1 0), .int (u2068.1 1), .int (u2068.1 2)])), (v, .inr (9, [.ref va0, .ref va1, .ref va2, .ref va3, .ref va4, .ref va5, .ref va6, .ref va7, .int vn8, .int vn9, .int vn10, .int vn11])), (va0, .inl (K 1, 40, .inl vf0)), (va1, .inl (K 1, 10, .inl vf1))] H := hP
          replace hD : va_D A [(w, .inr (1, [.ref wa0, .ref wa1, .ref wa2, .int v2034, .int w2057, .int i2056, .ref wa6, .int wn7, .int wn8, .int wn9])), (wa0, .inl (K 1, 10240, .inl g2059)), (wa1, .inl (K 1, 10240, .inl g2060)), (wa2, .inl (K 1, 10240, .inl g2061)), (wa6, .inr (8, [.int (u2068.1 0), .int (u2068.1 1), .int (u2068.1 2)])), (v, .inr (9, [.ref va0, .ref va1, .ref va2, .ref va3, .ref va4, .ref va5, .ref va6, .ref va7, .int vn8, .int vn9, .int vn10, .int vn11])), (va0, .inl (K 1, 40, .inl vf0)), (va1, .inl (K 1, 10, .inl vf1))] := hD
          refine W.widen (k := 0) (n := 0) (by decide) (by decide) ?_
          exact ch_vret hC hr hk hS dX6_explore_64 ((fun k => [v2034, w2057, i2056, (u2068.1 0), (u2068.1 1), (u2068.1 2)].getD k 0, fun k => [g2059, g2060, g2061].getD k (fun _ => 0), fun k => [].getD k (fun _ => 0)) : ((Nat → Int32) × (Nat → Nat → Int32) × (Nat → Nat → Int64))) trivial (hP.sub [0, 1, 2, 3, 4, 5, 6, 7] rfl) (hD.sub [0, 1, 2, 3, 4, 5, 6, 7] (by decide) rfl)
set_option maxRecDepth 40000 in
set_option maxHeartbeats 4000000 in
theorem c_X6_explore_7 (l : Launch) (D : va_G) (K : Nat → ClassId) (w : Nat) (wa0 : Nat) (wa1 : Nat) (wa2 : Nat) (v : Nat) (va0 : Nat) (va1 : Nat) (va2 : Nat) (va3 : Nat) (va4 : Nat) (va5 : Nat) (va6 : Nat) (va7 : Nat) (wn3 : Int32) (wn4 : Int32) (wn5 : Int32) (wn6 : Int32) (vn8 : Int32) (vn9 : Int32) (vn10 : Int32) (vn11 : Int32) (wf0 : Nat → Int32) (wf1 : Nat → Int32) (wf2 : Nat → Int32) (vf0 : Nat → Int32) (vf1 : Nat → Int32) (p1 : Int32) : Cv (S := ((Nat → Int32) × (Nat → Nat → Int32) × (Nat → Nat → Int64))) l D K yX6_explore cX6_explore 5 4 89 0 0 [.ref w, .ref v, .int p1] [(w, .inr (6, [.ref wa0, .ref wa1, .ref wa2, .int wn3, .int wn4, .int wn5, .int wn6])), (wa0, .inl (K 1, 1024, .inl wf0)), (wa1, .inl (K 1, 1024, .inl wf1)), (wa2, .inl (K 1, 1024, .inl wf2)), (v, .inr (9, [.ref va0, .ref va1, .ref va2, .ref va3, .ref va4, .ref va5, .ref va6, .ref va7, .int vn8, .int vn9, .int vn10, .int vn11])), (va0, .inl (K 1, 40, .inl vf0)), (va1, .inl (K 1, 10, .inl vf1))] (fun _ => True) (fun u => [(w, .inr (6, [.ref wa0, .ref wa1, .ref wa2, .int (u.1 0), .int (u.1 1), .int (u.1 2), .int wn6])), (wa0, .inl (K 1, 1024, .inl (u.2.1 0))), (wa1, .inl (K 1, 1024, .inl (u.2.1 1))), (wa2, .inl (K 1, 1024, .inl (u.2.1 2))), (v, .inr (9, [.ref va0, .ref va1, .ref va2, .ref va3, .ref va4, .ref va5, .ref va6, .ref va7, .int vn8, .int vn9, .int vn10, .int vn11])), (va0, .inl (K 1, 40, .inl vf0)), (va1, .inl (K 1, 10, .inl vf1))]) := by
  intro sz
  refine ch_of (y := yX6_explore) (cc := cX6_explore) (maxL := 5) (ret := none) (av := [.ref w, .ref v, .int p1]) (ws := [(w, .inr (6, [.ref wa0, .ref wa1, .ref wa2, .int wn3, .int wn4, .int wn5, .int wn6])), (wa0, .inl (K 1, 1024, .inl wf0)), (wa1, .inl (K 1, 1024, .inl wf1)), (wa2, .inl (K 1, 1024, .inl wf2)), (v, .inr (9, [.ref va0, .ref va1, .ref va2, .ref va3, .ref va4, .ref va5, .ref va6, .ref va7, .int vn8, .int vn9, .int vn10, .int vn11])), (va0, .inl (K 1, 40, .inl vf0)), (va1, .inl (K 1, 10, .inl vf1))]) (D := D) (K := K) (Qc := fun A => va_Qv (S := ((Nat → Int32) × (Nat → Nat → Int32) × (Nat → Nat → Int64))) (fun _ => True) (chB D A (fun u => [(w, .inr (6, [.ref wa0, .ref wa1, .ref wa2, .int (u.1 0), .int (u.1 1), .int (u.1 2), .int wn6])), (wa0, .inl (K 1, 1024, .inl (u.2.1 0))), (wa1, .inl (K 1, 1024, .inl (u.2.1 1))), (wa2, .inl (K 1, 1024, .inl (u.2.1 2))), (v, .inr (9, [.ref va0, .ref va1, .ref va2, .ref va3, .ref va4, .ref va5, .ref va6, .ref va7, .int vn8, .int vn9, .int vn10, .int vn11])), (va0, .inl (K 1, 40, .inl vf0)), (va1, .inl (K 1, 10, .inl vf1))])) A) (by decide) (Nat.le_of_ble_eq_true rfl) ?_
  intro p e s m below meth c A hC hr hk hin hE hD hA H locs hP hS ls hl
  replace hC : CallFix p m c cX6_explore 5 s [.ref w, .ref v, .int p1].toArray wl RX6 := hC
  have hx := hC.1
  have hb := hC.2.1
  have hml := hC.2.2.1
  have hown := hC.2.2.2.1
  have hts := hC.2.2.2.2
  replace hl : lv_has ls 5 [(0, .ref w), (1, .ref v), (2, .int p1)] := hl
  have kc_0 : (0 : Int32).toInt = 0 := by decide
  have kc_1 : (1 : Int32).toInt = 1 := by decide
  have kc_4 : (4 : Int32).toInt = 4 := by decide
  have kc_1024 : (1024 : Int32).toInt = 1024 := by decide
  refine lv_aload_n hx hb dX6_explore_0 rfl (lv_at hl 0 rfl) ?_
  refine lv_dup hx hb dX6_explore_1 rfl ?_
  refine va_get (D := D) (ci := 6) (v := .int wn3) (C := RX7) (T := TX7) (N := 7) hx hb hts in_X7 hown hE.1 hP 0 rfl rfl 3 (by decide) (hts _ w_275) (fun _ h9 => h9) rfl dX6_explore_2 ?_
  refine lv_iconst (v := 1) hx hb dX6_explore_5 (by decide) ?_
  refine lv_iadd hx hb dX6_explore_6 ?_
  refine lv_topi (fun v2120 ev2120 => ?_)
  refine va_put (D := D) (ci := 6) (v := .int v2120) (ty := .int) (C := RX7) (T := TX7) (N := 7) hx hb hts in_X7 tyX7 tyX7_ok nmX7 hown hE.1 hP hD hS 0 rfl rfl 3 (by decide) (hts _ w_275) (fun _ h9 => h9) rfl (by decide +kernel) rfl rfl (Nat.le_of_ble_eq_true rfl) dX6_explore_7 (fun H locs hP hD hS => ?_)
  replace hP : va_P D vwCl [(w, .inr (6, [.ref wa0, .ref wa1, .ref wa2, .int v2120, .int wn4, .int wn5, .int wn6])), (wa0, .inl (K 1, 1024, .inl wf0)), (wa1, .inl (K 1, 1024, .inl wf1)), (wa2, .inl (K 1, 1024, .inl wf2)), (v, .inr (9, [.ref va0, .ref va1, .ref va2, .ref va3, .ref va4, .ref va5, .ref va6, .ref va7, .int vn8, .int vn9, .int vn10, .int vn11])), (va0, .inl (K 1, 40, .inl vf0)), (va1, .inl (K 1, 10, .inl vf1))] H := hP
  replace hD : va_D A [(w, .inr (6, [.ref wa0, .ref wa1, .ref wa2, .int v2120, .int wn4, .int wn5, .int wn6])), (wa0, .inl (K 1, 1024, .inl wf0)), (wa1, .inl (K 1, 1024, .inl wf1)), (wa2, .inl (K 1, 1024, .inl wf2)), (v, .inr (9, [.ref va0, .ref va1, .ref va2, .ref va3, .ref va4, .ref va5, .ref va6, .ref va7, .int vn8, .int vn9, .int vn10, .int vn11])), (va0, .inl (K 1, 40, .inl vf0)), (va1, .inl (K 1, 10, .inl vf1))] := hD
  refine lv_aload_n hx hb dX6_explore_10 rfl (lv_at hl 0 rfl) ?_
  refine lv_iconst (v := 0) hx hb dX6_explore_11 (by decide) ?_
  refine va_put (D := D) (ci := 6) (v := .int 0) (ty := .int) (C := RX7) (T := TX7) (N := 7) hx hb hts in_X7 tyX7 tyX7_ok nmX7 hown hE.1 hP hD hS 0 rfl rfl 4 (by decide) (hts _ w_276) (fun _ h9 => h9) rfl (by decide +kernel) rfl rfl (Nat.le_of_ble_eq_true rfl) dX6_explore_12 (fun H locs hP hD hS => ?_)
  replace hP : va_P D vwCl [(w, .inr (6, [.ref wa0, .ref wa1, .ref wa2, .int v2120, .int 0, .int wn5, .int wn6])), (wa0, .inl (K 1, 1024, .inl wf0)), (wa1, .inl (K 1, 1024, .inl wf1)), (wa2, .inl (K 1, 1024, .inl wf2)), (v, .inr (9, [.ref va0, .ref va1, .ref va2, .ref va3, .ref va4, .ref va5, .ref va6, .ref va7, .int vn8, .int vn9, .int vn10, .int vn11])), (va0, .inl (K 1, 40, .inl vf0)), (va1, .inl (K 1, 10, .inl vf1))] H := hP
  replace hD : va_D A [(w, .inr (6, [.ref wa0, .ref wa1, .ref wa2, .int v2120, .int 0, .int wn5, .int wn6])), (wa0, .inl (K 1, 1024, .inl wf0)), (wa1, .inl (K 1, 1024, .inl wf1)), (wa2, .inl (K 1, 1024, .inl wf2)), (v, .inr (9, [.ref va0, .ref va1, .ref va2, .ref va3, .ref va4, .ref va5, .ref va6, .ref va7, .int vn8, .int vn9, .int vn10, .int vn11])), (va0, .inl (K 1, 40, .inl vf0)), (va1, .inl (K 1, 10, .inl vf1))] := hD
  refine lv_aload_n hx hb dX6_explore_15 rfl (lv_at hl 0 rfl) ?_
  refine lv_iconst (v := (-1)) hx hb dX6_explore_16 (by decide) ?_
  refine va_put (D := D) (ci := 6) (v := .int (-1)) (ty := .int) (C := RX7) (T := TX7) (N := 7) hx hb hts in_X7 tyX7 tyX7_ok nmX7 hown hE.1 hP hD hS 0 rfl rfl 5 (by decide) (hts _ w_279) (fun _ h9 => h9) rfl (by decide +kernel) rfl rfl (Nat.le_of_ble_eq_true rfl) dX6_explore_17 (fun H locs hP hD hS => ?_)
  replace hP : va_P D vwCl [(w, .inr (6, [.ref wa0, .ref wa1, .ref wa2, .int v2120, .int 0, .int (-1), .int wn6])), (wa0, .inl (K 1, 1024, .inl wf0)), (wa1, .inl (K 1, 1024, .inl wf1)), (wa2, .inl (K 1, 1024, .inl wf2)), (v, .inr (9, [.ref va0, .ref va1, .ref va2, .ref va3, .ref va4, .ref va5, .ref va6, .ref va7, .int vn8, .int vn9, .int vn10, .int vn11])), (va0, .inl (K 1, 40, .inl vf0)), (va1, .inl (K 1, 10, .inl vf1))] H := hP
  replace hD : va_D A [(w, .inr (6, [.ref wa0, .ref wa1, .ref wa2, .int v2120, .int 0, .int (-1), .int wn6])), (wa0, .inl (K 1, 1024, .inl wf0)), (wa1, .inl (K 1, 1024, .inl wf1)), (wa2, .inl (K 1, 1024, .inl wf2)), (v, .inr (9, [.ref va0, .ref va1, .ref va2, .ref va3, .ref va4, .ref va5, .ref va6, .ref va7, .int vn8, .int vn9, .int vn10, .int vn11])), (va0, .inl (K 1, 40, .inl vf0)), (va1, .inl (K 1, 10, .inl vf1))] := hD
  refine lv_aload_n hx hb dX6_explore_20 rfl (lv_at hl 0 rfl) ?_
  refine lv_iload_n hx hb dX6_explore_21 rfl (lv_at hl 2 rfl) ?_
  refine lv_iconst (v := 0) hx hb dX6_explore_22 (by decide) ?_
  refine cv_U (As := [.int p1, .int 0]) (rest := []) (wc := [(w, .inr (6, [.ref wa0, .ref wa1, .ref wa2, .int v2120, .int 0, .int (-1), .int wn6])), (wa0, .inl (K 1, 1024, .inl wf0)), (wa1, .inl (K 1, 1024, .inl wf1)), (wa2, .inl (K 1, 1024, .inl wf2))]) (wr := [(v, .inr (9, [.ref va0, .ref va1, .ref va2, .ref va3, .ref va4, .ref va5, .ref va6, .ref va7, .int vn8, .int vn9, .int vn10, .int vn11])), (va0, .inl (K 1, 40, .inl vf0)), (va1, .inl (K 1, 10, .inl vf1))]) hC hE kU_X6_37_X6_meetState (decl_of hC kU_X6_37_X6_meetState rfl) (c_X6_meetState_7 l D K w wa0 wa1 wa2 v2120 0 (-1) wn6 wf0 wf1 wf2 p1 0 (by omega)) hP hD hS hA [0, 1, 2, 3] [4, 5, 6] rfl rfl rfl (by decide) (by decide) (by decide) 0 6 rfl rfl (va_Nw.use rfl hE.2.2.2.2.2.2.2) rfl hl.1 rfl (Nat.le_of_ble_eq_true rfl) (by decide) (by decide) dX6_explore_23 (fun u2121 H locs hw hP hD hS => ?_)
  replace hP : va_P D vwCl [(v, .inr (9, [.ref va0, .ref va1, .ref va2, .ref va3, .ref va4, .ref va5, .ref va6, .ref va7, .int vn8, .int vn9, .int vn10, .int vn11])), (va0, .inl (K 1, 40, .inl vf0)), (va1, .inl (K 1, 10, .inl vf1)), (w, .inr (6, [.ref wa0, .ref wa1, .ref wa2, .int v2120, .int (u2121.1 0), .int (-1), .int wn6])), (wa0, .inl (K 1, 1024, .inl (u2121.2.1 0))), (wa1, .inl (K 1, 1024, .inl (u2121.2.1 1))), (wa2, .inl (K 1, 1024, .inl (u2121.2.1 2)))] H := hP
  replace hD : va_D A [(v, .inr (9, [.ref va0, .ref va1, .ref va2, .ref va3, .ref va4, .ref va5, .ref va6, .ref va7, .int vn8, .int vn9, .int vn10, .int vn11])), (va0, .inl (K 1, 40, .inl vf0)), (va1, .inl (K 1, 10, .inl vf1)), (w, .inr (6, [.ref wa0, .ref wa1, .ref wa2, .int v2120, .int (u2121.1 0), .int (-1), .int wn6])), (wa0, .inl (K 1, 1024, .inl (u2121.2.1 0))), (wa1, .inl (K 1, 1024, .inl (u2121.2.1 1))), (wa2, .inl (K 1, 1024, .inl (u2121.2.1 2)))] := hD
  replace hP : va_P D vwCl [(w, .inr (6, [.ref wa0, .ref wa1, .ref wa2, .int v2120, .int (u2121.1 0), .int (-1), .int wn6])), (wa0, .inl (K 1, 1024, .inl (u2121.2.1 0))), (wa1, .inl (K 1, 1024, .inl (u2121.2.1 1))), (wa2, .inl (K 1, 1024, .inl (u2121.2.1 2))), (v, .inr (9, [.ref va0, .ref va1, .ref va2, .ref va3, .ref va4, .ref va5, .ref va6, .ref va7, .int vn8, .int vn9, .int vn10, .int vn11])), (va0, .inl (K 1, 40, .inl vf0)), (va1, .inl (K 1, 10, .inl vf1))] H := hP.sub [3, 4, 5, 6, 0, 1, 2] rfl
  replace hD : va_D A [(w, .inr (6, [.ref wa0, .ref wa1, .ref wa2, .int v2120, .int (u2121.1 0), .int (-1), .int wn6])), (wa0, .inl (K 1, 1024, .inl (u2121.2.1 0))), (wa1, .inl (K 1, 1024, .inl (u2121.2.1 1))), (wa2, .inl (K 1, 1024, .inl (u2121.2.1 2))), (v, .inr (9, [.ref va0, .ref va1, .ref va2, .ref va3, .ref va4, .ref va5, .ref va6, .ref va7, .int vn8, .int vn9, .int vn10, .int vn11])), (va0, .inl (K 1, 40, .inl vf0)), (va1, .inl (K 1, 10, .inl vf1))] := hD.sub [3, 4, 5, 6, 0, 1, 2] (by decide) rfl
  refine W.widen (k := 0) (n := 0) (by decide) (by decide) ?_
  have hf := hw
  have f2123 : 0 ≤ (u2121.1 0).toInt := hf
  refine lv_iconst (v := 0) hx hb dX6_explore_26 (by decide) ?_
  refine lv_istore_n (lv' := [(3, .int 0), (0, .ref w), (1, .ref v), (2, .int p1)]) hx hb dX6_explore_27 rfl hl (by decide) rfl (fun ls hl => ?_)
  have hl' := hl; have hP' := hP; have hD' := hD; clear hl hP hD
  obtain ⟨i2140, w2141, w2142, g2143, g2144, g2145, hi_28, hz_28, hl, hP, hD⟩ : ∃ (i2140 : Int32) (w2141 : Int32) (w2142 : Int32) (g2143 : Nat → Int32) (g2144 : Nat → Int32) (g2145 : Nat → Int32), ((0 : Int) ≤ i2140.toInt) ∧ (0 ≤ w2141.toInt) ∧ lv_has ls 5 [(3, .int i2140), (0, .ref w), (1, .ref v), (2, .int p1)] ∧ va_P D vwCl [(w, .inr (6, [.ref wa0, .ref wa1, .ref wa2, .int v2120, .int w2141, .int w2142, .int wn6])), (wa0, .inl (K 1, 1024, .inl g2143)), (wa1, .inl (K 1, 1024, .inl g2144)), (wa2, .inl (K 1, 1024, .inl g2145)), (v, .inr (9, [.ref va0, .ref va1, .ref va2, .ref va3, .ref va4, .ref va5, .ref va6, .ref va7, .int vn8, .int vn9, .int vn10, .int vn11])), (va0, .inl (K 1, 40, .inl vf0)), (va1, .inl (K 1, 10, .inl vf1))] H ∧ va_D A [(w, .inr (6, [.ref wa0, .ref wa1, .ref wa2, .int v2120, .int w2141, .int w2142, .int wn6])), (wa0, .inl (K 1, 1024, .inl g2143)), (wa1, .inl (K 1, 1024, .inl g2144)), (wa2, .inl (K 1, 1024, .inl g2145)), (v, .inr (9, [.ref va0, .ref va1, .ref va2, .ref va3, .ref va4, .ref va5, .ref va6, .ref va7, .int vn8, .int vn9, .int vn10, .int vn11])), (va0, .inl (K 1, 40, .inl vf0)), (va1, .inl (K 1, 10, .inl vf1))] := ⟨_, _, _, _, _, _, by omega, by omega, hl', hP', hD'⟩
  clear hl' hP' hD'
  obtain ⟨n_28, hn_28⟩ : ∃ n : Nat, (1024 - i2140.toInt).toNat < n := ⟨_, Nat.lt_succ_self _⟩
  induction n_28 generalizing i2140 w2141 w2142 g2143 g2144 g2145 H locs ls with
  | zero => exact absurd hn_28 (Nat.not_lt_zero _)
  | succ n_28 ih_28 =>
    refine lv_iload_n hx hb dX6_explore_28 rfl (lv_at hl 0 rfl) ?_
    refine lv_aload_n hx hb dX6_explore_29 rfl (lv_at hl 1 rfl) ?_
    refine va_get (D := D) (ci := 6) (v := .int w2141) (C := RX7) (T := TX7) (N := 7) hx hb hts in_X7 hown hE.1 hP 0 rfl rfl 4 (by decide) (hts _ w_276) (fun _ h9 => h9) rfl dX6_explore_30 ?_
    refine lv_icmp_ge (tgt := 109) hx hb dX6_explore_33 (by decide) (fun c2146 => ?_) (fun c2146 => ?_)
    · replace c2146 := le_i c2146
      refine W.widen (k := 0) (n := 0) (by decide) (by decide) ?_
      exact ch_vret hC hr hk hS dX6_explore_109 ((fun k => [v2120, w2141, w2142].getD k 0, fun k => [g2143, g2144, g2145].getD k (fun _ => 0), fun k => [].getD k (fun _ => 0)) : ((Nat → Int32) × (Nat → Nat → Int32) × (Nat → Nat → Int64))) trivial (hP.sub [0, 1, 2, 3, 4, 5, 6] rfl) (hD.sub [0, 1, 2, 3, 4, 5, 6] (by decide) rfl)
    · replace c2146 := nle_i c2146
      refine lv_iload_n hx hb dX6_explore_36 rfl (lv_at hl 0 rfl) ?_
      refine lv_aload_n hx hb dX6_explore_37 rfl (lv_at hl 1 rfl) ?_
      refine va_get (D := D) (ci := 6) (v := .ref wa1) (C := RX7) (T := TX7) (N := 7) hx hb hts in_X7 hown hE.1 hP 0 rfl rfl 1 (by decide) (hts _ w_277) (fun _ h9 => h9) rfl dX6_explore_38 ?_
      refine va_alen (v := 1024) hx hb hE.1 hP 2 1 rfl rfl (show Int32.ofNat 1024 = 1024 by decide) dX6_explore_41 ?_
      refine lv_icmp_ge (tgt := 109) hx hb dX6_explore_42 (by decide) (fun c2147 => ?_) (fun c2147 => ?_)
      · replace c2147 := le_i c2147
        refine W.widen (k := 0) (n := 0) (by decide) (by decide) ?_
        exact ch_vret hC hr hk hS dX6_explore_109 ((fun k => [v2120, w2141, w2142].getD k 0, fun k => [g2143, g2144, g2145].getD k (fun _ => 0), fun k => [].getD k (fun _ => 0)) : ((Nat → Int32) × (Nat → Nat → Int32) × (Nat → Nat → Int64))) trivial (hP.sub [0, 1, 2, 3, 4, 5, 6] rfl) (hD.sub [0, 1, 2, 3, 4, 5, 6] (by decide) rfl)
      · replace c2147 := nle_i c2147
        refine lv_aload_n hx hb dX6_explore_45 rfl (lv_at hl 1 rfl) ?_
        refine lv_aload_n hx hb dX6_explore_46 rfl (lv_at hl 2 rfl) ?_
        refine lv_aload_n hx hb dX6_explore_47 rfl (lv_at hl 1 rfl) ?_
        refine va_get (D := D) (ci := 6) (v := .ref wa1) (C := RX7) (T := TX7) (N := 7) hx hb hts in_X7 hown hE.1 hP 0 rfl rfl 1 (by decide) (hts _ w_277) (fun _ h9 => h9) rfl dX6_explore_48 ?_
        refine lv_iload_n hx hb dX6_explore_51 rfl (lv_at hl 0 rfl) ?_
        refine va_iald hx hb hE.1 hP 2 1 rfl rfl (vp_in_iff.mpr (by omega)) dX6_explore_52 ?_
        refine lv_topi (fun v2148 ev2148 => ?_)
        refine ro_U (As := [.ref v, .int v2148]) (rest := []) hC hE kU_X6_41_X7_ends (va_Decl.abs hE.2.2.2.2.1) (c_X7_ends l D K w wa0 wa1 wa2 v va0 va1 va2 va3 va4 va5 va6 va7 v2120 w2141 w2142 wn6 vn8 vn9 vn10 vn11 vf1 v2148) (hP.sub (ws' := [(w, .inr (6, [.ref wa0, .ref wa1, .ref wa2, .int v2120, .int w2141, .int w2142, .int wn6])), (v, .inr (9, [.ref va0, .ref va1, .ref va2, .ref va3, .ref va4, .ref va5, .ref va6, .ref va7, .int vn8, .int vn9, .int vn10, .int vn11])), (va1, .inl (K 1, 10, .inl vf1))]) [0, 4, 6] rfl) 0 6 rfl rfl (hts _ w_341) rfl hl.1 rfl (Nat.le_of_ble_eq_true rfl) (by decide) (by decide) dX6_explore_53 (fun r2149 hq => ?_)
        rcases hq with rfl | rfl
        · refine lv_if_eq (tgt := 65) hx hb dX6_explore_56 (by decide) (fun _ => ?_) (fun h => absurd h (by decide))
          refine lv_iconst (v := 0) hx hb dX6_explore_65 (by decide) ?_
          refine lv_istore (lv' := [(4, .int 0), (3, .int i2140), (0, .ref w), (1, .ref v), (2, .int p1)]) hx hb dX6_explore_66 hl (by decide) rfl (fun ls hl => ?_)
          have hl' := hl; have hP' := hP; have hD' := hD; clear hl hP hD
          obtain ⟨i2160, w2161, g2162, g2163, g2164, hi_68, hz_68, hl, hP, hD⟩ : ∃ (i2160 : Int32) (w2161 : Int32) (g2162 : Nat → Int32) (g2163 : Nat → Int32) (g2164 : Nat → Int32), ((0 : Int) ≤ i2160.toInt) ∧ (0 ≤ w2161.toInt) ∧ lv_has ls 5 [(4, .int i2160), (3, .int i2140), (0, .ref w), (1, .ref v), (2, .int p1)] ∧ va_P D vwCl [(w, .inr (6, [.ref wa0, .ref wa1, .ref wa2, .int v2120, .int w2161, .int w2142, .int wn6])), (wa0, .inl (K 1, 1024, .inl g2162)), (wa1, .inl (K 1, 1024, .inl g2163)), (wa2, .inl (K 1, 1024, .inl g2164)), (v, .inr (9, [.ref va0, .ref va1, .ref va2, .ref va3, .ref va4, .ref va5, .ref va6, .ref va7, .int vn8, .int vn9, .int vn10, .int vn11])), (va0, .inl (K 1, 40, .inl vf0)), (va1, .inl (K 1, 10, .inl vf1))] H ∧ va_D A [(w, .inr (6, [.ref wa0, .ref wa1, .ref wa2, .int v2120, .int w2161, .int w2142, .int wn6])), (wa0, .inl (K 1, 1024, .inl g2162)), (wa1, .inl (K 1, 1024, .inl g2163)), (wa2, .inl (K 1, 1024, .inl g2164)), (v, .inr (9, [.ref va0, .ref va1, .ref va2, .ref va3, .ref va4, .ref va5, .ref va6, .ref va7, .int vn8, .int vn9, .int vn10, .int vn11])), (va0, .inl (K 1, 40, .inl vf0)), (va1, .inl (K 1, 10, .inl vf1))] := ⟨_, _, _, _, _, by omega, by omega, hl', hP', hD'⟩
          clear hl' hP' hD'
          obtain ⟨n_68, hn_68⟩ : ∃ n : Nat, (4 - i2160.toInt).toNat < n := ⟨_, Nat.lt_succ_self _⟩
          induction n_68 generalizing i2160 w2161 g2162 g2163 g2164 H locs ls with
          | zero => exact absurd hn_68 (Nat.not_lt_zero _)
          | succ n_68 ih_68 =>
            refine lv_iload hx hb dX6_explore_68 (lv_at hl 0 rfl) ?_
            refine lv_iconst (v := 4) hx hb dX6_explore_70 (by decide) ?_
            refine lv_icmp_ge (tgt := 103) hx hb dX6_explore_71 (by decide) (fun c2165 => ?_) (fun c2165 => ?_)
            · replace c2165 := le_i c2165
              obtain ⟨v2166, ev2166⟩ : ∃ z : Int32, z = i2140 + 1 := ⟨_, rfl⟩
              refine lv_iinc (v := v2166) (lv' := [(3, .int v2166), (4, .int i2160), (0, .ref w), (1, .ref v), (2, .int p1)]) hx hb dX6_explore_103 hl (k := 1) rfl (by rw [ev2166]; rfl) (by decide) rfl (fun ls hl => ?_)
              refine lv_goto (tgt := 28) hx hb dX6_explore_106 (by decide) ?_
              have tv2166 : v2166.toInt = (i2140 : Int32).toInt + (1 : Int32).toInt := add_i ev2166 (by omega) (by omega)
              exact ih_28 (i2140 := v2166) (w2141 := w2161) (w2142 := w2142) (g2143 := g2162) (g2144 := g2163) (g2145 := g2164) (hi_28 := by omega) (hz_28 := by omega) (H := H) (locs := locs) (ls := ls) (hn_28 := by omega) (hP := hP) (hD := hD) (hS := hS) (hl := lv_sub hl [0, 2, 3, 4] rfl)
            · replace c2165 := nle_i c2165
              refine lv_aload_n hx hb dX6_explore_74 rfl (lv_at hl 2 rfl) ?_
              refine lv_aload_n hx hb dX6_explore_75 rfl (lv_at hl 2 rfl) ?_
              refine lv_aload_n hx hb dX6_explore_76 rfl (lv_at hl 3 rfl) ?_
              refine lv_aload_n hx hb dX6_explore_77 rfl (lv_at hl 2 rfl) ?_
              refine va_get (D := D) (ci := 6) (v := .ref wa1) (C := RX7) (T := TX7) (N := 7) hx hb hts in_X7 hown hE.1 hP 0 rfl rfl 1 (by decide) (hts _ w_277) (fun _ h9 => h9) rfl dX6_explore_78 ?_
              refine lv_iload_n hx hb dX6_explore_81 rfl (lv_at hl 1 rfl) ?_
              refine va_iald hx hb hE.1 hP 2 1 rfl rfl (vp_in_iff.mpr (by omega)) dX6_explore_82 ?_
              refine lv_topi (fun v2167 ev2167 => ?_)
              refine lv_iload hx hb dX6_explore_83 (lv_at hl 0 rfl) ?_
              refine ro_U (As := [.ref v, .int v2167, .int i2160]) (rest := [.ref w]) hC hE kU_X6_45_X7_next (va_Decl.abs hE.2.2.2.2.2.1) (c_X7_next l D K w wa0 wa1 wa2 v va0 va1 va2 va3 va4 va5 va6 va7 v2120 w2161 w2142 wn6 vn8 vn9 vn10 vn11 vf0 v2167 i2160) (hP.sub (ws' := [(w, .inr (6, [.ref wa0, .ref wa1, .ref wa2, .int v2120, .int w2161, .int w2142, .int wn6])), (v, .inr (9, [.ref va0, .ref va1, .ref va2, .ref va3, .ref va4, .ref va5, .ref va6, .ref va7, .int vn8, .int vn9, .int vn10, .int vn11])), (va0, .inl (K 1, 40, .inl vf0))]) [0, 4, 5] rfl) 0 6 rfl rfl (hts _ w_344) rfl hl.1 rfl (Nat.le_of_ble_eq_true rfl) (by decide) (by decide) dX6_explore_85 (fun r2168 _ => ?_)
              refine lv_iload_n hx hb dX6_explore_88 rfl (lv_at hl 1 rfl) ?_
              refine lv_iconst (v := 4) hx hb dX6_explore_89 (by decide) ?_
              refine lv_imul hx hb dX6_explore_90 ?_
              refine lv_topi (fun v2169 ev2169 => ?_)
              refine lv_iload hx hb dX6_explore_91 (lv_at hl 0 rfl) ?_
              refine lv_iadd hx hb dX6_explore_93 ?_
              refine lv_topi (fun v2170 ev2170 => ?_)
              have tv2169 : v2169.toInt = i2140.toInt * 4 := mul_i ev2169 rfl (by decide) (by omega) (by omega)
              have tv2170 : v2170.toInt = (v2169 : Int32).toInt + (i2160 : Int32).toInt := add_i ev2170 (by omega) (by omega)
              refine cv_U (As := [.int r2168, .int v2170]) (rest := []) (wc := [(w, .inr (6, [.ref wa0, .ref wa1, .ref wa2, .int v2120, .int w2161, .int w2142, .int wn6])), (wa0, .inl (K 1, 1024, .inl g2162)), (wa1, .inl (K 1, 1024, .inl g2163)), (wa2, .inl (K 1, 1024, .inl g2164))]) (wr := [(v, .inr (9, [.ref va0, .ref va1, .ref va2, .ref va3, .ref va4, .ref va5, .ref va6, .ref va7, .int vn8, .int vn9, .int vn10, .int vn11])), (va0, .inl (K 1, 40, .inl vf0)), (va1, .inl (K 1, 10, .inl vf1))]) hC hE kU_X6_37_X6_meetState (decl_of hC kU_X6_37_X6_meetState rfl) (c_X6_meetState_7 l D K w wa0 wa1 wa2 v2120 w2161 w2142 wn6 g2162 g2163 g2164 r2168 v2170 (by omega)) hP hD hS hA [0, 1, 2, 3] [4, 5, 6] rfl rfl rfl (by decide) (by decide) (by decide) 0 6 rfl rfl (va_Nw.use rfl hE.2.2.2.2.2.2.2) rfl hl.1 rfl (Nat.le_of_ble_eq_true rfl) (by decide) (by decide) dX6_explore_94 (fun u2171 H locs hw hP hD hS => ?_)
              replace hP : va_P D vwCl [(v, .inr (9, [.ref va0, .ref va1, .ref va2, .ref va3, .ref va4, .ref va5, .ref va6, .ref va7, .int vn8, .int vn9, .int vn10, .int vn11])), (va0, .inl (K 1, 40, .inl vf0)), (va1, .inl (K 1, 10, .inl vf1)), (w, .inr (6, [.ref wa0, .ref wa1, .ref wa2, .int v2120, .int (u2171.1 0), .int w2142, .int wn6])), (wa0, .inl (K 1, 1024, .inl (u2171.2.1 0))), (wa1, .inl (K 1, 1024, .inl (u2171.2.1 1))), (wa2, .inl (K 1, 1024, .inl (u2171.2.1 2)))] H := hP
              replace hD : va_D A [(v, .inr (9, [.ref va0, .ref va1, .ref va2, .ref va3, .ref va4, .ref va5, .ref va6, .ref va7, .int vn8, .int vn9, .int vn10, .int vn11])), (va0, .inl (K 1, 40, .inl vf0)), (va1, .inl (K 1, 10, .inl vf1)), (w, .inr (6, [.ref wa0, .ref wa1, .ref wa2, .int v2120, .int (u2171.1 0), .int w2142, .int wn6])), (wa0, .inl (K 1, 1024, .inl (u2171.2.1 0))), (wa1, .inl (K 1, 1024, .inl (u2171.2.1 1))), (wa2, .inl (K 1, 1024, .inl (u2171.2.1 2)))] := hD
              replace hP : va_P D vwCl [(w, .inr (6, [.ref wa0, .ref wa1, .ref wa2, .int v2120, .int (u2171.1 0), .int w2142, .int wn6])), (wa0, .inl (K 1, 1024, .inl (u2171.2.1 0))), (wa1, .inl (K 1, 1024, .inl (u2171.2.1 1))), (wa2, .inl (K 1, 1024, .inl (u2171.2.1 2))), (v, .inr (9, [.ref va0, .ref va1, .ref va2, .ref va3, .ref va4, .ref va5, .ref va6, .ref va7, .int vn8, .int vn9, .int vn10, .int vn11])), (va0, .inl (K 1, 40, .inl vf0)), (va1, .inl (K 1, 10, .inl vf1))] H := hP.sub [3, 4, 5, 6, 0, 1, 2] rfl
              replace hD : va_D A [(w, .inr (6, [.ref wa0, .ref wa1, .ref wa2, .int v2120, .int (u2171.1 0), .int w2142, .int wn6])), (wa0, .inl (K 1, 1024, .inl (u2171.2.1 0))), (wa1, .inl (K 1, 1024, .inl (u2171.2.1 1))), (wa2, .inl (K 1, 1024, .inl (u2171.2.1 2))), (v, .inr (9, [.ref va0, .ref va1, .ref va2, .ref va3, .ref va4, .ref va5, .ref va6, .ref va7, .int vn8, .int vn9, .int vn10, .int vn11])), (va0, .inl (K 1, 40, .inl vf0)), (va1, .inl (K 1, 10, .inl vf1))] := hD.sub [3, 4, 5, 6, 0, 1, 2] (by decide) rfl
              refine W.widen (k := 0) (n := 0) (by decide) (by decide) ?_
              have hf := hw
              have f2173 : 0 ≤ (u2171.1 0).toInt := hf
              obtain ⟨v2174, ev2174⟩ : ∃ z : Int32, z = i2160 + 1 := ⟨_, rfl⟩
              refine lv_iinc (v := v2174) (lv' := [(4, .int v2174), (3, .int i2140), (0, .ref w), (1, .ref v), (2, .int p1)]) hx hb dX6_explore_97 hl (k := 0) rfl (by rw [ev2174]; rfl) (by decide) rfl (fun ls hl => ?_)
              refine lv_goto (tgt := 68) hx hb dX6_explore_100 (by decide) ?_
              have tv2174 : v2174.toInt = (i2160 : Int32).toInt + (1 : Int32).toInt := add_i ev2174 (by omega) (by omega)
              exact ih_68 (i2160 := v2174) (w2161 := (u2171.1 0)) (g2162 := (u2171.2.1 0)) (g2163 := (u2171.2.1 1)) (g2164 := (u2171.2.1 2)) (hi_68 := by omega) (hz_68 := by omega) (H := H) (locs := locs) (ls := ls) (hn_68 := by omega) (hP := hP) (hD := hD) (hS := hS) (hl := lv_sub hl [0, 1, 2, 3, 4] rfl)
        · refine lv_if_eq (tgt := 65) hx hb dX6_explore_56 (by decide) (fun h => absurd h (by decide)) (fun _ => ?_)
          refine lv_aload_n hx hb dX6_explore_59 rfl (lv_at hl 1 rfl) ?_
          refine lv_iload_n hx hb dX6_explore_60 rfl (lv_at hl 0 rfl) ?_
          refine va_put (D := D) (ci := 6) (v := .int i2140) (ty := .int) (C := RX7) (T := TX7) (N := 7) hx hb hts in_X7 tyX7 tyX7_ok nmX7 hown hE.1 hP hD hS 0 rfl rfl 5 (by decide) (hts _ w_279) (fun _ h9 => h9) rfl (by decide +kernel) rfl rfl (Nat.le_of_ble_eq_true rfl) dX6_explore_61 (fun H locs hP hD hS => ?_)
          replace hP : va_P D vwCl [(w, .inr (6, [.ref wa0, .ref wa1, .ref wa2, .int v2120, .int w2141, .int i2140, .int wn6])), (wa0, .inl (K 1, 1024, .inl g2143)), (wa1, .inl (K 1, 1024, .inl g2144)), (wa2, .inl (K 1, 1024, .inl g2145)), (v, .inr (9, [.ref va0, .ref va1, .ref va2, .ref va3, .ref va4, .ref va5, .ref va6, .ref va7, .int vn8, .int vn9, .int vn10, .int vn11])), (va0, .inl (K 1, 40, .inl vf0)), (va1, .inl (K 1, 10, .inl vf1))] H := hP
          replace hD : va_D A [(w, .inr (6, [.ref wa0, .ref wa1, .ref wa2, .int v2120, .int w2141, .int i2140, .int wn6])), (wa0, .inl (K 1, 1024, .inl g2143)), (wa1, .inl (K 1, 1024, .inl g2144)), (wa2, .inl (K 1, 1024, .inl g2145)), (v, .inr (9, [.ref va0, .ref va1, .ref va2, .ref va3, .ref va4, .ref va5, .ref va6, .ref va7, .int vn8, .int vn9, .int vn10, .int vn11])), (va0, .inl (K 1, 40, .inl vf0)), (va1, .inl (K 1, 10, .inl vf1))] := hD
          refine W.widen (k := 0) (n := 0) (by decide) (by decide) ?_
          exact ch_vret hC hr hk hS dX6_explore_64 ((fun k => [v2120, w2141, i2140].getD k 0, fun k => [g2143, g2144, g2145].getD k (fun _ => 0), fun k => [].getD k (fun _ => 0)) : ((Nat → Int32) × (Nat → Nat → Int32) × (Nat → Nat → Int64))) trivial (hP.sub [0, 1, 2, 3, 4, 5, 6] rfl) (hD.sub [0, 1, 2, 3, 4, 5, 6] (by decide) rfl)
set_option maxRecDepth 40000 in
set_option maxHeartbeats 4000000 in
theorem c_X7_seek (l : Launch) (D : va_G) (K : Nat → ClassId) (w : Nat) (wa0 : Nat) (wa1 : Nat) (wa2 : Nat) (v : Nat) (va0 : Nat) (va1 : Nat) (va2 : Nat) (va3 : Nat) (va4 : Nat) (va5 : Nat) (va6 : Nat) (va7 : Nat) (wn3 : Int32) (wn4 : Int32) (wn5 : Int32) (wn6 : Int32) (vn8 : Int32) (vn9 : Int32) (vn10 : Int32) (vn11 : Int32) (wf0 : Nat → Int32) (wf1 : Nat → Int32) (wf2 : Nat → Int32) (vf0 : Nat → Int32) (vf1 : Nat → Int32) (p1 : Int32) (p2 : Int32) : Cv (S := ((Nat → Int32) × (Nat → Nat → Int32) × (Nat → Nat → Int64))) l D K yX7_seek cX7_seek 4 5 113 0 0 [.ref w, .ref v, .int p1, .int p2] [(w, .inr (6, [.ref wa0, .ref wa1, .ref wa2, .int wn3, .int wn4, .int wn5, .int wn6])), (wa0, .inl (K 1, 1024, .inl wf0)), (wa1, .inl (K 1, 1024, .inl wf1)), (wa2, .inl (K 1, 1024, .inl wf2)), (v, .inr (9, [.ref va0, .ref va1, .ref va2, .ref va3, .ref va4, .ref va5, .ref va6, .ref va7, .int vn8, .int vn9, .int vn10, .int vn11])), (va0, .inl (K 1, 40, .inl vf0)), (va1, .inl (K 1, 10, .inl vf1))] (fun _ => True) (fun u => [(w, .inr (6, [.ref wa0, .ref wa1, .ref wa2, .int (u.1 0), .int (u.1 1), .int (u.1 2), .int (u.1 3)])), (wa0, .inl (K 1, 1024, .inl (u.2.1 0))), (wa1, .inl (K 1, 1024, .inl (u.2.1 1))), (wa2, .inl (K 1, 1024, .inl (u.2.1 2))), (v, .inr (9, [.ref va0, .ref va1, .ref va2, .ref va3, .ref va4, .ref va5, .ref va6, .ref va7, .int vn8, .int vn9, .int vn10, .int vn11])), (va0, .inl (K 1, 40, .inl vf0)), (va1, .inl (K 1, 10, .inl vf1))]) := by
  intro sz
  refine ch_of (y := yX7_seek) (cc := cX7_seek) (maxL := 4) (ret := none) (av := [.ref w, .ref v, .int p1, .int p2]) (ws := [(w, .inr (6, [.ref wa0, .ref wa1, .ref wa2, .int wn3, .int wn4, .int wn5, .int wn6])), (wa0, .inl (K 1, 1024, .inl wf0)), (wa1, .inl (K 1, 1024, .inl wf1)), (wa2, .inl (K 1, 1024, .inl wf2)), (v, .inr (9, [.ref va0, .ref va1, .ref va2, .ref va3, .ref va4, .ref va5, .ref va6, .ref va7, .int vn8, .int vn9, .int vn10, .int vn11])), (va0, .inl (K 1, 40, .inl vf0)), (va1, .inl (K 1, 10, .inl vf1))]) (D := D) (K := K) (Qc := fun A => va_Qv (S := ((Nat → Int32) × (Nat → Nat → Int32) × (Nat → Nat → Int64))) (fun _ => True) (chB D A (fun u => [(w, .inr (6, [.ref wa0, .ref wa1, .ref wa2, .int (u.1 0), .int (u.1 1), .int (u.1 2), .int (u.1 3)])), (wa0, .inl (K 1, 1024, .inl (u.2.1 0))), (wa1, .inl (K 1, 1024, .inl (u.2.1 1))), (wa2, .inl (K 1, 1024, .inl (u.2.1 2))), (v, .inr (9, [.ref va0, .ref va1, .ref va2, .ref va3, .ref va4, .ref va5, .ref va6, .ref va7, .int vn8, .int vn9, .int vn10, .int vn11])), (va0, .inl (K 1, 40, .inl vf0)), (va1, .inl (K 1, 10, .inl vf1))])) A) (by decide) (Nat.le_of_ble_eq_true rfl) ?_
  intro p e s m below meth c A hC hr hk hin hE hD hA H locs hP hS ls hl
  replace hC : CallFix p m c cX7_seek 4 s [.ref w, .ref v, .int p1, .int p2].toArray wl RX7 := hC
  have hx := hC.1
  have hb := hC.2.1
  have hml := hC.2.2.1
  have hown := hC.2.2.2.1
  have hts := hC.2.2.2.2
  replace hl : lv_has ls 4 [(0, .ref w), (1, .ref v), (2, .int p1), (3, .int p2)] := hl
  refine lv_aload_n hx hb dX7_seek_0 rfl (lv_at hl 0 rfl) ?_
  refine lv_iload_n hx hb dX7_seek_1 rfl (lv_at hl 3 rfl) ?_
  refine va_put (D := D) (ci := 6) (v := .int p2) (ty := .int) (C := RX7) (T := TX7) (N := 7) hx hb hts in_X7 tyX7 tyX7_ok nmX7 hown hE.1 hP hD hS 0 rfl rfl 6 (by decide) (hts _ w_318) (fun _ h9 => h9) rfl (by decide +kernel) rfl rfl (Nat.le_of_ble_eq_true rfl) dX7_seek_2 (fun H locs hP hD hS => ?_)
  replace hP : va_P D vwCl [(w, .inr (6, [.ref wa0, .ref wa1, .ref wa2, .int wn3, .int wn4, .int wn5, .int p2])), (wa0, .inl (K 1, 1024, .inl wf0)), (wa1, .inl (K 1, 1024, .inl wf1)), (wa2, .inl (K 1, 1024, .inl wf2)), (v, .inr (9, [.ref va0, .ref va1, .ref va2, .ref va3, .ref va4, .ref va5, .ref va6, .ref va7, .int vn8, .int vn9, .int vn10, .int vn11])), (va0, .inl (K 1, 40, .inl vf0)), (va1, .inl (K 1, 10, .inl vf1))] H := hP
  replace hD : va_D A [(w, .inr (6, [.ref wa0, .ref wa1, .ref wa2, .int wn3, .int wn4, .int wn5, .int p2])), (wa0, .inl (K 1, 1024, .inl wf0)), (wa1, .inl (K 1, 1024, .inl wf1)), (wa2, .inl (K 1, 1024, .inl wf2)), (v, .inr (9, [.ref va0, .ref va1, .ref va2, .ref va3, .ref va4, .ref va5, .ref va6, .ref va7, .int vn8, .int vn9, .int vn10, .int vn11])), (va0, .inl (K 1, 40, .inl vf0)), (va1, .inl (K 1, 10, .inl vf1))] := hD
  refine lv_aload_n hx hb dX7_seek_5 rfl (lv_at hl 0 rfl) ?_
  refine lv_aload_n hx hb dX7_seek_6 rfl (lv_at hl 1 rfl) ?_
  refine lv_iload_n hx hb dX7_seek_7 rfl (lv_at hl 2 rfl) ?_
  refine cv_U (As := [.ref v, .int p1]) (rest := []) (wc := [(w, .inr (6, [.ref wa0, .ref wa1, .ref wa2, .int wn3, .int wn4, .int wn5, .int p2])), (wa0, .inl (K 1, 1024, .inl wf0)), (wa1, .inl (K 1, 1024, .inl wf1)), (wa2, .inl (K 1, 1024, .inl wf2)), (v, .inr (9, [.ref va0, .ref va1, .ref va2, .ref va3, .ref va4, .ref va5, .ref va6, .ref va7, .int vn8, .int vn9, .int vn10, .int vn11])), (va0, .inl (K 1, 40, .inl vf0)), (va1, .inl (K 1, 10, .inl vf1))]) (wr := []) hC hE kU_X7_15_X6_explore (decl_of hC kU_X7_15_X6_explore rfl) (c_X6_explore_7 l D K w wa0 wa1 wa2 v va0 va1 va2 va3 va4 va5 va6 va7 wn3 wn4 wn5 p2 vn8 vn9 vn10 vn11 wf0 wf1 wf2 vf0 vf1 p1) hP hD hS hA [0, 1, 2, 3, 4, 5, 6] [] rfl rfl rfl (by decide) (by decide) (by decide) 0 6 rfl rfl (hts _ w_349) rfl hl.1 rfl (Nat.le_of_ble_eq_true rfl) (by decide) (by decide) dX7_seek_8 (fun u2177 H locs hw hP hD hS => ?_)
  replace hP : va_P D vwCl [(w, .inr (6, [.ref wa0, .ref wa1, .ref wa2, .int (u2177.1 0), .int (u2177.1 1), .int (u2177.1 2), .int p2])), (wa0, .inl (K 1, 1024, .inl (u2177.2.1 0))), (wa1, .inl (K 1, 1024, .inl (u2177.2.1 1))), (wa2, .inl (K 1, 1024, .inl (u2177.2.1 2))), (v, .inr (9, [.ref va0, .ref va1, .ref va2, .ref va3, .ref va4, .ref va5, .ref va6, .ref va7, .int vn8, .int vn9, .int vn10, .int vn11])), (va0, .inl (K 1, 40, .inl vf0)), (va1, .inl (K 1, 10, .inl vf1))] H := hP
  replace hD : va_D A [(w, .inr (6, [.ref wa0, .ref wa1, .ref wa2, .int (u2177.1 0), .int (u2177.1 1), .int (u2177.1 2), .int p2])), (wa0, .inl (K 1, 1024, .inl (u2177.2.1 0))), (wa1, .inl (K 1, 1024, .inl (u2177.2.1 1))), (wa2, .inl (K 1, 1024, .inl (u2177.2.1 2))), (v, .inr (9, [.ref va0, .ref va1, .ref va2, .ref va3, .ref va4, .ref va5, .ref va6, .ref va7, .int vn8, .int vn9, .int vn10, .int vn11])), (va0, .inl (K 1, 40, .inl vf0)), (va1, .inl (K 1, 10, .inl vf1))] := hD
  replace hP : va_P D vwCl [(w, .inr (6, [.ref wa0, .ref wa1, .ref wa2, .int (u2177.1 0), .int (u2177.1 1), .int (u2177.1 2), .int p2])), (wa0, .inl (K 1, 1024, .inl (u2177.2.1 0))), (wa1, .inl (K 1, 1024, .inl (u2177.2.1 1))), (wa2, .inl (K 1, 1024, .inl (u2177.2.1 2))), (v, .inr (9, [.ref va0, .ref va1, .ref va2, .ref va3, .ref va4, .ref va5, .ref va6, .ref va7, .int vn8, .int vn9, .int vn10, .int vn11])), (va0, .inl (K 1, 40, .inl vf0)), (va1, .inl (K 1, 10, .inl vf1))] H := hP.sub [0, 1, 2, 3, 4, 5, 6] rfl
  replace hD : va_D A [(w, .inr (6, [.ref wa0, .ref wa1, .ref wa2, .int (u2177.1 0), .int (u2177.1 1), .int (u2177.1 2), .int p2])), (wa0, .inl (K 1, 1024, .inl (u2177.2.1 0))), (wa1, .inl (K 1, 1024, .inl (u2177.2.1 1))), (wa2, .inl (K 1, 1024, .inl (u2177.2.1 2))), (v, .inr (9, [.ref va0, .ref va1, .ref va2, .ref va3, .ref va4, .ref va5, .ref va6, .ref va7, .int vn8, .int vn9, .int vn10, .int vn11])), (va0, .inl (K 1, 40, .inl vf0)), (va1, .inl (K 1, 10, .inl vf1))] := hD.sub [0, 1, 2, 3, 4, 5, 6] (by decide) rfl
  refine W.widen (k := 0) (n := 0) (by decide) (by decide) ?_
  refine W.widen (k := 0) (n := 0) (by decide) (by decide) ?_
  exact ch_vret hC hr hk hS dX7_seek_11 ((fun k => [(u2177.1 0), (u2177.1 1), (u2177.1 2), p2].getD k 0, fun k => [(u2177.2.1 0), (u2177.2.1 1), (u2177.2.1 2)].getD k (fun _ => 0), fun k => [].getD k (fun _ => 0)) : ((Nat → Int32) × (Nat → Nat → Int32) × (Nat → Nat → Int64))) trivial (hP.sub [0, 1, 2, 3, 4, 5, 6] rfl) (hD.sub [0, 1, 2, 3, 4, 5, 6] (by decide) rfl)
set_option maxRecDepth 40000 in
set_option maxHeartbeats 4000000 in
theorem c_X7_allShowOne (l : Launch) (D : va_G) (K : Nat → ClassId) (w : Nat) (wa0 : Nat) (wa1 : Nat) (wa2 : Nat) (v : Nat) (va0 : Nat) (va1 : Nat) (va2 : Nat) (va3 : Nat) (va4 : Nat) (va5 : Nat) (va6 : Nat) (va7 : Nat) (wn3 : Int32) (wn4 : Int32) (wn5 : Int32) (wn6 : Int32) (vn8 : Int32) (vn9 : Int32) (vn10 : Int32) (vn11 : Int32) (wf1 : Nat → Int32) (vf1 : Nat → Int32) (p1 : Int32) : Ro l D K yX7_allShowOne cX7_allShowOne 4 (some .boolean) 3 67 [.ref w, .ref v, .int p1] [(w, .inr (6, [.ref wa0, .ref wa1, .ref wa2, .int wn3, .int wn4, .int wn5, .int wn6])), (wa1, .inl (K 1, 1024, .inl wf1)), (v, .inr (9, [.ref va0, .ref va1, .ref va2, .ref va3, .ref va4, .ref va5, .ref va6, .ref va7, .int vn8, .int vn9, .int vn10, .int vn11])), (va1, .inl (K 1, 10, .inl vf1))] (fun r => (r = 0) ∨ (r = 1)) := by
  refine ro_of (by decide) (Nat.le_of_ble_eq_true rfl) ?_
  intro p e s m below meth c hC hr hk hE hP ls hl
  replace hC : CallFix p m c cX7_allShowOne 4 s [.ref w, .ref v, .int p1].toArray wl RX7 := hC
  have hx := hC.1
  have hb := hC.2.1
  have hml := hC.2.2.1
  have hown := hC.2.2.2.1
  have hts := hC.2.2.2.2
  replace hl : lv_has ls 4 [(0, .ref w), (1, .ref v), (2, .int p1)] := hl
  have kc_0 : (0 : Int32).toInt = 0 := by decide
  have kc_1 : (1 : Int32).toInt = 1 := by decide
  have kc_1024 : (1024 : Int32).toInt = 1024 := by decide
  refine lv_iconst (v := 0) hx hb dX7_allShowOne_0 (by decide) ?_
  refine lv_istore_n (lv' := [(3, .int 0), (0, .ref w), (1, .ref v), (2, .int p1)]) hx hb dX7_allShowOne_1 rfl hl (by decide) rfl (fun ls hl => ?_)
  have hl' := hl; clear hl
  obtain ⟨i2185, hi_2, hl⟩ : ∃ (i2185 : Int32), ((0 : Int) ≤ i2185.toInt) ∧ lv_has ls 4 [(3, .int i2185), (0, .ref w), (1, .ref v), (2, .int p1)] := ⟨_, by omega, hl'⟩
  clear hl'
  obtain ⟨n_2, hn_2⟩ : ∃ n : Nat, (1024 - i2185.toInt).toNat < n := ⟨_, Nat.lt_succ_self _⟩
  induction n_2 generalizing i2185 ls with
  | zero => exact absurd hn_2 (Nat.not_lt_zero _)
  | succ n_2 ih_2 =>
    refine lv_iload_n hx hb dX7_allShowOne_2 rfl (lv_at hl 0 rfl) ?_
    refine lv_aload_n hx hb dX7_allShowOne_3 rfl (lv_at hl 1 rfl) ?_
    refine va_get (D := D) (ci := 6) (v := .int wn4) (C := RX7) (T := TX7) (N := 7) hx hb hts in_X7 hown hE.1 hP 0 rfl rfl 4 (by decide) (hts _ w_350) (u_same (hts _ w_352)) rfl dX7_allShowOne_4 ?_
    refine lv_icmp_ge (tgt := 41) hx hb dX7_allShowOne_7 (by decide) (fun c2186 => ?_) (fun c2186 => ?_)
    · replace c2186 := le_i c2186
      refine lv_iconst (v := 1) hx hb dX7_allShowOne_41 (by decide) ?_
      exact ro_zret hC hr hk dX7_allShowOne_42 rfl (Or.inr rfl)
    · replace c2186 := nle_i c2186
      refine lv_iload_n hx hb dX7_allShowOne_10 rfl (lv_at hl 0 rfl) ?_
      refine lv_aload_n hx hb dX7_allShowOne_11 rfl (lv_at hl 1 rfl) ?_
      refine va_get (D := D) (ci := 6) (v := .ref wa1) (C := RX7) (T := TX7) (N := 7) hx hb hts in_X7 hown hE.1 hP 0 rfl rfl 1 (by decide) (hts _ w_351) (u_same (hts _ w_353)) rfl dX7_allShowOne_12 ?_
      refine va_alen (v := 1024) hx hb hE.1 hP 1 1 rfl rfl (show Int32.ofNat 1024 = 1024 by decide) dX7_allShowOne_15 ?_
      refine lv_icmp_ge (tgt := 41) hx hb dX7_allShowOne_16 (by decide) (fun c2187 => ?_) (fun c2187 => ?_)
      · replace c2187 := le_i c2187
        refine lv_iconst (v := 1) hx hb dX7_allShowOne_41 (by decide) ?_
        exact ro_zret hC hr hk dX7_allShowOne_42 rfl (Or.inr rfl)
      · replace c2187 := nle_i c2187
        refine lv_aload_n hx hb dX7_allShowOne_19 rfl (lv_at hl 2 rfl) ?_
        refine lv_aload_n hx hb dX7_allShowOne_20 rfl (lv_at hl 1 rfl) ?_
        refine va_get (D := D) (ci := 6) (v := .ref wa1) (C := RX7) (T := TX7) (N := 7) hx hb hts in_X7 hown hE.1 hP 0 rfl rfl 1 (by decide) (hts _ w_351) (u_same (hts _ w_353)) rfl dX7_allShowOne_21 ?_
        refine lv_iload_n hx hb dX7_allShowOne_24 rfl (lv_at hl 0 rfl) ?_
        refine va_iald hx hb hE.1 hP 1 1 rfl rfl (vp_in_iff.mpr (by omega)) dX7_allShowOne_25 ?_
        refine lv_topi (fun v2188 ev2188 => ?_)
        refine lv_iload_n hx hb dX7_allShowOne_26 rfl (lv_at hl 3 rfl) ?_
        refine ro_S (As := [.ref v, .int v2188, .int p1]) (rest := []) hC hE kS_X7_31 (c_X7_showsOne l D K v va0 va1 va2 va3 va4 va5 va6 va7 vn8 vn9 vn10 vn11 vf1 v2188 p1) (hP.sub (ws' := [(v, .inr (9, [.ref va0, .ref va1, .ref va2, .ref va3, .ref va4, .ref va5, .ref va6, .ref va7, .int vn8, .int vn9, .int vn10, .int vn11])), (va1, .inl (K 1, 10, .inl vf1))]) [2, 3] rfl) rfl hl.1 rfl (Nat.le_of_ble_eq_true rfl) (by decide) (by decide) dX7_allShowOne_27 (fun r2189 hq => ?_)
        rcases hq with rfl | rfl
        · refine lv_if_ne (tgt := 35) hx hb dX7_allShowOne_30 (by decide) (fun h => absurd h (by decide)) (fun _ => ?_)
          refine lv_iconst (v := 0) hx hb dX7_allShowOne_33 (by decide) ?_
          exact ro_zret hC hr hk dX7_allShowOne_34 rfl (Or.inl rfl)
        · refine lv_if_ne (tgt := 35) hx hb dX7_allShowOne_30 (by decide) (fun _ => ?_) (fun h => absurd h (by decide))
          obtain ⟨v2190, ev2190⟩ : ∃ z : Int32, z = i2185 + 1 := ⟨_, rfl⟩
          refine lv_iinc (v := v2190) (lv' := [(3, .int v2190), (0, .ref w), (1, .ref v), (2, .int p1)]) hx hb dX7_allShowOne_35 hl (k := 0) rfl (by rw [ev2190]; rfl) (by decide) rfl (fun ls hl => ?_)
          refine lv_goto (tgt := 2) hx hb dX7_allShowOne_38 (by decide) ?_
          have tv2190 : v2190.toInt = (i2185 : Int32).toInt + (1 : Int32).toInt := add_i ev2190 (by omega) (by omega)
          exact ih_2 (i2185 := v2190) (hi_2 := by omega) (ls := ls) (hn_2 := by omega) (hl := lv_sub hl [0, 1, 2, 3] rfl)
set_option maxRecDepth 40000 in
set_option maxHeartbeats 4000000 in
theorem c_X7_leastGathered (l : Launch) (D : va_G) (K : Nat → ClassId) (w : Nat) (wa0 : Nat) (wa1 : Nat) (wa2 : Nat) (v : Nat) (va0 : Nat) (va1 : Nat) (va2 : Nat) (va3 : Nat) (va4 : Nat) (va5 : Nat) (va6 : Nat) (va7 : Nat) (wn3 : Int32) (wn4 : Int32) (wn5 : Int32) (wn6 : Int32) (vn8 : Int32) (vn9 : Int32) (vn10 : Int32) (vn11 : Int32) (wf0 : Nat → Int32) (wf1 : Nat → Int32) (wf2 : Nat → Int32) (vf0 : Nat → Int32) (vf1 : Nat → Int32) (p1 : Int32) : Ci (S := ((Nat → Int32) × (Nat → Nat → Int32) × (Nat → Nat → Int64))) l D K yX7_leastGathered cX7_leastGathered 6 (some .int) 6 136 0 0 [.ref w, .ref v, .int p1] [(w, .inr (6, [.ref wa0, .ref wa1, .ref wa2, .int wn3, .int wn4, .int wn5, .int wn6])), (wa0, .inl (K 1, 1024, .inl wf0)), (wa1, .inl (K 1, 1024, .inl wf1)), (wa2, .inl (K 1, 1024, .inl wf2)), (v, .inr (9, [.ref va0, .ref va1, .ref va2, .ref va3, .ref va4, .ref va5, .ref va6, .ref va7, .int vn8, .int vn9, .int vn10, .int vn11])), (va0, .inl (K 1, 40, .inl vf0)), (va1, .inl (K 1, 10, .inl vf1))] (fun _ _ => True) (fun u => [(w, .inr (6, [.ref wa0, .ref wa1, .ref wa2, .int (u.1 0), .int (u.1 1), .int (u.1 2), .int (u.1 3)])), (wa0, .inl (K 1, 1024, .inl (u.2.1 0))), (wa1, .inl (K 1, 1024, .inl (u.2.1 1))), (wa2, .inl (K 1, 1024, .inl (u.2.1 2))), (v, .inr (9, [.ref va0, .ref va1, .ref va2, .ref va3, .ref va4, .ref va5, .ref va6, .ref va7, .int vn8, .int vn9, .int vn10, .int vn11])), (va0, .inl (K 1, 40, .inl vf0)), (va1, .inl (K 1, 10, .inl vf1))]) := by
  intro sz
  refine ch_of (y := yX7_leastGathered) (cc := cX7_leastGathered) (maxL := 6) (ret := (some .int)) (av := [.ref w, .ref v, .int p1]) (ws := [(w, .inr (6, [.ref wa0, .ref wa1, .ref wa2, .int wn3, .int wn4, .int wn5, .int wn6])), (wa0, .inl (K 1, 1024, .inl wf0)), (wa1, .inl (K 1, 1024, .inl wf1)), (wa2, .inl (K 1, 1024, .inl wf2)), (v, .inr (9, [.ref va0, .ref va1, .ref va2, .ref va3, .ref va4, .ref va5, .ref va6, .ref va7, .int vn8, .int vn9, .int vn10, .int vn11])), (va0, .inl (K 1, 40, .inl vf0)), (va1, .inl (K 1, 10, .inl vf1))]) (D := D) (K := K) (Qc := fun A => va_Qi (S := ((Nat → Int32) × (Nat → Nat → Int32) × (Nat → Nat → Int64))) (fun _ _ => True) (chB D A (fun u => [(w, .inr (6, [.ref wa0, .ref wa1, .ref wa2, .int (u.1 0), .int (u.1 1), .int (u.1 2), .int (u.1 3)])), (wa0, .inl (K 1, 1024, .inl (u.2.1 0))), (wa1, .inl (K 1, 1024, .inl (u.2.1 1))), (wa2, .inl (K 1, 1024, .inl (u.2.1 2))), (v, .inr (9, [.ref va0, .ref va1, .ref va2, .ref va3, .ref va4, .ref va5, .ref va6, .ref va7, .int vn8, .int vn9, .int vn10, .int vn11])), (va0, .inl (K 1, 40, .inl vf0)), (va1, .inl (K 1, 10, .inl vf1))])) A) (by decide) (Nat.le_of_ble_eq_true rfl) ?_
  intro p e s m below meth c A hC hr hk hin hE hD hA H locs hP hS ls hl
  replace hC : CallFix p m c cX7_leastGathered 6 s [.ref w, .ref v, .int p1].toArray wl RX7 := hC
  have hx := hC.1
  have hb := hC.2.1
  have hml := hC.2.2.1
  have hown := hC.2.2.2.1
  have hts := hC.2.2.2.2
  replace hl : lv_has ls 6 [(0, .ref w), (1, .ref v), (2, .int p1)] := hl
  have kc_m1 : (-1 : Int32).toInt = -1 := by decide
  have kc_0 : (0 : Int32).toInt = 0 := by decide
  have kc_1 : (1 : Int32).toInt = 1 := by decide
  have kc_10 : (10 : Int32).toInt = 10 := by decide
  have kc_1024 : (1024 : Int32).toInt = 1024 := by decide
  refine lv_aload_n hx hb dX7_leastGathered_0 rfl (lv_at hl 0 rfl) ?_
  refine lv_aload_n hx hb dX7_leastGathered_1 rfl (lv_at hl 1 rfl) ?_
  refine lv_iload_n hx hb dX7_leastGathered_2 rfl (lv_at hl 2 rfl) ?_
  refine lv_iconst (v := 1) hx hb dX7_leastGathered_3 (by decide) ?_
  refine cv_V (As := [.ref v, .int p1, .int 1]) (rest := []) (wc := [(w, .inr (6, [.ref wa0, .ref wa1, .ref wa2, .int wn3, .int wn4, .int wn5, .int wn6])), (wa0, .inl (K 1, 1024, .inl wf0)), (wa1, .inl (K 1, 1024, .inl wf1)), (wa2, .inl (K 1, 1024, .inl wf2)), (v, .inr (9, [.ref va0, .ref va1, .ref va2, .ref va3, .ref va4, .ref va5, .ref va6, .ref va7, .int vn8, .int vn9, .int vn10, .int vn11])), (va0, .inl (K 1, 40, .inl vf0)), (va1, .inl (K 1, 10, .inl vf1))]) (wr := []) hC hE kV_X7_48 (c_X7_seek l D K w wa0 wa1 wa2 v va0 va1 va2 va3 va4 va5 va6 va7 wn3 wn4 wn5 wn6 vn8 vn9 vn10 vn11 wf0 wf1 wf2 vf0 vf1 p1 1) hP hD hS hA [0, 1, 2, 3, 4, 5, 6] [] rfl rfl rfl (by decide) (by decide) (by decide) 0 6 rfl rfl rfl hl.1 rfl (Nat.le_of_ble_eq_true rfl) (by decide) (by decide) dX7_leastGathered_4 (fun u2214 H locs hw hP hD hS => ?_)
  replace hP : va_P D vwCl [(w, .inr (6, [.ref wa0, .ref wa1, .ref wa2, .int (u2214.1 0), .int (u2214.1 1), .int (u2214.1 2), .int (u2214.1 3)])), (wa0, .inl (K 1, 1024, .inl (u2214.2.1 0))), (wa1, .inl (K 1, 1024, .inl (u2214.2.1 1))), (wa2, .inl (K 1, 1024, .inl (u2214.2.1 2))), (v, .inr (9, [.ref va0, .ref va1, .ref va2, .ref va3, .ref va4, .ref va5, .ref va6, .ref va7, .int vn8, .int vn9, .int vn10, .int vn11])), (va0, .inl (K 1, 40, .inl vf0)), (va1, .inl (K 1, 10, .inl vf1))] H := hP
  replace hD : va_D A [(w, .inr (6, [.ref wa0, .ref wa1, .ref wa2, .int (u2214.1 0), .int (u2214.1 1), .int (u2214.1 2), .int (u2214.1 3)])), (wa0, .inl (K 1, 1024, .inl (u2214.2.1 0))), (wa1, .inl (K 1, 1024, .inl (u2214.2.1 1))), (wa2, .inl (K 1, 1024, .inl (u2214.2.1 2))), (v, .inr (9, [.ref va0, .ref va1, .ref va2, .ref va3, .ref va4, .ref va5, .ref va6, .ref va7, .int vn8, .int vn9, .int vn10, .int vn11])), (va0, .inl (K 1, 40, .inl vf0)), (va1, .inl (K 1, 10, .inl vf1))] := hD
  replace hP : va_P D vwCl [(w, .inr (6, [.ref wa0, .ref wa1, .ref wa2, .int (u2214.1 0), .int (u2214.1 1), .int (u2214.1 2), .int (u2214.1 3)])), (wa0, .inl (K 1, 1024, .inl (u2214.2.1 0))), (wa1, .inl (K 1, 1024, .inl (u2214.2.1 1))), (wa2, .inl (K 1, 1024, .inl (u2214.2.1 2))), (v, .inr (9, [.ref va0, .ref va1, .ref va2, .ref va3, .ref va4, .ref va5, .ref va6, .ref va7, .int vn8, .int vn9, .int vn10, .int vn11])), (va0, .inl (K 1, 40, .inl vf0)), (va1, .inl (K 1, 10, .inl vf1))] H := hP.sub [0, 1, 2, 3, 4, 5, 6] rfl
  replace hD : va_D A [(w, .inr (6, [.ref wa0, .ref wa1, .ref wa2, .int (u2214.1 0), .int (u2214.1 1), .int (u2214.1 2), .int (u2214.1 3)])), (wa0, .inl (K 1, 1024, .inl (u2214.2.1 0))), (wa1, .inl (K 1, 1024, .inl (u2214.2.1 1))), (wa2, .inl (K 1, 1024, .inl (u2214.2.1 2))), (v, .inr (9, [.ref va0, .ref va1, .ref va2, .ref va3, .ref va4, .ref va5, .ref va6, .ref va7, .int vn8, .int vn9, .int vn10, .int vn11])), (va0, .inl (K 1, 40, .inl vf0)), (va1, .inl (K 1, 10, .inl vf1))] := hD.sub [0, 1, 2, 3, 4, 5, 6] (by decide) rfl
  refine W.widen (k := 0) (n := 0) (by decide) (by decide) ?_
  refine lv_aload_n hx hb dX7_leastGathered_7 rfl (lv_at hl 0 rfl) ?_
  refine ro_U (As := []) (rest := []) hC hE kU_X7_52_X6_goalLength (decl_of hC kU_X7_52_X6_goalLength rfl) (c_X6_goalLength_7 l D K w wa0 wa1 wa2 (u2214.1 0) (u2214.1 1) (u2214.1 2) (u2214.1 3) (u2214.2.1 2)) (hP.sub (ws' := [(w, .inr (6, [.ref wa0, .ref wa1, .ref wa2, .int (u2214.1 0), .int (u2214.1 1), .int (u2214.1 2), .int (u2214.1 3)])), (wa2, .inl (K 1, 1024, .inl (u2214.2.1 2)))]) [0, 3] rfl) 0 6 rfl rfl (hts _ w_361) rfl hl.1 rfl (Nat.le_of_ble_eq_true rfl) (by decide) (by decide) dX7_leastGathered_8 (fun r2218 hq => ?_)
  rcases hq with rfl | ⟨h2216, h2217⟩
  · refine lv_istore_n (lv' := [(3, .int (-1)), (0, .ref w), (1, .ref v), (2, .int p1)]) hx hb dX7_leastGathered_11 rfl hl (by decide) rfl (fun ls hl => ?_)
    refine lv_iload_n hx hb dX7_leastGathered_12 rfl (lv_at hl 0 rfl) ?_
    refine lv_iconst (v := (-1)) hx hb dX7_leastGathered_13 (by decide) ?_
    refine lv_icmp_ne (tgt := 19) hx hb dX7_leastGathered_14 (by decide) (fun h => absurd h (by decide)) (fun _ => ?_)
    refine lv_iconst (v := (-1)) hx hb dX7_leastGathered_17 (by decide) ?_
    refine W.widen (k := 0) (n := 0) (by decide) (by decide) ?_
    exact ch_iret hC hr hk hS dX7_leastGathered_18 ((fun k => [(u2214.1 0), (u2214.1 1), (u2214.1 2), (u2214.1 3)].getD k 0, fun k => [(u2214.2.1 0), (u2214.2.1 1), (u2214.2.1 2)].getD k (fun _ => 0), fun k => [].getD k (fun _ => 0)) : ((Nat → Int32) × (Nat → Nat → Int32) × (Nat → Nat → Int64))) trivial (hP.sub [0, 1, 2, 3, 4, 5, 6] rfl) (hD.sub [0, 1, 2, 3, 4, 5, 6] (by decide) rfl)
  · refine lv_istore_n (lv' := [(3, .int r2218), (0, .ref w), (1, .ref v), (2, .int p1)]) hx hb dX7_leastGathered_11 rfl hl (by decide) rfl (fun ls hl => ?_)
    refine lv_iload_n hx hb dX7_leastGathered_12 rfl (lv_at hl 0 rfl) ?_
    refine lv_iconst (v := (-1)) hx hb dX7_leastGathered_13 (by decide) ?_
    refine lv_icmp_ne (tgt := 19) hx hb dX7_leastGathered_14 (by decide) (fun c2219 => ?_) (fun c2219 => ?_)
    · replace c2219 := ne_i c2219
      refine lv_bipush (v := 10) hx hb dX7_leastGathered_19 (by decide) ?_
      refine lv_istore (lv' := [(4, .int 10), (3, .int r2218), (0, .ref w), (1, .ref v), (2, .int p1)]) hx hb dX7_leastGathered_21 hl (by decide) rfl (fun ls hl => ?_)
      refine lv_iconst (v := 0) hx hb dX7_leastGathered_23 (by decide) ?_
      refine lv_istore (lv' := [(5, .int 0), (4, .int 10), (3, .int r2218), (0, .ref w), (1, .ref v), (2, .int p1)]) hx hb dX7_leastGathered_24 hl (by decide) rfl (fun ls hl => ?_)
      have hl' := hl; have hP' := hP; have hD' := hD; clear hl hP hD
      obtain ⟨i2237, i2238, hi_26, hl, hP, hD⟩ : ∃ (i2237 : Int32) (i2238 : Int32), ((0 : Int) ≤ i2237.toInt) ∧ lv_has ls 6 [(5, .int i2237), (4, .int i2238), (3, .int r2218), (0, .ref w), (1, .ref v), (2, .int p1)] ∧ va_P D vwCl [(w, .inr (6, [.ref wa0, .ref wa1, .ref wa2, .int (u2214.1 0), .int (u2214.1 1), .int (u2214.1 2), .int (u2214.1 3)])), (wa0, .inl (K 1, 1024, .inl (u2214.2.1 0))), (wa1, .inl (K 1, 1024, .inl (u2214.2.1 1))), (wa2, .inl (K 1, 1024, .inl (u2214.2.1 2))), (v, .inr (9, [.ref va0, .ref va1, .ref va2, .ref va3, .ref va4, .ref va5, .ref va6, .ref va7, .int vn8, .int vn9, .int vn10, .int vn11])), (va0, .inl (K 1, 40, .inl vf0)), (va1, .inl (K 1, 10, .inl vf1))] H ∧ va_D A [(w, .inr (6, [.ref wa0, .ref wa1, .ref wa2, .int (u2214.1 0), .int (u2214.1 1), .int (u2214.1 2), .int (u2214.1 3)])), (wa0, .inl (K 1, 1024, .inl (u2214.2.1 0))), (wa1, .inl (K 1, 1024, .inl (u2214.2.1 1))), (wa2, .inl (K 1, 1024, .inl (u2214.2.1 2))), (v, .inr (9, [.ref va0, .ref va1, .ref va2, .ref va3, .ref va4, .ref va5, .ref va6, .ref va7, .int vn8, .int vn9, .int vn10, .int vn11])), (va0, .inl (K 1, 40, .inl vf0)), (va1, .inl (K 1, 10, .inl vf1))] := ⟨_, _, by omega, hl', hP', hD'⟩
      clear hl' hP' hD'
      obtain ⟨n_26, hn_26⟩ : ∃ n : Nat, (1024 - i2237.toInt).toNat < n := ⟨_, Nat.lt_succ_self _⟩
      induction n_26 generalizing i2237 i2238 H locs ls with
      | zero => exact absurd hn_26 (Nat.not_lt_zero _)
      | succ n_26 ih_26 =>
        refine lv_iload hx hb dX7_leastGathered_26 (lv_at hl 0 rfl) ?_
        refine lv_aload_n hx hb dX7_leastGathered_28 rfl (lv_at hl 3 rfl) ?_
        refine va_get (D := D) (ci := 6) (v := .int (u2214.1 1)) (C := RX7) (T := TX7) (N := 7) hx hb hts in_X7 hown hE.1 hP 0 rfl rfl 4 (by decide) (hts _ w_350) (u_same (hts _ w_352)) rfl dX7_leastGathered_29 ?_
        refine lv_icmp_ge (tgt := 92) hx hb dX7_leastGathered_32 (by decide) (fun c2239 => ?_) (fun c2239 => ?_)
        · replace c2239 := le_i c2239
          refine lv_iload hx hb dX7_leastGathered_92 (lv_at hl 1 rfl) ?_
          refine W.widen (k := 0) (n := 0) (by decide) (by decide) ?_
          exact ch_iret hC hr hk hS dX7_leastGathered_94 ((fun k => [(u2214.1 0), (u2214.1 1), (u2214.1 2), (u2214.1 3)].getD k 0, fun k => [(u2214.2.1 0), (u2214.2.1 1), (u2214.2.1 2)].getD k (fun _ => 0), fun k => [].getD k (fun _ => 0)) : ((Nat → Int32) × (Nat → Nat → Int32) × (Nat → Nat → Int64))) trivial (hP.sub [0, 1, 2, 3, 4, 5, 6] rfl) (hD.sub [0, 1, 2, 3, 4, 5, 6] (by decide) rfl)
        · replace c2239 := nle_i c2239
          refine lv_iload hx hb dX7_leastGathered_35 (lv_at hl 0 rfl) ?_
          refine lv_aload_n hx hb dX7_leastGathered_37 rfl (lv_at hl 3 rfl) ?_
          refine va_get (D := D) (ci := 6) (v := .ref wa1) (C := RX7) (T := TX7) (N := 7) hx hb hts in_X7 hown hE.1 hP 0 rfl rfl 1 (by decide) (hts _ w_351) (u_same (hts _ w_353)) rfl dX7_leastGathered_38 ?_
          refine va_alen (v := 1024) hx hb hE.1 hP 2 1 rfl rfl (show Int32.ofNat 1024 = 1024 by decide) dX7_leastGathered_41 ?_
          refine lv_icmp_ge (tgt := 92) hx hb dX7_leastGathered_42 (by decide) (fun c2240 => ?_) (fun c2240 => ?_)
          · replace c2240 := le_i c2240
            refine lv_iload hx hb dX7_leastGathered_92 (lv_at hl 1 rfl) ?_
            refine W.widen (k := 0) (n := 0) (by decide) (by decide) ?_
            exact ch_iret hC hr hk hS dX7_leastGathered_94 ((fun k => [(u2214.1 0), (u2214.1 1), (u2214.1 2), (u2214.1 3)].getD k 0, fun k => [(u2214.2.1 0), (u2214.2.1 1), (u2214.2.1 2)].getD k (fun _ => 0), fun k => [].getD k (fun _ => 0)) : ((Nat → Int32) × (Nat → Nat → Int32) × (Nat → Nat → Int64))) trivial (hP.sub [0, 1, 2, 3, 4, 5, 6] rfl) (hD.sub [0, 1, 2, 3, 4, 5, 6] (by decide) rfl)
          · replace c2240 := nle_i c2240
            refine lv_aload_n hx hb dX7_leastGathered_45 rfl (lv_at hl 3 rfl) ?_
            refine va_get (D := D) (ci := 6) (v := .ref wa1) (C := RX7) (T := TX7) (N := 7) hx hb hts in_X7 hown hE.1 hP 0 rfl rfl 1 (by decide) (hts _ w_351) (u_same (hts _ w_353)) rfl dX7_leastGathered_46 ?_
            refine lv_iload hx hb dX7_leastGathered_49 (lv_at hl 0 rfl) ?_
            refine va_iald hx hb hE.1 hP 2 1 rfl rfl (vp_in_iff.mpr (by omega)) dX7_leastGathered_51 ?_
            refine lv_topi (fun v2241 ev2241 => ?_)
            refine ro_S (As := [.int v2241]) (rest := []) hC hE kS_X7_25 (c_J6_bitCount_0f7a4 l D K v2241) (hP.sub (ws' := []) [] rfl) rfl hl.1 rfl (Nat.le_of_ble_eq_true rfl) (by decide) (by decide) dX7_leastGathered_52 (fun r2242 _ => ?_)
            refine lv_iconst (v := 1) hx hb dX7_leastGathered_55 (by decide) ?_
            refine lv_icmp_ne (tgt := 86) hx hb dX7_leastGathered_56 (by decide) (fun c2243 => ?_) (fun c2243 => ?_)
            · replace c2243 := ne_i c2243
              obtain ⟨v2244, ev2244⟩ : ∃ z : Int32, z = i2237 + 1 := ⟨_, rfl⟩
              refine lv_iinc (v := v2244) (lv' := [(5, .int v2244), (4, .int i2238), (3, .int r2218), (0, .ref w), (1, .ref v), (2, .int p1)]) hx hb dX7_leastGathered_86 hl (k := 0) rfl (by rw [ev2244]; rfl) (by decide) rfl (fun ls hl => ?_)
              refine lv_goto (tgt := 26) hx hb dX7_leastGathered_89 (by decide) ?_
              have tv2244 : v2244.toInt = (i2237 : Int32).toInt + (1 : Int32).toInt := add_i ev2244 (by omega) (by omega)
              exact ih_26 (i2237 := v2244) (i2238 := i2238) (hi_26 := by omega) (H := H) (locs := locs) (ls := ls) (hn_26 := by omega) (hP := hP) (hS := hS) (hl := lv_sub hl [0, 1, 2, 3, 4, 5] rfl)
            · replace c2243 := eq_i c2243
              refine lv_aload_n hx hb dX7_leastGathered_59 rfl (lv_at hl 3 rfl) ?_
              refine lv_iload hx hb dX7_leastGathered_60 (lv_at hl 0 rfl) ?_
              refine ro_U (As := [.int i2237]) (rest := []) hC hE kU_X7_56_X6_lengthTo (decl_of hC kU_X7_56_X6_lengthTo rfl) (c_X6_lengthTo_7 l D K w wa0 wa1 wa2 (u2214.1 0) (u2214.1 1) (u2214.1 2) (u2214.1 3) (u2214.2.1 2) i2237) (hP.sub (ws' := [(w, .inr (6, [.ref wa0, .ref wa1, .ref wa2, .int (u2214.1 0), .int (u2214.1 1), .int (u2214.1 2), .int (u2214.1 3)])), (wa2, .inl (K 1, 1024, .inl (u2214.2.1 2)))]) [0, 3] rfl) 0 6 rfl rfl (hts _ w_364) rfl hl.1 rfl (Nat.le_of_ble_eq_true rfl) (by decide) (by decide) dX7_leastGathered_62 (fun r2247 hq => ?_)
              obtain ⟨h2245, h2246⟩ := hq
              refine lv_iload_n hx hb dX7_leastGathered_65 rfl (lv_at hl 2 rfl) ?_
              refine lv_icmp_ne (tgt := 86) hx hb dX7_leastGathered_66 (by decide) (fun c2248 => ?_) (fun c2248 => ?_)
              · replace c2248 := ne_i c2248
                obtain ⟨v2249, ev2249⟩ : ∃ z : Int32, z = i2237 + 1 := ⟨_, rfl⟩
                refine lv_iinc (v := v2249) (lv' := [(5, .int v2249), (4, .int i2238), (3, .int r2218), (0, .ref w), (1, .ref v), (2, .int p1)]) hx hb dX7_leastGathered_86 hl (k := 0) rfl (by rw [ev2249]; rfl) (by decide) rfl (fun ls hl => ?_)
                refine lv_goto (tgt := 26) hx hb dX7_leastGathered_89 (by decide) ?_
                have tv2249 : v2249.toInt = (i2237 : Int32).toInt + (1 : Int32).toInt := add_i ev2249 (by omega) (by omega)
                exact ih_26 (i2237 := v2249) (i2238 := i2238) (hi_26 := by omega) (H := H) (locs := locs) (ls := ls) (hn_26 := by omega) (hP := hP) (hS := hS) (hl := lv_sub hl [0, 1, 2, 3, 4, 5] rfl)
              · replace c2248 := eq_i c2248
                refine lv_iload hx hb dX7_leastGathered_69 (lv_at hl 1 rfl) ?_
                refine lv_aload_n hx hb dX7_leastGathered_71 rfl (lv_at hl 3 rfl) ?_
                refine va_get (D := D) (ci := 6) (v := .ref wa1) (C := RX7) (T := TX7) (N := 7) hx hb hts in_X7 hown hE.1 hP 0 rfl rfl 1 (by decide) (hts _ w_351) (u_same (hts _ w_353)) rfl dX7_leastGathered_72 ?_
                refine lv_iload hx hb dX7_leastGathered_75 (lv_at hl 0 rfl) ?_
                refine va_iald hx hb hE.1 hP 2 1 rfl rfl (vp_in_iff.mpr (by omega)) dX7_leastGathered_77 ?_
                refine lv_topi (fun v2250 ev2250 => ?_)
                refine ro_S (As := [.int v2250]) (rest := [.int i2238]) hC hE kS_X7_59 (c_J6_numberOfTrailingZeros_0f7a4 l D K v2250) (hP.sub (ws' := []) [] rfl) rfl hl.1 rfl (Nat.le_of_ble_eq_true rfl) (by decide) (by decide) dX7_leastGathered_78 (fun r2251 _ => ?_)
                refine va_mmin hx hb (hml.trans hl.1.symm) hown (hts _ w_354) (hts _ w_142) (hts _ w_143) (hts _ w_144) (by decide) (Nat.le_of_ble_eq_true rfl) (by decide) (by decide) dX7_leastGathered_81 ?_
                refine lv_topi (fun v2252 ev2252 => ?_)
                have tv2252 := min_i ev2252
                refine lv_istore (lv' := [(4, .int v2252), (5, .int i2237), (3, .int r2218), (0, .ref w), (1, .ref v), (2, .int p1)]) hx hb dX7_leastGathered_84 hl (by decide) rfl (fun ls hl => ?_)
                obtain ⟨v2253, ev2253⟩ : ∃ z : Int32, z = i2237 + 1 := ⟨_, rfl⟩
                refine lv_iinc (v := v2253) (lv' := [(5, .int v2253), (4, .int v2252), (3, .int r2218), (0, .ref w), (1, .ref v), (2, .int p1)]) hx hb dX7_leastGathered_86 hl (k := 1) rfl (by rw [ev2253]; rfl) (by decide) rfl (fun ls hl => ?_)
                refine lv_goto (tgt := 26) hx hb dX7_leastGathered_89 (by decide) ?_
                have tv2253 : v2253.toInt = (i2237 : Int32).toInt + (1 : Int32).toInt := add_i ev2253 (by omega) (by omega)
                exact ih_26 (i2237 := v2253) (i2238 := v2252) (hi_26 := by omega) (H := H) (locs := locs) (ls := ls) (hn_26 := by omega) (hP := hP) (hS := hS) (hl := lv_sub hl [0, 1, 2, 3, 4, 5] rfl)
    · replace c2219 := eq_i c2219
      refine lv_iconst (v := (-1)) hx hb dX7_leastGathered_17 (by decide) ?_
      refine W.widen (k := 0) (n := 0) (by decide) (by decide) ?_
      exact ch_iret hC hr hk hS dX7_leastGathered_18 ((fun k => [(u2214.1 0), (u2214.1 1), (u2214.1 2), (u2214.1 3)].getD k 0, fun k => [(u2214.2.1 0), (u2214.2.1 1), (u2214.2.1 2)].getD k (fun _ => 0), fun k => [].getD k (fun _ => 0)) : ((Nat → Int32) × (Nat → Nat → Int32) × (Nat → Nat → Int64))) trivial (hP.sub [0, 1, 2, 3, 4, 5, 6] rfl) (hD.sub [0, 1, 2, 3, 4, 5, 6] (by decide) rfl)
