set_option maxRecDepth 40000 in
set_option maxHeartbeats 4000000 in
theorem c_X12_image (l : Launch) (D : va_G) (K : Nat → ClassId) (y : Nat → Nat) (p0 : Int32) : Ci (S := Unit) l D K yX12_image cX12_image 3 (some .int) 1 25 0 0 [.ref (y 0), .int p0] [(y 0, .inr (11, [.int 0, .ref (y 1), .ref (y 2), .ref (y 3), .ref (y 4), .int 0, .ref (y 5), .int 0, .int 0, .int 0, .int 0, .int 0, .int 0, .int (-1), .ref (y 6), .int 0, .int 0, .int 0, .int 0, .int 0, .int 0, .ref (y 121), .ref (y 122), .ref (y 123), .ref (y 124), .int 0, .ref (y 126), .ref (y 127), .ref (y 128), .ref (y 129), .ref (y 130), .ref (y 131), .ref (y 132), .ref (y 133), .ref (y 134), .ref (y 135), .ref (y 136), .int 0, .int 0, .int 0, .ref (y 140), .ref (y 141), .ref (y 142), .int 0, .int 0, .ref (y 145), .ref (y 146), .ref (y 147), .int 0, .ref (y 7), .ref (y 8), .ref (y 9), .ref (y 152)])), (y 1, .inl (K 1, 262, .inl (fun _ => 0))), (y 2, .inl (K 1, 786, .inl (fun _ => 0))), (y 3, .inl (K 3, 3, .inl (fun _ => 0)))] (fun r _ => (vp_in p0 3 ∧ r = 0) ∨ (¬ vp_in p0 3 ∧ r = -2)) (fun _ => []) := by
  intro sz
  refine ch_of (Qc := fun A => va_Qi (S := Unit) (fun r _ => (vp_in p0 3 ∧ r = 0) ∨ (¬ vp_in p0 3 ∧ r = -2)) (chB D A (fun _ => [])) A) (by decide) (Nat.le_of_ble_eq_true rfl) ?_
  intro p e s m below meth c A hC hr hk hin hE hD hA H locs hP hS ls hl
  replace hC : CallFix p m c cX12_image 3 s [.ref (y 0), .int p0].toArray wl RX12 := hC
  have hx := hC.1
  have hb := hC.2.1
  have hml := hC.2.2.1
  have hown := hC.2.2.2.1
  have hts := hC.2.2.2.2
  replace hl : lv_has ls 3 [(0, .ref (y 0)), (1, .int p0)] := hl
  refine lv_iload_n hx hb dX12_image_0 rfl (lv_at hl 1 rfl) ?_
  refine lv_i2l (v := p0.toInt64) hx hb dX12_image_1 rfl ?_
  refine lv_lconst (v := 0) hx hb dX12_image_2 (by decide) ?_
  refine lv_ldc2 (v := 2) hx hb hown (hts _ w_240) dX12_image_3 ?_
  refine ro_S (As := [.long p0.toInt64, .long 0, .long 2]) (rest := []) hC hE kS_X12_115 (c_X12_in l D K p0.toInt64 0 2) (hP.sub (ws' := []) [] rfl) rfl hl.1 rfl (Nat.le_of_ble_eq_true rfl) (by decide) (by decide) dX12_image_6 (fun r hq => ?_)
  rcases hq with ⟨h392, rfl⟩ | ⟨h393, rfl⟩
  · refine lv_if_ne (tgt := 15) hx hb dX12_image_9 (by decide) (fun _ => ?_) (fun h => absurd h (by decide))
    obtain ⟨j, hj, rfl⟩ := vp_in_of (n := 3) (iy64 (by decide) h392) (by decide)
    rcases (show j = 0 ∨ j = 1 ∨ j = 2 by omega) with rfl | rfl | rfl
    · refine lv_iconst (v := 0) hx hb dX12_image_15 (by decide) ?_
      refine lv_istore_n (lv' := [(2, .int 0), (0, .ref (y 0)), (1, .int (nI 0))]) hx hb dX12_image_16 rfl hl (by decide) rfl (fun ls hl => ?_)
      obtain ⟨i, hi0⟩ : ∃ i : Nat, i = 0 := ⟨0, rfl⟩
      replace hl : lv_has ls 3 [(2, .int (nI i)), (0, .ref (y 0)), (1, .int (nI 0))] := by subst hi0; rw [nI_0]; exact hl
      have hi : i ≤ 262 := by omega
      obtain ⟨n, hn⟩ : ∃ n : Nat, 262 < i + n := ⟨262 + 1, by omega⟩
      clear hi0
      induction n generalizing i H locs ls with
      | zero => exact absurd hn (by omega)
      | succ n ih =>
        refine lv_iload_n hx hb dX12_image_17 rfl (lv_at hl 0 rfl) ?_
        refine lv_sipush (v := 262) hx hb dX12_image_18 (by decide) ?_
        refine lv_icmp_ge (tgt := 48) hx hb dX12_image_21 (by decide) (fun c9 => ?_) (fun c9 => ?_)
        · refine lv_aload_n hx hb dX12_image_48 rfl (lv_at hl 1 rfl) ?_
          refine va_get (D := D) (ci := 11) (v := .ref (y 3)) (C := RX12) (T := TX12) (N := 53) hx hb hts in_X12 hown hE.1 hP 0 rfl rfl 3 (by decide) (hts _ w_241) (fun _ h9 => h9) rfl dX12_image_49 ?_
          refine lv_iload_n hx hb dX12_image_52 rfl (lv_at hl 2 rfl) ?_
          refine lv_iconst (v := 1) hx hb dX12_image_53 (by decide) ?_
          refine stz hx hb hE.1 hP hD hS 3 3 rfl rfl (in_c (by decide)) dX12_image_54 (fun g394 H locs hP hD hS => ?_)
          replace hP : va_P D vwCl [(y 0, .inr (11, [.int 0, .ref (y 1), .ref (y 2), .ref (y 3), .ref (y 4), .int 0, .ref (y 5), .int 0, .int 0, .int 0, .int 0, .int 0, .int 0, .int (-1), .ref (y 6), .int 0, .int 0, .int 0, .int 0, .int 0, .int 0, .ref (y 121), .ref (y 122), .ref (y 123), .ref (y 124), .int 0, .ref (y 126), .ref (y 127), .ref (y 128), .ref (y 129), .ref (y 130), .ref (y 131), .ref (y 132), .ref (y 133), .ref (y 134), .ref (y 135), .ref (y 136), .int 0, .int 0, .int 0, .ref (y 140), .ref (y 141), .ref (y 142), .int 0, .int 0, .ref (y 145), .ref (y 146), .ref (y 147), .int 0, .ref (y 7), .ref (y 8), .ref (y 9), .ref (y 152)])), (y 1, .inl (K 1, 262, .inl (fun _ => 0))), (y 2, .inl (K 1, 786, .inl (fun _ => 0))), (y 3, .inl (K 3, 3, .inl g394))] H := hP
          replace hD : va_D A [(y 0, .inr (11, [.int 0, .ref (y 1), .ref (y 2), .ref (y 3), .ref (y 4), .int 0, .ref (y 5), .int 0, .int 0, .int 0, .int 0, .int 0, .int 0, .int (-1), .ref (y 6), .int 0, .int 0, .int 0, .int 0, .int 0, .int 0, .ref (y 121), .ref (y 122), .ref (y 123), .ref (y 124), .int 0, .ref (y 126), .ref (y 127), .ref (y 128), .ref (y 129), .ref (y 130), .ref (y 131), .ref (y 132), .ref (y 133), .ref (y 134), .ref (y 135), .ref (y 136), .int 0, .int 0, .int 0, .ref (y 140), .ref (y 141), .ref (y 142), .int 0, .int 0, .ref (y 145), .ref (y 146), .ref (y 147), .int 0, .ref (y 7), .ref (y 8), .ref (y 9), .ref (y 152)])), (y 1, .inl (K 1, 262, .inl (fun _ => 0))), (y 2, .inl (K 1, 786, .inl (fun _ => 0))), (y 3, .inl (K 3, 3, .inl g394))] := hD
          refine lv_iconst (v := 0) hx hb dX12_image_55 (by decide) ?_
          refine W.widen (k := 0) (n := 0) (by decide) (by decide) ?_
          exact ch_iret hC hr hk hS dX12_image_56 () (Or.inl ⟨(vp_in_nI (by decide) (by decide)), rfl⟩) (hP.sub [] rfl) (hD.sub [] (by decide) rfl)
        · have hlt : i < 262 := (lt_nI (by decide) hi (by decide) c9)
          refine lv_aload_n hx hb dX12_image_24 rfl (lv_at hl 1 rfl) ?_
          refine va_get (D := D) (ci := 11) (v := .ref (y 2)) (C := RX12) (T := TX12) (N := 53) hx hb hts in_X12 hown hE.1 hP 0 rfl rfl 2 (by decide) (hts _ w_400) (fun _ h9 => h9) rfl dX12_image_25 ?_
          refine lv_sipush (v := 262) hx hb dX12_image_28 (by decide) ?_
          refine lv_iload_n hx hb dX12_image_31 rfl (lv_at hl 2 rfl) ?_
          refine lv_imul hx hb dX12_image_32 ?_
          refine tc (y := 0) (by decide) ?_
          refine lv_iload_n hx hb dX12_image_33 rfl (lv_at hl 0 rfl) ?_
          refine lv_iadd hx hb dX12_image_34 ?_
          refine tc (y := (nI (0 + i))) (nI_cadd (by decide)) ?_
          refine lv_aload_n hx hb dX12_image_35 rfl (lv_at hl 1 rfl) ?_
          refine va_get (D := D) (ci := 11) (v := .ref (y 1)) (C := RX12) (T := TX12) (N := 53) hx hb hts in_X12 hown hE.1 hP 0 rfl rfl 1 (by decide) (hts _ w_194) (fun _ h9 => h9) rfl dX12_image_36 ?_
          refine lv_iload_n hx hb dX12_image_39 rfl (lv_at hl 0 rfl) ?_
          refine va_iald hx hb hE.1 hP 1 1 rfl rfl (vp_in_nI (by omega) (by decide)) dX12_image_40 ?_
          refine tc (y := 0) rfl ?_
          refine sti0 hx hb hE.1 hP hD hS 2 1 rfl rfl (vp_in_nI (by omega) (by decide)) dX12_image_41 (fun H locs hP hD hS => ?_)
          replace hP : va_P D vwCl [(y 0, .inr (11, [.int 0, .ref (y 1), .ref (y 2), .ref (y 3), .ref (y 4), .int 0, .ref (y 5), .int 0, .int 0, .int 0, .int 0, .int 0, .int 0, .int (-1), .ref (y 6), .int 0, .int 0, .int 0, .int 0, .int 0, .int 0, .ref (y 121), .ref (y 122), .ref (y 123), .ref (y 124), .int 0, .ref (y 126), .ref (y 127), .ref (y 128), .ref (y 129), .ref (y 130), .ref (y 131), .ref (y 132), .ref (y 133), .ref (y 134), .ref (y 135), .ref (y 136), .int 0, .int 0, .int 0, .ref (y 140), .ref (y 141), .ref (y 142), .int 0, .int 0, .ref (y 145), .ref (y 146), .ref (y 147), .int 0, .ref (y 7), .ref (y 8), .ref (y 9), .ref (y 152)])), (y 1, .inl (K 1, 262, .inl (fun _ => 0))), (y 2, .inl (K 1, 786, .inl (fun _ => 0))), (y 3, .inl (K 3, 3, .inl (fun _ => 0)))] H := hP
          replace hD : va_D A [(y 0, .inr (11, [.int 0, .ref (y 1), .ref (y 2), .ref (y 3), .ref (y 4), .int 0, .ref (y 5), .int 0, .int 0, .int 0, .int 0, .int 0, .int 0, .int (-1), .ref (y 6), .int 0, .int 0, .int 0, .int 0, .int 0, .int 0, .ref (y 121), .ref (y 122), .ref (y 123), .ref (y 124), .int 0, .ref (y 126), .ref (y 127), .ref (y 128), .ref (y 129), .ref (y 130), .ref (y 131), .ref (y 132), .ref (y 133), .ref (y 134), .ref (y 135), .ref (y 136), .int 0, .int 0, .int 0, .ref (y 140), .ref (y 141), .ref (y 142), .int 0, .int 0, .ref (y 145), .ref (y 146), .ref (y 147), .int 0, .ref (y 7), .ref (y 8), .ref (y 9), .ref (y 152)])), (y 1, .inl (K 1, 262, .inl (fun _ => 0))), (y 2, .inl (K 1, 786, .inl (fun _ => 0))), (y 3, .inl (K 3, 3, .inl (fun _ => 0)))] := hD
          refine lv_iinc (v := (nI (i + 1))) (lv' := [(2, .int (nI (i + 1))), (0, .ref (y 0)), (1, .int (nI 0))]) hx hb dX12_image_42 hl (k := 0) rfl (nI_1 _) (by decide) rfl (fun ls hl => ?_)
          refine lv_goto (tgt := 17) hx hb dX12_image_45 (by decide) ?_
          exact ih (i := i + 1) (H := H) (locs := locs) (ls := ls) (hi := hlt) (hn := by omega) (hP := hP) (hS := hS) (hl := lv_sub hl [0, 1, 2] rfl)
    · refine lv_iconst (v := 0) hx hb dX12_image_15 (by decide) ?_
      refine lv_istore_n (lv' := [(2, .int 0), (0, .ref (y 0)), (1, .int (nI 1))]) hx hb dX12_image_16 rfl hl (by decide) rfl (fun ls hl => ?_)
      obtain ⟨i, hi0⟩ : ∃ i : Nat, i = 0 := ⟨0, rfl⟩
      replace hl : lv_has ls 3 [(2, .int (nI i)), (0, .ref (y 0)), (1, .int (nI 1))] := by subst hi0; rw [nI_0]; exact hl
      have hi : i ≤ 262 := by omega
      obtain ⟨n, hn⟩ : ∃ n : Nat, 262 < i + n := ⟨262 + 1, by omega⟩
      clear hi0
      induction n generalizing i H locs ls with
      | zero => exact absurd hn (by omega)
      | succ n ih =>
        refine lv_iload_n hx hb dX12_image_17 rfl (lv_at hl 0 rfl) ?_
        refine lv_sipush (v := 262) hx hb dX12_image_18 (by decide) ?_
        refine lv_icmp_ge (tgt := 48) hx hb dX12_image_21 (by decide) (fun c9 => ?_) (fun c9 => ?_)
        · refine lv_aload_n hx hb dX12_image_48 rfl (lv_at hl 1 rfl) ?_
          refine va_get (D := D) (ci := 11) (v := .ref (y 3)) (C := RX12) (T := TX12) (N := 53) hx hb hts in_X12 hown hE.1 hP 0 rfl rfl 3 (by decide) (hts _ w_241) (fun _ h9 => h9) rfl dX12_image_49 ?_
          refine lv_iload_n hx hb dX12_image_52 rfl (lv_at hl 2 rfl) ?_
          refine lv_iconst (v := 1) hx hb dX12_image_53 (by decide) ?_
          refine stz hx hb hE.1 hP hD hS 3 3 rfl rfl (in_c (by decide)) dX12_image_54 (fun g395 H locs hP hD hS => ?_)
          replace hP : va_P D vwCl [(y 0, .inr (11, [.int 0, .ref (y 1), .ref (y 2), .ref (y 3), .ref (y 4), .int 0, .ref (y 5), .int 0, .int 0, .int 0, .int 0, .int 0, .int 0, .int (-1), .ref (y 6), .int 0, .int 0, .int 0, .int 0, .int 0, .int 0, .ref (y 121), .ref (y 122), .ref (y 123), .ref (y 124), .int 0, .ref (y 126), .ref (y 127), .ref (y 128), .ref (y 129), .ref (y 130), .ref (y 131), .ref (y 132), .ref (y 133), .ref (y 134), .ref (y 135), .ref (y 136), .int 0, .int 0, .int 0, .ref (y 140), .ref (y 141), .ref (y 142), .int 0, .int 0, .ref (y 145), .ref (y 146), .ref (y 147), .int 0, .ref (y 7), .ref (y 8), .ref (y 9), .ref (y 152)])), (y 1, .inl (K 1, 262, .inl (fun _ => 0))), (y 2, .inl (K 1, 786, .inl (fun _ => 0))), (y 3, .inl (K 3, 3, .inl g395))] H := hP
          replace hD : va_D A [(y 0, .inr (11, [.int 0, .ref (y 1), .ref (y 2), .ref (y 3), .ref (y 4), .int 0, .ref (y 5), .int 0, .int 0, .int 0, .int 0, .int 0, .int 0, .int (-1), .ref (y 6), .int 0, .int 0, .int 0, .int 0, .int 0, .int 0, .ref (y 121), .ref (y 122), .ref (y 123), .ref (y 124), .int 0, .ref (y 126), .ref (y 127), .ref (y 128), .ref (y 129), .ref (y 130), .ref (y 131), .ref (y 132), .ref (y 133), .ref (y 134), .ref (y 135), .ref (y 136), .int 0, .int 0, .int 0, .ref (y 140), .ref (y 141), .ref (y 142), .int 0, .int 0, .ref (y 145), .ref (y 146), .ref (y 147), .int 0, .ref (y 7), .ref (y 8), .ref (y 9), .ref (y 152)])), (y 1, .inl (K 1, 262, .inl (fun _ => 0))), (y 2, .inl (K 1, 786, .inl (fun _ => 0))), (y 3, .inl (K 3, 3, .inl g395))] := hD
          refine lv_iconst (v := 0) hx hb dX12_image_55 (by decide) ?_
          refine W.widen (k := 0) (n := 0) (by decide) (by decide) ?_
          exact ch_iret hC hr hk hS dX12_image_56 () (Or.inl ⟨(vp_in_nI (by decide) (by decide)), rfl⟩) (hP.sub [] rfl) (hD.sub [] (by decide) rfl)
        · have hlt : i < 262 := (lt_nI (by decide) hi (by decide) c9)
          refine lv_aload_n hx hb dX12_image_24 rfl (lv_at hl 1 rfl) ?_
          refine va_get (D := D) (ci := 11) (v := .ref (y 2)) (C := RX12) (T := TX12) (N := 53) hx hb hts in_X12 hown hE.1 hP 0 rfl rfl 2 (by decide) (hts _ w_400) (fun _ h9 => h9) rfl dX12_image_25 ?_
          refine lv_sipush (v := 262) hx hb dX12_image_28 (by decide) ?_
          refine lv_iload_n hx hb dX12_image_31 rfl (lv_at hl 2 rfl) ?_
          refine lv_imul hx hb dX12_image_32 ?_
          refine tc (y := 262) (by decide) ?_
          refine lv_iload_n hx hb dX12_image_33 rfl (lv_at hl 0 rfl) ?_
          refine lv_iadd hx hb dX12_image_34 ?_
          refine tc (y := (nI (262 + i))) (nI_cadd (by decide)) ?_
          refine lv_aload_n hx hb dX12_image_35 rfl (lv_at hl 1 rfl) ?_
          refine va_get (D := D) (ci := 11) (v := .ref (y 1)) (C := RX12) (T := TX12) (N := 53) hx hb hts in_X12 hown hE.1 hP 0 rfl rfl 1 (by decide) (hts _ w_194) (fun _ h9 => h9) rfl dX12_image_36 ?_
          refine lv_iload_n hx hb dX12_image_39 rfl (lv_at hl 0 rfl) ?_
          refine va_iald hx hb hE.1 hP 1 1 rfl rfl (vp_in_nI (by omega) (by decide)) dX12_image_40 ?_
          refine tc (y := 0) rfl ?_
          refine sti0 hx hb hE.1 hP hD hS 2 1 rfl rfl (vp_in_nI (by omega) (by decide)) dX12_image_41 (fun H locs hP hD hS => ?_)
          replace hP : va_P D vwCl [(y 0, .inr (11, [.int 0, .ref (y 1), .ref (y 2), .ref (y 3), .ref (y 4), .int 0, .ref (y 5), .int 0, .int 0, .int 0, .int 0, .int 0, .int 0, .int (-1), .ref (y 6), .int 0, .int 0, .int 0, .int 0, .int 0, .int 0, .ref (y 121), .ref (y 122), .ref (y 123), .ref (y 124), .int 0, .ref (y 126), .ref (y 127), .ref (y 128), .ref (y 129), .ref (y 130), .ref (y 131), .ref (y 132), .ref (y 133), .ref (y 134), .ref (y 135), .ref (y 136), .int 0, .int 0, .int 0, .ref (y 140), .ref (y 141), .ref (y 142), .int 0, .int 0, .ref (y 145), .ref (y 146), .ref (y 147), .int 0, .ref (y 7), .ref (y 8), .ref (y 9), .ref (y 152)])), (y 1, .inl (K 1, 262, .inl (fun _ => 0))), (y 2, .inl (K 1, 786, .inl (fun _ => 0))), (y 3, .inl (K 3, 3, .inl (fun _ => 0)))] H := hP
          replace hD : va_D A [(y 0, .inr (11, [.int 0, .ref (y 1), .ref (y 2), .ref (y 3), .ref (y 4), .int 0, .ref (y 5), .int 0, .int 0, .int 0, .int 0, .int 0, .int 0, .int (-1), .ref (y 6), .int 0, .int 0, .int 0, .int 0, .int 0, .int 0, .ref (y 121), .ref (y 122), .ref (y 123), .ref (y 124), .int 0, .ref (y 126), .ref (y 127), .ref (y 128), .ref (y 129), .ref (y 130), .ref (y 131), .ref (y 132), .ref (y 133), .ref (y 134), .ref (y 135), .ref (y 136), .int 0, .int 0, .int 0, .ref (y 140), .ref (y 141), .ref (y 142), .int 0, .int 0, .ref (y 145), .ref (y 146), .ref (y 147), .int 0, .ref (y 7), .ref (y 8), .ref (y 9), .ref (y 152)])), (y 1, .inl (K 1, 262, .inl (fun _ => 0))), (y 2, .inl (K 1, 786, .inl (fun _ => 0))), (y 3, .inl (K 3, 3, .inl (fun _ => 0)))] := hD
          refine lv_iinc (v := (nI (i + 1))) (lv' := [(2, .int (nI (i + 1))), (0, .ref (y 0)), (1, .int (nI 1))]) hx hb dX12_image_42 hl (k := 0) rfl (nI_1 _) (by decide) rfl (fun ls hl => ?_)
          refine lv_goto (tgt := 17) hx hb dX12_image_45 (by decide) ?_
          exact ih (i := i + 1) (H := H) (locs := locs) (ls := ls) (hi := hlt) (hn := by omega) (hP := hP) (hS := hS) (hl := lv_sub hl [0, 1, 2] rfl)
    · refine lv_iconst (v := 0) hx hb dX12_image_15 (by decide) ?_
      refine lv_istore_n (lv' := [(2, .int 0), (0, .ref (y 0)), (1, .int (nI 2))]) hx hb dX12_image_16 rfl hl (by decide) rfl (fun ls hl => ?_)
      obtain ⟨i, hi0⟩ : ∃ i : Nat, i = 0 := ⟨0, rfl⟩
      replace hl : lv_has ls 3 [(2, .int (nI i)), (0, .ref (y 0)), (1, .int (nI 2))] := by subst hi0; rw [nI_0]; exact hl
      have hi : i ≤ 262 := by omega
      obtain ⟨n, hn⟩ : ∃ n : Nat, 262 < i + n := ⟨262 + 1, by omega⟩
      clear hi0
      induction n generalizing i H locs ls with
      | zero => exact absurd hn (by omega)
      | succ n ih =>
        refine lv_iload_n hx hb dX12_image_17 rfl (lv_at hl 0 rfl) ?_
        refine lv_sipush (v := 262) hx hb dX12_image_18 (by decide) ?_
        refine lv_icmp_ge (tgt := 48) hx hb dX12_image_21 (by decide) (fun c9 => ?_) (fun c9 => ?_)
        · refine lv_aload_n hx hb dX12_image_48 rfl (lv_at hl 1 rfl) ?_
          refine va_get (D := D) (ci := 11) (v := .ref (y 3)) (C := RX12) (T := TX12) (N := 53) hx hb hts in_X12 hown hE.1 hP 0 rfl rfl 3 (by decide) (hts _ w_241) (fun _ h9 => h9) rfl dX12_image_49 ?_
          refine lv_iload_n hx hb dX12_image_52 rfl (lv_at hl 2 rfl) ?_
          refine lv_iconst (v := 1) hx hb dX12_image_53 (by decide) ?_
          refine stz hx hb hE.1 hP hD hS 3 3 rfl rfl (in_c (by decide)) dX12_image_54 (fun g396 H locs hP hD hS => ?_)
          replace hP : va_P D vwCl [(y 0, .inr (11, [.int 0, .ref (y 1), .ref (y 2), .ref (y 3), .ref (y 4), .int 0, .ref (y 5), .int 0, .int 0, .int 0, .int 0, .int 0, .int 0, .int (-1), .ref (y 6), .int 0, .int 0, .int 0, .int 0, .int 0, .int 0, .ref (y 121), .ref (y 122), .ref (y 123), .ref (y 124), .int 0, .ref (y 126), .ref (y 127), .ref (y 128), .ref (y 129), .ref (y 130), .ref (y 131), .ref (y 132), .ref (y 133), .ref (y 134), .ref (y 135), .ref (y 136), .int 0, .int 0, .int 0, .ref (y 140), .ref (y 141), .ref (y 142), .int 0, .int 0, .ref (y 145), .ref (y 146), .ref (y 147), .int 0, .ref (y 7), .ref (y 8), .ref (y 9), .ref (y 152)])), (y 1, .inl (K 1, 262, .inl (fun _ => 0))), (y 2, .inl (K 1, 786, .inl (fun _ => 0))), (y 3, .inl (K 3, 3, .inl g396))] H := hP
          replace hD : va_D A [(y 0, .inr (11, [.int 0, .ref (y 1), .ref (y 2), .ref (y 3), .ref (y 4), .int 0, .ref (y 5), .int 0, .int 0, .int 0, .int 0, .int 0, .int 0, .int (-1), .ref (y 6), .int 0, .int 0, .int 0, .int 0, .int 0, .int 0, .ref (y 121), .ref (y 122), .ref (y 123), .ref (y 124), .int 0, .ref (y 126), .ref (y 127), .ref (y 128), .ref (y 129), .ref (y 130), .ref (y 131), .ref (y 132), .ref (y 133), .ref (y 134), .ref (y 135), .ref (y 136), .int 0, .int 0, .int 0, .ref (y 140), .ref (y 141), .ref (y 142), .int 0, .int 0, .ref (y 145), .ref (y 146), .ref (y 147), .int 0, .ref (y 7), .ref (y 8), .ref (y 9), .ref (y 152)])), (y 1, .inl (K 1, 262, .inl (fun _ => 0))), (y 2, .inl (K 1, 786, .inl (fun _ => 0))), (y 3, .inl (K 3, 3, .inl g396))] := hD
          refine lv_iconst (v := 0) hx hb dX12_image_55 (by decide) ?_
          refine W.widen (k := 0) (n := 0) (by decide) (by decide) ?_
          exact ch_iret hC hr hk hS dX12_image_56 () (Or.inl ⟨(vp_in_nI (by decide) (by decide)), rfl⟩) (hP.sub [] rfl) (hD.sub [] (by decide) rfl)
        · have hlt : i < 262 := (lt_nI (by decide) hi (by decide) c9)
          refine lv_aload_n hx hb dX12_image_24 rfl (lv_at hl 1 rfl) ?_
          refine va_get (D := D) (ci := 11) (v := .ref (y 2)) (C := RX12) (T := TX12) (N := 53) hx hb hts in_X12 hown hE.1 hP 0 rfl rfl 2 (by decide) (hts _ w_400) (fun _ h9 => h9) rfl dX12_image_25 ?_
          refine lv_sipush (v := 262) hx hb dX12_image_28 (by decide) ?_
          refine lv_iload_n hx hb dX12_image_31 rfl (lv_at hl 2 rfl) ?_
          refine lv_imul hx hb dX12_image_32 ?_
          refine tc (y := 524) (by decide) ?_
          refine lv_iload_n hx hb dX12_image_33 rfl (lv_at hl 0 rfl) ?_
          refine lv_iadd hx hb dX12_image_34 ?_
          refine tc (y := (nI (524 + i))) (nI_cadd (by decide)) ?_
          refine lv_aload_n hx hb dX12_image_35 rfl (lv_at hl 1 rfl) ?_
          refine va_get (D := D) (ci := 11) (v := .ref (y 1)) (C := RX12) (T := TX12) (N := 53) hx hb hts in_X12 hown hE.1 hP 0 rfl rfl 1 (by decide) (hts _ w_194) (fun _ h9 => h9) rfl dX12_image_36 ?_
          refine lv_iload_n hx hb dX12_image_39 rfl (lv_at hl 0 rfl) ?_
          refine va_iald hx hb hE.1 hP 1 1 rfl rfl (vp_in_nI (by omega) (by decide)) dX12_image_40 ?_
          refine tc (y := 0) rfl ?_
          refine sti0 hx hb hE.1 hP hD hS 2 1 rfl rfl (vp_in_nI (by omega) (by decide)) dX12_image_41 (fun H locs hP hD hS => ?_)
          replace hP : va_P D vwCl [(y 0, .inr (11, [.int 0, .ref (y 1), .ref (y 2), .ref (y 3), .ref (y 4), .int 0, .ref (y 5), .int 0, .int 0, .int 0, .int 0, .int 0, .int 0, .int (-1), .ref (y 6), .int 0, .int 0, .int 0, .int 0, .int 0, .int 0, .ref (y 121), .ref (y 122), .ref (y 123), .ref (y 124), .int 0, .ref (y 126), .ref (y 127), .ref (y 128), .ref (y 129), .ref (y 130), .ref (y 131), .ref (y 132), .ref (y 133), .ref (y 134), .ref (y 135), .ref (y 136), .int 0, .int 0, .int 0, .ref (y 140), .ref (y 141), .ref (y 142), .int 0, .int 0, .ref (y 145), .ref (y 146), .ref (y 147), .int 0, .ref (y 7), .ref (y 8), .ref (y 9), .ref (y 152)])), (y 1, .inl (K 1, 262, .inl (fun _ => 0))), (y 2, .inl (K 1, 786, .inl (fun _ => 0))), (y 3, .inl (K 3, 3, .inl (fun _ => 0)))] H := hP
          replace hD : va_D A [(y 0, .inr (11, [.int 0, .ref (y 1), .ref (y 2), .ref (y 3), .ref (y 4), .int 0, .ref (y 5), .int 0, .int 0, .int 0, .int 0, .int 0, .int 0, .int (-1), .ref (y 6), .int 0, .int 0, .int 0, .int 0, .int 0, .int 0, .ref (y 121), .ref (y 122), .ref (y 123), .ref (y 124), .int 0, .ref (y 126), .ref (y 127), .ref (y 128), .ref (y 129), .ref (y 130), .ref (y 131), .ref (y 132), .ref (y 133), .ref (y 134), .ref (y 135), .ref (y 136), .int 0, .int 0, .int 0, .ref (y 140), .ref (y 141), .ref (y 142), .int 0, .int 0, .ref (y 145), .ref (y 146), .ref (y 147), .int 0, .ref (y 7), .ref (y 8), .ref (y 9), .ref (y 152)])), (y 1, .inl (K 1, 262, .inl (fun _ => 0))), (y 2, .inl (K 1, 786, .inl (fun _ => 0))), (y 3, .inl (K 3, 3, .inl (fun _ => 0)))] := hD
          refine lv_iinc (v := (nI (i + 1))) (lv' := [(2, .int (nI (i + 1))), (0, .ref (y 0)), (1, .int (nI 2))]) hx hb dX12_image_42 hl (k := 0) rfl (nI_1 _) (by decide) rfl (fun ls hl => ?_)
          refine lv_goto (tgt := 17) hx hb dX12_image_45 (by decide) ?_
          exact ih (i := i + 1) (H := H) (locs := locs) (ls := ls) (hi := hlt) (hn := by omega) (hP := hP) (hS := hS) (hl := lv_sub hl [0, 1, 2] rfl)
  · refine lv_if_ne (tgt := 15) hx hb dX12_image_9 (by decide) (fun h => absurd h (by decide)) (fun _ => ?_)
    refine lv_bipush (v := (-2)) hx hb dX12_image_12 (by decide) ?_
    refine W.widen (k := 0) (n := 0) (by decide) (by decide) ?_
    exact ch_iret hC hr hk hS dX12_image_14 () (Or.inr ⟨(in64 (by decide) h393), rfl⟩) (hP.sub [] rfl) (hD.sub [] (by decide) rfl)
set_option maxRecDepth 40000 in
set_option maxHeartbeats 4000000 in
theorem c_X12_row (l : Launch) (D : va_G) (K : Nat → ClassId) (y : Nat → Nat) (fm : Nat → Int32) (p0 p1 p2 : Int32) : Ci (S := Unit) l D K yX12_row cX12_row 5 (some .int) 2 45 0 0 [.ref (y 0), .int p0, .int p1, .int p2] [(y 0, .inr (11, [.int 0, .ref (y 1), .ref (y 2), .ref (y 3), .ref (y 4), .int 0, .ref (y 5), .int 0, .int 0, .int 0, .int 0, .int 0, .int 0, .int (-1), .ref (y 6), .int 0, .int 0, .int 0, .int 0, .int 0, .int 0, .ref (y 121), .ref (y 122), .ref (y 123), .ref (y 124), .int 0, .ref (y 126), .ref (y 127), .ref (y 128), .ref (y 129), .ref (y 130), .ref (y 131), .ref (y 132), .ref (y 133), .ref (y 134), .ref (y 135), .ref (y 136), .int 0, .int 0, .int 0, .ref (y 140), .ref (y 141), .ref (y 142), .int 0, .int 0, .ref (y 145), .ref (y 146), .ref (y 147), .int 0, .ref (y 7), .ref (y 8), .ref (y 9), .ref (y 152)])), (y 7, .inl (K 1, 4, .inl fm)), (y 8, .inl (K 1, 4, .inl (fun _ => 0))), (y 9, .inl (K 2, 240, .inr (.inl (fun _ => 0))))] (fun r _ => rowP p0 p1 p2 r) (fun _ => []) := by
  intro sz
  refine ch_of (Qc := fun A => va_Qi (S := Unit) (fun r _ => rowP p0 p1 p2 r) (chB D A (fun _ => [])) A) (by decide) (Nat.le_of_ble_eq_true rfl) ?_
  intro p e s m below meth c A hC hr hk hin hE hD hA H locs hP hS ls hl
  replace hC : CallFix p m c cX12_row 5 s [.ref (y 0), .int p0, .int p1, .int p2].toArray wl RX12 := hC
  have hx := hC.1
  have hb := hC.2.1
  have hml := hC.2.2.1
  have hown := hC.2.2.2.1
  have hts := hC.2.2.2.2
  replace hl : lv_has ls 5 [(0, .ref (y 0)), (1, .int p0), (2, .int p1), (3, .int p2)] := hl
  refine lv_iload_n hx hb dX12_row_0 rfl (lv_at hl 1 rfl) ?_
  refine ro_S (As := [.int p0]) (rest := []) hC hE kS_X12_334 (c_X12_isSlot l D K p0) (hP.sub (ws' := []) [] rfl) rfl hl.1 rfl (Nat.le_of_ble_eq_true rfl) (by decide) (by decide) dX12_row_1 (fun r hq => ?_)
  rcases hq with ⟨h397, rfl⟩ | ⟨h398, rfl⟩
  · refine lv_if_eq (tgt := 25) hx hb dX12_row_4 (by decide) (fun h => absurd h (by decide)) (fun _ => ?_)
    refine lv_iload_n hx hb dX12_row_7 rfl (lv_at hl 2 rfl) ?_
    refine lv_i2l (v := p1.toInt64) hx hb dX12_row_8 rfl ?_
    refine lv_lconst (v := 0) hx hb dX12_row_9 (by decide) ?_
    refine lv_ldc2 (v := 3) hx hb hown (hts _ w_203) dX12_row_10 ?_
    refine ro_S (As := [.long p1.toInt64, .long 0, .long 3]) (rest := []) hC hE kS_X12_115 (c_X12_in l D K p1.toInt64 0 3) (hP.sub (ws' := []) [] rfl) rfl hl.1 rfl (Nat.le_of_ble_eq_true rfl) (by decide) (by decide) dX12_row_13 (fun r hq => ?_)
    rcases hq with ⟨h399, rfl⟩ | ⟨h400, rfl⟩
    · refine lv_if_eq (tgt := 25) hx hb dX12_row_16 (by decide) (fun h => absurd h (by decide)) (fun _ => ?_)
      refine lv_iload_n hx hb dX12_row_19 rfl (lv_at hl 3 rfl) ?_
      refine lv_bipush (v := 60) hx hb dX12_row_20 (by decide) ?_
      refine lv_icmp_le (tgt := 28) hx hb dX12_row_22 (by decide) (fun c401 => ?_) (fun c401 => ?_)
      · refine lv_iload_n hx hb dX12_row_28 rfl (lv_at hl 3 rfl) ?_
        refine lv_if_ge (tgt := 35) hx hb dX12_row_29 (by decide) (fun c402 => ?_) (fun c402 => ?_)
        · obtain ⟨j, hj, rfl⟩ := vp_in_of (n := 4) h397 (by decide)
          rcases (show j = 0 ∨ j = 1 ∨ j = 2 ∨ j = 3 by omega) with rfl | rfl | rfl | rfl
          · refine lv_aload_n hx hb dX12_row_35 rfl (lv_at hl 0 rfl) ?_
            refine va_get (D := D) (ci := 11) (v := .ref (y 7)) (C := RX12) (T := TX12) (N := 53) hx hb hts in_X12 hown hE.1 hP 0 rfl rfl 49 (by decide) (hts _ w_239) (fun _ h9 => h9) rfl dX12_row_36 ?_
            refine lv_iload_n hx hb dX12_row_39 rfl (lv_at hl 1 rfl) ?_
            refine lv_iload_n hx hb dX12_row_40 rfl (lv_at hl 3 rfl) ?_
            refine sti hx hb hE.1 hP hD hS 1 1 rfl rfl (in_c (by decide)) dX12_row_41 (fun g403 H locs hP hD hS => ?_)
            replace hP : va_P D vwCl [(y 0, .inr (11, [.int 0, .ref (y 1), .ref (y 2), .ref (y 3), .ref (y 4), .int 0, .ref (y 5), .int 0, .int 0, .int 0, .int 0, .int 0, .int 0, .int (-1), .ref (y 6), .int 0, .int 0, .int 0, .int 0, .int 0, .int 0, .ref (y 121), .ref (y 122), .ref (y 123), .ref (y 124), .int 0, .ref (y 126), .ref (y 127), .ref (y 128), .ref (y 129), .ref (y 130), .ref (y 131), .ref (y 132), .ref (y 133), .ref (y 134), .ref (y 135), .ref (y 136), .int 0, .int 0, .int 0, .ref (y 140), .ref (y 141), .ref (y 142), .int 0, .int 0, .ref (y 145), .ref (y 146), .ref (y 147), .int 0, .ref (y 7), .ref (y 8), .ref (y 9), .ref (y 152)])), (y 7, .inl (K 1, 4, .inl g403)), (y 8, .inl (K 1, 4, .inl (fun _ => 0))), (y 9, .inl (K 2, 240, .inr (.inl (fun _ => 0))))] H := hP
            replace hD : va_D A [(y 0, .inr (11, [.int 0, .ref (y 1), .ref (y 2), .ref (y 3), .ref (y 4), .int 0, .ref (y 5), .int 0, .int 0, .int 0, .int 0, .int 0, .int 0, .int (-1), .ref (y 6), .int 0, .int 0, .int 0, .int 0, .int 0, .int 0, .ref (y 121), .ref (y 122), .ref (y 123), .ref (y 124), .int 0, .ref (y 126), .ref (y 127), .ref (y 128), .ref (y 129), .ref (y 130), .ref (y 131), .ref (y 132), .ref (y 133), .ref (y 134), .ref (y 135), .ref (y 136), .int 0, .int 0, .int 0, .ref (y 140), .ref (y 141), .ref (y 142), .int 0, .int 0, .ref (y 145), .ref (y 146), .ref (y 147), .int 0, .ref (y 7), .ref (y 8), .ref (y 9), .ref (y 152)])), (y 7, .inl (K 1, 4, .inl g403)), (y 8, .inl (K 1, 4, .inl (fun _ => 0))), (y 9, .inl (K 2, 240, .inr (.inl (fun _ => 0))))] := hD
            refine lv_aload_n hx hb dX12_row_42 rfl (lv_at hl 0 rfl) ?_
            refine va_get (D := D) (ci := 11) (v := .ref (y 8)) (C := RX12) (T := TX12) (N := 53) hx hb hts in_X12 hown hE.1 hP 0 rfl rfl 50 (by decide) (hts _ w_426) (fun _ h9 => h9) rfl dX12_row_43 ?_
            refine lv_iload_n hx hb dX12_row_46 rfl (lv_at hl 1 rfl) ?_
            refine lv_iload_n hx hb dX12_row_47 rfl (lv_at hl 2 rfl) ?_
            refine sti hx hb hE.1 hP hD hS 2 1 rfl rfl (in_c (by decide)) dX12_row_48 (fun g404 H locs hP hD hS => ?_)
            replace hP : va_P D vwCl [(y 0, .inr (11, [.int 0, .ref (y 1), .ref (y 2), .ref (y 3), .ref (y 4), .int 0, .ref (y 5), .int 0, .int 0, .int 0, .int 0, .int 0, .int 0, .int (-1), .ref (y 6), .int 0, .int 0, .int 0, .int 0, .int 0, .int 0, .ref (y 121), .ref (y 122), .ref (y 123), .ref (y 124), .int 0, .ref (y 126), .ref (y 127), .ref (y 128), .ref (y 129), .ref (y 130), .ref (y 131), .ref (y 132), .ref (y 133), .ref (y 134), .ref (y 135), .ref (y 136), .int 0, .int 0, .int 0, .ref (y 140), .ref (y 141), .ref (y 142), .int 0, .int 0, .ref (y 145), .ref (y 146), .ref (y 147), .int 0, .ref (y 7), .ref (y 8), .ref (y 9), .ref (y 152)])), (y 7, .inl (K 1, 4, .inl g403)), (y 8, .inl (K 1, 4, .inl g404)), (y 9, .inl (K 2, 240, .inr (.inl (fun _ => 0))))] H := hP
            replace hD : va_D A [(y 0, .inr (11, [.int 0, .ref (y 1), .ref (y 2), .ref (y 3), .ref (y 4), .int 0, .ref (y 5), .int 0, .int 0, .int 0, .int 0, .int 0, .int 0, .int (-1), .ref (y 6), .int 0, .int 0, .int 0, .int 0, .int 0, .int 0, .ref (y 121), .ref (y 122), .ref (y 123), .ref (y 124), .int 0, .ref (y 126), .ref (y 127), .ref (y 128), .ref (y 129), .ref (y 130), .ref (y 131), .ref (y 132), .ref (y 133), .ref (y 134), .ref (y 135), .ref (y 136), .int 0, .int 0, .int 0, .ref (y 140), .ref (y 141), .ref (y 142), .int 0, .int 0, .ref (y 145), .ref (y 146), .ref (y 147), .int 0, .ref (y 7), .ref (y 8), .ref (y 9), .ref (y 152)])), (y 7, .inl (K 1, 4, .inl g403)), (y 8, .inl (K 1, 4, .inl g404)), (y 9, .inl (K 2, 240, .inr (.inl (fun _ => 0))))] := hD
            refine lv_iconst (v := 0) hx hb dX12_row_49 (by decide) ?_
            refine lv_istore (lv' := [(4, .int 0), (0, .ref (y 0)), (1, .int (nI 0)), (2, .int p1), (3, .int p2)]) hx hb dX12_row_50 hl (by decide) rfl (fun ls hl => ?_)
            obtain ⟨i, hi0⟩ : ∃ i : Nat, i = 0 := ⟨0, rfl⟩
            replace hl : lv_has ls 5 [(4, .int (nI i)), (0, .ref (y 0)), (1, .int (nI 0)), (2, .int p1), (3, .int p2)] := by subst hi0; rw [nI_0]; exact hl
            have hi : i ≤ 60 := by omega
            obtain ⟨n, hn⟩ : ∃ n : Nat, 60 < i + n := ⟨60 + 1, by omega⟩
            clear hi0
            induction n generalizing i H locs ls with
            | zero => exact absurd hn (by omega)
            | succ n ih =>
              refine lv_iload hx hb dX12_row_52 (lv_at hl 0 rfl) ?_
              refine lv_bipush (v := 60) hx hb dX12_row_54 (by decide) ?_
              refine lv_icmp_ge (tgt := 78) hx hb dX12_row_56 (by decide) (fun c9 => ?_) (fun c9 => ?_)
              · refine lv_iconst (v := 0) hx hb dX12_row_78 (by decide) ?_
                refine W.widen (k := 0) (n := 0) (by decide) (by decide) ?_
                exact ch_iret hC hr hk hS dX12_row_79 () (Or.inr (Or.inr ⟨⟨(vp_in_nI (by decide) (by decide)), (iy64 (by decide) h399), c401⟩, nlt_of_ge c402, rfl⟩)) (hP.sub [] rfl) (hD.sub [] (by decide) rfl)
              · have hlt : i < 60 := (lt_nI (by decide) hi (by decide) c9)
                refine lv_aload_n hx hb dX12_row_59 rfl (lv_at hl 1 rfl) ?_
                refine va_get (D := D) (ci := 11) (v := .ref (y 9)) (C := RX12) (T := TX12) (N := 53) hx hb hts in_X12 hown hE.1 hP 0 rfl rfl 51 (by decide) (hts _ w_427) (fun _ h9 => h9) rfl dX12_row_60 ?_
                refine lv_bipush (v := 60) hx hb dX12_row_63 (by decide) ?_
                refine lv_iload_n hx hb dX12_row_65 rfl (lv_at hl 2 rfl) ?_
                refine lv_imul hx hb dX12_row_66 ?_
                refine tc (y := 0) (by decide) ?_
                refine lv_iload hx hb dX12_row_67 (lv_at hl 0 rfl) ?_
                refine lv_iadd hx hb dX12_row_69 ?_
                refine tc (y := (nI (0 + i))) (nI_cadd (by decide)) ?_
                refine lv_lconst (v := 0) hx hb dX12_row_70 (by decide) ?_
                refine stl0 hx hb hE.1 hP hD hS 3 2 rfl rfl (vp_in_nI (by omega) (by decide)) dX12_row_71 (fun H locs hP hD hS => ?_)
                replace hP : va_P D vwCl [(y 0, .inr (11, [.int 0, .ref (y 1), .ref (y 2), .ref (y 3), .ref (y 4), .int 0, .ref (y 5), .int 0, .int 0, .int 0, .int 0, .int 0, .int 0, .int (-1), .ref (y 6), .int 0, .int 0, .int 0, .int 0, .int 0, .int 0, .ref (y 121), .ref (y 122), .ref (y 123), .ref (y 124), .int 0, .ref (y 126), .ref (y 127), .ref (y 128), .ref (y 129), .ref (y 130), .ref (y 131), .ref (y 132), .ref (y 133), .ref (y 134), .ref (y 135), .ref (y 136), .int 0, .int 0, .int 0, .ref (y 140), .ref (y 141), .ref (y 142), .int 0, .int 0, .ref (y 145), .ref (y 146), .ref (y 147), .int 0, .ref (y 7), .ref (y 8), .ref (y 9), .ref (y 152)])), (y 7, .inl (K 1, 4, .inl g403)), (y 8, .inl (K 1, 4, .inl g404)), (y 9, .inl (K 2, 240, .inr (.inl (fun _ => 0))))] H := hP
                replace hD : va_D A [(y 0, .inr (11, [.int 0, .ref (y 1), .ref (y 2), .ref (y 3), .ref (y 4), .int 0, .ref (y 5), .int 0, .int 0, .int 0, .int 0, .int 0, .int 0, .int (-1), .ref (y 6), .int 0, .int 0, .int 0, .int 0, .int 0, .int 0, .ref (y 121), .ref (y 122), .ref (y 123), .ref (y 124), .int 0, .ref (y 126), .ref (y 127), .ref (y 128), .ref (y 129), .ref (y 130), .ref (y 131), .ref (y 132), .ref (y 133), .ref (y 134), .ref (y 135), .ref (y 136), .int 0, .int 0, .int 0, .ref (y 140), .ref (y 141), .ref (y 142), .int 0, .int 0, .ref (y 145), .ref (y 146), .ref (y 147), .int 0, .ref (y 7), .ref (y 8), .ref (y 9), .ref (y 152)])), (y 7, .inl (K 1, 4, .inl g403)), (y 8, .inl (K 1, 4, .inl g404)), (y 9, .inl (K 2, 240, .inr (.inl (fun _ => 0))))] := hD
                refine lv_iinc (v := (nI (i + 1))) (lv' := [(4, .int (nI (i + 1))), (0, .ref (y 0)), (1, .int (nI 0)), (2, .int p1), (3, .int p2)]) hx hb dX12_row_72 hl (k := 0) rfl (nI_1 _) (by decide) rfl (fun ls hl => ?_)
                refine lv_goto (tgt := 52) hx hb dX12_row_75 (by decide) ?_
                exact ih (i := i + 1) (H := H) (locs := locs) (ls := ls) (hi := hlt) (hn := by omega) (hP := hP) (hS := hS) (hl := lv_sub hl [0, 1, 2, 3, 4] rfl)
          · refine lv_aload_n hx hb dX12_row_35 rfl (lv_at hl 0 rfl) ?_
            refine va_get (D := D) (ci := 11) (v := .ref (y 7)) (C := RX12) (T := TX12) (N := 53) hx hb hts in_X12 hown hE.1 hP 0 rfl rfl 49 (by decide) (hts _ w_239) (fun _ h9 => h9) rfl dX12_row_36 ?_
            refine lv_iload_n hx hb dX12_row_39 rfl (lv_at hl 1 rfl) ?_
            refine lv_iload_n hx hb dX12_row_40 rfl (lv_at hl 3 rfl) ?_
            refine sti hx hb hE.1 hP hD hS 1 1 rfl rfl (in_c (by decide)) dX12_row_41 (fun g405 H locs hP hD hS => ?_)
            replace hP : va_P D vwCl [(y 0, .inr (11, [.int 0, .ref (y 1), .ref (y 2), .ref (y 3), .ref (y 4), .int 0, .ref (y 5), .int 0, .int 0, .int 0, .int 0, .int 0, .int 0, .int (-1), .ref (y 6), .int 0, .int 0, .int 0, .int 0, .int 0, .int 0, .ref (y 121), .ref (y 122), .ref (y 123), .ref (y 124), .int 0, .ref (y 126), .ref (y 127), .ref (y 128), .ref (y 129), .ref (y 130), .ref (y 131), .ref (y 132), .ref (y 133), .ref (y 134), .ref (y 135), .ref (y 136), .int 0, .int 0, .int 0, .ref (y 140), .ref (y 141), .ref (y 142), .int 0, .int 0, .ref (y 145), .ref (y 146), .ref (y 147), .int 0, .ref (y 7), .ref (y 8), .ref (y 9), .ref (y 152)])), (y 7, .inl (K 1, 4, .inl g405)), (y 8, .inl (K 1, 4, .inl (fun _ => 0))), (y 9, .inl (K 2, 240, .inr (.inl (fun _ => 0))))] H := hP
            replace hD : va_D A [(y 0, .inr (11, [.int 0, .ref (y 1), .ref (y 2), .ref (y 3), .ref (y 4), .int 0, .ref (y 5), .int 0, .int 0, .int 0, .int 0, .int 0, .int 0, .int (-1), .ref (y 6), .int 0, .int 0, .int 0, .int 0, .int 0, .int 0, .ref (y 121), .ref (y 122), .ref (y 123), .ref (y 124), .int 0, .ref (y 126), .ref (y 127), .ref (y 128), .ref (y 129), .ref (y 130), .ref (y 131), .ref (y 132), .ref (y 133), .ref (y 134), .ref (y 135), .ref (y 136), .int 0, .int 0, .int 0, .ref (y 140), .ref (y 141), .ref (y 142), .int 0, .int 0, .ref (y 145), .ref (y 146), .ref (y 147), .int 0, .ref (y 7), .ref (y 8), .ref (y 9), .ref (y 152)])), (y 7, .inl (K 1, 4, .inl g405)), (y 8, .inl (K 1, 4, .inl (fun _ => 0))), (y 9, .inl (K 2, 240, .inr (.inl (fun _ => 0))))] := hD
            refine lv_aload_n hx hb dX12_row_42 rfl (lv_at hl 0 rfl) ?_
            refine va_get (D := D) (ci := 11) (v := .ref (y 8)) (C := RX12) (T := TX12) (N := 53) hx hb hts in_X12 hown hE.1 hP 0 rfl rfl 50 (by decide) (hts _ w_426) (fun _ h9 => h9) rfl dX12_row_43 ?_
            refine lv_iload_n hx hb dX12_row_46 rfl (lv_at hl 1 rfl) ?_
            refine lv_iload_n hx hb dX12_row_47 rfl (lv_at hl 2 rfl) ?_
            refine sti hx hb hE.1 hP hD hS 2 1 rfl rfl (in_c (by decide)) dX12_row_48 (fun g406 H locs hP hD hS => ?_)
            replace hP : va_P D vwCl [(y 0, .inr (11, [.int 0, .ref (y 1), .ref (y 2), .ref (y 3), .ref (y 4), .int 0, .ref (y 5), .int 0, .int 0, .int 0, .int 0, .int 0, .int 0, .int (-1), .ref (y 6), .int 0, .int 0, .int 0, .int 0, .int 0, .int 0, .ref (y 121), .ref (y 122), .ref (y 123), .ref (y 124), .int 0, .ref (y 126), .ref (y 127), .ref (y 128), .ref (y 129), .ref (y 130), .ref (y 131), .ref (y 132), .ref (y 133), .ref (y 134), .ref (y 135), .ref (y 136), .int 0, .int 0, .int 0, .ref (y 140), .ref (y 141), .ref (y 142), .int 0, .int 0, .ref (y 145), .ref (y 146), .ref (y 147), .int 0, .ref (y 7), .ref (y 8), .ref (y 9), .ref (y 152)])), (y 7, .inl (K 1, 4, .inl g405)), (y 8, .inl (K 1, 4, .inl g406)), (y 9, .inl (K 2, 240, .inr (.inl (fun _ => 0))))] H := hP
            replace hD : va_D A [(y 0, .inr (11, [.int 0, .ref (y 1), .ref (y 2), .ref (y 3), .ref (y 4), .int 0, .ref (y 5), .int 0, .int 0, .int 0, .int 0, .int 0, .int 0, .int (-1), .ref (y 6), .int 0, .int 0, .int 0, .int 0, .int 0, .int 0, .ref (y 121), .ref (y 122), .ref (y 123), .ref (y 124), .int 0, .ref (y 126), .ref (y 127), .ref (y 128), .ref (y 129), .ref (y 130), .ref (y 131), .ref (y 132), .ref (y 133), .ref (y 134), .ref (y 135), .ref (y 136), .int 0, .int 0, .int 0, .ref (y 140), .ref (y 141), .ref (y 142), .int 0, .int 0, .ref (y 145), .ref (y 146), .ref (y 147), .int 0, .ref (y 7), .ref (y 8), .ref (y 9), .ref (y 152)])), (y 7, .inl (K 1, 4, .inl g405)), (y 8, .inl (K 1, 4, .inl g406)), (y 9, .inl (K 2, 240, .inr (.inl (fun _ => 0))))] := hD
            refine lv_iconst (v := 0) hx hb dX12_row_49 (by decide) ?_
            refine lv_istore (lv' := [(4, .int 0), (0, .ref (y 0)), (1, .int (nI 1)), (2, .int p1), (3, .int p2)]) hx hb dX12_row_50 hl (by decide) rfl (fun ls hl => ?_)
            obtain ⟨i, hi0⟩ : ∃ i : Nat, i = 0 := ⟨0, rfl⟩
            replace hl : lv_has ls 5 [(4, .int (nI i)), (0, .ref (y 0)), (1, .int (nI 1)), (2, .int p1), (3, .int p2)] := by subst hi0; rw [nI_0]; exact hl
            have hi : i ≤ 60 := by omega
            obtain ⟨n, hn⟩ : ∃ n : Nat, 60 < i + n := ⟨60 + 1, by omega⟩
            clear hi0
            induction n generalizing i H locs ls with
            | zero => exact absurd hn (by omega)
            | succ n ih =>
              refine lv_iload hx hb dX12_row_52 (lv_at hl 0 rfl) ?_
              refine lv_bipush (v := 60) hx hb dX12_row_54 (by decide) ?_
              refine lv_icmp_ge (tgt := 78) hx hb dX12_row_56 (by decide) (fun c9 => ?_) (fun c9 => ?_)
              · refine lv_iconst (v := 0) hx hb dX12_row_78 (by decide) ?_
                refine W.widen (k := 0) (n := 0) (by decide) (by decide) ?_
                exact ch_iret hC hr hk hS dX12_row_79 () (Or.inr (Or.inr ⟨⟨(vp_in_nI (by decide) (by decide)), (iy64 (by decide) h399), c401⟩, nlt_of_ge c402, rfl⟩)) (hP.sub [] rfl) (hD.sub [] (by decide) rfl)
              · have hlt : i < 60 := (lt_nI (by decide) hi (by decide) c9)
                refine lv_aload_n hx hb dX12_row_59 rfl (lv_at hl 1 rfl) ?_
                refine va_get (D := D) (ci := 11) (v := .ref (y 9)) (C := RX12) (T := TX12) (N := 53) hx hb hts in_X12 hown hE.1 hP 0 rfl rfl 51 (by decide) (hts _ w_427) (fun _ h9 => h9) rfl dX12_row_60 ?_
                refine lv_bipush (v := 60) hx hb dX12_row_63 (by decide) ?_
                refine lv_iload_n hx hb dX12_row_65 rfl (lv_at hl 2 rfl) ?_
                refine lv_imul hx hb dX12_row_66 ?_
                refine tc (y := 60) (by decide) ?_
                refine lv_iload hx hb dX12_row_67 (lv_at hl 0 rfl) ?_
                refine lv_iadd hx hb dX12_row_69 ?_
                refine tc (y := (nI (60 + i))) (nI_cadd (by decide)) ?_
                refine lv_lconst (v := 0) hx hb dX12_row_70 (by decide) ?_
                refine stl0 hx hb hE.1 hP hD hS 3 2 rfl rfl (vp_in_nI (by omega) (by decide)) dX12_row_71 (fun H locs hP hD hS => ?_)
                replace hP : va_P D vwCl [(y 0, .inr (11, [.int 0, .ref (y 1), .ref (y 2), .ref (y 3), .ref (y 4), .int 0, .ref (y 5), .int 0, .int 0, .int 0, .int 0, .int 0, .int 0, .int (-1), .ref (y 6), .int 0, .int 0, .int 0, .int 0, .int 0, .int 0, .ref (y 121), .ref (y 122), .ref (y 123), .ref (y 124), .int 0, .ref (y 126), .ref (y 127), .ref (y 128), .ref (y 129), .ref (y 130), .ref (y 131), .ref (y 132), .ref (y 133), .ref (y 134), .ref (y 135), .ref (y 136), .int 0, .int 0, .int 0, .ref (y 140), .ref (y 141), .ref (y 142), .int 0, .int 0, .ref (y 145), .ref (y 146), .ref (y 147), .int 0, .ref (y 7), .ref (y 8), .ref (y 9), .ref (y 152)])), (y 7, .inl (K 1, 4, .inl g405)), (y 8, .inl (K 1, 4, .inl g406)), (y 9, .inl (K 2, 240, .inr (.inl (fun _ => 0))))] H := hP
                replace hD : va_D A [(y 0, .inr (11, [.int 0, .ref (y 1), .ref (y 2), .ref (y 3), .ref (y 4), .int 0, .ref (y 5), .int 0, .int 0, .int 0, .int 0, .int 0, .int 0, .int (-1), .ref (y 6), .int 0, .int 0, .int 0, .int 0, .int 0, .int 0, .ref (y 121), .ref (y 122), .ref (y 123), .ref (y 124), .int 0, .ref (y 126), .ref (y 127), .ref (y 128), .ref (y 129), .ref (y 130), .ref (y 131), .ref (y 132), .ref (y 133), .ref (y 134), .ref (y 135), .ref (y 136), .int 0, .int 0, .int 0, .ref (y 140), .ref (y 141), .ref (y 142), .int 0, .int 0, .ref (y 145), .ref (y 146), .ref (y 147), .int 0, .ref (y 7), .ref (y 8), .ref (y 9), .ref (y 152)])), (y 7, .inl (K 1, 4, .inl g405)), (y 8, .inl (K 1, 4, .inl g406)), (y 9, .inl (K 2, 240, .inr (.inl (fun _ => 0))))] := hD
                refine lv_iinc (v := (nI (i + 1))) (lv' := [(4, .int (nI (i + 1))), (0, .ref (y 0)), (1, .int (nI 1)), (2, .int p1), (3, .int p2)]) hx hb dX12_row_72 hl (k := 0) rfl (nI_1 _) (by decide) rfl (fun ls hl => ?_)
                refine lv_goto (tgt := 52) hx hb dX12_row_75 (by decide) ?_
                exact ih (i := i + 1) (H := H) (locs := locs) (ls := ls) (hi := hlt) (hn := by omega) (hP := hP) (hS := hS) (hl := lv_sub hl [0, 1, 2, 3, 4] rfl)
          · refine lv_aload_n hx hb dX12_row_35 rfl (lv_at hl 0 rfl) ?_
            refine va_get (D := D) (ci := 11) (v := .ref (y 7)) (C := RX12) (T := TX12) (N := 53) hx hb hts in_X12 hown hE.1 hP 0 rfl rfl 49 (by decide) (hts _ w_239) (fun _ h9 => h9) rfl dX12_row_36 ?_
            refine lv_iload_n hx hb dX12_row_39 rfl (lv_at hl 1 rfl) ?_
            refine lv_iload_n hx hb dX12_row_40 rfl (lv_at hl 3 rfl) ?_
            refine sti hx hb hE.1 hP hD hS 1 1 rfl rfl (in_c (by decide)) dX12_row_41 (fun g407 H locs hP hD hS => ?_)
            replace hP : va_P D vwCl [(y 0, .inr (11, [.int 0, .ref (y 1), .ref (y 2), .ref (y 3), .ref (y 4), .int 0, .ref (y 5), .int 0, .int 0, .int 0, .int 0, .int 0, .int 0, .int (-1), .ref (y 6), .int 0, .int 0, .int 0, .int 0, .int 0, .int 0, .ref (y 121), .ref (y 122), .ref (y 123), .ref (y 124), .int 0, .ref (y 126), .ref (y 127), .ref (y 128), .ref (y 129), .ref (y 130), .ref (y 131), .ref (y 132), .ref (y 133), .ref (y 134), .ref (y 135), .ref (y 136), .int 0, .int 0, .int 0, .ref (y 140), .ref (y 141), .ref (y 142), .int 0, .int 0, .ref (y 145), .ref (y 146), .ref (y 147), .int 0, .ref (y 7), .ref (y 8), .ref (y 9), .ref (y 152)])), (y 7, .inl (K 1, 4, .inl g407)), (y 8, .inl (K 1, 4, .inl (fun _ => 0))), (y 9, .inl (K 2, 240, .inr (.inl (fun _ => 0))))] H := hP
            replace hD : va_D A [(y 0, .inr (11, [.int 0, .ref (y 1), .ref (y 2), .ref (y 3), .ref (y 4), .int 0, .ref (y 5), .int 0, .int 0, .int 0, .int 0, .int 0, .int 0, .int (-1), .ref (y 6), .int 0, .int 0, .int 0, .int 0, .int 0, .int 0, .ref (y 121), .ref (y 122), .ref (y 123), .ref (y 124), .int 0, .ref (y 126), .ref (y 127), .ref (y 128), .ref (y 129), .ref (y 130), .ref (y 131), .ref (y 132), .ref (y 133), .ref (y 134), .ref (y 135), .ref (y 136), .int 0, .int 0, .int 0, .ref (y 140), .ref (y 141), .ref (y 142), .int 0, .int 0, .ref (y 145), .ref (y 146), .ref (y 147), .int 0, .ref (y 7), .ref (y 8), .ref (y 9), .ref (y 152)])), (y 7, .inl (K 1, 4, .inl g407)), (y 8, .inl (K 1, 4, .inl (fun _ => 0))), (y 9, .inl (K 2, 240, .inr (.inl (fun _ => 0))))] := hD
            refine lv_aload_n hx hb dX12_row_42 rfl (lv_at hl 0 rfl) ?_
            refine va_get (D := D) (ci := 11) (v := .ref (y 8)) (C := RX12) (T := TX12) (N := 53) hx hb hts in_X12 hown hE.1 hP 0 rfl rfl 50 (by decide) (hts _ w_426) (fun _ h9 => h9) rfl dX12_row_43 ?_
            refine lv_iload_n hx hb dX12_row_46 rfl (lv_at hl 1 rfl) ?_
            refine lv_iload_n hx hb dX12_row_47 rfl (lv_at hl 2 rfl) ?_
            refine sti hx hb hE.1 hP hD hS 2 1 rfl rfl (in_c (by decide)) dX12_row_48 (fun g408 H locs hP hD hS => ?_)
            replace hP : va_P D vwCl [(y 0, .inr (11, [.int 0, .ref (y 1), .ref (y 2), .ref (y 3), .ref (y 4), .int 0, .ref (y 5), .int 0, .int 0, .int 0, .int 0, .int 0, .int 0, .int (-1), .ref (y 6), .int 0, .int 0, .int 0, .int 0, .int 0, .int 0, .ref (y 121), .ref (y 122), .ref (y 123), .ref (y 124), .int 0, .ref (y 126), .ref (y 127), .ref (y 128), .ref (y 129), .ref (y 130), .ref (y 131), .ref (y 132), .ref (y 133), .ref (y 134), .ref (y 135), .ref (y 136), .int 0, .int 0, .int 0, .ref (y 140), .ref (y 141), .ref (y 142), .int 0, .int 0, .ref (y 145), .ref (y 146), .ref (y 147), .int 0, .ref (y 7), .ref (y 8), .ref (y 9), .ref (y 152)])), (y 7, .inl (K 1, 4, .inl g407)), (y 8, .inl (K 1, 4, .inl g408)), (y 9, .inl (K 2, 240, .inr (.inl (fun _ => 0))))] H := hP
            replace hD : va_D A [(y 0, .inr (11, [.int 0, .ref (y 1), .ref (y 2), .ref (y 3), .ref (y 4), .int 0, .ref (y 5), .int 0, .int 0, .int 0, .int 0, .int 0, .int 0, .int (-1), .ref (y 6), .int 0, .int 0, .int 0, .int 0, .int 0, .int 0, .ref (y 121), .ref (y 122), .ref (y 123), .ref (y 124), .int 0, .ref (y 126), .ref (y 127), .ref (y 128), .ref (y 129), .ref (y 130), .ref (y 131), .ref (y 132), .ref (y 133), .ref (y 134), .ref (y 135), .ref (y 136), .int 0, .int 0, .int 0, .ref (y 140), .ref (y 141), .ref (y 142), .int 0, .int 0, .ref (y 145), .ref (y 146), .ref (y 147), .int 0, .ref (y 7), .ref (y 8), .ref (y 9), .ref (y 152)])), (y 7, .inl (K 1, 4, .inl g407)), (y 8, .inl (K 1, 4, .inl g408)), (y 9, .inl (K 2, 240, .inr (.inl (fun _ => 0))))] := hD
            refine lv_iconst (v := 0) hx hb dX12_row_49 (by decide) ?_
            refine lv_istore (lv' := [(4, .int 0), (0, .ref (y 0)), (1, .int (nI 2)), (2, .int p1), (3, .int p2)]) hx hb dX12_row_50 hl (by decide) rfl (fun ls hl => ?_)
            obtain ⟨i, hi0⟩ : ∃ i : Nat, i = 0 := ⟨0, rfl⟩
            replace hl : lv_has ls 5 [(4, .int (nI i)), (0, .ref (y 0)), (1, .int (nI 2)), (2, .int p1), (3, .int p2)] := by subst hi0; rw [nI_0]; exact hl
            have hi : i ≤ 60 := by omega
            obtain ⟨n, hn⟩ : ∃ n : Nat, 60 < i + n := ⟨60 + 1, by omega⟩
            clear hi0
            induction n generalizing i H locs ls with
            | zero => exact absurd hn (by omega)
            | succ n ih =>
              refine lv_iload hx hb dX12_row_52 (lv_at hl 0 rfl) ?_
              refine lv_bipush (v := 60) hx hb dX12_row_54 (by decide) ?_
              refine lv_icmp_ge (tgt := 78) hx hb dX12_row_56 (by decide) (fun c9 => ?_) (fun c9 => ?_)
              · refine lv_iconst (v := 0) hx hb dX12_row_78 (by decide) ?_
                refine W.widen (k := 0) (n := 0) (by decide) (by decide) ?_
                exact ch_iret hC hr hk hS dX12_row_79 () (Or.inr (Or.inr ⟨⟨(vp_in_nI (by decide) (by decide)), (iy64 (by decide) h399), c401⟩, nlt_of_ge c402, rfl⟩)) (hP.sub [] rfl) (hD.sub [] (by decide) rfl)
              · have hlt : i < 60 := (lt_nI (by decide) hi (by decide) c9)
                refine lv_aload_n hx hb dX12_row_59 rfl (lv_at hl 1 rfl) ?_
                refine va_get (D := D) (ci := 11) (v := .ref (y 9)) (C := RX12) (T := TX12) (N := 53) hx hb hts in_X12 hown hE.1 hP 0 rfl rfl 51 (by decide) (hts _ w_427) (fun _ h9 => h9) rfl dX12_row_60 ?_
                refine lv_bipush (v := 60) hx hb dX12_row_63 (by decide) ?_
                refine lv_iload_n hx hb dX12_row_65 rfl (lv_at hl 2 rfl) ?_
                refine lv_imul hx hb dX12_row_66 ?_
                refine tc (y := 120) (by decide) ?_
                refine lv_iload hx hb dX12_row_67 (lv_at hl 0 rfl) ?_
                refine lv_iadd hx hb dX12_row_69 ?_
                refine tc (y := (nI (120 + i))) (nI_cadd (by decide)) ?_
                refine lv_lconst (v := 0) hx hb dX12_row_70 (by decide) ?_
                refine stl0 hx hb hE.1 hP hD hS 3 2 rfl rfl (vp_in_nI (by omega) (by decide)) dX12_row_71 (fun H locs hP hD hS => ?_)
                replace hP : va_P D vwCl [(y 0, .inr (11, [.int 0, .ref (y 1), .ref (y 2), .ref (y 3), .ref (y 4), .int 0, .ref (y 5), .int 0, .int 0, .int 0, .int 0, .int 0, .int 0, .int (-1), .ref (y 6), .int 0, .int 0, .int 0, .int 0, .int 0, .int 0, .ref (y 121), .ref (y 122), .ref (y 123), .ref (y 124), .int 0, .ref (y 126), .ref (y 127), .ref (y 128), .ref (y 129), .ref (y 130), .ref (y 131), .ref (y 132), .ref (y 133), .ref (y 134), .ref (y 135), .ref (y 136), .int 0, .int 0, .int 0, .ref (y 140), .ref (y 141), .ref (y 142), .int 0, .int 0, .ref (y 145), .ref (y 146), .ref (y 147), .int 0, .ref (y 7), .ref (y 8), .ref (y 9), .ref (y 152)])), (y 7, .inl (K 1, 4, .inl g407)), (y 8, .inl (K 1, 4, .inl g408)), (y 9, .inl (K 2, 240, .inr (.inl (fun _ => 0))))] H := hP
                replace hD : va_D A [(y 0, .inr (11, [.int 0, .ref (y 1), .ref (y 2), .ref (y 3), .ref (y 4), .int 0, .ref (y 5), .int 0, .int 0, .int 0, .int 0, .int 0, .int 0, .int (-1), .ref (y 6), .int 0, .int 0, .int 0, .int 0, .int 0, .int 0, .ref (y 121), .ref (y 122), .ref (y 123), .ref (y 124), .int 0, .ref (y 126), .ref (y 127), .ref (y 128), .ref (y 129), .ref (y 130), .ref (y 131), .ref (y 132), .ref (y 133), .ref (y 134), .ref (y 135), .ref (y 136), .int 0, .int 0, .int 0, .ref (y 140), .ref (y 141), .ref (y 142), .int 0, .int 0, .ref (y 145), .ref (y 146), .ref (y 147), .int 0, .ref (y 7), .ref (y 8), .ref (y 9), .ref (y 152)])), (y 7, .inl (K 1, 4, .inl g407)), (y 8, .inl (K 1, 4, .inl g408)), (y 9, .inl (K 2, 240, .inr (.inl (fun _ => 0))))] := hD
                refine lv_iinc (v := (nI (i + 1))) (lv' := [(4, .int (nI (i + 1))), (0, .ref (y 0)), (1, .int (nI 2)), (2, .int p1), (3, .int p2)]) hx hb dX12_row_72 hl (k := 0) rfl (nI_1 _) (by decide) rfl (fun ls hl => ?_)
                refine lv_goto (tgt := 52) hx hb dX12_row_75 (by decide) ?_
                exact ih (i := i + 1) (H := H) (locs := locs) (ls := ls) (hi := hlt) (hn := by omega) (hP := hP) (hS := hS) (hl := lv_sub hl [0, 1, 2, 3, 4] rfl)
          · refine lv_aload_n hx hb dX12_row_35 rfl (lv_at hl 0 rfl) ?_
            refine va_get (D := D) (ci := 11) (v := .ref (y 7)) (C := RX12) (T := TX12) (N := 53) hx hb hts in_X12 hown hE.1 hP 0 rfl rfl 49 (by decide) (hts _ w_239) (fun _ h9 => h9) rfl dX12_row_36 ?_
            refine lv_iload_n hx hb dX12_row_39 rfl (lv_at hl 1 rfl) ?_
            refine lv_iload_n hx hb dX12_row_40 rfl (lv_at hl 3 rfl) ?_
            refine sti hx hb hE.1 hP hD hS 1 1 rfl rfl (in_c (by decide)) dX12_row_41 (fun g409 H locs hP hD hS => ?_)
            replace hP : va_P D vwCl [(y 0, .inr (11, [.int 0, .ref (y 1), .ref (y 2), .ref (y 3), .ref (y 4), .int 0, .ref (y 5), .int 0, .int 0, .int 0, .int 0, .int 0, .int 0, .int (-1), .ref (y 6), .int 0, .int 0, .int 0, .int 0, .int 0, .int 0, .ref (y 121), .ref (y 122), .ref (y 123), .ref (y 124), .int 0, .ref (y 126), .ref (y 127), .ref (y 128), .ref (y 129), .ref (y 130), .ref (y 131), .ref (y 132), .ref (y 133), .ref (y 134), .ref (y 135), .ref (y 136), .int 0, .int 0, .int 0, .ref (y 140), .ref (y 141), .ref (y 142), .int 0, .int 0, .ref (y 145), .ref (y 146), .ref (y 147), .int 0, .ref (y 7), .ref (y 8), .ref (y 9), .ref (y 152)])), (y 7, .inl (K 1, 4, .inl g409)), (y 8, .inl (K 1, 4, .inl (fun _ => 0))), (y 9, .inl (K 2, 240, .inr (.inl (fun _ => 0))))] H := hP
            replace hD : va_D A [(y 0, .inr (11, [.int 0, .ref (y 1), .ref (y 2), .ref (y 3), .ref (y 4), .int 0, .ref (y 5), .int 0, .int 0, .int 0, .int 0, .int 0, .int 0, .int (-1), .ref (y 6), .int 0, .int 0, .int 0, .int 0, .int 0, .int 0, .ref (y 121), .ref (y 122), .ref (y 123), .ref (y 124), .int 0, .ref (y 126), .ref (y 127), .ref (y 128), .ref (y 129), .ref (y 130), .ref (y 131), .ref (y 132), .ref (y 133), .ref (y 134), .ref (y 135), .ref (y 136), .int 0, .int 0, .int 0, .ref (y 140), .ref (y 141), .ref (y 142), .int 0, .int 0, .ref (y 145), .ref (y 146), .ref (y 147), .int 0, .ref (y 7), .ref (y 8), .ref (y 9), .ref (y 152)])), (y 7, .inl (K 1, 4, .inl g409)), (y 8, .inl (K 1, 4, .inl (fun _ => 0))), (y 9, .inl (K 2, 240, .inr (.inl (fun _ => 0))))] := hD
            refine lv_aload_n hx hb dX12_row_42 rfl (lv_at hl 0 rfl) ?_
            refine va_get (D := D) (ci := 11) (v := .ref (y 8)) (C := RX12) (T := TX12) (N := 53) hx hb hts in_X12 hown hE.1 hP 0 rfl rfl 50 (by decide) (hts _ w_426) (fun _ h9 => h9) rfl dX12_row_43 ?_
            refine lv_iload_n hx hb dX12_row_46 rfl (lv_at hl 1 rfl) ?_
            refine lv_iload_n hx hb dX12_row_47 rfl (lv_at hl 2 rfl) ?_
            refine sti hx hb hE.1 hP hD hS 2 1 rfl rfl (in_c (by decide)) dX12_row_48 (fun g410 H locs hP hD hS => ?_)
            replace hP : va_P D vwCl [(y 0, .inr (11, [.int 0, .ref (y 1), .ref (y 2), .ref (y 3), .ref (y 4), .int 0, .ref (y 5), .int 0, .int 0, .int 0, .int 0, .int 0, .int 0, .int (-1), .ref (y 6), .int 0, .int 0, .int 0, .int 0, .int 0, .int 0, .ref (y 121), .ref (y 122), .ref (y 123), .ref (y 124), .int 0, .ref (y 126), .ref (y 127), .ref (y 128), .ref (y 129), .ref (y 130), .ref (y 131), .ref (y 132), .ref (y 133), .ref (y 134), .ref (y 135), .ref (y 136), .int 0, .int 0, .int 0, .ref (y 140), .ref (y 141), .ref (y 142), .int 0, .int 0, .ref (y 145), .ref (y 146), .ref (y 147), .int 0, .ref (y 7), .ref (y 8), .ref (y 9), .ref (y 152)])), (y 7, .inl (K 1, 4, .inl g409)), (y 8, .inl (K 1, 4, .inl g410)), (y 9, .inl (K 2, 240, .inr (.inl (fun _ => 0))))] H := hP
            replace hD : va_D A [(y 0, .inr (11, [.int 0, .ref (y 1), .ref (y 2), .ref (y 3), .ref (y 4), .int 0, .ref (y 5), .int 0, .int 0, .int 0, .int 0, .int 0, .int 0, .int (-1), .ref (y 6), .int 0, .int 0, .int 0, .int 0, .int 0, .int 0, .ref (y 121), .ref (y 122), .ref (y 123), .ref (y 124), .int 0, .ref (y 126), .ref (y 127), .ref (y 128), .ref (y 129), .ref (y 130), .ref (y 131), .ref (y 132), .ref (y 133), .ref (y 134), .ref (y 135), .ref (y 136), .int 0, .int 0, .int 0, .ref (y 140), .ref (y 141), .ref (y 142), .int 0, .int 0, .ref (y 145), .ref (y 146), .ref (y 147), .int 0, .ref (y 7), .ref (y 8), .ref (y 9), .ref (y 152)])), (y 7, .inl (K 1, 4, .inl g409)), (y 8, .inl (K 1, 4, .inl g410)), (y 9, .inl (K 2, 240, .inr (.inl (fun _ => 0))))] := hD
            refine lv_iconst (v := 0) hx hb dX12_row_49 (by decide) ?_
            refine lv_istore (lv' := [(4, .int 0), (0, .ref (y 0)), (1, .int (nI 3)), (2, .int p1), (3, .int p2)]) hx hb dX12_row_50 hl (by decide) rfl (fun ls hl => ?_)
            obtain ⟨i, hi0⟩ : ∃ i : Nat, i = 0 := ⟨0, rfl⟩
            replace hl : lv_has ls 5 [(4, .int (nI i)), (0, .ref (y 0)), (1, .int (nI 3)), (2, .int p1), (3, .int p2)] := by subst hi0; rw [nI_0]; exact hl
            have hi : i ≤ 60 := by omega
            obtain ⟨n, hn⟩ : ∃ n : Nat, 60 < i + n := ⟨60 + 1, by omega⟩
            clear hi0
            induction n generalizing i H locs ls with
            | zero => exact absurd hn (by omega)
            | succ n ih =>
              refine lv_iload hx hb dX12_row_52 (lv_at hl 0 rfl) ?_
              refine lv_bipush (v := 60) hx hb dX12_row_54 (by decide) ?_
              refine lv_icmp_ge (tgt := 78) hx hb dX12_row_56 (by decide) (fun c9 => ?_) (fun c9 => ?_)
              · refine lv_iconst (v := 0) hx hb dX12_row_78 (by decide) ?_
                refine W.widen (k := 0) (n := 0) (by decide) (by decide) ?_
                exact ch_iret hC hr hk hS dX12_row_79 () (Or.inr (Or.inr ⟨⟨(vp_in_nI (by decide) (by decide)), (iy64 (by decide) h399), c401⟩, nlt_of_ge c402, rfl⟩)) (hP.sub [] rfl) (hD.sub [] (by decide) rfl)
              · have hlt : i < 60 := (lt_nI (by decide) hi (by decide) c9)
                refine lv_aload_n hx hb dX12_row_59 rfl (lv_at hl 1 rfl) ?_
                refine va_get (D := D) (ci := 11) (v := .ref (y 9)) (C := RX12) (T := TX12) (N := 53) hx hb hts in_X12 hown hE.1 hP 0 rfl rfl 51 (by decide) (hts _ w_427) (fun _ h9 => h9) rfl dX12_row_60 ?_
                refine lv_bipush (v := 60) hx hb dX12_row_63 (by decide) ?_
                refine lv_iload_n hx hb dX12_row_65 rfl (lv_at hl 2 rfl) ?_
                refine lv_imul hx hb dX12_row_66 ?_
                refine tc (y := 180) (by decide) ?_
                refine lv_iload hx hb dX12_row_67 (lv_at hl 0 rfl) ?_
                refine lv_iadd hx hb dX12_row_69 ?_
                refine tc (y := (nI (180 + i))) (nI_cadd (by decide)) ?_
                refine lv_lconst (v := 0) hx hb dX12_row_70 (by decide) ?_
                refine stl0 hx hb hE.1 hP hD hS 3 2 rfl rfl (vp_in_nI (by omega) (by decide)) dX12_row_71 (fun H locs hP hD hS => ?_)
                replace hP : va_P D vwCl [(y 0, .inr (11, [.int 0, .ref (y 1), .ref (y 2), .ref (y 3), .ref (y 4), .int 0, .ref (y 5), .int 0, .int 0, .int 0, .int 0, .int 0, .int 0, .int (-1), .ref (y 6), .int 0, .int 0, .int 0, .int 0, .int 0, .int 0, .ref (y 121), .ref (y 122), .ref (y 123), .ref (y 124), .int 0, .ref (y 126), .ref (y 127), .ref (y 128), .ref (y 129), .ref (y 130), .ref (y 131), .ref (y 132), .ref (y 133), .ref (y 134), .ref (y 135), .ref (y 136), .int 0, .int 0, .int 0, .ref (y 140), .ref (y 141), .ref (y 142), .int 0, .int 0, .ref (y 145), .ref (y 146), .ref (y 147), .int 0, .ref (y 7), .ref (y 8), .ref (y 9), .ref (y 152)])), (y 7, .inl (K 1, 4, .inl g409)), (y 8, .inl (K 1, 4, .inl g410)), (y 9, .inl (K 2, 240, .inr (.inl (fun _ => 0))))] H := hP
                replace hD : va_D A [(y 0, .inr (11, [.int 0, .ref (y 1), .ref (y 2), .ref (y 3), .ref (y 4), .int 0, .ref (y 5), .int 0, .int 0, .int 0, .int 0, .int 0, .int 0, .int (-1), .ref (y 6), .int 0, .int 0, .int 0, .int 0, .int 0, .int 0, .ref (y 121), .ref (y 122), .ref (y 123), .ref (y 124), .int 0, .ref (y 126), .ref (y 127), .ref (y 128), .ref (y 129), .ref (y 130), .ref (y 131), .ref (y 132), .ref (y 133), .ref (y 134), .ref (y 135), .ref (y 136), .int 0, .int 0, .int 0, .ref (y 140), .ref (y 141), .ref (y 142), .int 0, .int 0, .ref (y 145), .ref (y 146), .ref (y 147), .int 0, .ref (y 7), .ref (y 8), .ref (y 9), .ref (y 152)])), (y 7, .inl (K 1, 4, .inl g409)), (y 8, .inl (K 1, 4, .inl g410)), (y 9, .inl (K 2, 240, .inr (.inl (fun _ => 0))))] := hD
                refine lv_iinc (v := (nI (i + 1))) (lv' := [(4, .int (nI (i + 1))), (0, .ref (y 0)), (1, .int (nI 3)), (2, .int p1), (3, .int p2)]) hx hb dX12_row_72 hl (k := 0) rfl (nI_1 _) (by decide) rfl (fun ls hl => ?_)
                refine lv_goto (tgt := 52) hx hb dX12_row_75 (by decide) ?_
                exact ih (i := i + 1) (H := H) (locs := locs) (ls := ls) (hi := hlt) (hn := by omega) (hP := hP) (hS := hS) (hl := lv_sub hl [0, 1, 2, 3, 4] rfl)
        · refine lv_bipush (v := (-3)) hx hb dX12_row_32 (by decide) ?_
          refine W.widen (k := 0) (n := 0) (by decide) (by decide) ?_
          exact ch_iret hC hr hk hS dX12_row_34 () (Or.inr (Or.inl ⟨⟨h397, (iy64 (by decide) h399), c401⟩, lt_of_nge c402, rfl⟩)) (hP.sub [] rfl) (hD.sub [] (by decide) rfl)
      · refine lv_bipush (v := (-2)) hx hb dX12_row_25 (by decide) ?_
        refine W.widen (k := 0) (n := 0) (by decide) (by decide) ?_
        exact ch_iret hC hr hk hS dX12_row_27 () (Or.inl ⟨(fun q => c401 q.2.2), rfl⟩) (hP.sub [] rfl) (hD.sub [] (by decide) rfl)
    · refine lv_if_eq (tgt := 25) hx hb dX12_row_16 (by decide) (fun _ => ?_) (fun h => absurd h (by decide))
      refine lv_bipush (v := (-2)) hx hb dX12_row_25 (by decide) ?_
      refine W.widen (k := 0) (n := 0) (by decide) (by decide) ?_
      exact ch_iret hC hr hk hS dX12_row_27 () (Or.inl ⟨(fun q => (in64 (by decide) h400) q.2.1), rfl⟩) (hP.sub [] rfl) (hD.sub [] (by decide) rfl)
  · refine lv_if_eq (tgt := 25) hx hb dX12_row_4 (by decide) (fun _ => ?_) (fun h => absurd h (by decide))
    refine lv_bipush (v := (-2)) hx hb dX12_row_25 (by decide) ?_
    refine W.widen (k := 0) (n := 0) (by decide) (by decide) ?_
    exact ch_iret hC hr hk hS dX12_row_27 () (Or.inl ⟨(fun q => h398 q.1), rfl⟩) (hP.sub [] rfl) (hD.sub [] (by decide) rfl)
