def stc (i k : Nat) : Int32 := (((stB i).getD k 0 &&& 255).toUInt32 % 65536).toInt32
theorem st_len0 : ∀ i : Nat, i < 34 → (1 ≤ stL i ∧ stL i ≤ 6 ∧ (Int32.ofNat (stL i)).toInt = (stL i : Int) ∧ Int32.ofNat (stL i) >>> ((0 : Int32) &&& 31) = Int32.ofNat (stL i)) := by decide +kernel
theorem st_ch0 : ∀ i : Nat, i < 34 → ∀ b ∈ stB i, (((b &&& 255).toUInt32 % 65536).toInt32).toUInt32.toUInt16.toUInt32.toInt32 = ((b &&& 255).toUInt32 % 65536).toInt32 := by decide +kernel
theorem st_ch1 : ((((0 : Int32) &&& 255).toUInt32 % 65536).toInt32).toUInt32.toUInt16.toUInt32.toInt32 = (((0 : Int32) &&& 255).toUInt32 % 65536).toInt32 := by decide +kernel
theorem st_ch {i : Nat} (hi : i < 34) (k : Nat) : narrow .char (.int (stc i k)) = .int (stc i k) := by
  show Value.int _ = Value.int _
  congr 1
  unfold stc
  by_cases h : k < (stB i).length
  · have e : (stB i).getD k 0 = (stB i)[k] := by simp [List.getD, h]
    rw [e]
    exact st_ch0 i hi _ (List.getElem_mem h)
  · have e : (stB i).getD k 0 = 0 := by simp [List.getD, List.getElem?_eq_none (Nat.not_lt.mp h)]
    rw [e]
    exact st_ch1
set_option maxRecDepth 40000 in
set_option maxHeartbeats 4000000 in
theorem c_J0_coder_7d493 (l : Launch) (D : va_G) (K : Nat → ClassId) (Z : stZ) (i : Nat) (hi : i < 34) : RoT l D K Z yJ0_coder_7d493 cJ0_coder_7d493 1 (some .byte) 0 0 [.ref (Z.1 i)] [] (fun r => r = 0) := by
  refine roT_ofQ (cc := cJ0_coder_7d493) (maxL := 1) (ret := (some .byte)) (by decide) (Nat.le_of_ble_eq_true rfl) ?_
  intro p e s m below meth c hC hr hk hE hP hT ls hl
  replace hC : CallFix p m c cJ0_coder_7d493 1 s ([.ref (Z.1 i)] : List Value).toArray wl RJ0 := hC
  have hx := hC.1
  have hb := hC.2.1
  have hml := hC.2.2.1
  have hown := hC.2.2.2.1
  have hts := hC.2.2.2.2
  replace hl : lv_has ls 1 [(0, .ref (Z.1 i))] := hl
  refine va_gets hx hb hT.1 va_S.rf hown (hts _ w_366) (fun _ h9 => h9) dJ0_coder_7d493_0 ?_
  refine lv_if_eq (tgt := 13) hx hb dJ0_coder_7d493_3 (by decide) (fun h => absurd h (by decide)) (fun _ => ?_)
  refine lv_aload_n hx hb dJ0_coder_7d493_6 rfl (lv_at hl 0 rfl) ?_
  refine vk_getf (v := .int 0) hx hb (hT.2.2.1 i hi).2.1 va_S.rf hown (hts _ w_367) (fun _ h9 => h9) dJ0_coder_7d493_7 ?_
  refine lv_goto (tgt := 14) hx hb dJ0_coder_7d493_10 (by decide) ?_
  exact ro_nret hC hr hk dJ0_coder_7d493_14 rfl rfl
set_option maxRecDepth 40000 in
set_option maxHeartbeats 4000000 in
theorem c_J0_isLatin1_aae02 (l : Launch) (D : va_G) (K : Nat → ClassId) (Z : stZ) (i : Nat) (hi : i < 34) : RoT l D K Z yJ0_isLatin1_aae02 cJ0_isLatin1_aae02 1 (some .boolean) 0 0 [.ref (Z.1 i)] [] (fun r => r = 1) := by
  refine roT_ofQ (cc := cJ0_isLatin1_aae02) (maxL := 1) (ret := (some .boolean)) (by decide) (Nat.le_of_ble_eq_true rfl) ?_
  intro p e s m below meth c hC hr hk hE hP hT ls hl
  replace hC : CallFix p m c cJ0_isLatin1_aae02 1 s ([.ref (Z.1 i)] : List Value).toArray wl RJ0 := hC
  have hx := hC.1
  have hb := hC.2.1
  have hml := hC.2.2.1
  have hown := hC.2.2.2.1
  have hts := hC.2.2.2.2
  replace hl : lv_has ls 1 [(0, .ref (Z.1 i))] := hl
  refine va_gets hx hb hT.1 va_S.rf hown (hts _ w_366) (fun _ h9 => h9) dJ0_isLatin1_aae02_0 ?_
  refine lv_if_eq (tgt := 17) hx hb dJ0_isLatin1_aae02_3 (by decide) (fun h => absurd h (by decide)) (fun _ => ?_)
  refine lv_aload_n hx hb dJ0_isLatin1_aae02_6 rfl (lv_at hl 0 rfl) ?_
  refine vk_getf (v := .int 0) hx hb (hT.2.2.1 i hi).2.1 va_S.rf hown (hts _ w_367) (fun _ h9 => h9) dJ0_isLatin1_aae02_7 ?_
  refine lv_if_ne (tgt := 17) hx hb dJ0_isLatin1_aae02_10 (by decide) (fun h => absurd rfl h) (fun _ => ?_)
  refine lv_iconst (v := 1) hx hb dJ0_isLatin1_aae02_13 (by decide) ?_
  refine lv_goto (tgt := 18) hx hb dJ0_isLatin1_aae02_14 (by decide) ?_
  exact ro_nret hC hr hk dJ0_isLatin1_aae02_18 rfl rfl
set_option maxRecDepth 40000 in
set_option maxHeartbeats 4000000 in
theorem c_J0_length_8abf5 (l : Launch) (D : va_G) (K : Nat → ClassId) (Z : stZ) (i : Nat) (hi : i < 34) : RoT l D K Z yJ0_length_8abf5 cJ0_length_8abf5 1 (some .int) 1 20 [.ref (Z.1 i)] [] (fun r => r = Int32.ofNat (stL i)) := by
  refine roT_ofQ (cc := cJ0_length_8abf5) (maxL := 1) (ret := (some .int)) (by decide) (Nat.le_of_ble_eq_true rfl) ?_
  intro p e s m below meth c hC hr hk hE hP hT ls hl
  replace hC : CallFix p m c cJ0_length_8abf5 1 s ([.ref (Z.1 i)] : List Value).toArray wl RJ0 := hC
  have hx := hC.1
  have hb := hC.2.1
  have hml := hC.2.2.1
  have hown := hC.2.2.2.1
  have hts := hC.2.2.2.2
  replace hl : lv_has ls 1 [(0, .ref (Z.1 i))] := hl
  refine lv_aload_n hx hb dJ0_length_8abf5_0 rfl (lv_at hl 0 rfl) ?_
  refine vk_getf (v := .ref (Z.2.1 i)) hx hb (hT.2.2.1 i hi).2.2.1 va_S.rf hown (hts _ w_368) (fun _ h9 => h9) dJ0_length_8abf5_1 ?_
  refine va_tlen (v := Int32.ofNat (stL i)) hx hb (hT.2.2.1 i hi).2.2.2 va_S.rf rfl dJ0_length_8abf5_4 ?_
  refine lv_aload_n hx hb dJ0_length_8abf5_5 rfl (lv_at hl 0 rfl) ?_
  refine roT_VS (As := []) (rest := [.int (Int32.ofNat (stL i))]) hC hE hT (fun _ _ _ => rfl) kV_J0_335 hi rfl (c_J0_coder_7d493 l D K Z i hi) rfl hl.1 rfl (Nat.le_of_ble_eq_true rfl) (by decide) (by decide) dJ0_length_8abf5_6 (fun r hq => ?_)
  subst hq
  refine lv_ishr hx hb dJ0_length_8abf5_9 ?_
  exact ro_ret hC hr hk dJ0_length_8abf5_10 (st_len0 i hi).2.2.2
set_option maxRecDepth 40000 in
set_option maxHeartbeats 4000000 in
theorem c_J3_checkIndex_8e157N (l : Launch) (D : va_G) (K : Nat → ClassId) (Z : stZ) (p0 p1 : Int32) (h0 : 0 ≤ p0.toInt) (h1 : p0.toInt < p1.toInt) : RoT l D K Z yJ3_checkIndex_8e157 cJ3_checkIndex_8e157 3 (some .int) 0 0 [.int p0, .int p1, .null] [] (fun _ => True) := by
  refine roT_ofQ (cc := cJ3_checkIndex_8e157) (maxL := 3) (ret := (some .int)) (by decide) (Nat.le_of_ble_eq_true rfl) ?_
  intro p e s m below meth c hC hr hk hE hP hT ls hl
  replace hC : CallFix p m c cJ3_checkIndex_8e157 3 s ([.int p0, .int p1, .null] : List Value).toArray wl RJ3 := hC
  have hx := hC.1
  have hb := hC.2.1
  have hml := hC.2.2.1
  have hown := hC.2.2.2.1
  have hts := hC.2.2.2.2
  replace hl : lv_has ls 3 [(0, .int p0), (1, .int p1), (2, .null)] := hl
  have kc_0 : (0 : Int32).toInt = 0 := by decide
  refine lv_iload_n hx hb dJ3_checkIndex_8e157_0 rfl (lv_at hl 0 rfl) ?_
  refine lv_if_lt (tgt := 9) hx hb dJ3_checkIndex_8e157_1 (by decide) (fun h => absurd (lt_i h) (by omega)) (fun _ => ?_)
  refine lv_iload_n hx hb dJ3_checkIndex_8e157_4 rfl (lv_at hl 0 rfl) ?_
  refine lv_iload_n hx hb dJ3_checkIndex_8e157_5 rfl (lv_at hl 1 rfl) ?_
  refine lv_icmp_lt (tgt := 16) hx hb dJ3_checkIndex_8e157_6 (by decide) (fun _ => ?_) (fun h => absurd (nlt_i h) (by omega))
  refine lv_iload_n hx hb dJ3_checkIndex_8e157_16 rfl (lv_at hl 0 rfl) ?_
  exact ro_ret hC hr hk dJ3_checkIndex_8e157_17 trivial
set_option maxRecDepth 40000 in
set_option maxHeartbeats 4000000 in
theorem c_J3_checkIndex_8e157R (l : Launch) (D : va_G) (K : Nat → ClassId) (Z : stZ) (p0 p1 : Int32) (t : Nat) (h0 : 0 ≤ p0.toInt) (h1 : p0.toInt < p1.toInt) : RoT l D K Z yJ3_checkIndex_8e157 cJ3_checkIndex_8e157 3 (some .int) 0 0 [.int p0, .int p1, .ref t] [] (fun _ => True) := by
  refine roT_ofQ (cc := cJ3_checkIndex_8e157) (maxL := 3) (ret := (some .int)) (by decide) (Nat.le_of_ble_eq_true rfl) ?_
  intro p e s m below meth c hC hr hk hE hP hT ls hl
  replace hC : CallFix p m c cJ3_checkIndex_8e157 3 s ([.int p0, .int p1, .ref t] : List Value).toArray wl RJ3 := hC
  have hx := hC.1
  have hb := hC.2.1
  have hml := hC.2.2.1
  have hown := hC.2.2.2.1
  have hts := hC.2.2.2.2
  replace hl : lv_has ls 3 [(0, .int p0), (1, .int p1), (2, .ref t)] := hl
  have kc_0 : (0 : Int32).toInt = 0 := by decide
  refine lv_iload_n hx hb dJ3_checkIndex_8e157_0 rfl (lv_at hl 0 rfl) ?_
  refine lv_if_lt (tgt := 9) hx hb dJ3_checkIndex_8e157_1 (by decide) (fun h => absurd (lt_i h) (by omega)) (fun _ => ?_)
  refine lv_iload_n hx hb dJ3_checkIndex_8e157_4 rfl (lv_at hl 0 rfl) ?_
  refine lv_iload_n hx hb dJ3_checkIndex_8e157_5 rfl (lv_at hl 1 rfl) ?_
  refine lv_icmp_lt (tgt := 16) hx hb dJ3_checkIndex_8e157_6 (by decide) (fun _ => ?_) (fun h => absurd (nlt_i h) (by omega))
  refine lv_iload_n hx hb dJ3_checkIndex_8e157_16 rfl (lv_at hl 0 rfl) ?_
  exact ro_ret hC hr hk dJ3_checkIndex_8e157_17 trivial
set_option maxRecDepth 40000 in
set_option maxHeartbeats 4000000 in
theorem c_J0_checkIndex_df160 (l : Launch) (D : va_G) (K : Nat → ClassId) (Z : stZ) (p0 p1 : Int32) (h0 : 0 ≤ p0.toInt) (h1 : p0.toInt < p1.toInt) : RoVT l D K Z yJ0_checkIndex_df160 cJ0_checkIndex_df160 2 1 22 [.int p0, .int p1] [] := by
  refine roT_ofQ (cc := cJ0_checkIndex_df160) (maxL := 2) (ret := none) (by decide) (Nat.le_of_ble_eq_true rfl) ?_
  intro p e s m below meth c hC hr hk hE hP hT ls hl
  replace hC : CallFix p m c cJ0_checkIndex_df160 2 s ([.int p0, .int p1] : List Value).toArray wl RJ0 := hC
  have hx := hC.1
  have hb := hC.2.1
  have hml := hC.2.2.1
  have hown := hC.2.2.2.1
  have hts := hC.2.2.2.2
  replace hl : lv_has ls 2 [(0, .int p0), (1, .int p1)] := hl
  refine lv_iload_n hx hb dJ0_checkIndex_df160_0 rfl (lv_at hl 0 rfl) ?_
  refine lv_iload_n hx hb dJ0_checkIndex_df160_1 rfl (lv_at hl 1 rfl) ?_
  rcases hT.2.1 with hz | ⟨t, hz⟩
  · refine va_gets (v := .null) hx hb hz va_S.rf hown (hts _ w_374) (fun _ h9 => h9) dJ0_checkIndex_df160_2 ?_
    refine roT_S (As := [.int p0, .int p1, .null]) (rest := []) hC hE hT (fun _ _ _ => rfl) kS_J0_1059 (c_J3_checkIndex_8e157N l D K Z p0 p1 h0 h1) rfl hl.1 rfl (Nat.le_of_ble_eq_true rfl) (by decide) (by decide) dJ0_checkIndex_df160_5 (fun r _ => ?_)
    refine lv_pop hx hb dJ0_checkIndex_df160_8 rfl ?_
    exact rov_ret hC hr hk dJ0_checkIndex_df160_9
  · refine va_gets (v := .ref t) hx hb hz va_S.rf hown (hts _ w_374) (fun _ h9 => h9) dJ0_checkIndex_df160_2 ?_
    refine roT_S (As := [.int p0, .int p1, .ref t]) (rest := []) hC hE hT (fun _ _ _ => rfl) kS_J0_1059 (c_J3_checkIndex_8e157R l D K Z p0 p1 t h0 h1) rfl hl.1 rfl (Nat.le_of_ble_eq_true rfl) (by decide) (by decide) dJ0_checkIndex_df160_5 (fun r _ => ?_)
    refine lv_pop hx hb dJ0_checkIndex_df160_8 rfl ?_
    exact rov_ret hC hr hk dJ0_checkIndex_df160_9
set_option maxRecDepth 40000 in
set_option maxHeartbeats 4000000 in
theorem c_J1_charAt_3b067 (l : Launch) (D : va_G) (K : Nat → ClassId) (Z : stZ) (i : Nat) (p0 : Int32) (hi : i < 34) (h0 : 0 ≤ p0.toInt) (h1 : p0.toInt < (stL i : Int)) : RoT l D K Z yJ1_charAt_3b067 cJ1_charAt_3b067 2 (some .char) 2 43 [.ref (Z.2.1 i), .int p0] [] (fun r => r = stc i p0.toNatClampNeg) := by
  refine roT_ofQ (cc := cJ1_charAt_3b067) (maxL := 2) (ret := (some .char)) (by decide) (Nat.le_of_ble_eq_true rfl) ?_
  intro p e s m below meth c hC hr hk hE hP hT ls hl
  replace hC : CallFix p m c cJ1_charAt_3b067 2 s ([.ref (Z.2.1 i), .int p0] : List Value).toArray wl RJ1 := hC
  have hx := hC.1
  have hb := hC.2.1
  have hml := hC.2.2.1
  have hown := hC.2.2.2.1
  have hts := hC.2.2.2.2
  replace hl : lv_has ls 2 [(0, .ref (Z.2.1 i)), (1, .int p0)] := hl
  have hL := (st_len0 i hi).2.2.1
  refine lv_iload_n hx hb dJ1_charAt_3b067_0 rfl (lv_at hl 1 rfl) ?_
  refine lv_aload_n hx hb dJ1_charAt_3b067_1 rfl (lv_at hl 0 rfl) ?_
  refine va_tlen (v := Int32.ofNat (stL i)) hx hb (hT.2.2.1 i hi).2.2.2 va_S.rf rfl dJ1_charAt_3b067_2 ?_
  refine rovT_S (As := [.int p0, .int (Int32.ofNat (stL i))]) (rest := []) hC hE hT (fun _ _ _ => rfl) kS_J1_9 (c_J0_checkIndex_df160 l D K Z p0 _ h0 (by omega)) rfl hl.1 rfl (Nat.le_of_ble_eq_true rfl) (by decide) (by decide) dJ1_charAt_3b067_3 ?_
  refine lv_aload_n hx hb dJ1_charAt_3b067_6 rfl (lv_at hl 0 rfl) ?_
  refine lv_iload_n hx hb dJ1_charAt_3b067_7 rfl (lv_at hl 1 rfl) ?_
  refine va_tb (v := .int ((stB i).getD p0.toNatClampNeg 0)) hx hb (hT.2.2.1 i hi).2.2.2 va_S.rf (vp_in_iff.mpr (by omega)) rfl dJ1_charAt_3b067_8 ?_
  refine lv_sipush (v := 255) hx hb dJ1_charAt_3b067_9 (by decide) ?_
  refine lv_iand hx hb dJ1_charAt_3b067_12 ?_
  refine lv_i2c (v := stc i p0.toNatClampNeg) hx hb dJ1_charAt_3b067_13 rfl ?_
  exact ro_nret hC hr hk dJ1_charAt_3b067_14 (st_ch hi _) rfl
set_option maxRecDepth 40000 in
set_option maxHeartbeats 4000000 in
theorem c_J0_charAt_5068e (l : Launch) (D : va_G) (K : Nat → ClassId) (Z : stZ) (i : Nat) (p0 : Int32) (hi : i < 34) (h0 : 0 ≤ p0.toInt) (h1 : p0.toInt < (stL i : Int)) : RoT l D K Z yJ0_charAt_5068e cJ0_charAt_5068e 2 (some .char) 3 64 [.ref (Z.1 i), .int p0] [] (fun r => r = stc i p0.toNatClampNeg) := by
  refine roT_ofQ (cc := cJ0_charAt_5068e) (maxL := 2) (ret := (some .char)) (by decide) (Nat.le_of_ble_eq_true rfl) ?_
  intro p e s m below meth c hC hr hk hE hP hT ls hl
  replace hC : CallFix p m c cJ0_charAt_5068e 2 s ([.ref (Z.1 i), .int p0] : List Value).toArray wl RJ0 := hC
  have hx := hC.1
  have hb := hC.2.1
  have hml := hC.2.2.1
  have hown := hC.2.2.2.1
  have hts := hC.2.2.2.2
  replace hl : lv_has ls 2 [(0, .ref (Z.1 i)), (1, .int p0)] := hl
  refine lv_aload_n hx hb dJ0_charAt_5068e_0 rfl (lv_at hl 0 rfl) ?_
  refine roT_VS (As := []) (rest := []) hC hE hT (fun _ _ _ => rfl) kV_J0_492 hi rfl (c_J0_isLatin1_aae02 l D K Z i hi) rfl hl.1 rfl (Nat.le_of_ble_eq_true rfl) (by decide) (by decide) dJ0_charAt_5068e_1 (fun r hq => ?_)
  subst hq
  refine lv_if_eq (tgt := 16) hx hb dJ0_charAt_5068e_4 (by decide) (fun h => absurd h (by decide)) (fun _ => ?_)
  refine lv_aload_n hx hb dJ0_charAt_5068e_7 rfl (lv_at hl 0 rfl) ?_
  refine vk_getf (v := .ref (Z.2.1 i)) hx hb (hT.2.2.1 i hi).2.2.1 va_S.rf hown (hts _ w_368) (fun _ h9 => h9) dJ0_charAt_5068e_8 ?_
  refine lv_iload_n hx hb dJ0_charAt_5068e_11 rfl (lv_at hl 1 rfl) ?_
  refine roT_S (As := [.ref (Z.2.1 i), .int p0]) (rest := []) hC hE hT (fun _ _ _ => rfl) kS_J0_495 (c_J1_charAt_3b067 l D K Z i p0 hi h0 h1) rfl hl.1 rfl (Nat.le_of_ble_eq_true rfl) (by decide) (by decide) dJ0_charAt_5068e_12 (fun r hq => ?_)
  subst hq
  exact ro_nret hC hr hk dJ0_charAt_5068e_15 (st_ch hi _) rfl
set_option maxRecDepth 40000 in
set_option maxHeartbeats 4000000 in
theorem c_X4_hasRoom (l : Launch) (D : va_G) (K : Nat → ClassId) (w : Nat) (wa0 : Nat) (wa4 : Nat) (wn1 : Int32) (wn2 : Int32) (wn3 : Int32) (wn5 : Int32) (wn6 : Int32) (wn7 : Int32) (wn8 : Int32) (wn9 : Int32) (p0 : Int32) : Ro l D K yX4_hasRoom cX4_hasRoom 2 (some .boolean) 0 0 [.ref w, .int p0] [(w, .inr (4, [.ref wa0, .int wn1, .int wn2, .int wn3, .ref wa4, .int wn5, .int wn6, .int wn7, .int wn8, .int wn9]))] (fun r => (r = 0) ∨ (r = 1)) := by
  refine ro_of (by decide) (Nat.le_of_ble_eq_true rfl) ?_
  intro p e s m below meth c hC hr hk hE hP ls hl
  replace hC : CallFix p m c cX4_hasRoom 2 s [.ref w, .int p0].toArray wl RX4 := hC
  have hx := hC.1
  have hb := hC.2.1
  have hml := hC.2.2.1
  have hown := hC.2.2.2.1
  have hts := hC.2.2.2.2
  replace hl : lv_has ls 2 [(0, .ref w), (1, .int p0)] := hl
  have kc_1000 : (1000 : Int32).toInt = 1000 := by decide
  refine lv_aload_n hx hb dX4_hasRoom_0 rfl (lv_at hl 0 rfl) ?_
  refine va_get (D := D) (ci := 4) (v := .int wn1) (C := RX4) (T := TX4) (N := 10) hx hb hts in_X4 hown hE.1 hP 0 rfl rfl 1 (by decide) (hts _ w_400) (fun _ h9 => h9) rfl dX4_hasRoom_1 ?_
  refine lv_iload_n hx hb dX4_hasRoom_4 rfl (lv_at hl 1 rfl) ?_
  refine lv_iadd hx hb dX4_hasRoom_5 ?_
  refine lv_topi (fun v2326 ev2326 => ?_)
  refine lv_sipush (v := 1000) hx hb dX4_hasRoom_6 (by decide) ?_
  refine lv_icmp_gt (tgt := 16) hx hb dX4_hasRoom_9 (by decide) (fun c2327 => ?_) (fun c2327 => ?_)
  · replace c2327 := lt_i c2327
    refine lv_iconst (v := 0) hx hb dX4_hasRoom_16 (by decide) ?_
    exact ro_zret hC hr hk dX4_hasRoom_17 rfl (Or.inl rfl)
  · replace c2327 := nlt_i c2327
    refine lv_iconst (v := 1) hx hb dX4_hasRoom_12 (by decide) ?_
    refine lv_goto (tgt := 17) hx hb dX4_hasRoom_13 (by decide) ?_
    exact ro_zret hC hr hk dX4_hasRoom_17 rfl (Or.inr rfl)
set_option maxRecDepth 40000 in
set_option maxHeartbeats 4000000 in
theorem c_X4_append (l : Launch) (D : va_G) (K : Nat → ClassId) (w : Nat) (wa0 : Nat) (wa4 : Nat) (wn1 : Int32) (wn2 : Int32) (wn3 : Int32) (wn5 : Int32) (wn6 : Int32) (wn7 : Int32) (wn8 : Int32) (wn9 : Int32) (wf0 : Nat → Int32) (p0 : Int32) (hln : 0 ≤ wn1.toInt) : Cv (S := ((Nat → Int32) × (Nat → Nat → Int32) × (Nat → Nat → Int64))) l D K yX4_append cX4_append 3 0 0 0 0 [.ref w, .int p0] [(w, .inr (4, [.ref wa0, .int wn1, .int wn2, .int wn3, .ref wa4, .int wn5, .int wn6, .int wn7, .int wn8, .int wn9])), (wa0, .inl (K 0, 1000, .inl wf0))] (fun u => (0 ≤ (u.1 0).toInt)) (fun u => [(w, .inr (4, [.ref wa0, .int (u.1 0), .int wn2, .int wn3, .ref wa4, .int wn5, .int wn6, .int wn7, .int wn8, .int wn9])), (wa0, .inl (K 0, 1000, .inl (u.2.1 0)))]) := by
  intro sz
  refine ch_of (y := yX4_append) (cc := cX4_append) (maxL := 3) (ret := none) (av := [.ref w, .int p0]) (ws := [(w, .inr (4, [.ref wa0, .int wn1, .int wn2, .int wn3, .ref wa4, .int wn5, .int wn6, .int wn7, .int wn8, .int wn9])), (wa0, .inl (K 0, 1000, .inl wf0))]) (D := D) (K := K) (Qc := fun A => va_Qv (S := ((Nat → Int32) × (Nat → Nat → Int32) × (Nat → Nat → Int64))) (fun u => (0 ≤ (u.1 0).toInt)) (chB D A (fun u => [(w, .inr (4, [.ref wa0, .int (u.1 0), .int wn2, .int wn3, .ref wa4, .int wn5, .int wn6, .int wn7, .int wn8, .int wn9])), (wa0, .inl (K 0, 1000, .inl (u.2.1 0)))])) A) (by decide) (Nat.le_of_ble_eq_true rfl) ?_
  intro p e s m below meth c A hC hr hk hin hE hD hA H locs hP hS ls hl
  replace hC : CallFix p m c cX4_append 3 s [.ref w, .int p0].toArray wl RX4 := hC
  have hx := hC.1
  have hb := hC.2.1
  have hml := hC.2.2.1
  have hown := hC.2.2.2.1
  have hts := hC.2.2.2.2
  replace hl : lv_has ls 3 [(0, .ref w), (1, .int p0)] := hl
  have kc_m8 : (-8 : Int32).toInt = -8 := by decide
  have kc_0 : (0 : Int32).toInt = 0 := by decide
  have kc_1 : (1 : Int32).toInt = 1 := by decide
  have kc_24 : (24 : Int32).toInt = 24 := by decide
  have kc_1000 : (1000 : Int32).toInt = 1000 := by decide
  refine lv_bipush (v := 24) hx hb dX4_append_0 (by decide) ?_
  refine lv_istore_n (lv' := [(2, .int 24), (0, .ref w), (1, .int p0)]) hx hb dX4_append_2 rfl hl (by decide) rfl (fun ls hl => ?_)
  have hl' := hl; have hP' := hP; have hD' := hD; clear hl hP hD
  obtain ⟨i2344, w2345, g2346, ha_3, hb_3, hc_3, hl, hP, hD⟩ : ∃ (i2344 : Int32) (w2345 : Int32) (g2346 : Nat → Int32), (-8 ≤ i2344.toInt) ∧ (i2344.toInt ≤ 24) ∧ (0 ≤ w2345.toInt) ∧ lv_has ls 3 [(2, .int i2344), (0, .ref w), (1, .int p0)] ∧ va_P D vwCl [(w, .inr (4, [.ref wa0, .int w2345, .int wn2, .int wn3, .ref wa4, .int wn5, .int wn6, .int wn7, .int wn8, .int wn9])), (wa0, .inl (K 0, 1000, .inl g2346))] H ∧ va_D A [(w, .inr (4, [.ref wa0, .int w2345, .int wn2, .int wn3, .ref wa4, .int wn5, .int wn6, .int wn7, .int wn8, .int wn9])), (wa0, .inl (K 0, 1000, .inl g2346))] := ⟨_, _, _, by omega, by omega, by omega, hl', hP', hD'⟩
  clear hl' hP' hD'
  obtain ⟨n_3, hn_3⟩ : ∃ n : Nat, (i2344.toInt + 8).toNat < n := ⟨_, Nat.lt_succ_self _⟩
  induction n_3 generalizing i2344 w2345 g2346 H locs ls with
  | zero => exact absurd hn_3 (Nat.not_lt_zero _)
  | succ n_3 ih_3 =>
    refine lv_iload_n hx hb dX4_append_3 rfl (lv_at hl 0 rfl) ?_
    refine lv_if_lt (tgt := 48) hx hb dX4_append_4 (by decide) (fun c2347 => ?_) (fun c2347 => ?_)
    · replace c2347 := lt_i c2347
      refine W.widen (k := 0) (n := 0) (by decide) (by decide) ?_
      exact ch_vret hC hr hk hS dX4_append_48 ((fun k => [w2345].getD k 0, fun k => [g2346].getD k (fun _ => 0), fun k => [].getD k (fun _ => 0)) : ((Nat → Int32) × (Nat → Nat → Int32) × (Nat → Nat → Int64))) (show 0 ≤ (w2345 : Int32).toInt from by omega) (hP.sub [0, 1] rfl) (hD.sub [0, 1] (by decide) rfl)
    · replace c2347 := nlt_i c2347
      refine lv_aload_n hx hb dX4_append_7 rfl (lv_at hl 1 rfl) ?_
      refine va_get (D := D) (ci := 4) (v := .int w2345) (C := RX4) (T := TX4) (N := 10) hx hb hts in_X4 hown hE.1 hP 0 rfl rfl 1 (by decide) (hts _ w_400) (fun _ h9 => h9) rfl dX4_append_8 ?_
      refine lv_aload_n hx hb dX4_append_11 rfl (lv_at hl 1 rfl) ?_
      refine va_get (D := D) (ci := 4) (v := .ref wa0) (C := RX4) (T := TX4) (N := 10) hx hb hts in_X4 hown hE.1 hP 0 rfl rfl 0 (by decide) (hts _ w_401) (fun _ h9 => h9) rfl dX4_append_12 ?_
      refine va_alen (v := 1000) hx hb hE.1 hP 1 0 rfl rfl (show Int32.ofNat 1000 = 1000 by decide) dX4_append_15 ?_
      refine lv_icmp_ge (tgt := 48) hx hb dX4_append_16 (by decide) (fun c2348 => ?_) (fun c2348 => ?_)
      · replace c2348 := le_i c2348
        refine W.widen (k := 0) (n := 0) (by decide) (by decide) ?_
        exact ch_vret hC hr hk hS dX4_append_48 ((fun k => [w2345].getD k 0, fun k => [g2346].getD k (fun _ => 0), fun k => [].getD k (fun _ => 0)) : ((Nat → Int32) × (Nat → Nat → Int32) × (Nat → Nat → Int64))) (show 0 ≤ (w2345 : Int32).toInt from by omega) (hP.sub [0, 1] rfl) (hD.sub [0, 1] (by decide) rfl)
      · replace c2348 := nle_i c2348
        refine lv_aload_n hx hb dX4_append_19 rfl (lv_at hl 1 rfl) ?_
        refine va_get (D := D) (ci := 4) (v := .ref wa0) (C := RX4) (T := TX4) (N := 10) hx hb hts in_X4 hown hE.1 hP 0 rfl rfl 0 (by decide) (hts _ w_401) (fun _ h9 => h9) rfl dX4_append_20 ?_
        refine lv_aload_n hx hb dX4_append_23 rfl (lv_at hl 1 rfl) ?_
        refine va_get (D := D) (ci := 4) (v := .int w2345) (C := RX4) (T := TX4) (N := 10) hx hb hts in_X4 hown hE.1 hP 0 rfl rfl 1 (by decide) (hts _ w_400) (fun _ h9 => h9) rfl dX4_append_24 ?_
        refine lv_iload_n hx hb dX4_append_27 rfl (lv_at hl 2 rfl) ?_
        refine lv_iload_n hx hb dX4_append_28 rfl (lv_at hl 0 rfl) ?_
        refine lv_ishr hx hb dX4_append_29 ?_
        refine lv_topi (fun v2349 ev2349 => ?_)
        refine lv_i2b hx hb dX4_append_30 rfl ?_
        refine lv_topi (fun v2350 ev2350 => ?_)
        refine stb hx hb hE.1 hP hD hS 1 0 rfl rfl (vp_in_iff.mpr (by omega)) dX4_append_31 (fun g2351 eg2351 H locs hP hD hS => ?_)
        replace hP : va_P D vwCl [(w, .inr (4, [.ref wa0, .int w2345, .int wn2, .int wn3, .ref wa4, .int wn5, .int wn6, .int wn7, .int wn8, .int wn9])), (wa0, .inl (K 0, 1000, .inl g2351))] H := hP
        replace hD : va_D A [(w, .inr (4, [.ref wa0, .int w2345, .int wn2, .int wn3, .ref wa4, .int wn5, .int wn6, .int wn7, .int wn8, .int wn9])), (wa0, .inl (K 0, 1000, .inl g2351))] := hD
        refine lv_aload_n hx hb dX4_append_32 rfl (lv_at hl 1 rfl) ?_
        refine lv_dup hx hb dX4_append_33 rfl ?_
        refine va_get (D := D) (ci := 4) (v := .int w2345) (C := RX4) (T := TX4) (N := 10) hx hb hts in_X4 hown hE.1 hP 0 rfl rfl 1 (by decide) (hts _ w_400) (fun _ h9 => h9) rfl dX4_append_34 ?_
        refine lv_iconst (v := 1) hx hb dX4_append_37 (by decide) ?_
        refine lv_iadd hx hb dX4_append_38 ?_
        refine lv_topi (fun v2352 ev2352 => ?_)
        refine va_put (D := D) (ci := 4) (v := .int v2352) (ty := .int) (C := RX4) (T := TX4) (N := 10) hx hb hts in_X4 tyX4 tyX4_ok nmX4 hown hE.1 hP hD hS 0 rfl rfl 1 (by decide) (hts _ w_400) (fun _ h9 => h9) rfl (by decide +kernel) rfl rfl (Nat.le_of_ble_eq_true rfl) dX4_append_39 (fun H locs hP hD hS => ?_)
        replace hP : va_P D vwCl [(w, .inr (4, [.ref wa0, .int v2352, .int wn2, .int wn3, .ref wa4, .int wn5, .int wn6, .int wn7, .int wn8, .int wn9])), (wa0, .inl (K 0, 1000, .inl g2351))] H := hP
        replace hD : va_D A [(w, .inr (4, [.ref wa0, .int v2352, .int wn2, .int wn3, .ref wa4, .int wn5, .int wn6, .int wn7, .int wn8, .int wn9])), (wa0, .inl (K 0, 1000, .inl g2351))] := hD
        obtain ⟨v2353, ev2353⟩ : ∃ z : Int32, z = i2344 + (-8) := ⟨_, rfl⟩
        refine lv_iinc (v := v2353) (lv' := [(2, .int v2353), (0, .ref w), (1, .int p0)]) hx hb dX4_append_42 hl (k := 0) rfl (by rw [ev2353]; rfl) (by decide) rfl (fun ls hl => ?_)
        refine lv_goto (tgt := 3) hx hb dX4_append_45 (by decide) ?_
        have tv2353 : v2353.toInt = (i2344 : Int32).toInt + ((-8) : Int32).toInt := add_i ev2353 (by omega) (by omega)
        have tv2352 : v2352.toInt = (w2345 : Int32).toInt + (1 : Int32).toInt := add_i ev2352 (by omega) (by omega)
        exact ih_3 (i2344 := v2353) (w2345 := v2352) (g2346 := g2351) (ha_3 := by omega) (hb_3 := by omega) (hc_3 := by omega) (H := H) (locs := locs) (ls := ls) (hn_3 := by omega) (hP := hP) (hD := hD) (hS := hS) (hl := lv_sub hl [0, 1, 2] rfl)
set_option maxRecDepth 40000 in
set_option maxHeartbeats 4000000 in
theorem c_X4_byteAt (l : Launch) (D : va_G) (K : Nat → ClassId) (w : Nat) (wa0 : Nat) (wa4 : Nat) (wn1 : Int32) (wn2 : Int32) (wn3 : Int32) (wn5 : Int32) (wn6 : Int32) (wn7 : Int32) (wn8 : Int32) (wn9 : Int32) (wf0 : Nat → Int32) (p0 : Int32) : Ro l D K yX4_byteAt cX4_byteAt 2 (some .int) 0 0 [.ref w, .int p0] [(w, .inr (4, [.ref wa0, .int wn1, .int wn2, .int wn3, .ref wa4, .int wn5, .int wn6, .int wn7, .int wn8, .int wn9])), (wa0, .inl (K 0, 1000, .inl wf0))] (fun _ => True) := by
  refine ro_of (by decide) (Nat.le_of_ble_eq_true rfl) ?_
  intro p e s m below meth c hC hr hk hE hP ls hl
  replace hC : CallFix p m c cX4_byteAt 2 s [.ref w, .int p0].toArray wl RX4 := hC
  have hx := hC.1
  have hb := hC.2.1
  have hml := hC.2.2.1
  have hown := hC.2.2.2.1
  have hts := hC.2.2.2.2
  replace hl : lv_has ls 2 [(0, .ref w), (1, .int p0)] := hl
  have kc_0 : (0 : Int32).toInt = 0 := by decide
  have kc_1000 : (1000 : Int32).toInt = 1000 := by decide
  refine lv_iload_n hx hb dX4_byteAt_0 rfl (lv_at hl 1 rfl) ?_
  refine lv_if_lt (tgt := 30) hx hb dX4_byteAt_1 (by decide) (fun c2354 => ?_) (fun c2354 => ?_)
  · replace c2354 := lt_i c2354
    refine lv_iconst (v := 0) hx hb dX4_byteAt_30 (by decide) ?_
    exact ro_ret hC hr hk dX4_byteAt_31 trivial
  · replace c2354 := nlt_i c2354
    refine lv_iload_n hx hb dX4_byteAt_4 rfl (lv_at hl 1 rfl) ?_
    refine lv_aload_n hx hb dX4_byteAt_5 rfl (lv_at hl 0 rfl) ?_
    refine va_get (D := D) (ci := 4) (v := .int wn1) (C := RX4) (T := TX4) (N := 10) hx hb hts in_X4 hown hE.1 hP 0 rfl rfl 1 (by decide) (hts _ w_400) (fun _ h9 => h9) rfl dX4_byteAt_6 ?_
    refine lv_icmp_ge (tgt := 30) hx hb dX4_byteAt_9 (by decide) (fun c2355 => ?_) (fun c2355 => ?_)
    · replace c2355 := le_i c2355
      refine lv_iconst (v := 0) hx hb dX4_byteAt_30 (by decide) ?_
      exact ro_ret hC hr hk dX4_byteAt_31 trivial
    · replace c2355 := nle_i c2355
      refine lv_iload_n hx hb dX4_byteAt_12 rfl (lv_at hl 1 rfl) ?_
      refine lv_aload_n hx hb dX4_byteAt_13 rfl (lv_at hl 0 rfl) ?_
      refine va_get (D := D) (ci := 4) (v := .ref wa0) (C := RX4) (T := TX4) (N := 10) hx hb hts in_X4 hown hE.1 hP 0 rfl rfl 0 (by decide) (hts _ w_401) (fun _ h9 => h9) rfl dX4_byteAt_14 ?_
      refine va_alen (v := 1000) hx hb hE.1 hP 1 0 rfl rfl (show Int32.ofNat 1000 = 1000 by decide) dX4_byteAt_17 ?_
      refine lv_icmp_ge (tgt := 30) hx hb dX4_byteAt_18 (by decide) (fun c2356 => ?_) (fun c2356 => ?_)
      · replace c2356 := le_i c2356
        refine lv_iconst (v := 0) hx hb dX4_byteAt_30 (by decide) ?_
        exact ro_ret hC hr hk dX4_byteAt_31 trivial
      · replace c2356 := nle_i c2356
        refine lv_aload_n hx hb dX4_byteAt_21 rfl (lv_at hl 0 rfl) ?_
        refine va_get (D := D) (ci := 4) (v := .ref wa0) (C := RX4) (T := TX4) (N := 10) hx hb hts in_X4 hown hE.1 hP 0 rfl rfl 0 (by decide) (hts _ w_401) (fun _ h9 => h9) rfl dX4_byteAt_22 ?_
        refine lv_iload_n hx hb dX4_byteAt_25 rfl (lv_at hl 1 rfl) ?_
        refine va_bald hx hb hE.1 hP 1 0 rfl rfl (vp_in_iff.mpr (by omega)) dX4_byteAt_26 ?_
        refine lv_topi (fun v2357 ev2357 => ?_)
        refine lv_goto (tgt := 31) hx hb dX4_byteAt_27 (by decide) ?_
        exact ro_ret hC hr hk dX4_byteAt_31 trivial
