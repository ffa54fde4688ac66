theorem gw_zero : GW (fun _ => 0) := fun i _ => by
  show RW i (0 : Int32).toInt
  rw [show ((0 : Int32).toInt) = 0 from by decide]
  exact ⟨fun _ => by omega, fun _ => by omega, fun _ => by omega, fun _ => by omega, fun _ _ => by omega, fun _ _ => by omega, fun _ _ => by omega, fun _ _ => by omega⟩
theorem gi_zero : GI (fun _ => 0) := fun i _ => gw_zero (i % 262) (Nat.mod_lt _ (by decide))
theorem rg_zero {x y : Int} {n : Nat} (h1 : x ≤ 0) (h2 : 0 ≤ y) : Rg x y n (fun _ => 0) := fun i _ => by
  have : (0 : Int32).toInt = 0 := by decide
  exact ⟨by show x ≤ (0 : Int32).toInt; omega, by show (0 : Int32).toInt ≤ y; omega⟩
theorem rg_m1 {f : Nat → Int32} (h : ∀ j : Nat, j < 4 → f j = -1) : Rg (-1) 60 4 f := fun j hj => by rw [h j hj]; decide
set_option maxRecDepth 100000 in
set_option maxHeartbeats 8000000 in
theorem law_loop {p : Program} {l : Launch} {e : Env} {s : State} {m : MethodId} {below : List Frame} {meth : Method} {c : Code} {B L : Nat} {xs : Nat → Int32} {D : va_G} {K : Nat → ClassId} {Z : stZ} {a b : Nat → Nat} (hC : CallFix p m c cL_law 4 s #[Value.ref B] wl RL) (hr : meth.sig.returnType = ret) (hk : meth.locks = false) (hE : ev D K s) (hT : stE Z s) (hZs : Z.2.2 = s.heap.size) (hX : va_X B L xs s s.heap) (hbl : B < s.heap.size) (hL : L ≤ 3072) : ∀ (n : Nat) (z : Int32) (kc : Nat) (H : Heap) (locs : List Loc) (ls : Array Slot), z.toInt = 6 * (kc : Int) → (L : Int) < z.toInt + 6 * (n : Int) → z.toInt ≤ 3072 → LwS D K (fun q : Nat => s.heap.size ≤ q) s.heap a b H locs → lv_has ls 4 [(3, .int z), (2, .ref (b 0)), (1, .ref (a 0)), (0, .ref B)] → W p l e room_1 s m #[Value.ref B] below meth c H locs (1000 + 20 * kc) (200000 + 400 * kc) (lw_Z below #[Value.ref B] s) (F0 m 18 ls []) := by
  have hx := hC.1
  have hb := hC.2.1
  have hbA : ¬ (fun q : Nat => s.heap.size ≤ q) B := Nat.not_le.mpr hbl
  have e1 : room_1.cells = 600000 := rfl
  have e2 : room_1.slots = 7302250 := rfl
  have kc6 : (6 : Int32).toInt = 6 := by decide
  intro n
  induction n with
  | zero =>
    intro z kc H locs ls hzk hn hz3 hLS hl
    obtain ⟨u, v, iw, ip, o0, o1, o2, hI, hJ, hO, hRf, hRS, hRI, hP, hD, hS⟩ := hLS
    refine lv_iload_n hx hb dL_law_18 rfl (lv_at hl 0 rfl) ?_
    refine lv_aload_n hx hb dL_law_19 rfl (lv_at hl 3 rfl) ?_
    refine va_slen hx hb hX hbl hbA hS dL_law_20 ?_
    refine lv_bipush (v := 6) hx hb dL_law_21 (by decide) ?_
    refine lv_isub hx hb dL_law_23 ?_
    refine lv_topi (fun w ew => ?_)
    have tl : (Int32.ofNat L).toInt = (L : Int) := Int32.toInt_ofNat_of_lt (by omega)
    have tw : w.toInt = (Int32.ofNat L).toInt - (6 : Int32).toInt := sub_i ew (by omega) (by omega)
    refine lv_icmp_gt (tgt := 2349) hx hb dL_law_24 (by decide) (fun _ => ?_) (fun h9 => absurd (nlt_i h9) (by omega))
    refine lv_iconst (v := 1) hx hb dL_law_2349 (by decide) ?_
    refine va_forget (fun q hq => hS.2.2 q hq) ?_
    refine W.widen (k := 600000) (n := 7302250) (by omega) (by omega) ?_
    exact lw_ret hx hb hr hk dL_law_2350
  | succ n ih =>
    intro z kc H locs ls hzk hn hz3 hLS hl
    have hLS0 := hLS
    obtain ⟨u, v, iw, ip, o0, o1, o2, hI, hJ, hO, hRf, hRS, hRI, hP, hD, hS⟩ := hLS
    refine lv_iload_n hx hb dL_law_18 rfl (lv_at hl 0 rfl) ?_
    refine lv_aload_n hx hb dL_law_19 rfl (lv_at hl 3 rfl) ?_
    refine va_slen hx hb hX hbl hbA hS dL_law_20 ?_
    refine lv_bipush (v := 6) hx hb dL_law_21 (by decide) ?_
    refine lv_isub hx hb dL_law_23 ?_
    refine lv_topi (fun w ew => ?_)
    have tl : (Int32.ofNat L).toInt = (L : Int) := Int32.toInt_ofNat_of_lt (by omega)
    have tw : w.toInt = (Int32.ofNat L).toInt - (6 : Int32).toInt := sub_i ew (by omega) (by omega)
    refine lv_icmp_gt (tgt := 2349) hx hb dL_law_24 (by decide) (fun _ => ?_) (fun h9 => ?_)
    · refine lv_iconst (v := 1) hx hb dL_law_2349 (by decide) ?_
      refine va_forget (fun q hq => hS.2.2 q hq) ?_
      refine W.widen (k := 600000) (n := 7302250) (by omega) (by omega) ?_
      exact lw_ret hx hb hr hk dL_law_2350
    · have hz6 := nlt_i h9
      have hz0 : 0 ≤ z.toInt := by omega
      have hz : z.toInt + 6 ≤ (L : Int) := by omega
      have hR1 : 1000 + 20 * kc + 20 ≤ room_1.cells := by omega
      have hR2 : 200000 + 400 * kc + 400 ≤ room_1.slots := by omega
      have hN : ∀ (H : Heap) (locs : List Loc) (ls : Array Slot), LwS D K (fun q : Nat => s.heap.size ≤ q) s.heap a b H locs → lv_has ls 4 [(3, .int z), (2, .ref (b 0)), (1, .ref (a 0)), (0, .ref B)] → W p l e room_1 s m #[Value.ref B] below meth c H locs (1000 + 20 * kc + 20) (200000 + 400 * kc + 400) (lw_Z below #[Value.ref B] s) (F0 m 2343 ls []) := by
        intro H locs ls hLS hl
        obtain ⟨z2, ez2⟩ : ∃ z2 : Int32, z2 = z + 6 := ⟨_, rfl⟩
        have tz2 : z2.toInt = z.toInt + (6 : Int32).toInt := add_i ez2 (by omega) (by omega)
        refine lv_iinc (v := z2) (lv' := [(3, .int z2), (2, .ref (b 0)), (1, .ref (a 0)), (0, .ref B)]) hx hb dL_law_2343 hl (k := 0) rfl (by rw [ez2]; rfl) (by decide) rfl (fun ls hl => ?_)
        refine lv_goto (tgt := 18) hx hb dL_law_2346 (by decide) ?_
        refine W.widen (k := 1000 + 20 * (kc + 1)) (n := 200000 + 400 * (kc + 1)) (by omega) (by omega) ?_
        exact ih z2 (kc + 1) H locs ls (by omega) (by omega) (by omega) hLS hl
      refine lv_aload_n hx hb dL_law_27 rfl (lv_at hl 3 rfl) ?_
      refine lv_iload_n hx hb dL_law_28 rfl (lv_at hl 0 rfl) ?_
      refine va_sld hx hb hX hbl hbA hS (vp_in_iff.mpr (by omega)) dL_law_29 ?_
      refine lv_bipush (v := 127) hx hb dL_law_30 (by decide) ?_
      refine lv_iand hx hb dL_law_32 ?_
      obtain ⟨j, hj, ej⟩ := pk_andE (xs z.toNatClampNeg) (m := 127) 7 (by decide)
      refine tc (y := nI j) ej ?_
      by_cases h65 : j < 65
      · match j, h65 with
        | 0, _ => exact lv_tableIn (off := 275) (tgt := 308) hx hb dL_law_33 (by decide) (by decide) (by decide +kernel) (by decide) (law_0 hC hE hT hZs hX hbl hL hz0 hz hR1 hR2 hN hLS0 hl)
        | 1, _ => exact lv_tableIn (off := 338) (tgt := 371) hx hb dL_law_33 (by decide) (by decide) (by decide +kernel) (by decide) (law_1 hC hE hT hZs hX hbl hL hz0 hz hR1 hR2 hN hLS0 hl)
        | 2, _ => exact lv_tableIn (off := 361) (tgt := 394) hx hb dL_law_33 (by decide) (by decide) (by decide +kernel) (by decide) (law_2 hC hE hT hZs hX hbl hL hz0 hz hR1 hR2 hN hLS0 hl)
        | 3, _ => exact lv_tableIn (off := 374) (tgt := 407) hx hb dL_law_33 (by decide) (by decide) (by decide +kernel) (by decide) (law_3 hC hE hT hZs hX hbl hL hz0 hz hR1 hR2 hN hLS0 hl)
        | 4, _ => exact lv_tableIn (off := 397) (tgt := 430) hx hb dL_law_33 (by decide) (by decide) (by decide +kernel) (by decide) (law_4 hC hE hT hZs hX hbl hL hz0 hz hR1 hR2 hN hLS0 hl)
        | 5, _ => exact lv_tableIn (off := 430) (tgt := 463) hx hb dL_law_33 (by decide) (by decide) (by decide +kernel) (by decide) (law_5 hC hE hT hZs hX hbl hL hz0 hz hR1 hR2 hN hLS0 hl)
        | 6, _ => exact lv_tableIn (off := 453) (tgt := 486) hx hb dL_law_33 (by decide) (by decide) (by decide +kernel) (by decide) (law_6 hC hE hT hZs hX hbl hL hz0 hz hR1 hR2 hN hLS0 hl)
        | 7, _ => exact lv_tableIn (off := 486) (tgt := 519) hx hb dL_law_33 (by decide) (by decide) (by decide +kernel) (by decide) (law_7 hC hE hT hZs hX hbl hL hz0 hz hR1 hR2 hN hLS0 hl)
        | 8, _ => exact lv_tableIn (off := 519) (tgt := 552) hx hb dL_law_33 (by decide) (by decide) (by decide +kernel) (by decide) (law_8 hC hE hT hZs hX hbl hL hz0 hz hR1 hR2 hN hLS0 hl)
        | 9, _ => exact lv_tableIn (off := 542) (tgt := 575) hx hb dL_law_33 (by decide) (by decide) (by decide +kernel) (by decide) (law_9 hC hE hT hZs hX hbl hL hz0 hz hR1 hR2 hN hLS0 hl)
        | 10, _ => exact lv_tableIn (off := 565) (tgt := 598) hx hb dL_law_33 (by decide) (by decide) (by decide +kernel) (by decide) (law_10 hC hE hT hZs hX hbl hL hz0 hz hR1 hR2 hN hLS0 hl)
        | 11, _ => exact lv_tableIn (off := 598) (tgt := 631) hx hb dL_law_33 (by decide) (by decide) (by decide +kernel) (by decide) (law_11 hC hE hT hZs hX hbl hL hz0 hz hR1 hR2 hN hLS0 hl)
        | 12, _ => exact lv_tableIn (off := 631) (tgt := 664) hx hb dL_law_33 (by decide) (by decide) (by decide +kernel) (by decide) (law_12 hC hE hT hZs hX hbl hL hz0 hz hR1 hR2 hN hLS0 hl)
        | 13, _ => exact lv_tableIn (off := 644) (tgt := 677) hx hb dL_law_33 (by decide) (by decide) (by decide +kernel) (by decide) (law_13 hC hE hT hZs hX hbl hL hz0 hz hR1 hR2 hN hLS0 hl)
        | 14, _ => exact lv_tableIn (off := 667) (tgt := 700) hx hb dL_law_33 (by decide) (by decide) (by decide +kernel) (by decide) (law_14 hC hE hT hZs hX hbl hL hz0 hz hR1 hR2 hN hLS0 hl)
        | 15, _ => exact lv_tableIn (off := 680) (tgt := 713) hx hb dL_law_33 (by decide) (by decide) (by decide +kernel) (by decide) (law_15 hC hE hT hZs hX hbl hL hz0 hz hR1 hR2 hN hLS0 hl)
        | 16, _ => exact lv_tableIn (off := 693) (tgt := 726) hx hb dL_law_33 (by decide) (by decide) (by decide +kernel) (by decide) (law_16 hC hE hT hZs hX hbl hL hz0 hz hR1 hR2 hN hLS0 hl)
        | 17, _ => exact lv_tableIn (off := 726) (tgt := 759) hx hb dL_law_33 (by decide) (by decide) (by decide +kernel) (by decide) (law_17 hC hE hT hZs hX hbl hL hz0 hz hR1 hR2 hN hLS0 hl)
        | 18, _ => exact lv_tableIn (off := 759) (tgt := 792) hx hb dL_law_33 (by decide) (by decide) (by decide +kernel) (by decide) (law_18 hC hE hT hZs hX hbl hL hz0 hz hR1 hR2 hN hLS0 hl)
        | 19, _ => exact lv_tableIn (off := 792) (tgt := 825) hx hb dL_law_33 (by decide) (by decide) (by decide +kernel) (by decide) (law_19 hC hE hT hZs hX hbl hL hz0 hz hR1 hR2 hN hLS0 hl)
        | 20, _ => exact lv_tableIn (off := 825) (tgt := 858) hx hb dL_law_33 (by decide) (by decide) (by decide +kernel) (by decide) (law_20 hC hE hT hZs hX hbl hL hz0 hz hR1 hR2 hN hLS0 hl)
        | 21, _ => exact lv_tableIn (off := 858) (tgt := 891) hx hb dL_law_33 (by decide) (by decide) (by decide +kernel) (by decide) (law_21 hC hE hT hZs hX hbl hL hz0 hz hR1 hR2 hN hLS0 hl)
        | 22, _ => exact lv_tableIn (off := 891) (tgt := 924) hx hb dL_law_33 (by decide) (by decide) (by decide +kernel) (by decide) (law_22 hC hE hT hZs hX hbl hL hz0 hz hR1 hR2 hN hLS0 hl)
        | 23, _ => exact lv_tableIn (off := 934) (tgt := 967) hx hb dL_law_33 (by decide) (by decide) (by decide +kernel) (by decide) (law_23 hC hE hT hZs hX hbl hL hz0 hz hR1 hR2 hN hLS0 hl)
        | 24, _ => exact lv_tableIn (off := 957) (tgt := 990) hx hb dL_law_33 (by decide) (by decide) (by decide +kernel) (by decide) (law_24 hC hE hT hZs hX hbl hL hz0 hz hR1 hR2 hN hLS0 hl)
        | 25, _ => exact lv_tableIn (off := 990) (tgt := 1023) hx hb dL_law_33 (by decide) (by decide) (by decide +kernel) (by decide) (law_25 hC hE hT hZs hX hbl hL hz0 hz hR1 hR2 hN hLS0 hl)
        | 26, _ => exact lv_tableIn (off := 1013) (tgt := 1046) hx hb dL_law_33 (by decide) (by decide) (by decide +kernel) (by decide) (law_26 hC hE hT hZs hX hbl hL hz0 hz hR1 hR2 hN hLS0 hl)
        | 27, _ => exact lv_tableIn (off := 1046) (tgt := 1079) hx hb dL_law_33 (by decide) (by decide) (by decide +kernel) (by decide) (law_27 hC hE hT hZs hX hbl hL hz0 hz hR1 hR2 hN hLS0 hl)
        | 28, _ => exact lv_tableIn (off := 1069) (tgt := 1102) hx hb dL_law_33 (by decide) (by decide) (by decide +kernel) (by decide) (law_28 hC hE hT hZs hX hbl hL hz0 hz hR1 hR2 hN hLS0 hl)
        | 29, _ => exact lv_tableIn (off := 1092) (tgt := 1125) hx hb dL_law_33 (by decide) (by decide) (by decide +kernel) (by decide) (law_29 hC hE hT hZs hX hbl hL hz0 hz hR1 hR2 hN hLS0 hl)
        | 30, _ => exact lv_tableIn (off := 1115) (tgt := 1148) hx hb dL_law_33 (by decide) (by decide) (by decide +kernel) (by decide) (law_30 hC hE hT hZs hX hbl hL hz0 hz hR1 hR2 hN hLS0 hl)
        | 31, _ => exact lv_tableIn (off := 1128) (tgt := 1161) hx hb dL_law_33 (by decide) (by decide) (by decide +kernel) (by decide) (law_31 hC hE hT hZs hX hbl hL hz0 hz hR1 hR2 hN hLS0 hl)
        | 32, _ => exact lv_tableIn (off := 1161) (tgt := 1194) hx hb dL_law_33 (by decide) (by decide) (by decide +kernel) (by decide) (law_32 hC hE hT hZs hX hbl hL hz0 hz hR1 hR2 hN hLS0 hl)
        | 33, _ => exact lv_tableIn (off := 1174) (tgt := 1207) hx hb dL_law_33 (by decide) (by decide) (by decide +kernel) (by decide) (law_33 hC hE hT hZs hX hbl hL hz0 hz hR1 hR2 hN hLS0 hl)
        | 34, _ => exact lv_tableIn (off := 1207) (tgt := 1240) hx hb dL_law_33 (by decide) (by decide) (by decide +kernel) (by decide) (law_34 hC hE hT hZs hX hbl hL hz0 hz hR1 hR2 hN hLS0 hl)
        | 35, _ => exact lv_tableIn (off := 1250) (tgt := 1283) hx hb dL_law_33 (by decide) (by decide) (by decide +kernel) (by decide) (law_35 hC hE hT hZs hX hbl hL hz0 hz hR1 hR2 hN hLS0 hl)
        | 36, _ => exact lv_tableIn (off := 1283) (tgt := 1316) hx hb dL_law_33 (by decide) (by decide) (by decide +kernel) (by decide) (law_36 hC hE hT hZs hX hbl hL hz0 hz hR1 hR2 hN hLS0 hl)
        | 37, _ => exact lv_tableIn (off := 1316) (tgt := 1349) hx hb dL_law_33 (by decide) (by decide) (by decide +kernel) (by decide) (law_37 hC hE hT hZs hX hbl hL hz0 hz hR1 hR2 hN hLS0 hl)
        | 38, _ => exact lv_tableIn (off := 1339) (tgt := 1372) hx hb dL_law_33 (by decide) (by decide) (by decide +kernel) (by decide) (law_38 hC hE hT hZs hX hbl hL hz0 hz hR1 hR2 hN hLS0 hl)
        | 39, _ => exact lv_tableIn (off := 1372) (tgt := 1405) hx hb dL_law_33 (by decide) (by decide) (by decide +kernel) (by decide) (law_39 hC hE hT hZs hX hbl hL hz0 hz hR1 hR2 hN hLS0 hl)
        | 40, _ => exact lv_tableIn (off := 1395) (tgt := 1428) hx hb dL_law_33 (by decide) (by decide) (by decide +kernel) (by decide) (law_40 hC hE hT hZs hX hbl hL hz0 hz hR1 hR2 hN hLS0 hl)
        | 41, _ => exact lv_tableIn (off := 1428) (tgt := 1461) hx hb dL_law_33 (by decide) (by decide) (by decide +kernel) (by decide) (law_41 hC hE hT hZs hX hbl hL hz0 hz hR1 hR2 hN hLS0 hl)
        | 42, _ => exact lv_tableIn (off := 1461) (tgt := 1494) hx hb dL_law_33 (by decide) (by decide) (by decide +kernel) (by decide) (law_42 hC hE hT hZs hX hbl hL hz0 hz hR1 hR2 hN hLS0 hl)
        | 43, _ => exact lv_tableIn (off := 1484) (tgt := 1517) hx hb dL_law_33 (by decide) (by decide) (by decide +kernel) (by decide) (law_43 hC hE hT hZs hX hbl hL hz0 hz hR1 hR2 hN hLS0 hl)
        | 44, _ => exact lv_tableIn (off := 1507) (tgt := 1540) hx hb dL_law_33 (by decide) (by decide) (by decide +kernel) (by decide) (law_44 hC hE hT hZs hX hbl hL hz0 hz hR1 hR2 hN hLS0 hl)
        | 45, _ => exact lv_tableIn (off := 1530) (tgt := 1563) hx hb dL_law_33 (by decide) (by decide) (by decide +kernel) (by decide) (law_45 hC hE hT hZs hX hbl hL hz0 hz hR1 hR2 hN hLS0 hl)
        | 46, _ => exact lv_tableIn (off := 1553) (tgt := 1586) hx hb dL_law_33 (by decide) (by decide) (by decide +kernel) (by decide) (law_46 hC hE hT hZs hX hbl hL hz0 hz hR1 hR2 hN hLS0 hl)
        | 47, _ => exact lv_tableIn (off := 1586) (tgt := 1619) hx hb dL_law_33 (by decide) (by decide) (by decide +kernel) (by decide) (law_47 hC hE hT hZs hX hbl hL hz0 hz hR1 hR2 hN hLS0 hl)
        | 48, _ => exact lv_tableIn (off := 1629) (tgt := 1662) hx hb dL_law_33 (by decide) (by decide) (by decide +kernel) (by decide) (law_48 hC hE hT hZs hX hbl hL hz0 hz hR1 hR2 hN hLS0 hl)
        | 49, _ => exact lv_tableIn (off := 1662) (tgt := 1695) hx hb dL_law_33 (by decide) (by decide) (by decide +kernel) (by decide) (law_49 hC hE hT hZs hX hbl hL hz0 hz hR1 hR2 hN hLS0 hl)
        | 50, _ => exact lv_tableIn (off := 1695) (tgt := 1728) hx hb dL_law_33 (by decide) (by decide) (by decide +kernel) (by decide) (law_50 hC hE hT hZs hX hbl hL hz0 hz hR1 hR2 hN hLS0 hl)
        | 51, _ => exact lv_tableIn (off := 1728) (tgt := 1761) hx hb dL_law_33 (by decide) (by decide) (by decide +kernel) (by decide) (law_51 hC hE hT hZs hX hbl hL hz0 hz hR1 hR2 hN hLS0 hl)
        | 52, _ => exact lv_tableIn (off := 1761) (tgt := 1794) hx hb dL_law_33 (by decide) (by decide) (by decide +kernel) (by decide) (law_52 hC hE hT hZs hX hbl hL hz0 hz hR1 hR2 hN hLS0 hl)
        | 53, _ => exact lv_tableIn (off := 1814) (tgt := 1847) hx hb dL_law_33 (by decide) (by decide) (by decide +kernel) (by decide) (law_53 hC hE hT hZs hX hbl hL hz0 hz hR1 hR2 hN hLS0 hl)
        | 54, _ => exact lv_tableIn (off := 1847) (tgt := 1880) hx hb dL_law_33 (by decide) (by decide) (by decide +kernel) (by decide) (law_54 hC hE hT hZs hX hbl hL hz0 hz hR1 hR2 hN hLS0 hl)
        | 55, _ => exact lv_tableIn (off := 1880) (tgt := 1913) hx hb dL_law_33 (by decide) (by decide) (by decide +kernel) (by decide) (law_55 hC hE hT hZs hX hbl hL hz0 hz hR1 hR2 hN hLS0 hl)
        | 56, _ => exact lv_tableIn (off := 1923) (tgt := 1956) hx hb dL_law_33 (by decide) (by decide) (by decide +kernel) (by decide) (law_56 hC hE hT hZs hX hbl hL hz0 hz hR1 hR2 hN hLS0 hl)
        | 57, _ => exact lv_tableIn (off := 1956) (tgt := 1989) hx hb dL_law_33 (by decide) (by decide) (by decide +kernel) (by decide) (law_57 hC hE hT hZs hX hbl hL hz0 hz hR1 hR2 hN hLS0 hl)
        | 58, _ => exact lv_tableIn (off := 2009) (tgt := 2042) hx hb dL_law_33 (by decide) (by decide) (by decide +kernel) (by decide) (law_58 hC hE hT hZs hX hbl hL hz0 hz hR1 hR2 hN hLS0 hl)
        | 59, _ => exact lv_tableIn (off := 2062) (tgt := 2095) hx hb dL_law_33 (by decide) (by decide) (by decide +kernel) (by decide) (law_59 hC hE hT hZs hX hbl hL hz0 hz hR1 hR2 hN hLS0 hl)
        | 60, _ => exact lv_tableIn (off := 2085) (tgt := 2118) hx hb dL_law_33 (by decide) (by decide) (by decide +kernel) (by decide) (law_60 hC hE hT hZs hX hbl hL hz0 hz hR1 hR2 hN hLS0 hl)
        | 61, _ => exact lv_tableIn (off := 2108) (tgt := 2141) hx hb dL_law_33 (by decide) (by decide) (by decide +kernel) (by decide) (law_61 hC hE hT hZs hX hbl hL hz0 hz hR1 hR2 hN hLS0 hl)
        | 62, _ => exact lv_tableIn (off := 2131) (tgt := 2164) hx hb dL_law_33 (by decide) (by decide) (by decide +kernel) (by decide) (law_62 hC hE hT hZs hX hbl hL hz0 hz hR1 hR2 hN hLS0 hl)
        | 63, _ => exact lv_tableIn (off := 2174) (tgt := 2207) hx hb dL_law_33 (by decide) (by decide) (by decide +kernel) (by decide) (law_63 hC hE hT hZs hX hbl hL hz0 hz hR1 hR2 hN hLS0 hl)
        | 64, _ => exact lv_tableIn (off := 2247) (tgt := 2280) hx hb dL_law_33 (by decide) (by decide) (by decide +kernel) (by decide) (law_64 hC hE hT hZs hX hbl hL hz0 hz hR1 hR2 hN hLS0 hl)
        | j + 65, h => exact absurd h (by omega)
      · refine lv_tableOut (tgt := 2343) hx hb dL_law_33 (Or.inr (by rw [nI_toInt (by omega)]; omega)) (by decide) ?_
        refine W.widen (k := 1000 + 20 * kc + 20) (n := 200000 + 400 * kc + 400) (by omega) (by omega) ?_
        exact hN _ _ _ hLS0 hl
