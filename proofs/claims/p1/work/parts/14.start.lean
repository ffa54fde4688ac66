set_option maxHeartbeats 4000000 in
set_option maxRecDepth 100000 in
/-- the switch: every call, or none -/
theorem law_switch {p : Program} {l : Launch} {e : Env} {s : State} {m : MethodId} {below : List Frame} {meth : Method} {c : Code} {b : Nat} {xs : Nat → Int32} {D : va_G} {K : Nat → ClassId} (hC : CallFix p m c cL_law 4 s #[Value.ref b] wl RL) (hr : meth.sig.returnType = ret) (hk : meth.locks = false) (hX : va_X b 6 xs s s.heap) (hbl : b < s.heap.size) (hE : ev D K s) (x y : Nat → Nat) (fs fm : Nat → Int32) (hfs : ∀ j, j < 4 → fs j = -1) (hfm : ∀ j, j < 4 → fm j = -1) (H : Heap) (locs : List Loc) (hP : va_P D vwCl (fxL K x fs ++ mdL K y fm) H) (hD : va_D (fun q : Nat => s.heap.size ≤ q) (fxL K x fs ++ mdL K y fm)) (hS : va_S (fun q : Nat => s.heap.size ≤ q) s.heap H locs) (ls : Array Slot) (hl : lv_has ls 4 [(3, .int 0), (2, .ref (y 0)), (1, .ref (x 0)), (0, .ref b)]) : W p l e room_1 s m #[Value.ref b] below meth c H locs 900 150000 (lw_Z below #[Value.ref b] s) (F0 m 27 ls []) := by
  have hx := hC.1
  have hb := hC.2.1
  have hbA : ¬ (fun q : Nat => s.heap.size ≤ q) b := Nat.not_le.mpr hbl
  have hPx : va_P D vwCl (fxL K x fs) H := hP.sub [0, 1, 2, 3, 4, 5, 6, 7, 8, 9, 10, 11, 12, 13, 14, 15, 16, 17, 18, 19, 20, 21, 22, 23, 24, 25, 26, 27, 28, 29, 30, 31, 32, 33] rfl
  have hPm : va_P D vwCl (mdL K y fm) H := hP.sub [34, 35, 36, 37, 38, 39, 40, 41, 42, 43] rfl
  refine lv_aload_n hx hb dL_law_27 rfl (lv_at hl 3 rfl) ?_
  refine lv_iload_n hx hb dL_law_28 rfl (lv_at hl 0 rfl) ?_
  refine va_sld hx hb hX hbl hbA hS (in_c (by decide)) dL_law_29 ?_
  refine lv_bipush (v := 127) hx hb dL_law_30 (by decide) ?_
  refine lv_iand hx hb dL_law_32 ?_
  obtain ⟨j, hj, ej⟩ := pk_andE (xs (0 : Int32).toNatClampNeg) (m := 127) 7 (by decide)
  refine tc (y := nI j) ej ?_
  by_cases h65 : j < 65
  · match j, h65 with
    | 0, _ => exact lv_tableIn (off := 275) (tgt := 308) hx hb dL_law_33 (by decide) (by decide) (by decide +kernel) (by decide) (law_0 hC hr hk hX hbl hE x y fs fm hfs hfm H locs hP hD hPx hPm hS ls hl)
    | 1, _ => exact lv_tableIn (off := 338) (tgt := 371) hx hb dL_law_33 (by decide) (by decide) (by decide +kernel) (by decide) (law_1 hC hr hk hX hbl hE x y fs fm hfs hfm H locs hP hD hPx hPm hS ls hl)
    | 2, _ => exact lv_tableIn (off := 361) (tgt := 394) hx hb dL_law_33 (by decide) (by decide) (by decide +kernel) (by decide) (law_2 hC hr hk hX hbl hE x y fs fm hfs hfm H locs hP hD hPx hPm hS ls hl)
    | 3, _ => exact lv_tableIn (off := 374) (tgt := 407) hx hb dL_law_33 (by decide) (by decide) (by decide +kernel) (by decide) (law_3 hC hr hk hX hbl hE x y fs fm hfs hfm H locs hP hD hPx hPm hS ls hl)
    | 4, _ => exact lv_tableIn (off := 397) (tgt := 430) hx hb dL_law_33 (by decide) (by decide) (by decide +kernel) (by decide) (law_4 hC hr hk hX hbl hE x y fs fm hfs hfm H locs hP hD hPx hPm hS ls hl)
    | 5, _ => exact lv_tableIn (off := 430) (tgt := 463) hx hb dL_law_33 (by decide) (by decide) (by decide +kernel) (by decide) (law_5 hC hr hk hX hbl hE x y fs fm hfs hfm H locs hP hD hPx hPm hS ls hl)
    | 6, _ => exact lv_tableIn (off := 453) (tgt := 486) hx hb dL_law_33 (by decide) (by decide) (by decide +kernel) (by decide) (law_6 hC hr hk hX hbl hE x y fs fm hfs hfm H locs hP hD hPx hPm hS ls hl)
    | 7, _ => exact lv_tableIn (off := 486) (tgt := 519) hx hb dL_law_33 (by decide) (by decide) (by decide +kernel) (by decide) (law_7 hC hr hk hX hbl hE x y fs fm hfs hfm H locs hP hD hPx hPm hS ls hl)
    | 8, _ => exact lv_tableIn (off := 519) (tgt := 552) hx hb dL_law_33 (by decide) (by decide) (by decide +kernel) (by decide) (law_8 hC hr hk hX hbl hE x y fs fm hfs hfm H locs hP hD hPx hPm hS ls hl)
    | 9, _ => exact lv_tableIn (off := 542) (tgt := 575) hx hb dL_law_33 (by decide) (by decide) (by decide +kernel) (by decide) (law_9 hC hr hk hX hbl hE x y fs fm hfs hfm H locs hP hD hPx hPm hS ls hl)
    | 10, _ => exact lv_tableIn (off := 565) (tgt := 598) hx hb dL_law_33 (by decide) (by decide) (by decide +kernel) (by decide) (law_10 hC hr hk hX hbl hE x y fs fm hfs hfm H locs hP hD hPx hPm hS ls hl)
    | 11, _ => exact lv_tableIn (off := 598) (tgt := 631) hx hb dL_law_33 (by decide) (by decide) (by decide +kernel) (by decide) (law_11 hC hr hk hX hbl hE x y fs fm hfs hfm H locs hP hD hPx hPm hS ls hl)
    | 12, _ => exact lv_tableIn (off := 631) (tgt := 664) hx hb dL_law_33 (by decide) (by decide) (by decide +kernel) (by decide) (law_12 hC hr hk hX hbl hE x y fs fm hfs hfm H locs hP hD hPx hPm hS ls hl)
    | 13, _ => exact lv_tableIn (off := 644) (tgt := 677) hx hb dL_law_33 (by decide) (by decide) (by decide +kernel) (by decide) (law_13 hC hr hk hX hbl hE x y fs fm hfs hfm H locs hP hD hPx hPm hS ls hl)
    | 14, _ => exact lv_tableIn (off := 667) (tgt := 700) hx hb dL_law_33 (by decide) (by decide) (by decide +kernel) (by decide) (law_14 hC hr hk hX hbl hE x y fs fm hfs hfm H locs hP hD hPx hPm hS ls hl)
    | 15, _ => exact lv_tableIn (off := 680) (tgt := 713) hx hb dL_law_33 (by decide) (by decide) (by decide +kernel) (by decide) (law_15 hC hr hk hX hbl hE x y fs fm hfs hfm H locs hP hD hPx hPm hS ls hl)
    | 16, _ => exact lv_tableIn (off := 693) (tgt := 726) hx hb dL_law_33 (by decide) (by decide) (by decide +kernel) (by decide) (law_16 hC hr hk hX hbl hE x y fs fm hfs hfm H locs hP hD hPx hPm hS ls hl)
    | 17, _ => exact lv_tableIn (off := 726) (tgt := 759) hx hb dL_law_33 (by decide) (by decide) (by decide +kernel) (by decide) (law_17 hC hr hk hX hbl hE x y fs fm hfs hfm H locs hP hD hPx hPm hS ls hl)
    | 18, _ => exact lv_tableIn (off := 759) (tgt := 792) hx hb dL_law_33 (by decide) (by decide) (by decide +kernel) (by decide) (law_18 hC hr hk hX hbl hE x y fs fm hfs hfm H locs hP hD hPx hPm hS ls hl)
    | 19, _ => exact lv_tableIn (off := 792) (tgt := 825) hx hb dL_law_33 (by decide) (by decide) (by decide +kernel) (by decide) (law_19 hC hr hk hX hbl hE x y fs fm hfs hfm H locs hP hD hPx hPm hS ls hl)
    | 20, _ => exact lv_tableIn (off := 825) (tgt := 858) hx hb dL_law_33 (by decide) (by decide) (by decide +kernel) (by decide) (law_20 hC hr hk hX hbl hE x y fs fm hfs hfm H locs hP hD hPx hPm hS ls hl)
    | 21, _ => exact lv_tableIn (off := 858) (tgt := 891) hx hb dL_law_33 (by decide) (by decide) (by decide +kernel) (by decide) (law_21 hC hr hk hX hbl hE x y fs fm hfs hfm H locs hP hD hPx hPm hS ls hl)
    | 22, _ => exact lv_tableIn (off := 891) (tgt := 924) hx hb dL_law_33 (by decide) (by decide) (by decide +kernel) (by decide) (law_22 hC hr hk hX hbl hE x y fs fm hfs hfm H locs hP hD hPx hPm hS ls hl)
    | 23, _ => exact lv_tableIn (off := 934) (tgt := 967) hx hb dL_law_33 (by decide) (by decide) (by decide +kernel) (by decide) (law_23 hC hr hk hX hbl hE x y fs fm hfs hfm H locs hP hD hPx hPm hS ls hl)
    | 24, _ => exact lv_tableIn (off := 957) (tgt := 990) hx hb dL_law_33 (by decide) (by decide) (by decide +kernel) (by decide) (law_24 hC hr hk hX hbl hE x y fs fm hfs hfm H locs hP hD hPx hPm hS ls hl)
    | 25, _ => exact lv_tableIn (off := 990) (tgt := 1023) hx hb dL_law_33 (by decide) (by decide) (by decide +kernel) (by decide) (law_25 hC hr hk hX hbl hE x y fs fm hfs hfm H locs hP hD hPx hPm hS ls hl)
    | 26, _ => exact lv_tableIn (off := 1013) (tgt := 1046) hx hb dL_law_33 (by decide) (by decide) (by decide +kernel) (by decide) (law_26 hC hr hk hX hbl hE x y fs fm hfs hfm H locs hP hD hPx hPm hS ls hl)
    | 27, _ => exact lv_tableIn (off := 1046) (tgt := 1079) hx hb dL_law_33 (by decide) (by decide) (by decide +kernel) (by decide) (law_27 hC hr hk hX hbl hE x y fs fm hfs hfm H locs hP hD hPx hPm hS ls hl)
    | 28, _ => exact lv_tableIn (off := 1069) (tgt := 1102) hx hb dL_law_33 (by decide) (by decide) (by decide +kernel) (by decide) (law_28 hC hr hk hX hbl hE x y fs fm hfs hfm H locs hP hD hPx hPm hS ls hl)
    | 29, _ => exact lv_tableIn (off := 1092) (tgt := 1125) hx hb dL_law_33 (by decide) (by decide) (by decide +kernel) (by decide) (law_29 hC hr hk hX hbl hE x y fs fm hfs hfm H locs hP hD hPx hPm hS ls hl)
    | 30, _ => exact lv_tableIn (off := 1115) (tgt := 1148) hx hb dL_law_33 (by decide) (by decide) (by decide +kernel) (by decide) (law_30 hC hr hk hX hbl hE x y fs fm hfs hfm H locs hP hD hPx hPm hS ls hl)
    | 31, _ => exact lv_tableIn (off := 1128) (tgt := 1161) hx hb dL_law_33 (by decide) (by decide) (by decide +kernel) (by decide) (law_31 hC hr hk hX hbl hE x y fs fm hfs hfm H locs hP hD hPx hPm hS ls hl)
    | 32, _ => exact lv_tableIn (off := 1161) (tgt := 1194) hx hb dL_law_33 (by decide) (by decide) (by decide +kernel) (by decide) (law_32 hC hr hk hX hbl hE x y fs fm hfs hfm H locs hP hD hPx hPm hS ls hl)
    | 33, _ => exact lv_tableIn (off := 1174) (tgt := 1207) hx hb dL_law_33 (by decide) (by decide) (by decide +kernel) (by decide) (law_33 hC hr hk hX hbl hE x y fs fm hfs hfm H locs hP hD hPx hPm hS ls hl)
    | 34, _ => exact lv_tableIn (off := 1207) (tgt := 1240) hx hb dL_law_33 (by decide) (by decide) (by decide +kernel) (by decide) (law_34 hC hr hk hX hbl hE x y fs fm hfs hfm H locs hP hD hPx hPm hS ls hl)
    | 35, _ => exact lv_tableIn (off := 1250) (tgt := 1283) hx hb dL_law_33 (by decide) (by decide) (by decide +kernel) (by decide) (law_35 hC hr hk hX hbl hE x y fs fm hfs hfm H locs hP hD hPx hPm hS ls hl)
    | 36, _ => exact lv_tableIn (off := 1283) (tgt := 1316) hx hb dL_law_33 (by decide) (by decide) (by decide +kernel) (by decide) (law_36 hC hr hk hX hbl hE x y fs fm hfs hfm H locs hP hD hPx hPm hS ls hl)
    | 37, _ => exact lv_tableIn (off := 1316) (tgt := 1349) hx hb dL_law_33 (by decide) (by decide) (by decide +kernel) (by decide) (law_37 hC hr hk hX hbl hE x y fs fm hfs hfm H locs hP hD hPx hPm hS ls hl)
    | 38, _ => exact lv_tableIn (off := 1339) (tgt := 1372) hx hb dL_law_33 (by decide) (by decide) (by decide +kernel) (by decide) (law_38 hC hr hk hX hbl hE x y fs fm hfs hfm H locs hP hD hPx hPm hS ls hl)
    | 39, _ => exact lv_tableIn (off := 1372) (tgt := 1405) hx hb dL_law_33 (by decide) (by decide) (by decide +kernel) (by decide) (law_39 hC hr hk hX hbl hE x y fs fm hfs hfm H locs hP hD hPx hPm hS ls hl)
    | 40, _ => exact lv_tableIn (off := 1395) (tgt := 1428) hx hb dL_law_33 (by decide) (by decide) (by decide +kernel) (by decide) (law_40 hC hr hk hX hbl hE x y fs fm hfs hfm H locs hP hD hPx hPm hS ls hl)
    | 41, _ => exact lv_tableIn (off := 1428) (tgt := 1461) hx hb dL_law_33 (by decide) (by decide) (by decide +kernel) (by decide) (law_41 hC hr hk hX hbl hE x y fs fm hfs hfm H locs hP hD hPx hPm hS ls hl)
    | 42, _ => exact lv_tableIn (off := 1461) (tgt := 1494) hx hb dL_law_33 (by decide) (by decide) (by decide +kernel) (by decide) (law_42 hC hr hk hX hbl hE x y fs fm hfs hfm H locs hP hD hPx hPm hS ls hl)
    | 43, _ => exact lv_tableIn (off := 1484) (tgt := 1517) hx hb dL_law_33 (by decide) (by decide) (by decide +kernel) (by decide) (law_43 hC hr hk hX hbl hE x y fs fm hfs hfm H locs hP hD hPx hPm hS ls hl)
    | 44, _ => exact lv_tableIn (off := 1507) (tgt := 1540) hx hb dL_law_33 (by decide) (by decide) (by decide +kernel) (by decide) (law_44 hC hr hk hX hbl hE x y fs fm hfs hfm H locs hP hD hPx hPm hS ls hl)
    | 45, _ => exact lv_tableIn (off := 1530) (tgt := 1563) hx hb dL_law_33 (by decide) (by decide) (by decide +kernel) (by decide) (law_45 hC hr hk hX hbl hE x y fs fm hfs hfm H locs hP hD hPx hPm hS ls hl)
    | 46, _ => exact lv_tableIn (off := 1553) (tgt := 1586) hx hb dL_law_33 (by decide) (by decide) (by decide +kernel) (by decide) (law_46 hC hr hk hX hbl hE x y fs fm hfs hfm H locs hP hD hPx hPm hS ls hl)
    | 47, _ => exact lv_tableIn (off := 1586) (tgt := 1619) hx hb dL_law_33 (by decide) (by decide) (by decide +kernel) (by decide) (law_47 hC hr hk hX hbl hE x y fs fm hfs hfm H locs hP hD hPx hPm hS ls hl)
    | 48, _ => exact lv_tableIn (off := 1629) (tgt := 1662) hx hb dL_law_33 (by decide) (by decide) (by decide +kernel) (by decide) (law_48 hC hr hk hX hbl hE x y fs fm hfs hfm H locs hP hD hPx hPm hS ls hl)
    | 49, _ => exact lv_tableIn (off := 1662) (tgt := 1695) hx hb dL_law_33 (by decide) (by decide) (by decide +kernel) (by decide) (law_49 hC hr hk hX hbl hE x y fs fm hfs hfm H locs hP hD hPx hPm hS ls hl)
    | 50, _ => exact lv_tableIn (off := 1695) (tgt := 1728) hx hb dL_law_33 (by decide) (by decide) (by decide +kernel) (by decide) (law_50 hC hr hk hX hbl hE x y fs fm hfs hfm H locs hP hD hPx hPm hS ls hl)
    | 51, _ => exact lv_tableIn (off := 1728) (tgt := 1761) hx hb dL_law_33 (by decide) (by decide) (by decide +kernel) (by decide) (law_51 hC hr hk hX hbl hE x y fs fm hfs hfm H locs hP hD hPx hPm hS ls hl)
    | 52, _ => exact lv_tableIn (off := 1761) (tgt := 1794) hx hb dL_law_33 (by decide) (by decide) (by decide +kernel) (by decide) (law_52 hC hr hk hX hbl hE x y fs fm hfs hfm H locs hP hD hPx hPm hS ls hl)
    | 53, _ => exact lv_tableIn (off := 1814) (tgt := 1847) hx hb dL_law_33 (by decide) (by decide) (by decide +kernel) (by decide) (law_53 hC hr hk hX hbl hE x y fs fm hfs hfm H locs hP hD hPx hPm hS ls hl)
    | 54, _ => exact lv_tableIn (off := 1847) (tgt := 1880) hx hb dL_law_33 (by decide) (by decide) (by decide +kernel) (by decide) (law_54 hC hr hk hX hbl hE x y fs fm hfs hfm H locs hP hD hPx hPm hS ls hl)
    | 55, _ => exact lv_tableIn (off := 1880) (tgt := 1913) hx hb dL_law_33 (by decide) (by decide) (by decide +kernel) (by decide) (law_55 hC hr hk hX hbl hE x y fs fm hfs hfm H locs hP hD hPx hPm hS ls hl)
    | 56, _ => exact lv_tableIn (off := 1923) (tgt := 1956) hx hb dL_law_33 (by decide) (by decide) (by decide +kernel) (by decide) (law_56 hC hr hk hX hbl hE x y fs fm hfs hfm H locs hP hD hPx hPm hS ls hl)
    | 57, _ => exact lv_tableIn (off := 1956) (tgt := 1989) hx hb dL_law_33 (by decide) (by decide) (by decide +kernel) (by decide) (law_57 hC hr hk hX hbl hE x y fs fm hfs hfm H locs hP hD hPx hPm hS ls hl)
    | 58, _ => exact lv_tableIn (off := 2009) (tgt := 2042) hx hb dL_law_33 (by decide) (by decide) (by decide +kernel) (by decide) (law_58 hC hr hk hX hbl hE x y fs fm hfs hfm H locs hP hD hPx hPm hS ls hl)
    | 59, _ => exact lv_tableIn (off := 2062) (tgt := 2095) hx hb dL_law_33 (by decide) (by decide) (by decide +kernel) (by decide) (law_59 hC hr hk hX hbl hE x y fs fm hfs hfm H locs hP hD hPx hPm hS ls hl)
    | 60, _ => exact lv_tableIn (off := 2085) (tgt := 2118) hx hb dL_law_33 (by decide) (by decide) (by decide +kernel) (by decide) (law_60 hC hr hk hX hbl hE x y fs fm hfs hfm H locs hP hD hPx hPm hS ls hl)
    | 61, _ => exact lv_tableIn (off := 2108) (tgt := 2141) hx hb dL_law_33 (by decide) (by decide) (by decide +kernel) (by decide) (law_61 hC hr hk hX hbl hE x y fs fm hfs hfm H locs hP hD hPx hPm hS ls hl)
    | 62, _ => exact lv_tableIn (off := 2131) (tgt := 2164) hx hb dL_law_33 (by decide) (by decide) (by decide +kernel) (by decide) (law_62 hC hr hk hX hbl hE x y fs fm hfs hfm H locs hP hD hPx hPm hS ls hl)
    | 63, _ => exact lv_tableIn (off := 2174) (tgt := 2207) hx hb dL_law_33 (by decide) (by decide) (by decide +kernel) (by decide) (law_63 hC hr hk hX hbl hE x y fs fm hfs hfm H locs hP hD hPx hPm hS ls hl)
    | 64, _ => exact lv_tableIn (off := 2247) (tgt := 2280) hx hb dL_law_33 (by decide) (by decide) (by decide +kernel) (by decide) (law_64 hC hr hk hX hbl hE x y fs fm hfs hfm H locs hP hD hPx hPm hS ls hl)
    | j + 65, h => exact absurd h (by omega)
  · refine lv_tableOut (tgt := 2343) hx hb dL_law_33 (Or.inr (by rw [nI_toInt (by omega)]; omega)) (by decide) ?_
    refine W.widen (k := 1000) (n := 200000) (by decide) (by decide) ?_
    exact law_next hC hr hk hX hbl hS (lv_sub hl [3, 0] rfl)
set_option maxHeartbeats 4000000 in
set_option maxRecDepth 100000 in
theorem whole_start {p : Program} {e : Env} {s : State} {m : MethodId} {below : List Frame} {meth : Method} {c : Code} (l : Launch) {b L : Nat} {xs : Nat → Int32} (hL : L ≤ 6) (C0 : lw_At p s m meth c b L xs) : W p l e room_1 s m #[Value.ref b] below meth c s.heap [] 0 0 (lw_Z below #[Value.ref b] s) (entryFrame m ([Value.ref b] : List Value).toArray 4) := by
  obtain ⟨hx, hb, hr, hml, hown, hts0, hX, hbl, hk, hgv⟩ := C0
  have hA : ∀ q : Nat, s.heap.size ≤ q → (fun q : Nat => s.heap.size ≤ q) q := fun _ h => h
  have hbA : ¬ (fun q : Nat => s.heap.size ≤ q) b := Nat.not_le.mpr hbl
  obtain ⟨D, K, hE⟩ := env_start hts0
  have hts : ∀ w ∈ wl, w.before #[Value.ref b] s = true := fun w h => hts0 w (wl_in w h)
  have hC : CallFix p m c cL_law 4 s #[Value.ref b] wl RL := ⟨hx, hb, hml, hown, hts⟩
  have hS : va_S (fun q : Nat => s.heap.size ≤ q) s.heap s.heap [] := va_S.rf
  have hP : va_P D vwCl [] s.heap := fun k q h => by simp at h
  have hD : va_D (fun q : Nat => s.heap.size ≤ q) [] := ⟨fun i j p q h => by simp at h, fun k q h => by simp at h⟩
  have hl := lv_entry ([.ref b]) (n := 4) (Nat.le_of_ble_eq_true rfl)
  rw [lg_entry_eq]
  generalize (lg_sl ([.ref b]) ++ List.replicate (4 - (lg_sl ([.ref b])).length) Slot.unset).toArray = ls at hl ⊢
  replace hl : lv_has ls 4 [(0, .ref b)] := hl
  refine va_new (ci := 10) (fs := [.null, .null, .null, .null, .null, .null, .null, .null, .null, .null, .null, .null]) (C := RX11) (T := TX11) (N := 12) hx hb hts in_X11 tyX11 tyX11_ok hown (hts _ w_1042) (hts _ w_1034) (hts _ w_29) hE.1 hP hD hS hA rfl bd_X11 (Nat.le_of_ble_eq_true rfl) (Nat.le_of_ble_eq_true rfl) dL_law_0 (fun q1 H hP hD hS => ?_)
  replace hP : va_P D vwCl [(q1, .inr (10, [.null, .null, .null, .null, .null, .null, .null, .null, .null, .null, .null, .null]))] H := hP
  replace hD : va_D (fun q : Nat => s.heap.size ≤ q) [(q1, .inr (10, [.null, .null, .null, .null, .null, .null, .null, .null, .null, .null, .null, .null]))] := hD
  refine W.widen (k := 1) (n := 12) (by decide) (by decide) ?_
  refine lv_dup hx hb dL_law_3 rfl ?_
  refine cv_I (As := []) (rest := [.ref q1]) (wc := [(q1, .inr (10, [.null, .null, .null, .null, .null, .null, .null, .null, .null, .null, .null, .null]))]) (wr := []) hC hE kI_L_9 (c_X11_init l D K q1) hP hD hS hA [0] [] rfl rfl rfl (by decide) (by decide) (by decide) rfl hl.1 rfl (Nat.le_of_ble_eq_true rfl) ⟨(Nat.le_of_ble_eq_true rfl), (Nat.le_of_ble_eq_true rfl)⟩ ⟨(Nat.le_of_ble_eq_true rfl), (Nat.le_of_ble_eq_true rfl)⟩ dL_law_4 (fun u H2 locs2 hw hP2 hD2 hS2 => ?_)
  obtain ⟨x, fs⟩ := u
  obtain ⟨hx0, hfs⟩ := hw
  replace hx0 : x 0 = q1 := hx0
  replace hfs : ∀ j, j < 4 → fs j = -1 := hfs
  subst hx0
  have hP : va_P D vwCl (fxL K x fs) H2 := hP2
  have hD : va_D (fun q : Nat => s.heap.size ≤ q) (fxL K x fs) := hD2
  have hS : va_S (fun q : Nat => s.heap.size ≤ q) s.heap H2 locs2 := hS2
  refine W.widen (k := 64) (n := 40742) (by decide) (by decide) ?_
  refine lv_astore_n (lv' := [(1, .ref (x 0)), (0, .ref b)]) hx hb dL_law_7 rfl hl (by decide) rfl (fun ls hl => ?_)
  refine va_new (ci := 11) (fs := [.int 0, .null, .null, .null, .null, .int 0, .null, .int 0, .int 0, .int 0, .int 0, .int 0, .int 0, .int 0, .null, .int 0, .int 0, .int 0, .int 0, .int 0, .int 0, .null, .null, .null, .null, .int 0, .null, .null, .null, .null, .null, .null, .null, .null, .null, .null, .null, .int 0, .int 0, .int 0, .null, .null, .null, .int 0, .int 0, .null, .null, .null, .int 0, .null, .null, .null, .null]) (C := RX12) (T := TX12) (N := 53) hx hb hts in_X12 tyX12 tyX12_ok hown (hts _ w_1043) (hts _ w_1035) (hts _ w_196) hE.1 hP hD hS hA rfl bd_X12 (Nat.le_of_ble_eq_true rfl) (Nat.le_of_ble_eq_true rfl) dL_law_8 (fun q2 H hP hD hS => ?_)
  refine W.widen (k := 65) (n := 40795) (by decide) (by decide) ?_
  refine lv_dup hx hb dL_law_11 rfl ?_
  refine cv_I (As := []) (rest := [.ref q2]) (wc := [(q2, .inr (11, [.int 0, .null, .null, .null, .null, .int 0, .null, .int 0, .int 0, .int 0, .int 0, .int 0, .int 0, .int 0, .null, .int 0, .int 0, .int 0, .int 0, .int 0, .int 0, .null, .null, .null, .null, .int 0, .null, .null, .null, .null, .null, .null, .null, .null, .null, .null, .null, .int 0, .int 0, .int 0, .null, .null, .null, .int 0, .int 0, .null, .null, .null, .int 0, .null, .null, .null, .null]))]) (wr := (fxL K x fs)) hC hE kI_L_12 (c_X12_init l D K q2) hP hD hS hA [34] [0, 1, 2, 3, 4, 5, 6, 7, 8, 9, 10, 11, 12, 13, 14, 15, 16, 17, 18, 19, 20, 21, 22, 23, 24, 25, 26, 27, 28, 29, 30, 31, 32, 33] rfl rfl rfl (by decide) (by decide) (by decide) rfl hl.1 rfl (Nat.le_of_ble_eq_true rfl) ⟨(Nat.le_of_ble_eq_true rfl), (Nat.le_of_ble_eq_true rfl)⟩ ⟨(Nat.le_of_ble_eq_true rfl), (Nat.le_of_ble_eq_true rfl)⟩ dL_law_12 (fun u H3 locs3 hw hP3 hD3 hS3 => ?_)
  obtain ⟨y, fm⟩ := u
  obtain ⟨hy0, hfm⟩ := hw
  replace hy0 : y 0 = q2 := hy0
  replace hfm : ∀ j, j < 4 → fm j = -1 := hfm
  subst hy0
  have hP : va_P D vwCl (fxL K x fs ++ mdL K y fm) H3 := hP3
  have hD : va_D (fun q : Nat => s.heap.size ≤ q) (fxL K x fs ++ mdL K y fm) := hD3
  have hS : va_S (fun q : Nat => s.heap.size ≤ q) s.heap H3 locs3 := hS3
  refine W.widen (k := 900) (n := 150000) (by decide) (by decide) ?_
  refine lv_astore_n (lv' := [(2, .ref (y 0)), (1, .ref (x 0)), (0, .ref b)]) hx hb dL_law_15 rfl hl (by decide) rfl (fun ls hl => ?_)
  refine lv_iconst (v := 0) hx hb dL_law_16 (by decide) ?_
  refine lv_istore_n (lv' := [(3, .int 0), (2, .ref (y 0)), (1, .ref (x 0)), (0, .ref b)]) hx hb dL_law_17 rfl hl (by decide) rfl (fun ls hl => ?_)
  refine lv_iload_n hx hb dL_law_18 rfl (lv_at hl 0 rfl) ?_
  refine lv_aload_n hx hb dL_law_19 rfl (lv_at hl 3 rfl) ?_
  refine va_slen hx hb hX hbl hbA hS dL_law_20 ?_
  refine lv_bipush (v := 6) hx hb dL_law_21 (by decide) ?_
  refine lv_isub hx hb dL_law_23 ?_
  refine lv_icmp_gt (tgt := 2349) hx hb dL_law_24 (by decide) (fun _ => ?_) (fun h => ?_)
  · refine lv_iconst (v := 1) hx hb dL_law_2349 (by decide) ?_
    refine va_forget (fun q hq => hS.2.2 q hq) ?_
    refine W.widen (k := 600000) (n := 7302250) (by decide) (by decide) ?_
    exact lw_ret hx hb hr hk dL_law_2350
  · obtain rfl : L = 6 := by
      rcases (show L = 0 ∨ L = 1 ∨ L = 2 ∨ L = 3 ∨ L = 4 ∨ L = 5 ∨ L = 6 by omega) with rfl | rfl | rfl | rfl | rfl | rfl | rfl
      all_goals first | rfl | exact absurd (by decide) h
    exact law_switch hC hr hk hX hbl hE x y fs fm hfs hfm _ _ hP hD hS _ hl
