set_option maxRecDepth 40000 in
set_option maxHeartbeats 4000000 in
theorem law_33 {p : Program} {l : Launch} {e : Env} {s : State} {m : MethodId} {below : List Frame} {meth : Method} {c : Code} {b : Nat} {xs : Nat → Int32} {D : va_G} {K : Nat → ClassId} (hC : CallFix p m c cL_law 4 s #[Value.ref b] wl RL) (hr : meth.sig.returnType = ret) (hk : meth.locks = false) (hX : va_X b 6 xs s s.heap) (hbl : b < s.heap.size) (hE : ev D K s) (x y : Nat → Nat) (fs fm : Nat → Int32) (hfs : ∀ j, j < 4 → fs j = -1) (hfm : ∀ j, j < 4 → fm j = -1) (H : Heap) (locs : List Loc) (hP : va_P D vwCl (fxL K x fs ++ mdL K y fm) H) (hD : va_D (fun q : Nat => s.heap.size ≤ q) (fxL K x fs ++ mdL K y fm)) (hPx : va_P D vwCl (fxL K x fs) H) (hPm : va_P D vwCl (mdL K y fm) H) (hS : va_S (fun q : Nat => s.heap.size ≤ q) s.heap H locs) (ls : Array Slot) (hl : lv_has ls 4 [(3, .int 0), (2, .ref (y 0)), (1, .ref (x 0)), (0, .ref b)]) : W p l e room_1 s m #[Value.ref b] below meth c H locs 900 150000 (lw_Z below #[Value.ref b] s) (F0 m 1207 ls []) := by
  have hx := hC.1
  have hb := hC.2.1
  have hown := hC.2.2.2.1
  have hts := hC.2.2.2.2
  have hbA : ¬ (fun q : Nat => s.heap.size ≤ q) b := Nat.not_le.mpr hbl
  refine lv_aload_n hx hb dL_law_1207 rfl (lv_at hl 2 rfl) ?_
  refine lv_aload_n hx hb dL_law_1208 rfl (lv_at hl 3 rfl) ?_
  refine lv_iload_n hx hb dL_law_1209 rfl (lv_at hl 0 rfl) ?_
  refine lv_iconst (v := 1) hx hb dL_law_1210 (by decide) ?_
  refine lv_iadd hx hb dL_law_1211 ?_
  refine tc (y := 1) (by decide) ?_
  refine va_sld hx hb hX hbl hbA hS (in_c (by decide)) dL_law_1212 ?_
  refine tc (y := xs 1) (congrArg xs (by decide)) ?_
  refine lv_aload_n hx hb dL_law_1213 rfl (lv_at hl 3 rfl) ?_
  refine lv_iload_n hx hb dL_law_1214 rfl (lv_at hl 0 rfl) ?_
  refine lv_iconst (v := 2) hx hb dL_law_1215 (by decide) ?_
  refine lv_iadd hx hb dL_law_1216 ?_
  refine tc (y := 2) (by decide) ?_
  refine va_sld hx hb hX hbl hbA hS (in_c (by decide)) dL_law_1217 ?_
  refine tc (y := xs 2) (congrArg xs (by decide)) ?_
  refine ro_V (As := [.int (xs 1), .int (xs 2)]) (rest := []) hC hE kV_L_150 (c_X11_tells l D K x fs hfs (xs 1) (xs 2)) hPx 0 10 rfl rfl rfl hl.1 rfl (Nat.le_of_ble_eq_true rfl) ⟨(Nat.le_of_ble_eq_true rfl), (Nat.le_of_ble_eq_true rfl)⟩ ⟨(Nat.le_of_ble_eq_true rfl), (Nat.le_of_ble_eq_true rfl)⟩ dL_law_1218 (fun r1 hw1 => ?_)
  refine lv_aload_n hx hb dL_law_1221 rfl (lv_at hl 1 rfl) ?_
  refine lv_aload_n hx hb dL_law_1222 rfl (lv_at hl 3 rfl) ?_
  refine lv_iload_n hx hb dL_law_1223 rfl (lv_at hl 0 rfl) ?_
  refine lv_iconst (v := 1) hx hb dL_law_1224 (by decide) ?_
  refine lv_iadd hx hb dL_law_1225 ?_
  refine tc (y := 1) (by decide) ?_
  refine va_sld hx hb hX hbl hbA hS (in_c (by decide)) dL_law_1226 ?_
  refine tc (y := xs 1) (congrArg xs (by decide)) ?_
  refine lv_aload_n hx hb dL_law_1227 rfl (lv_at hl 3 rfl) ?_
  refine lv_iload_n hx hb dL_law_1228 rfl (lv_at hl 0 rfl) ?_
  refine lv_iconst (v := 2) hx hb dL_law_1229 (by decide) ?_
  refine lv_iadd hx hb dL_law_1230 ?_
  refine tc (y := 2) (by decide) ?_
  refine va_sld hx hb hX hbl hbA hS (in_c (by decide)) dL_law_1231 ?_
  refine tc (y := xs 2) (congrArg xs (by decide)) ?_
  refine ro_V (As := [.int (xs 1), .int (xs 2)]) (rest := [.int r1]) hC hE kV_L_153 (c_X12_tells l D K y fm hfm (xs 1) (xs 2)) hPm 0 11 rfl rfl rfl hl.1 rfl (Nat.le_of_ble_eq_true rfl) ⟨(Nat.le_of_ble_eq_true rfl), (Nat.le_of_ble_eq_true rfl)⟩ ⟨(Nat.le_of_ble_eq_true rfl), (Nat.le_of_ble_eq_true rfl)⟩ dL_law_1232 (fun r2 hw2 => ?_)
  refine lv_icmp_eq (tgt := 2343) hx hb dL_law_1235 (by decide) (fun _ => ?_) (fun h => absurd (hw1.trans hw2.symm) h)
  refine W.widen (k := 1000) (n := 200000) (Nat.le_of_ble_eq_true rfl) (Nat.le_of_ble_eq_true rfl) ?_
  exact law_next hC hr hk hX hbl hS (lv_sub hl [3, 0] rfl)
set_option maxRecDepth 40000 in
set_option maxHeartbeats 4000000 in
theorem law_34 {p : Program} {l : Launch} {e : Env} {s : State} {m : MethodId} {below : List Frame} {meth : Method} {c : Code} {b : Nat} {xs : Nat → Int32} {D : va_G} {K : Nat → ClassId} (hC : CallFix p m c cL_law 4 s #[Value.ref b] wl RL) (hr : meth.sig.returnType = ret) (hk : meth.locks = false) (hX : va_X b 6 xs s s.heap) (hbl : b < s.heap.size) (hE : ev D K s) (x y : Nat → Nat) (fs fm : Nat → Int32) (hfs : ∀ j, j < 4 → fs j = -1) (hfm : ∀ j, j < 4 → fm j = -1) (H : Heap) (locs : List Loc) (hP : va_P D vwCl (fxL K x fs ++ mdL K y fm) H) (hD : va_D (fun q : Nat => s.heap.size ≤ q) (fxL K x fs ++ mdL K y fm)) (hPx : va_P D vwCl (fxL K x fs) H) (hPm : va_P D vwCl (mdL K y fm) H) (hS : va_S (fun q : Nat => s.heap.size ≤ q) s.heap H locs) (ls : Array Slot) (hl : lv_has ls 4 [(3, .int 0), (2, .ref (y 0)), (1, .ref (x 0)), (0, .ref b)]) : W p l e room_1 s m #[Value.ref b] below meth c H locs 900 150000 (lw_Z below #[Value.ref b] s) (F0 m 1240 ls []) := by
  have hx := hC.1
  have hb := hC.2.1
  have hown := hC.2.2.2.1
  have hts := hC.2.2.2.2
  have hbA : ¬ (fun q : Nat => s.heap.size ≤ q) b := Nat.not_le.mpr hbl
  refine lv_aload_n hx hb dL_law_1240 rfl (lv_at hl 2 rfl) ?_
  refine lv_aload_n hx hb dL_law_1241 rfl (lv_at hl 3 rfl) ?_
  refine lv_iload_n hx hb dL_law_1242 rfl (lv_at hl 0 rfl) ?_
  refine lv_iconst (v := 1) hx hb dL_law_1243 (by decide) ?_
  refine lv_iadd hx hb dL_law_1244 ?_
  refine tc (y := 1) (by decide) ?_
  refine va_sld hx hb hX hbl hbA hS (in_c (by decide)) dL_law_1245 ?_
  refine tc (y := xs 1) (congrArg xs (by decide)) ?_
  refine lv_aload_n hx hb dL_law_1246 rfl (lv_at hl 3 rfl) ?_
  refine lv_iload_n hx hb dL_law_1247 rfl (lv_at hl 0 rfl) ?_
  refine lv_iconst (v := 2) hx hb dL_law_1248 (by decide) ?_
  refine lv_iadd hx hb dL_law_1249 ?_
  refine tc (y := 2) (by decide) ?_
  refine va_sld hx hb hX hbl hbA hS (in_c (by decide)) dL_law_1250 ?_
  refine tc (y := xs 2) (congrArg xs (by decide)) ?_
  refine lv_aload_n hx hb dL_law_1251 rfl (lv_at hl 3 rfl) ?_
  refine lv_iload_n hx hb dL_law_1252 rfl (lv_at hl 0 rfl) ?_
  refine lv_iconst (v := 3) hx hb dL_law_1253 (by decide) ?_
  refine lv_iadd hx hb dL_law_1254 ?_
  refine tc (y := 3) (by decide) ?_
  refine va_sld hx hb hX hbl hbA hS (in_c (by decide)) dL_law_1255 ?_
  refine tc (y := xs 3) (congrArg xs (by decide)) ?_
  refine ro_V (As := [.int (xs 1), .int (xs 2), .int (xs 3)]) (rest := []) hC hE kV_L_154 (c_X11_told l D K x fs hfs (xs 1) (xs 2) (xs 3)) hPx 0 10 rfl rfl rfl hl.1 rfl (Nat.le_of_ble_eq_true rfl) ⟨(Nat.le_of_ble_eq_true rfl), (Nat.le_of_ble_eq_true rfl)⟩ ⟨(Nat.le_of_ble_eq_true rfl), (Nat.le_of_ble_eq_true rfl)⟩ dL_law_1256 (fun r1 hw1 => ?_)
  refine lv_aload_n hx hb dL_law_1259 rfl (lv_at hl 1 rfl) ?_
  refine lv_aload_n hx hb dL_law_1260 rfl (lv_at hl 3 rfl) ?_
  refine lv_iload_n hx hb dL_law_1261 rfl (lv_at hl 0 rfl) ?_
  refine lv_iconst (v := 1) hx hb dL_law_1262 (by decide) ?_
  refine lv_iadd hx hb dL_law_1263 ?_
  refine tc (y := 1) (by decide) ?_
  refine va_sld hx hb hX hbl hbA hS (in_c (by decide)) dL_law_1264 ?_
  refine tc (y := xs 1) (congrArg xs (by decide)) ?_
  refine lv_aload_n hx hb dL_law_1265 rfl (lv_at hl 3 rfl) ?_
  refine lv_iload_n hx hb dL_law_1266 rfl (lv_at hl 0 rfl) ?_
  refine lv_iconst (v := 2) hx hb dL_law_1267 (by decide) ?_
  refine lv_iadd hx hb dL_law_1268 ?_
  refine tc (y := 2) (by decide) ?_
  refine va_sld hx hb hX hbl hbA hS (in_c (by decide)) dL_law_1269 ?_
  refine tc (y := xs 2) (congrArg xs (by decide)) ?_
  refine lv_aload_n hx hb dL_law_1270 rfl (lv_at hl 3 rfl) ?_
  refine lv_iload_n hx hb dL_law_1271 rfl (lv_at hl 0 rfl) ?_
  refine lv_iconst (v := 3) hx hb dL_law_1272 (by decide) ?_
  refine lv_iadd hx hb dL_law_1273 ?_
  refine tc (y := 3) (by decide) ?_
  refine va_sld hx hb hX hbl hbA hS (in_c (by decide)) dL_law_1274 ?_
  refine tc (y := xs 3) (congrArg xs (by decide)) ?_
  refine ro_V (As := [.int (xs 1), .int (xs 2), .int (xs 3)]) (rest := [.int r1]) hC hE kV_L_157 (c_X12_told_ l D K y fm hfm (xs 1) (xs 2) (xs 3)) hPm 0 11 rfl rfl rfl hl.1 rfl (Nat.le_of_ble_eq_true rfl) ⟨(Nat.le_of_ble_eq_true rfl), (Nat.le_of_ble_eq_true rfl)⟩ ⟨(Nat.le_of_ble_eq_true rfl), (Nat.le_of_ble_eq_true rfl)⟩ dL_law_1275 (fun r2 hw2 => ?_)
  refine lv_icmp_eq (tgt := 2343) hx hb dL_law_1278 (by decide) (fun _ => ?_) (fun h => absurd (hw1.trans hw2.symm) h)
  refine W.widen (k := 1000) (n := 200000) (Nat.le_of_ble_eq_true rfl) (Nat.le_of_ble_eq_true rfl) ?_
  exact law_next hC hr hk hX hbl hS (lv_sub hl [3, 0] rfl)
set_option maxRecDepth 40000 in
set_option maxHeartbeats 4000000 in
theorem law_35 {p : Program} {l : Launch} {e : Env} {s : State} {m : MethodId} {below : List Frame} {meth : Method} {c : Code} {b : Nat} {xs : Nat → Int32} {D : va_G} {K : Nat → ClassId} (hC : CallFix p m c cL_law 4 s #[Value.ref b] wl RL) (hr : meth.sig.returnType = ret) (hk : meth.locks = false) (hX : va_X b 6 xs s s.heap) (hbl : b < s.heap.size) (hE : ev D K s) (x y : Nat → Nat) (fs fm : Nat → Int32) (hfs : ∀ j, j < 4 → fs j = -1) (hfm : ∀ j, j < 4 → fm j = -1) (H : Heap) (locs : List Loc) (hP : va_P D vwCl (fxL K x fs ++ mdL K y fm) H) (hD : va_D (fun q : Nat => s.heap.size ≤ q) (fxL K x fs ++ mdL K y fm)) (hPx : va_P D vwCl (fxL K x fs) H) (hPm : va_P D vwCl (mdL K y fm) H) (hS : va_S (fun q : Nat => s.heap.size ≤ q) s.heap H locs) (ls : Array Slot) (hl : lv_has ls 4 [(3, .int 0), (2, .ref (y 0)), (1, .ref (x 0)), (0, .ref b)]) : W p l e room_1 s m #[Value.ref b] below meth c H locs 900 150000 (lw_Z below #[Value.ref b] s) (F0 m 1283 ls []) := by
  have hx := hC.1
  have hb := hC.2.1
  have hown := hC.2.2.2.1
  have hts := hC.2.2.2.2
  have hbA : ¬ (fun q : Nat => s.heap.size ≤ q) b := Nat.not_le.mpr hbl
  refine lv_aload_n hx hb dL_law_1283 rfl (lv_at hl 2 rfl) ?_
  refine lv_aload_n hx hb dL_law_1284 rfl (lv_at hl 3 rfl) ?_
  refine lv_iload_n hx hb dL_law_1285 rfl (lv_at hl 0 rfl) ?_
  refine lv_iconst (v := 1) hx hb dL_law_1286 (by decide) ?_
  refine lv_iadd hx hb dL_law_1287 ?_
  refine tc (y := 1) (by decide) ?_
  refine va_sld hx hb hX hbl hbA hS (in_c (by decide)) dL_law_1288 ?_
  refine tc (y := xs 1) (congrArg xs (by decide)) ?_
  refine lv_aload_n hx hb dL_law_1289 rfl (lv_at hl 3 rfl) ?_
  refine lv_iload_n hx hb dL_law_1290 rfl (lv_at hl 0 rfl) ?_
  refine lv_iconst (v := 2) hx hb dL_law_1291 (by decide) ?_
  refine lv_iadd hx hb dL_law_1292 ?_
  refine tc (y := 2) (by decide) ?_
  refine va_sld hx hb hX hbl hbA hS (in_c (by decide)) dL_law_1293 ?_
  refine tc (y := xs 2) (congrArg xs (by decide)) ?_
  refine ro_V (As := [.int (xs 1), .int (xs 2)]) (rest := []) hC hE kV_L_158 (c_X11_bares l D K x fs hfs (xs 1) (xs 2)) hPx 0 10 rfl rfl rfl hl.1 rfl (Nat.le_of_ble_eq_true rfl) ⟨(Nat.le_of_ble_eq_true rfl), (Nat.le_of_ble_eq_true rfl)⟩ ⟨(Nat.le_of_ble_eq_true rfl), (Nat.le_of_ble_eq_true rfl)⟩ dL_law_1294 (fun r1 hw1 => ?_)
  refine lv_aload_n hx hb dL_law_1297 rfl (lv_at hl 1 rfl) ?_
  refine lv_aload_n hx hb dL_law_1298 rfl (lv_at hl 3 rfl) ?_
  refine lv_iload_n hx hb dL_law_1299 rfl (lv_at hl 0 rfl) ?_
  refine lv_iconst (v := 1) hx hb dL_law_1300 (by decide) ?_
  refine lv_iadd hx hb dL_law_1301 ?_
  refine tc (y := 1) (by decide) ?_
  refine va_sld hx hb hX hbl hbA hS (in_c (by decide)) dL_law_1302 ?_
  refine tc (y := xs 1) (congrArg xs (by decide)) ?_
  refine lv_aload_n hx hb dL_law_1303 rfl (lv_at hl 3 rfl) ?_
  refine lv_iload_n hx hb dL_law_1304 rfl (lv_at hl 0 rfl) ?_
  refine lv_iconst (v := 2) hx hb dL_law_1305 (by decide) ?_
  refine lv_iadd hx hb dL_law_1306 ?_
  refine tc (y := 2) (by decide) ?_
  refine va_sld hx hb hX hbl hbA hS (in_c (by decide)) dL_law_1307 ?_
  refine tc (y := xs 2) (congrArg xs (by decide)) ?_
  refine ro_V (As := [.int (xs 1), .int (xs 2)]) (rest := [.int r1]) hC hE kV_L_161 (c_X12_bares l D K y fm hfm (xs 1) (xs 2)) hPm 0 11 rfl rfl rfl hl.1 rfl (Nat.le_of_ble_eq_true rfl) ⟨(Nat.le_of_ble_eq_true rfl), (Nat.le_of_ble_eq_true rfl)⟩ ⟨(Nat.le_of_ble_eq_true rfl), (Nat.le_of_ble_eq_true rfl)⟩ dL_law_1308 (fun r2 hw2 => ?_)
  refine lv_icmp_eq (tgt := 2343) hx hb dL_law_1311 (by decide) (fun _ => ?_) (fun h => absurd (hw1.trans hw2.symm) h)
  refine W.widen (k := 1000) (n := 200000) (Nat.le_of_ble_eq_true rfl) (Nat.le_of_ble_eq_true rfl) ?_
  exact law_next hC hr hk hX hbl hS (lv_sub hl [3, 0] rfl)
set_option maxRecDepth 40000 in
set_option maxHeartbeats 4000000 in
theorem law_36 {p : Program} {l : Launch} {e : Env} {s : State} {m : MethodId} {below : List Frame} {meth : Method} {c : Code} {b : Nat} {xs : Nat → Int32} {D : va_G} {K : Nat → ClassId} (hC : CallFix p m c cL_law 4 s #[Value.ref b] wl RL) (hr : meth.sig.returnType = ret) (hk : meth.locks = false) (hX : va_X b 6 xs s s.heap) (hbl : b < s.heap.size) (hE : ev D K s) (x y : Nat → Nat) (fs fm : Nat → Int32) (hfs : ∀ j, j < 4 → fs j = -1) (hfm : ∀ j, j < 4 → fm j = -1) (H : Heap) (locs : List Loc) (hP : va_P D vwCl (fxL K x fs ++ mdL K y fm) H) (hD : va_D (fun q : Nat => s.heap.size ≤ q) (fxL K x fs ++ mdL K y fm)) (hPx : va_P D vwCl (fxL K x fs) H) (hPm : va_P D vwCl (mdL K y fm) H) (hS : va_S (fun q : Nat => s.heap.size ≤ q) s.heap H locs) (ls : Array Slot) (hl : lv_has ls 4 [(3, .int 0), (2, .ref (y 0)), (1, .ref (x 0)), (0, .ref b)]) : W p l e room_1 s m #[Value.ref b] below meth c H locs 900 150000 (lw_Z below #[Value.ref b] s) (F0 m 1316 ls []) := by
  have hx := hC.1
  have hb := hC.2.1
  have hown := hC.2.2.2.1
  have hts := hC.2.2.2.2
  have hbA : ¬ (fun q : Nat => s.heap.size ≤ q) b := Nat.not_le.mpr hbl
  refine lv_aload_n hx hb dL_law_1316 rfl (lv_at hl 2 rfl) ?_
  refine lv_aload_n hx hb dL_law_1317 rfl (lv_at hl 3 rfl) ?_
  refine lv_iload_n hx hb dL_law_1318 rfl (lv_at hl 0 rfl) ?_
  refine lv_iconst (v := 1) hx hb dL_law_1319 (by decide) ?_
  refine lv_iadd hx hb dL_law_1320 ?_
  refine tc (y := 1) (by decide) ?_
  refine va_sld hx hb hX hbl hbA hS (in_c (by decide)) dL_law_1321 ?_
  refine tc (y := xs 1) (congrArg xs (by decide)) ?_
  refine lv_aload_n hx hb dL_law_1322 rfl (lv_at hl 3 rfl) ?_
  refine lv_iload_n hx hb dL_law_1323 rfl (lv_at hl 0 rfl) ?_
  refine lv_iconst (v := 2) hx hb dL_law_1324 (by decide) ?_
  refine lv_iadd hx hb dL_law_1325 ?_
  refine tc (y := 2) (by decide) ?_
  refine va_sld hx hb hX hbl hbA hS (in_c (by decide)) dL_law_1326 ?_
  refine tc (y := xs 2) (congrArg xs (by decide)) ?_
  refine ro_V (As := [.int (xs 1), .int (xs 2)]) (rest := []) hC hE kV_L_162 (c_X11_bared l D K x fs hfs (xs 1) (xs 2)) hPx 0 10 rfl rfl rfl hl.1 rfl (Nat.le_of_ble_eq_true rfl) ⟨(Nat.le_of_ble_eq_true rfl), (Nat.le_of_ble_eq_true rfl)⟩ ⟨(Nat.le_of_ble_eq_true rfl), (Nat.le_of_ble_eq_true rfl)⟩ dL_law_1327 (fun r1 hw1 => ?_)
  refine lv_aload_n hx hb dL_law_1330 rfl (lv_at hl 1 rfl) ?_
  refine lv_aload_n hx hb dL_law_1331 rfl (lv_at hl 3 rfl) ?_
  refine lv_iload_n hx hb dL_law_1332 rfl (lv_at hl 0 rfl) ?_
  refine lv_iconst (v := 1) hx hb dL_law_1333 (by decide) ?_
  refine lv_iadd hx hb dL_law_1334 ?_
  refine tc (y := 1) (by decide) ?_
  refine va_sld hx hb hX hbl hbA hS (in_c (by decide)) dL_law_1335 ?_
  refine tc (y := xs 1) (congrArg xs (by decide)) ?_
  refine lv_aload_n hx hb dL_law_1336 rfl (lv_at hl 3 rfl) ?_
  refine lv_iload_n hx hb dL_law_1337 rfl (lv_at hl 0 rfl) ?_
  refine lv_iconst (v := 2) hx hb dL_law_1338 (by decide) ?_
  refine lv_iadd hx hb dL_law_1339 ?_
  refine tc (y := 2) (by decide) ?_
  refine va_sld hx hb hX hbl hbA hS (in_c (by decide)) dL_law_1340 ?_
  refine tc (y := xs 2) (congrArg xs (by decide)) ?_
  refine ro_V (As := [.int (xs 1), .int (xs 2)]) (rest := [.int r1]) hC hE kV_L_165 (c_X12_bared l D K y fm hfm (xs 1) (xs 2)) hPm 0 11 rfl rfl rfl hl.1 rfl (Nat.le_of_ble_eq_true rfl) ⟨(Nat.le_of_ble_eq_true rfl), (Nat.le_of_ble_eq_true rfl)⟩ ⟨(Nat.le_of_ble_eq_true rfl), (Nat.le_of_ble_eq_true rfl)⟩ dL_law_1341 (fun r2 hw2 => ?_)
  refine lv_icmp_eq (tgt := 2343) hx hb dL_law_1344 (by decide) (fun _ => ?_) (fun h => absurd (hw1.trans hw2.symm) h)
  refine W.widen (k := 1000) (n := 200000) (Nat.le_of_ble_eq_true rfl) (Nat.le_of_ble_eq_true rfl) ?_
  exact law_next hC hr hk hX hbl hS (lv_sub hl [3, 0] rfl)
set_option maxRecDepth 40000 in
set_option maxHeartbeats 4000000 in
theorem law_37 {p : Program} {l : Launch} {e : Env} {s : State} {m : MethodId} {below : List Frame} {meth : Method} {c : Code} {b : Nat} {xs : Nat → Int32} {D : va_G} {K : Nat → ClassId} (hC : CallFix p m c cL_law 4 s #[Value.ref b] wl RL) (hr : meth.sig.returnType = ret) (hk : meth.locks = false) (hX : va_X b 6 xs s s.heap) (hbl : b < s.heap.size) (hE : ev D K s) (x y : Nat → Nat) (fs fm : Nat → Int32) (hfs : ∀ j, j < 4 → fs j = -1) (hfm : ∀ j, j < 4 → fm j = -1) (H : Heap) (locs : List Loc) (hP : va_P D vwCl (fxL K x fs ++ mdL K y fm) H) (hD : va_D (fun q : Nat => s.heap.size ≤ q) (fxL K x fs ++ mdL K y fm)) (hPx : va_P D vwCl (fxL K x fs) H) (hPm : va_P D vwCl (mdL K y fm) H) (hS : va_S (fun q : Nat => s.heap.size ≤ q) s.heap H locs) (ls : Array Slot) (hl : lv_has ls 4 [(3, .int 0), (2, .ref (y 0)), (1, .ref (x 0)), (0, .ref b)]) : W p l e room_1 s m #[Value.ref b] below meth c H locs 900 150000 (lw_Z below #[Value.ref b] s) (F0 m 1349 ls []) := by
  have hx := hC.1
  have hb := hC.2.1
  have hown := hC.2.2.2.1
  have hts := hC.2.2.2.2
  have hbA : ¬ (fun q : Nat => s.heap.size ≤ q) b := Nat.not_le.mpr hbl
  refine lv_aload_n hx hb dL_law_1349 rfl (lv_at hl 2 rfl) ?_
  refine lv_aload_n hx hb dL_law_1350 rfl (lv_at hl 3 rfl) ?_
  refine lv_iload_n hx hb dL_law_1351 rfl (lv_at hl 0 rfl) ?_
  refine lv_iconst (v := 1) hx hb dL_law_1352 (by decide) ?_
  refine lv_iadd hx hb dL_law_1353 ?_
  refine tc (y := 1) (by decide) ?_
  refine va_sld hx hb hX hbl hbA hS (in_c (by decide)) dL_law_1354 ?_
  refine tc (y := xs 1) (congrArg xs (by decide)) ?_
  refine ro_V (As := [.int (xs 1)]) (rest := []) hC hE kV_L_166 (c_X11_gather l D K x fs hfs (xs 1)) hPx 0 10 rfl rfl rfl hl.1 rfl (Nat.le_of_ble_eq_true rfl) ⟨(Nat.le_of_ble_eq_true rfl), (Nat.le_of_ble_eq_true rfl)⟩ ⟨(Nat.le_of_ble_eq_true rfl), (Nat.le_of_ble_eq_true rfl)⟩ dL_law_1355 (fun r1 hw1 => ?_)
  refine lv_aload_n hx hb dL_law_1358 rfl (lv_at hl 1 rfl) ?_
  refine lv_aload_n hx hb dL_law_1359 rfl (lv_at hl 3 rfl) ?_
  refine lv_iload_n hx hb dL_law_1360 rfl (lv_at hl 0 rfl) ?_
  refine lv_iconst (v := 1) hx hb dL_law_1361 (by decide) ?_
  refine lv_iadd hx hb dL_law_1362 ?_
  refine tc (y := 1) (by decide) ?_
  refine va_sld hx hb hX hbl hbA hS (in_c (by decide)) dL_law_1363 ?_
  refine tc (y := xs 1) (congrArg xs (by decide)) ?_
  refine ro_V (As := [.int (xs 1)]) (rest := [.int r1]) hC hE kV_L_169 (c_X12_gather l D K y fm hfm (xs 1)) hPm 0 11 rfl rfl rfl hl.1 rfl (Nat.le_of_ble_eq_true rfl) ⟨(Nat.le_of_ble_eq_true rfl), (Nat.le_of_ble_eq_true rfl)⟩ ⟨(Nat.le_of_ble_eq_true rfl), (Nat.le_of_ble_eq_true rfl)⟩ dL_law_1364 (fun r2 hw2 => ?_)
  refine lv_icmp_eq (tgt := 2343) hx hb dL_law_1367 (by decide) (fun _ => ?_) (fun h => absurd (hw1.trans hw2.symm) h)
  refine W.widen (k := 1000) (n := 200000) (Nat.le_of_ble_eq_true rfl) (Nat.le_of_ble_eq_true rfl) ?_
  exact law_next hC hr hk hX hbl hS (lv_sub hl [3, 0] rfl)
set_option maxRecDepth 40000 in
set_option maxHeartbeats 4000000 in
theorem law_38 {p : Program} {l : Launch} {e : Env} {s : State} {m : MethodId} {below : List Frame} {meth : Method} {c : Code} {b : Nat} {xs : Nat → Int32} {D : va_G} {K : Nat → ClassId} (hC : CallFix p m c cL_law 4 s #[Value.ref b] wl RL) (hr : meth.sig.returnType = ret) (hk : meth.locks = false) (hX : va_X b 6 xs s s.heap) (hbl : b < s.heap.size) (hE : ev D K s) (x y : Nat → Nat) (fs fm : Nat → Int32) (hfs : ∀ j, j < 4 → fs j = -1) (hfm : ∀ j, j < 4 → fm j = -1) (H : Heap) (locs : List Loc) (hP : va_P D vwCl (fxL K x fs ++ mdL K y fm) H) (hD : va_D (fun q : Nat => s.heap.size ≤ q) (fxL K x fs ++ mdL K y fm)) (hPx : va_P D vwCl (fxL K x fs) H) (hPm : va_P D vwCl (mdL K y fm) H) (hS : va_S (fun q : Nat => s.heap.size ≤ q) s.heap H locs) (ls : Array Slot) (hl : lv_has ls 4 [(3, .int 0), (2, .ref (y 0)), (1, .ref (x 0)), (0, .ref b)]) : W p l e room_1 s m #[Value.ref b] below meth c H locs 900 150000 (lw_Z below #[Value.ref b] s) (F0 m 1372 ls []) := by
  have hx := hC.1
  have hb := hC.2.1
  have hown := hC.2.2.2.1
  have hts := hC.2.2.2.2
  have hbA : ¬ (fun q : Nat => s.heap.size ≤ q) b := Nat.not_le.mpr hbl
  refine lv_aload_n hx hb dL_law_1372 rfl (lv_at hl 2 rfl) ?_
  refine lv_aload_n hx hb dL_law_1373 rfl (lv_at hl 3 rfl) ?_
  refine lv_iload_n hx hb dL_law_1374 rfl (lv_at hl 0 rfl) ?_
  refine lv_iconst (v := 1) hx hb dL_law_1375 (by decide) ?_
  refine lv_iadd hx hb dL_law_1376 ?_
  refine tc (y := 1) (by decide) ?_
  refine va_sld hx hb hX hbl hbA hS (in_c (by decide)) dL_law_1377 ?_
  refine tc (y := xs 1) (congrArg xs (by decide)) ?_
  refine lv_aload_n hx hb dL_law_1378 rfl (lv_at hl 3 rfl) ?_
  refine lv_iload_n hx hb dL_law_1379 rfl (lv_at hl 0 rfl) ?_
  refine lv_iconst (v := 2) hx hb dL_law_1380 (by decide) ?_
  refine lv_iadd hx hb dL_law_1381 ?_
  refine tc (y := 2) (by decide) ?_
  refine va_sld hx hb hX hbl hbA hS (in_c (by decide)) dL_law_1382 ?_
  refine tc (y := xs 2) (congrArg xs (by decide)) ?_
  refine ro_V (As := [.int (xs 1), .int (xs 2)]) (rest := []) hC hE kV_L_170 (c_X11_gathers l D K x fs hfs (xs 1) (xs 2)) hPx 0 10 rfl rfl rfl hl.1 rfl (Nat.le_of_ble_eq_true rfl) ⟨(Nat.le_of_ble_eq_true rfl), (Nat.le_of_ble_eq_true rfl)⟩ ⟨(Nat.le_of_ble_eq_true rfl), (Nat.le_of_ble_eq_true rfl)⟩ dL_law_1383 (fun r1 hw1 => ?_)
  refine lv_aload_n hx hb dL_law_1386 rfl (lv_at hl 1 rfl) ?_
  refine lv_aload_n hx hb dL_law_1387 rfl (lv_at hl 3 rfl) ?_
  refine lv_iload_n hx hb dL_law_1388 rfl (lv_at hl 0 rfl) ?_
  refine lv_iconst (v := 1) hx hb dL_law_1389 (by decide) ?_
  refine lv_iadd hx hb dL_law_1390 ?_
  refine tc (y := 1) (by decide) ?_
  refine va_sld hx hb hX hbl hbA hS (in_c (by decide)) dL_law_1391 ?_
  refine tc (y := xs 1) (congrArg xs (by decide)) ?_
  refine lv_aload_n hx hb dL_law_1392 rfl (lv_at hl 3 rfl) ?_
  refine lv_iload_n hx hb dL_law_1393 rfl (lv_at hl 0 rfl) ?_
  refine lv_iconst (v := 2) hx hb dL_law_1394 (by decide) ?_
  refine lv_iadd hx hb dL_law_1395 ?_
  refine tc (y := 2) (by decide) ?_
  refine va_sld hx hb hX hbl hbA hS (in_c (by decide)) dL_law_1396 ?_
  refine tc (y := xs 2) (congrArg xs (by decide)) ?_
  refine ro_V (As := [.int (xs 1), .int (xs 2)]) (rest := [.int r1]) hC hE kV_L_173 (c_X12_gathers l D K y fm hfm (xs 1) (xs 2)) hPm 0 11 rfl rfl rfl hl.1 rfl (Nat.le_of_ble_eq_true rfl) ⟨(Nat.le_of_ble_eq_true rfl), (Nat.le_of_ble_eq_true rfl)⟩ ⟨(Nat.le_of_ble_eq_true rfl), (Nat.le_of_ble_eq_true rfl)⟩ dL_law_1397 (fun r2 hw2 => ?_)
  refine lv_icmp_eq (tgt := 2343) hx hb dL_law_1400 (by decide) (fun _ => ?_) (fun h => absurd (hw1.trans hw2.symm) h)
  refine W.widen (k := 1000) (n := 200000) (Nat.le_of_ble_eq_true rfl) (Nat.le_of_ble_eq_true rfl) ?_
  exact law_next hC hr hk hX hbl hS (lv_sub hl [3, 0] rfl)
set_option maxRecDepth 40000 in
set_option maxHeartbeats 4000000 in
theorem law_39 {p : Program} {l : Launch} {e : Env} {s : State} {m : MethodId} {below : List Frame} {meth : Method} {c : Code} {b : Nat} {xs : Nat → Int32} {D : va_G} {K : Nat → ClassId} (hC : CallFix p m c cL_law 4 s #[Value.ref b] wl RL) (hr : meth.sig.returnType = ret) (hk : meth.locks = false) (hX : va_X b 6 xs s s.heap) (hbl : b < s.heap.size) (hE : ev D K s) (x y : Nat → Nat) (fs fm : Nat → Int32) (hfs : ∀ j, j < 4 → fs j = -1) (hfm : ∀ j, j < 4 → fm j = -1) (H : Heap) (locs : List Loc) (hP : va_P D vwCl (fxL K x fs ++ mdL K y fm) H) (hD : va_D (fun q : Nat => s.heap.size ≤ q) (fxL K x fs ++ mdL K y fm)) (hPx : va_P D vwCl (fxL K x fs) H) (hPm : va_P D vwCl (mdL K y fm) H) (hS : va_S (fun q : Nat => s.heap.size ≤ q) s.heap H locs) (ls : Array Slot) (hl : lv_has ls 4 [(3, .int 0), (2, .ref (y 0)), (1, .ref (x 0)), (0, .ref b)]) : W p l e room_1 s m #[Value.ref b] below meth c H locs 900 150000 (lw_Z below #[Value.ref b] s) (F0 m 1405 ls []) := by
  have hx := hC.1
  have hb := hC.2.1
  have hown := hC.2.2.2.1
  have hts := hC.2.2.2.2
  have hbA : ¬ (fun q : Nat => s.heap.size ≤ q) b := Nat.not_le.mpr hbl
  refine lv_aload_n hx hb dL_law_1405 rfl (lv_at hl 2 rfl) ?_
  refine lv_aload_n hx hb dL_law_1406 rfl (lv_at hl 3 rfl) ?_
  refine lv_iload_n hx hb dL_law_1407 rfl (lv_at hl 0 rfl) ?_
  refine lv_iconst (v := 1) hx hb dL_law_1408 (by decide) ?_
  refine lv_iadd hx hb dL_law_1409 ?_
  refine tc (y := 1) (by decide) ?_
  refine va_sld hx hb hX hbl hbA hS (in_c (by decide)) dL_law_1410 ?_
  refine tc (y := xs 1) (congrArg xs (by decide)) ?_
  refine ro_V (As := [.int (xs 1)]) (rest := []) hC hE kV_L_174 (c_X11_roundabout l D K x fs hfs (xs 1)) hPx 0 10 rfl rfl rfl hl.1 rfl (Nat.le_of_ble_eq_true rfl) ⟨(Nat.le_of_ble_eq_true rfl), (Nat.le_of_ble_eq_true rfl)⟩ ⟨(Nat.le_of_ble_eq_true rfl), (Nat.le_of_ble_eq_true rfl)⟩ dL_law_1411 (fun r1 hw1 => ?_)
  refine lv_aload_n hx hb dL_law_1414 rfl (lv_at hl 1 rfl) ?_
  refine lv_aload_n hx hb dL_law_1415 rfl (lv_at hl 3 rfl) ?_
  refine lv_iload_n hx hb dL_law_1416 rfl (lv_at hl 0 rfl) ?_
  refine lv_iconst (v := 1) hx hb dL_law_1417 (by decide) ?_
  refine lv_iadd hx hb dL_law_1418 ?_
  refine tc (y := 1) (by decide) ?_
  refine va_sld hx hb hX hbl hbA hS (in_c (by decide)) dL_law_1419 ?_
  refine tc (y := xs 1) (congrArg xs (by decide)) ?_
  refine ro_V (As := [.int (xs 1)]) (rest := [.int r1]) hC hE kV_L_177 (c_X12_roundabout l D K y fm hfm (xs 1)) hPm 0 11 rfl rfl rfl hl.1 rfl (Nat.le_of_ble_eq_true rfl) ⟨(Nat.le_of_ble_eq_true rfl), (Nat.le_of_ble_eq_true rfl)⟩ ⟨(Nat.le_of_ble_eq_true rfl), (Nat.le_of_ble_eq_true rfl)⟩ dL_law_1420 (fun r2 hw2 => ?_)
  refine lv_icmp_eq (tgt := 2343) hx hb dL_law_1423 (by decide) (fun _ => ?_) (fun h => absurd (hw1.trans hw2.symm) h)
  refine W.widen (k := 1000) (n := 200000) (Nat.le_of_ble_eq_true rfl) (Nat.le_of_ble_eq_true rfl) ?_
  exact law_next hC hr hk hX hbl hS (lv_sub hl [3, 0] rfl)
set_option maxRecDepth 40000 in
set_option maxHeartbeats 4000000 in
theorem law_40 {p : Program} {l : Launch} {e : Env} {s : State} {m : MethodId} {below : List Frame} {meth : Method} {c : Code} {b : Nat} {xs : Nat → Int32} {D : va_G} {K : Nat → ClassId} (hC : CallFix p m c cL_law 4 s #[Value.ref b] wl RL) (hr : meth.sig.returnType = ret) (hk : meth.locks = false) (hX : va_X b 6 xs s s.heap) (hbl : b < s.heap.size) (hE : ev D K s) (x y : Nat → Nat) (fs fm : Nat → Int32) (hfs : ∀ j, j < 4 → fs j = -1) (hfm : ∀ j, j < 4 → fm j = -1) (H : Heap) (locs : List Loc) (hP : va_P D vwCl (fxL K x fs ++ mdL K y fm) H) (hD : va_D (fun q : Nat => s.heap.size ≤ q) (fxL K x fs ++ mdL K y fm)) (hPx : va_P D vwCl (fxL K x fs) H) (hPm : va_P D vwCl (mdL K y fm) H) (hS : va_S (fun q : Nat => s.heap.size ≤ q) s.heap H locs) (ls : Array Slot) (hl : lv_has ls 4 [(3, .int 0), (2, .ref (y 0)), (1, .ref (x 0)), (0, .ref b)]) : W p l e room_1 s m #[Value.ref b] below meth c H locs 900 150000 (lw_Z below #[Value.ref b] s) (F0 m 1428 ls []) := by
  have hx := hC.1
  have hb := hC.2.1
  have hown := hC.2.2.2.1
  have hts := hC.2.2.2.2
  have hbA : ¬ (fun q : Nat => s.heap.size ≤ q) b := Nat.not_le.mpr hbl
  refine lv_aload_n hx hb dL_law_1428 rfl (lv_at hl 2 rfl) ?_
  refine lv_aload_n hx hb dL_law_1429 rfl (lv_at hl 3 rfl) ?_
  refine lv_iload_n hx hb dL_law_1430 rfl (lv_at hl 0 rfl) ?_
  refine lv_iconst (v := 1) hx hb dL_law_1431 (by decide) ?_
  refine lv_iadd hx hb dL_law_1432 ?_
  refine tc (y := 1) (by decide) ?_
  refine va_sld hx hb hX hbl hbA hS (in_c (by decide)) dL_law_1433 ?_
  refine tc (y := xs 1) (congrArg xs (by decide)) ?_
  refine lv_aload_n hx hb dL_law_1434 rfl (lv_at hl 3 rfl) ?_
  refine lv_iload_n hx hb dL_law_1435 rfl (lv_at hl 0 rfl) ?_
  refine lv_iconst (v := 2) hx hb dL_law_1436 (by decide) ?_
  refine lv_iadd hx hb dL_law_1437 ?_
  refine tc (y := 2) (by decide) ?_
  refine va_sld hx hb hX hbl hbA hS (in_c (by decide)) dL_law_1438 ?_
  refine tc (y := xs 2) (congrArg xs (by decide)) ?_
  refine ro_V (As := [.int (xs 1), .int (xs 2)]) (rest := []) hC hE kV_L_178 (c_X11_meet l D K x fs hfs (xs 1) (xs 2)) hPx 0 10 rfl rfl rfl hl.1 rfl (Nat.le_of_ble_eq_true rfl) ⟨(Nat.le_of_ble_eq_true rfl), (Nat.le_of_ble_eq_true rfl)⟩ ⟨(Nat.le_of_ble_eq_true rfl), (Nat.le_of_ble_eq_true rfl)⟩ dL_law_1439 (fun r1 hw1 => ?_)
  refine lv_aload_n hx hb dL_law_1442 rfl (lv_at hl 1 rfl) ?_
  refine lv_aload_n hx hb dL_law_1443 rfl (lv_at hl 3 rfl) ?_
  refine lv_iload_n hx hb dL_law_1444 rfl (lv_at hl 0 rfl) ?_
  refine lv_iconst (v := 1) hx hb dL_law_1445 (by decide) ?_
  refine lv_iadd hx hb dL_law_1446 ?_
  refine tc (y := 1) (by decide) ?_
  refine va_sld hx hb hX hbl hbA hS (in_c (by decide)) dL_law_1447 ?_
  refine tc (y := xs 1) (congrArg xs (by decide)) ?_
  refine lv_aload_n hx hb dL_law_1448 rfl (lv_at hl 3 rfl) ?_
  refine lv_iload_n hx hb dL_law_1449 rfl (lv_at hl 0 rfl) ?_
  refine lv_iconst (v := 2) hx hb dL_law_1450 (by decide) ?_
  refine lv_iadd hx hb dL_law_1451 ?_
  refine tc (y := 2) (by decide) ?_
  refine va_sld hx hb hX hbl hbA hS (in_c (by decide)) dL_law_1452 ?_
  refine tc (y := xs 2) (congrArg xs (by decide)) ?_
  refine ro_V (As := [.int (xs 1), .int (xs 2)]) (rest := [.int r1]) hC hE kV_L_181 (c_X12_meet l D K y fm hfm (xs 1) (xs 2)) hPm 0 11 rfl rfl rfl hl.1 rfl (Nat.le_of_ble_eq_true rfl) ⟨(Nat.le_of_ble_eq_true rfl), (Nat.le_of_ble_eq_true rfl)⟩ ⟨(Nat.le_of_ble_eq_true rfl), (Nat.le_of_ble_eq_true rfl)⟩ dL_law_1453 (fun r2 hw2 => ?_)
  refine lv_icmp_eq (tgt := 2343) hx hb dL_law_1456 (by decide) (fun _ => ?_) (fun h => absurd (hw1.trans hw2.symm) h)
  refine W.widen (k := 1000) (n := 200000) (Nat.le_of_ble_eq_true rfl) (Nat.le_of_ble_eq_true rfl) ?_
  exact law_next hC hr hk hX hbl hS (lv_sub hl [3, 0] rfl)
set_option maxRecDepth 40000 in
set_option maxHeartbeats 4000000 in
theorem law_41 {p : Program} {l : Launch} {e : Env} {s : State} {m : MethodId} {below : List Frame} {meth : Method} {c : Code} {b : Nat} {xs : Nat → Int32} {D : va_G} {K : Nat → ClassId} (hC : CallFix p m c cL_law 4 s #[Value.ref b] wl RL) (hr : meth.sig.returnType = ret) (hk : meth.locks = false) (hX : va_X b 6 xs s s.heap) (hbl : b < s.heap.size) (hE : ev D K s) (x y : Nat → Nat) (fs fm : Nat → Int32) (hfs : ∀ j, j < 4 → fs j = -1) (hfm : ∀ j, j < 4 → fm j = -1) (H : Heap) (locs : List Loc) (hP : va_P D vwCl (fxL K x fs ++ mdL K y fm) H) (hD : va_D (fun q : Nat => s.heap.size ≤ q) (fxL K x fs ++ mdL K y fm)) (hPx : va_P D vwCl (fxL K x fs) H) (hPm : va_P D vwCl (mdL K y fm) H) (hS : va_S (fun q : Nat => s.heap.size ≤ q) s.heap H locs) (ls : Array Slot) (hl : lv_has ls 4 [(3, .int 0), (2, .ref (y 0)), (1, .ref (x 0)), (0, .ref b)]) : W p l e room_1 s m #[Value.ref b] below meth c H locs 900 150000 (lw_Z below #[Value.ref b] s) (F0 m 1461 ls []) := by
  have hx := hC.1
  have hb := hC.2.1
  have hown := hC.2.2.2.1
  have hts := hC.2.2.2.2
  have hbA : ¬ (fun q : Nat => s.heap.size ≤ q) b := Nat.not_le.mpr hbl
  refine lv_aload_n hx hb dL_law_1461 rfl (lv_at hl 2 rfl) ?_
  refine lv_aload_n hx hb dL_law_1462 rfl (lv_at hl 3 rfl) ?_
  refine lv_iload_n hx hb dL_law_1463 rfl (lv_at hl 0 rfl) ?_
  refine lv_iconst (v := 1) hx hb dL_law_1464 (by decide) ?_
  refine lv_iadd hx hb dL_law_1465 ?_
  refine tc (y := 1) (by decide) ?_
  refine va_sld hx hb hX hbl hbA hS (in_c (by decide)) dL_law_1466 ?_
  refine tc (y := xs 1) (congrArg xs (by decide)) ?_
  refine lv_aload_n hx hb dL_law_1467 rfl (lv_at hl 3 rfl) ?_
  refine lv_iload_n hx hb dL_law_1468 rfl (lv_at hl 0 rfl) ?_
  refine lv_iconst (v := 2) hx hb dL_law_1469 (by decide) ?_
  refine lv_iadd hx hb dL_law_1470 ?_
  refine tc (y := 2) (by decide) ?_
  refine va_sld hx hb hX hbl hbA hS (in_c (by decide)) dL_law_1471 ?_
  refine tc (y := xs 2) (congrArg xs (by decide)) ?_
  refine ro_V (As := [.int (xs 1), .int (xs 2)]) (rest := []) hC hE kV_L_182 (c_X11_met l D K x fs hfs (xs 1) (xs 2)) hPx 0 10 rfl rfl rfl hl.1 rfl (Nat.le_of_ble_eq_true rfl) ⟨(Nat.le_of_ble_eq_true rfl), (Nat.le_of_ble_eq_true rfl)⟩ ⟨(Nat.le_of_ble_eq_true rfl), (Nat.le_of_ble_eq_true rfl)⟩ dL_law_1472 (fun r1 hw1 => ?_)
  refine lv_aload_n hx hb dL_law_1475 rfl (lv_at hl 1 rfl) ?_
  refine lv_aload_n hx hb dL_law_1476 rfl (lv_at hl 3 rfl) ?_
  refine lv_iload_n hx hb dL_law_1477 rfl (lv_at hl 0 rfl) ?_
  refine lv_iconst (v := 1) hx hb dL_law_1478 (by decide) ?_
  refine lv_iadd hx hb dL_law_1479 ?_
  refine tc (y := 1) (by decide) ?_
  refine va_sld hx hb hX hbl hbA hS (in_c (by decide)) dL_law_1480 ?_
  refine tc (y := xs 1) (congrArg xs (by decide)) ?_
  refine lv_aload_n hx hb dL_law_1481 rfl (lv_at hl 3 rfl) ?_
  refine lv_iload_n hx hb dL_law_1482 rfl (lv_at hl 0 rfl) ?_
  refine lv_iconst (v := 2) hx hb dL_law_1483 (by decide) ?_
  refine lv_iadd hx hb dL_law_1484 ?_
  refine tc (y := 2) (by decide) ?_
  refine va_sld hx hb hX hbl hbA hS (in_c (by decide)) dL_law_1485 ?_
  refine tc (y := xs 2) (congrArg xs (by decide)) ?_
  refine ro_V (As := [.int (xs 1), .int (xs 2)]) (rest := [.int r1]) hC hE kV_L_185 (c_X12_met l D K y fm hfm (xs 1) (xs 2)) hPm 0 11 rfl rfl rfl hl.1 rfl (Nat.le_of_ble_eq_true rfl) ⟨(Nat.le_of_ble_eq_true rfl), (Nat.le_of_ble_eq_true rfl)⟩ ⟨(Nat.le_of_ble_eq_true rfl), (Nat.le_of_ble_eq_true rfl)⟩ dL_law_1486 (fun r2 hw2 => ?_)
  refine lv_icmp_eq (tgt := 2343) hx hb dL_law_1489 (by decide) (fun _ => ?_) (fun h => absurd (hw1.trans hw2.symm) h)
  refine W.widen (k := 1000) (n := 200000) (Nat.le_of_ble_eq_true rfl) (Nat.le_of_ble_eq_true rfl) ?_
  exact law_next hC hr hk hX hbl hS (lv_sub hl [3, 0] rfl)
set_option maxRecDepth 40000 in
set_option maxHeartbeats 4000000 in
theorem law_42 {p : Program} {l : Launch} {e : Env} {s : State} {m : MethodId} {below : List Frame} {meth : Method} {c : Code} {b : Nat} {xs : Nat → Int32} {D : va_G} {K : Nat → ClassId} (hC : CallFix p m c cL_law 4 s #[Value.ref b] wl RL) (hr : meth.sig.returnType = ret) (hk : meth.locks = false) (hX : va_X b 6 xs s s.heap) (hbl : b < s.heap.size) (hE : ev D K s) (x y : Nat → Nat) (fs fm : Nat → Int32) (hfs : ∀ j, j < 4 → fs j = -1) (hfm : ∀ j, j < 4 → fm j = -1) (H : Heap) (locs : List Loc) (hP : va_P D vwCl (fxL K x fs ++ mdL K y fm) H) (hD : va_D (fun q : Nat => s.heap.size ≤ q) (fxL K x fs ++ mdL K y fm)) (hPx : va_P D vwCl (fxL K x fs) H) (hPm : va_P D vwCl (mdL K y fm) H) (hS : va_S (fun q : Nat => s.heap.size ≤ q) s.heap H locs) (ls : Array Slot) (hl : lv_has ls 4 [(3, .int 0), (2, .ref (y 0)), (1, .ref (x 0)), (0, .ref b)]) : W p l e room_1 s m #[Value.ref b] below meth c H locs 900 150000 (lw_Z below #[Value.ref b] s) (F0 m 1494 ls []) := by
  have hx := hC.1
  have hb := hC.2.1
  have hown := hC.2.2.2.1
  have hts := hC.2.2.2.2
  have hbA : ¬ (fun q : Nat => s.heap.size ≤ q) b := Nat.not_le.mpr hbl
  refine lv_aload_n hx hb dL_law_1494 rfl (lv_at hl 2 rfl) ?_
  refine lv_aload_n hx hb dL_law_1495 rfl (lv_at hl 3 rfl) ?_
  refine lv_iload_n hx hb dL_law_1496 rfl (lv_at hl 0 rfl) ?_
  refine lv_iconst (v := 1) hx hb dL_law_1497 (by decide) ?_
  refine lv_iadd hx hb dL_law_1498 ?_
  refine tc (y := 1) (by decide) ?_
  refine va_sld hx hb hX hbl hbA hS (in_c (by decide)) dL_law_1499 ?_
  refine tc (y := xs 1) (congrArg xs (by decide)) ?_
  refine ro_V (As := [.int (xs 1)]) (rest := []) hC hE kV_L_186 (c_X11_read l D K x fs hfs (xs 1)) hPx 0 10 rfl rfl rfl hl.1 rfl (Nat.le_of_ble_eq_true rfl) ⟨(Nat.le_of_ble_eq_true rfl), (Nat.le_of_ble_eq_true rfl)⟩ ⟨(Nat.le_of_ble_eq_true rfl), (Nat.le_of_ble_eq_true rfl)⟩ dL_law_1500 (fun r1 hw1 => ?_)
  refine lv_aload_n hx hb dL_law_1503 rfl (lv_at hl 1 rfl) ?_
  refine lv_aload_n hx hb dL_law_1504 rfl (lv_at hl 3 rfl) ?_
  refine lv_iload_n hx hb dL_law_1505 rfl (lv_at hl 0 rfl) ?_
  refine lv_iconst (v := 1) hx hb dL_law_1506 (by decide) ?_
  refine lv_iadd hx hb dL_law_1507 ?_
  refine tc (y := 1) (by decide) ?_
  refine va_sld hx hb hX hbl hbA hS (in_c (by decide)) dL_law_1508 ?_
  refine tc (y := xs 1) (congrArg xs (by decide)) ?_
  refine ro_V (As := [.int (xs 1)]) (rest := [.int r1]) hC hE kV_L_189 (c_X12_read l D K y fm hfm (xs 1)) hPm 0 11 rfl rfl rfl hl.1 rfl (Nat.le_of_ble_eq_true rfl) ⟨(Nat.le_of_ble_eq_true rfl), (Nat.le_of_ble_eq_true rfl)⟩ ⟨(Nat.le_of_ble_eq_true rfl), (Nat.le_of_ble_eq_true rfl)⟩ dL_law_1509 (fun r2 hw2 => ?_)
  refine lv_icmp_eq (tgt := 2343) hx hb dL_law_1512 (by decide) (fun _ => ?_) (fun h => absurd (hw1.trans hw2.symm) h)
  refine W.widen (k := 1000) (n := 200000) (Nat.le_of_ble_eq_true rfl) (Nat.le_of_ble_eq_true rfl) ?_
  exact law_next hC hr hk hX hbl hS (lv_sub hl [3, 0] rfl)
set_option maxRecDepth 40000 in
set_option maxHeartbeats 4000000 in
theorem law_43 {p : Program} {l : Launch} {e : Env} {s : State} {m : MethodId} {below : List Frame} {meth : Method} {c : Code} {b : Nat} {xs : Nat → Int32} {D : va_G} {K : Nat → ClassId} (hC : CallFix p m c cL_law 4 s #[Value.ref b] wl RL) (hr : meth.sig.returnType = ret) (hk : meth.locks = false) (hX : va_X b 6 xs s s.heap) (hbl : b < s.heap.size) (hE : ev D K s) (x y : Nat → Nat) (fs fm : Nat → Int32) (hfs : ∀ j, j < 4 → fs j = -1) (hfm : ∀ j, j < 4 → fm j = -1) (H : Heap) (locs : List Loc) (hP : va_P D vwCl (fxL K x fs ++ mdL K y fm) H) (hD : va_D (fun q : Nat => s.heap.size ≤ q) (fxL K x fs ++ mdL K y fm)) (hPx : va_P D vwCl (fxL K x fs) H) (hPm : va_P D vwCl (mdL K y fm) H) (hS : va_S (fun q : Nat => s.heap.size ≤ q) s.heap H locs) (ls : Array Slot) (hl : lv_has ls 4 [(3, .int 0), (2, .ref (y 0)), (1, .ref (x 0)), (0, .ref b)]) : W p l e room_1 s m #[Value.ref b] below meth c H locs 900 150000 (lw_Z below #[Value.ref b] s) (F0 m 1517 ls []) := by
  have hx := hC.1
  have hb := hC.2.1
  have hown := hC.2.2.2.1
  have hts := hC.2.2.2.2
  have hbA : ¬ (fun q : Nat => s.heap.size ≤ q) b := Nat.not_le.mpr hbl
  refine lv_aload_n hx hb dL_law_1517 rfl (lv_at hl 2 rfl) ?_
  refine lv_aload_n hx hb dL_law_1518 rfl (lv_at hl 3 rfl) ?_
  refine lv_iload_n hx hb dL_law_1519 rfl (lv_at hl 0 rfl) ?_
  refine lv_iconst (v := 1) hx hb dL_law_1520 (by decide) ?_
  refine lv_iadd hx hb dL_law_1521 ?_
  refine tc (y := 1) (by decide) ?_
  refine va_sld hx hb hX hbl hbA hS (in_c (by decide)) dL_law_1522 ?_
  refine tc (y := xs 1) (congrArg xs (by decide)) ?_
  refine ro_V (As := [.int (xs 1)]) (rest := []) hC hE kV_L_190 (c_X11_began l D K x fs hfs (xs 1)) hPx 0 10 rfl rfl rfl hl.1 rfl (Nat.le_of_ble_eq_true rfl) ⟨(Nat.le_of_ble_eq_true rfl), (Nat.le_of_ble_eq_true rfl)⟩ ⟨(Nat.le_of_ble_eq_true rfl), (Nat.le_of_ble_eq_true rfl)⟩ dL_law_1523 (fun r1 hw1 => ?_)
  refine lv_aload_n hx hb dL_law_1526 rfl (lv_at hl 1 rfl) ?_
  refine lv_aload_n hx hb dL_law_1527 rfl (lv_at hl 3 rfl) ?_
  refine lv_iload_n hx hb dL_law_1528 rfl (lv_at hl 0 rfl) ?_
  refine lv_iconst (v := 1) hx hb dL_law_1529 (by decide) ?_
  refine lv_iadd hx hb dL_law_1530 ?_
  refine tc (y := 1) (by decide) ?_
  refine va_sld hx hb hX hbl hbA hS (in_c (by decide)) dL_law_1531 ?_
  refine tc (y := xs 1) (congrArg xs (by decide)) ?_
  refine ro_V (As := [.int (xs 1)]) (rest := [.int r1]) hC hE kV_L_193 (c_X12_began l D K y fm hfm (xs 1)) hPm 0 11 rfl rfl rfl hl.1 rfl (Nat.le_of_ble_eq_true rfl) ⟨(Nat.le_of_ble_eq_true rfl), (Nat.le_of_ble_eq_true rfl)⟩ ⟨(Nat.le_of_ble_eq_true rfl), (Nat.le_of_ble_eq_true rfl)⟩ dL_law_1532 (fun r2 hw2 => ?_)
  refine lv_icmp_eq (tgt := 2343) hx hb dL_law_1535 (by decide) (fun _ => ?_) (fun h => absurd (hw1.trans hw2.symm) h)
  refine W.widen (k := 1000) (n := 200000) (Nat.le_of_ble_eq_true rfl) (Nat.le_of_ble_eq_true rfl) ?_
  exact law_next hC hr hk hX hbl hS (lv_sub hl [3, 0] rfl)
set_option maxRecDepth 40000 in
set_option maxHeartbeats 4000000 in
theorem law_44 {p : Program} {l : Launch} {e : Env} {s : State} {m : MethodId} {below : List Frame} {meth : Method} {c : Code} {b : Nat} {xs : Nat → Int32} {D : va_G} {K : Nat → ClassId} (hC : CallFix p m c cL_law 4 s #[Value.ref b] wl RL) (hr : meth.sig.returnType = ret) (hk : meth.locks = false) (hX : va_X b 6 xs s s.heap) (hbl : b < s.heap.size) (hE : ev D K s) (x y : Nat → Nat) (fs fm : Nat → Int32) (hfs : ∀ j, j < 4 → fs j = -1) (hfm : ∀ j, j < 4 → fm j = -1) (H : Heap) (locs : List Loc) (hP : va_P D vwCl (fxL K x fs ++ mdL K y fm) H) (hD : va_D (fun q : Nat => s.heap.size ≤ q) (fxL K x fs ++ mdL K y fm)) (hPx : va_P D vwCl (fxL K x fs) H) (hPm : va_P D vwCl (mdL K y fm) H) (hS : va_S (fun q : Nat => s.heap.size ≤ q) s.heap H locs) (ls : Array Slot) (hl : lv_has ls 4 [(3, .int 0), (2, .ref (y 0)), (1, .ref (x 0)), (0, .ref b)]) : W p l e room_1 s m #[Value.ref b] below meth c H locs 900 150000 (lw_Z below #[Value.ref b] s) (F0 m 1540 ls []) := by
  have hx := hC.1
  have hb := hC.2.1
  have hown := hC.2.2.2.1
  have hts := hC.2.2.2.2
  have hbA : ¬ (fun q : Nat => s.heap.size ≤ q) b := Nat.not_le.mpr hbl
  refine lv_aload_n hx hb dL_law_1540 rfl (lv_at hl 2 rfl) ?_
  refine lv_aload_n hx hb dL_law_1541 rfl (lv_at hl 3 rfl) ?_
  refine lv_iload_n hx hb dL_law_1542 rfl (lv_at hl 0 rfl) ?_
  refine lv_iconst (v := 1) hx hb dL_law_1543 (by decide) ?_
  refine lv_iadd hx hb dL_law_1544 ?_
  refine tc (y := 1) (by decide) ?_
  refine va_sld hx hb hX hbl hbA hS (in_c (by decide)) dL_law_1545 ?_
  refine tc (y := xs 1) (congrArg xs (by decide)) ?_
  refine ro_V (As := [.int (xs 1)]) (rest := []) hC hE kV_L_194 (c_X11_ask l D K x fs hfs (xs 1)) hPx 0 10 rfl rfl rfl hl.1 rfl (Nat.le_of_ble_eq_true rfl) ⟨(Nat.le_of_ble_eq_true rfl), (Nat.le_of_ble_eq_true rfl)⟩ ⟨(Nat.le_of_ble_eq_true rfl), (Nat.le_of_ble_eq_true rfl)⟩ dL_law_1546 (fun r1 hw1 => ?_)
  refine lv_aload_n hx hb dL_law_1549 rfl (lv_at hl 1 rfl) ?_
  refine lv_aload_n hx hb dL_law_1550 rfl (lv_at hl 3 rfl) ?_
  refine lv_iload_n hx hb dL_law_1551 rfl (lv_at hl 0 rfl) ?_
  refine lv_iconst (v := 1) hx hb dL_law_1552 (by decide) ?_
  refine lv_iadd hx hb dL_law_1553 ?_
  refine tc (y := 1) (by decide) ?_
  refine va_sld hx hb hX hbl hbA hS (in_c (by decide)) dL_law_1554 ?_
  refine tc (y := xs 1) (congrArg xs (by decide)) ?_
  refine ro_V (As := [.int (xs 1)]) (rest := [.int r1]) hC hE kV_L_197 (c_X12_ask l D K y fm hfm (xs 1)) hPm 0 11 rfl rfl rfl hl.1 rfl (Nat.le_of_ble_eq_true rfl) ⟨(Nat.le_of_ble_eq_true rfl), (Nat.le_of_ble_eq_true rfl)⟩ ⟨(Nat.le_of_ble_eq_true rfl), (Nat.le_of_ble_eq_true rfl)⟩ dL_law_1555 (fun r2 hw2 => ?_)
  refine lv_icmp_eq (tgt := 2343) hx hb dL_law_1558 (by decide) (fun _ => ?_) (fun h => absurd (hw1.trans hw2.symm) h)
  refine W.widen (k := 1000) (n := 200000) (Nat.le_of_ble_eq_true rfl) (Nat.le_of_ble_eq_true rfl) ?_
  exact law_next hC hr hk hX hbl hS (lv_sub hl [3, 0] rfl)
set_option maxRecDepth 40000 in
set_option maxHeartbeats 4000000 in
theorem law_45 {p : Program} {l : Launch} {e : Env} {s : State} {m : MethodId} {below : List Frame} {meth : Method} {c : Code} {b : Nat} {xs : Nat → Int32} {D : va_G} {K : Nat → ClassId} (hC : CallFix p m c cL_law 4 s #[Value.ref b] wl RL) (hr : meth.sig.returnType = ret) (hk : meth.locks = false) (hX : va_X b 6 xs s s.heap) (hbl : b < s.heap.size) (hE : ev D K s) (x y : Nat → Nat) (fs fm : Nat → Int32) (hfs : ∀ j, j < 4 → fs j = -1) (hfm : ∀ j, j < 4 → fm j = -1) (H : Heap) (locs : List Loc) (hP : va_P D vwCl (fxL K x fs ++ mdL K y fm) H) (hD : va_D (fun q : Nat => s.heap.size ≤ q) (fxL K x fs ++ mdL K y fm)) (hPx : va_P D vwCl (fxL K x fs) H) (hPm : va_P D vwCl (mdL K y fm) H) (hS : va_S (fun q : Nat => s.heap.size ≤ q) s.heap H locs) (ls : Array Slot) (hl : lv_has ls 4 [(3, .int 0), (2, .ref (y 0)), (1, .ref (x 0)), (0, .ref b)]) : W p l e room_1 s m #[Value.ref b] below meth c H locs 900 150000 (lw_Z below #[Value.ref b] s) (F0 m 1563 ls []) := by
  have hx := hC.1
  have hb := hC.2.1
  have hown := hC.2.2.2.1
  have hts := hC.2.2.2.2
  have hbA : ¬ (fun q : Nat => s.heap.size ≤ q) b := Nat.not_le.mpr hbl
  refine lv_aload_n hx hb dL_law_1563 rfl (lv_at hl 2 rfl) ?_
  refine lv_aload_n hx hb dL_law_1564 rfl (lv_at hl 3 rfl) ?_
  refine lv_iload_n hx hb dL_law_1565 rfl (lv_at hl 0 rfl) ?_
  refine lv_iconst (v := 1) hx hb dL_law_1566 (by decide) ?_
  refine lv_iadd hx hb dL_law_1567 ?_
  refine tc (y := 1) (by decide) ?_
  refine va_sld hx hb hX hbl hbA hS (in_c (by decide)) dL_law_1568 ?_
  refine tc (y := xs 1) (congrArg xs (by decide)) ?_
  refine ro_V (As := [.int (xs 1)]) (rest := []) hC hE kV_L_198 (c_X11_leaves l D K x fs hfs (xs 1)) hPx 0 10 rfl rfl rfl hl.1 rfl (Nat.le_of_ble_eq_true rfl) ⟨(Nat.le_of_ble_eq_true rfl), (Nat.le_of_ble_eq_true rfl)⟩ ⟨(Nat.le_of_ble_eq_true rfl), (Nat.le_of_ble_eq_true rfl)⟩ dL_law_1569 (fun r1 hw1 => ?_)
  refine lv_aload_n hx hb dL_law_1572 rfl (lv_at hl 1 rfl) ?_
  refine lv_aload_n hx hb dL_law_1573 rfl (lv_at hl 3 rfl) ?_
  refine lv_iload_n hx hb dL_law_1574 rfl (lv_at hl 0 rfl) ?_
  refine lv_iconst (v := 1) hx hb dL_law_1575 (by decide) ?_
  refine lv_iadd hx hb dL_law_1576 ?_
  refine tc (y := 1) (by decide) ?_
  refine va_sld hx hb hX hbl hbA hS (in_c (by decide)) dL_law_1577 ?_
  refine tc (y := xs 1) (congrArg xs (by decide)) ?_
  refine ro_V (As := [.int (xs 1)]) (rest := [.int r1]) hC hE kV_L_201 (c_X12_leaves l D K y fm hfm (xs 1)) hPm 0 11 rfl rfl rfl hl.1 rfl (Nat.le_of_ble_eq_true rfl) ⟨(Nat.le_of_ble_eq_true rfl), (Nat.le_of_ble_eq_true rfl)⟩ ⟨(Nat.le_of_ble_eq_true rfl), (Nat.le_of_ble_eq_true rfl)⟩ dL_law_1578 (fun r2 hw2 => ?_)
  refine lv_icmp_eq (tgt := 2343) hx hb dL_law_1581 (by decide) (fun _ => ?_) (fun h => absurd (hw1.trans hw2.symm) h)
  refine W.widen (k := 1000) (n := 200000) (Nat.le_of_ble_eq_true rfl) (Nat.le_of_ble_eq_true rfl) ?_
  exact law_next hC hr hk hX hbl hS (lv_sub hl [3, 0] rfl)
set_option maxRecDepth 40000 in
set_option maxHeartbeats 4000000 in
theorem law_46 {p : Program} {l : Launch} {e : Env} {s : State} {m : MethodId} {below : List Frame} {meth : Method} {c : Code} {b : Nat} {xs : Nat → Int32} {D : va_G} {K : Nat → ClassId} (hC : CallFix p m c cL_law 4 s #[Value.ref b] wl RL) (hr : meth.sig.returnType = ret) (hk : meth.locks = false) (hX : va_X b 6 xs s s.heap) (hbl : b < s.heap.size) (hE : ev D K s) (x y : Nat → Nat) (fs fm : Nat → Int32) (hfs : ∀ j, j < 4 → fs j = -1) (hfm : ∀ j, j < 4 → fm j = -1) (H : Heap) (locs : List Loc) (hP : va_P D vwCl (fxL K x fs ++ mdL K y fm) H) (hD : va_D (fun q : Nat => s.heap.size ≤ q) (fxL K x fs ++ mdL K y fm)) (hPx : va_P D vwCl (fxL K x fs) H) (hPm : va_P D vwCl (mdL K y fm) H) (hS : va_S (fun q : Nat => s.heap.size ≤ q) s.heap H locs) (ls : Array Slot) (hl : lv_has ls 4 [(3, .int 0), (2, .ref (y 0)), (1, .ref (x 0)), (0, .ref b)]) : W p l e room_1 s m #[Value.ref b] below meth c H locs 900 150000 (lw_Z below #[Value.ref b] s) (F0 m 1586 ls []) := by
  have hx := hC.1
  have hb := hC.2.1
  have hown := hC.2.2.2.1
  have hts := hC.2.2.2.2
  have hbA : ¬ (fun q : Nat => s.heap.size ≤ q) b := Nat.not_le.mpr hbl
  refine lv_aload_n hx hb dL_law_1586 rfl (lv_at hl 2 rfl) ?_
  refine lv_aload_n hx hb dL_law_1587 rfl (lv_at hl 3 rfl) ?_
  refine lv_iload_n hx hb dL_law_1588 rfl (lv_at hl 0 rfl) ?_
  refine lv_iconst (v := 1) hx hb dL_law_1589 (by decide) ?_
  refine lv_iadd hx hb dL_law_1590 ?_
  refine tc (y := 1) (by decide) ?_
  refine va_sld hx hb hX hbl hbA hS (in_c (by decide)) dL_law_1591 ?_
  refine tc (y := xs 1) (congrArg xs (by decide)) ?_
  refine lv_aload_n hx hb dL_law_1592 rfl (lv_at hl 3 rfl) ?_
  refine lv_iload_n hx hb dL_law_1593 rfl (lv_at hl 0 rfl) ?_
  refine lv_iconst (v := 2) hx hb dL_law_1594 (by decide) ?_
  refine lv_iadd hx hb dL_law_1595 ?_
  refine tc (y := 2) (by decide) ?_
  refine va_sld hx hb hX hbl hbA hS (in_c (by decide)) dL_law_1596 ?_
  refine tc (y := xs 2) (congrArg xs (by decide)) ?_
  refine ro_V (As := [.int (xs 1), .int (xs 2)]) (rest := []) hC hE kV_L_202 (c_X11_course l D K x fs hfs (xs 1) (xs 2)) hPx 0 10 rfl rfl rfl hl.1 rfl (Nat.le_of_ble_eq_true rfl) ⟨(Nat.le_of_ble_eq_true rfl), (Nat.le_of_ble_eq_true rfl)⟩ ⟨(Nat.le_of_ble_eq_true rfl), (Nat.le_of_ble_eq_true rfl)⟩ dL_law_1597 (fun r1 hw1 => ?_)
  refine lv_aload_n hx hb dL_law_1600 rfl (lv_at hl 1 rfl) ?_
  refine lv_aload_n hx hb dL_law_1601 rfl (lv_at hl 3 rfl) ?_
  refine lv_iload_n hx hb dL_law_1602 rfl (lv_at hl 0 rfl) ?_
  refine lv_iconst (v := 1) hx hb dL_law_1603 (by decide) ?_
  refine lv_iadd hx hb dL_law_1604 ?_
  refine tc (y := 1) (by decide) ?_
  refine va_sld hx hb hX hbl hbA hS (in_c (by decide)) dL_law_1605 ?_
  refine tc (y := xs 1) (congrArg xs (by decide)) ?_
  refine lv_aload_n hx hb dL_law_1606 rfl (lv_at hl 3 rfl) ?_
  refine lv_iload_n hx hb dL_law_1607 rfl (lv_at hl 0 rfl) ?_
  refine lv_iconst (v := 2) hx hb dL_law_1608 (by decide) ?_
  refine lv_iadd hx hb dL_law_1609 ?_
  refine tc (y := 2) (by decide) ?_
  refine va_sld hx hb hX hbl hbA hS (in_c (by decide)) dL_law_1610 ?_
  refine tc (y := xs 2) (congrArg xs (by decide)) ?_
  refine ro_V (As := [.int (xs 1), .int (xs 2)]) (rest := [.int r1]) hC hE kV_L_205 (c_X12_course l D K y fm hfm (xs 1) (xs 2)) hPm 0 11 rfl rfl rfl hl.1 rfl (Nat.le_of_ble_eq_true rfl) ⟨(Nat.le_of_ble_eq_true rfl), (Nat.le_of_ble_eq_true rfl)⟩ ⟨(Nat.le_of_ble_eq_true rfl), (Nat.le_of_ble_eq_true rfl)⟩ dL_law_1611 (fun r2 hw2 => ?_)
  refine lv_icmp_eq (tgt := 2343) hx hb dL_law_1614 (by decide) (fun _ => ?_) (fun h => absurd (hw1.trans hw2.symm) h)
  refine W.widen (k := 1000) (n := 200000) (Nat.le_of_ble_eq_true rfl) (Nat.le_of_ble_eq_true rfl) ?_
  exact law_next hC hr hk hX hbl hS (lv_sub hl [3, 0] rfl)
set_option maxRecDepth 40000 in
set_option maxHeartbeats 4000000 in
theorem law_47 {p : Program} {l : Launch} {e : Env} {s : State} {m : MethodId} {below : List Frame} {meth : Method} {c : Code} {b : Nat} {xs : Nat → Int32} {D : va_G} {K : Nat → ClassId} (hC : CallFix p m c cL_law 4 s #[Value.ref b] wl RL) (hr : meth.sig.returnType = ret) (hk : meth.locks = false) (hX : va_X b 6 xs s s.heap) (hbl : b < s.heap.size) (hE : ev D K s) (x y : Nat → Nat) (fs fm : Nat → Int32) (hfs : ∀ j, j < 4 → fs j = -1) (hfm : ∀ j, j < 4 → fm j = -1) (H : Heap) (locs : List Loc) (hP : va_P D vwCl (fxL K x fs ++ mdL K y fm) H) (hD : va_D (fun q : Nat => s.heap.size ≤ q) (fxL K x fs ++ mdL K y fm)) (hPx : va_P D vwCl (fxL K x fs) H) (hPm : va_P D vwCl (mdL K y fm) H) (hS : va_S (fun q : Nat => s.heap.size ≤ q) s.heap H locs) (ls : Array Slot) (hl : lv_has ls 4 [(3, .int 0), (2, .ref (y 0)), (1, .ref (x 0)), (0, .ref b)]) : W p l e room_1 s m #[Value.ref b] below meth c H locs 900 150000 (lw_Z below #[Value.ref b] s) (F0 m 1619 ls []) := by
  have hx := hC.1
  have hb := hC.2.1
  have hown := hC.2.2.2.1
  have hts := hC.2.2.2.2
  have hbA : ¬ (fun q : Nat => s.heap.size ≤ q) b := Nat.not_le.mpr hbl
  refine lv_aload_n hx hb dL_law_1619 rfl (lv_at hl 2 rfl) ?_
  refine lv_aload_n hx hb dL_law_1620 rfl (lv_at hl 3 rfl) ?_
  refine lv_iload_n hx hb dL_law_1621 rfl (lv_at hl 0 rfl) ?_
  refine lv_iconst (v := 1) hx hb dL_law_1622 (by decide) ?_
  refine lv_iadd hx hb dL_law_1623 ?_
  refine tc (y := 1) (by decide) ?_
  refine va_sld hx hb hX hbl hbA hS (in_c (by decide)) dL_law_1624 ?_
  refine tc (y := xs 1) (congrArg xs (by decide)) ?_
  refine lv_aload_n hx hb dL_law_1625 rfl (lv_at hl 3 rfl) ?_
  refine lv_iload_n hx hb dL_law_1626 rfl (lv_at hl 0 rfl) ?_
  refine lv_iconst (v := 2) hx hb dL_law_1627 (by decide) ?_
  refine lv_iadd hx hb dL_law_1628 ?_
  refine tc (y := 2) (by decide) ?_
  refine va_sld hx hb hX hbl hbA hS (in_c (by decide)) dL_law_1629 ?_
  refine tc (y := xs 2) (congrArg xs (by decide)) ?_
  refine lv_aload_n hx hb dL_law_1630 rfl (lv_at hl 3 rfl) ?_
  refine lv_iload_n hx hb dL_law_1631 rfl (lv_at hl 0 rfl) ?_
  refine lv_iconst (v := 3) hx hb dL_law_1632 (by decide) ?_
  refine lv_iadd hx hb dL_law_1633 ?_
  refine tc (y := 3) (by decide) ?_
  refine va_sld hx hb hX hbl hbA hS (in_c (by decide)) dL_law_1634 ?_
  refine tc (y := xs 3) (congrArg xs (by decide)) ?_
  refine ro_V (As := [.int (xs 1), .int (xs 2), .int (xs 3)]) (rest := []) hC hE kV_L_206 (c_X11_lesson l D K x fs hfs (xs 1) (xs 2) (xs 3)) hPx 0 10 rfl rfl rfl hl.1 rfl (Nat.le_of_ble_eq_true rfl) ⟨(Nat.le_of_ble_eq_true rfl), (Nat.le_of_ble_eq_true rfl)⟩ ⟨(Nat.le_of_ble_eq_true rfl), (Nat.le_of_ble_eq_true rfl)⟩ dL_law_1635 (fun r1 hw1 => ?_)
  refine lv_aload_n hx hb dL_law_1638 rfl (lv_at hl 1 rfl) ?_
  refine lv_aload_n hx hb dL_law_1639 rfl (lv_at hl 3 rfl) ?_
  refine lv_iload_n hx hb dL_law_1640 rfl (lv_at hl 0 rfl) ?_
  refine lv_iconst (v := 1) hx hb dL_law_1641 (by decide) ?_
  refine lv_iadd hx hb dL_law_1642 ?_
  refine tc (y := 1) (by decide) ?_
  refine va_sld hx hb hX hbl hbA hS (in_c (by decide)) dL_law_1643 ?_
  refine tc (y := xs 1) (congrArg xs (by decide)) ?_
  refine lv_aload_n hx hb dL_law_1644 rfl (lv_at hl 3 rfl) ?_
  refine lv_iload_n hx hb dL_law_1645 rfl (lv_at hl 0 rfl) ?_
  refine lv_iconst (v := 2) hx hb dL_law_1646 (by decide) ?_
  refine lv_iadd hx hb dL_law_1647 ?_
  refine tc (y := 2) (by decide) ?_
  refine va_sld hx hb hX hbl hbA hS (in_c (by decide)) dL_law_1648 ?_
  refine tc (y := xs 2) (congrArg xs (by decide)) ?_
  refine lv_aload_n hx hb dL_law_1649 rfl (lv_at hl 3 rfl) ?_
  refine lv_iload_n hx hb dL_law_1650 rfl (lv_at hl 0 rfl) ?_
  refine lv_iconst (v := 3) hx hb dL_law_1651 (by decide) ?_
  refine lv_iadd hx hb dL_law_1652 ?_
  refine tc (y := 3) (by decide) ?_
  refine va_sld hx hb hX hbl hbA hS (in_c (by decide)) dL_law_1653 ?_
  refine tc (y := xs 3) (congrArg xs (by decide)) ?_
  refine ro_V (As := [.int (xs 1), .int (xs 2), .int (xs 3)]) (rest := [.int r1]) hC hE kV_L_209 (c_X12_lesson l D K y fm hfm (xs 1) (xs 2) (xs 3)) hPm 0 11 rfl rfl rfl hl.1 rfl (Nat.le_of_ble_eq_true rfl) ⟨(Nat.le_of_ble_eq_true rfl), (Nat.le_of_ble_eq_true rfl)⟩ ⟨(Nat.le_of_ble_eq_true rfl), (Nat.le_of_ble_eq_true rfl)⟩ dL_law_1654 (fun r2 hw2 => ?_)
  refine lv_icmp_eq (tgt := 2343) hx hb dL_law_1657 (by decide) (fun _ => ?_) (fun h => absurd (hw1.trans hw2.symm) h)
  refine W.widen (k := 1000) (n := 200000) (Nat.le_of_ble_eq_true rfl) (Nat.le_of_ble_eq_true rfl) ?_
  exact law_next hC hr hk hX hbl hS (lv_sub hl [3, 0] rfl)
set_option maxRecDepth 40000 in
set_option maxHeartbeats 4000000 in
theorem law_48 {p : Program} {l : Launch} {e : Env} {s : State} {m : MethodId} {below : List Frame} {meth : Method} {c : Code} {b : Nat} {xs : Nat → Int32} {D : va_G} {K : Nat → ClassId} (hC : CallFix p m c cL_law 4 s #[Value.ref b] wl RL) (hr : meth.sig.returnType = ret) (hk : meth.locks = false) (hX : va_X b 6 xs s s.heap) (hbl : b < s.heap.size) (hE : ev D K s) (x y : Nat → Nat) (fs fm : Nat → Int32) (hfs : ∀ j, j < 4 → fs j = -1) (hfm : ∀ j, j < 4 → fm j = -1) (H : Heap) (locs : List Loc) (hP : va_P D vwCl (fxL K x fs ++ mdL K y fm) H) (hD : va_D (fun q : Nat => s.heap.size ≤ q) (fxL K x fs ++ mdL K y fm)) (hPx : va_P D vwCl (fxL K x fs) H) (hPm : va_P D vwCl (mdL K y fm) H) (hS : va_S (fun q : Nat => s.heap.size ≤ q) s.heap H locs) (ls : Array Slot) (hl : lv_has ls 4 [(3, .int 0), (2, .ref (y 0)), (1, .ref (x 0)), (0, .ref b)]) : W p l e room_1 s m #[Value.ref b] below meth c H locs 900 150000 (lw_Z below #[Value.ref b] s) (F0 m 1662 ls []) := by
  have hx := hC.1
  have hb := hC.2.1
  have hown := hC.2.2.2.1
  have hts := hC.2.2.2.2
  have hbA : ¬ (fun q : Nat => s.heap.size ≤ q) b := Nat.not_le.mpr hbl
  refine lv_aload_n hx hb dL_law_1662 rfl (lv_at hl 2 rfl) ?_
  refine lv_aload_n hx hb dL_law_1663 rfl (lv_at hl 3 rfl) ?_
  refine lv_iload_n hx hb dL_law_1664 rfl (lv_at hl 0 rfl) ?_
  refine lv_iconst (v := 1) hx hb dL_law_1665 (by decide) ?_
  refine lv_iadd hx hb dL_law_1666 ?_
  refine tc (y := 1) (by decide) ?_
  refine va_sld hx hb hX hbl hbA hS (in_c (by decide)) dL_law_1667 ?_
  refine tc (y := xs 1) (congrArg xs (by decide)) ?_
  refine lv_aload_n hx hb dL_law_1668 rfl (lv_at hl 3 rfl) ?_
  refine lv_iload_n hx hb dL_law_1669 rfl (lv_at hl 0 rfl) ?_
  refine lv_iconst (v := 2) hx hb dL_law_1670 (by decide) ?_
  refine lv_iadd hx hb dL_law_1671 ?_
  refine tc (y := 2) (by decide) ?_
  refine va_sld hx hb hX hbl hbA hS (in_c (by decide)) dL_law_1672 ?_
  refine tc (y := xs 2) (congrArg xs (by decide)) ?_
  refine ro_V (As := [.int (xs 1), .int (xs 2)]) (rest := []) hC hE kV_L_210 (c_X11_spoilt l D K x fs hfs (xs 1) (xs 2)) hPx 0 10 rfl rfl rfl hl.1 rfl (Nat.le_of_ble_eq_true rfl) ⟨(Nat.le_of_ble_eq_true rfl), (Nat.le_of_ble_eq_true rfl)⟩ ⟨(Nat.le_of_ble_eq_true rfl), (Nat.le_of_ble_eq_true rfl)⟩ dL_law_1673 (fun r1 hw1 => ?_)
  refine lv_aload_n hx hb dL_law_1676 rfl (lv_at hl 1 rfl) ?_
  refine lv_aload_n hx hb dL_law_1677 rfl (lv_at hl 3 rfl) ?_
  refine lv_iload_n hx hb dL_law_1678 rfl (lv_at hl 0 rfl) ?_
  refine lv_iconst (v := 1) hx hb dL_law_1679 (by decide) ?_
  refine lv_iadd hx hb dL_law_1680 ?_
  refine tc (y := 1) (by decide) ?_
  refine va_sld hx hb hX hbl hbA hS (in_c (by decide)) dL_law_1681 ?_
  refine tc (y := xs 1) (congrArg xs (by decide)) ?_
  refine lv_aload_n hx hb dL_law_1682 rfl (lv_at hl 3 rfl) ?_
  refine lv_iload_n hx hb dL_law_1683 rfl (lv_at hl 0 rfl) ?_
  refine lv_iconst (v := 2) hx hb dL_law_1684 (by decide) ?_
  refine lv_iadd hx hb dL_law_1685 ?_
  refine tc (y := 2) (by decide) ?_
  refine va_sld hx hb hX hbl hbA hS (in_c (by decide)) dL_law_1686 ?_
  refine tc (y := xs 2) (congrArg xs (by decide)) ?_
  refine ro_V (As := [.int (xs 1), .int (xs 2)]) (rest := [.int r1]) hC hE kV_L_213 (c_X12_spoilt l D K y fm hfm (xs 1) (xs 2)) hPm 0 11 rfl rfl rfl hl.1 rfl (Nat.le_of_ble_eq_true rfl) ⟨(Nat.le_of_ble_eq_true rfl), (Nat.le_of_ble_eq_true rfl)⟩ ⟨(Nat.le_of_ble_eq_true rfl), (Nat.le_of_ble_eq_true rfl)⟩ dL_law_1687 (fun r2 hw2 => ?_)
  refine lv_icmp_eq (tgt := 2343) hx hb dL_law_1690 (by decide) (fun _ => ?_) (fun h => absurd (hw1.trans hw2.symm) h)
  refine W.widen (k := 1000) (n := 200000) (Nat.le_of_ble_eq_true rfl) (Nat.le_of_ble_eq_true rfl) ?_
  exact law_next hC hr hk hX hbl hS (lv_sub hl [3, 0] rfl)
set_option maxRecDepth 40000 in
set_option maxHeartbeats 4000000 in
theorem law_49 {p : Program} {l : Launch} {e : Env} {s : State} {m : MethodId} {below : List Frame} {meth : Method} {c : Code} {b : Nat} {xs : Nat → Int32} {D : va_G} {K : Nat → ClassId} (hC : CallFix p m c cL_law 4 s #[Value.ref b] wl RL) (hr : meth.sig.returnType = ret) (hk : meth.locks = false) (hX : va_X b 6 xs s s.heap) (hbl : b < s.heap.size) (hE : ev D K s) (x y : Nat → Nat) (fs fm : Nat → Int32) (hfs : ∀ j, j < 4 → fs j = -1) (hfm : ∀ j, j < 4 → fm j = -1) (H : Heap) (locs : List Loc) (hP : va_P D vwCl (fxL K x fs ++ mdL K y fm) H) (hD : va_D (fun q : Nat => s.heap.size ≤ q) (fxL K x fs ++ mdL K y fm)) (hPx : va_P D vwCl (fxL K x fs) H) (hPm : va_P D vwCl (mdL K y fm) H) (hS : va_S (fun q : Nat => s.heap.size ≤ q) s.heap H locs) (ls : Array Slot) (hl : lv_has ls 4 [(3, .int 0), (2, .ref (y 0)), (1, .ref (x 0)), (0, .ref b)]) : W p l e room_1 s m #[Value.ref b] below meth c H locs 900 150000 (lw_Z below #[Value.ref b] s) (F0 m 1695 ls []) := by
  have hx := hC.1
  have hb := hC.2.1
  have hown := hC.2.2.2.1
  have hts := hC.2.2.2.2
  have hbA : ¬ (fun q : Nat => s.heap.size ≤ q) b := Nat.not_le.mpr hbl
  refine lv_aload_n hx hb dL_law_1695 rfl (lv_at hl 2 rfl) ?_
  refine lv_aload_n hx hb dL_law_1696 rfl (lv_at hl 3 rfl) ?_
  refine lv_iload_n hx hb dL_law_1697 rfl (lv_at hl 0 rfl) ?_
  refine lv_iconst (v := 1) hx hb dL_law_1698 (by decide) ?_
  refine lv_iadd hx hb dL_law_1699 ?_
  refine tc (y := 1) (by decide) ?_
  refine va_sld hx hb hX hbl hbA hS (in_c (by decide)) dL_law_1700 ?_
  refine tc (y := xs 1) (congrArg xs (by decide)) ?_
  refine lv_aload_n hx hb dL_law_1701 rfl (lv_at hl 3 rfl) ?_
  refine lv_iload_n hx hb dL_law_1702 rfl (lv_at hl 0 rfl) ?_
  refine lv_iconst (v := 2) hx hb dL_law_1703 (by decide) ?_
  refine lv_iadd hx hb dL_law_1704 ?_
  refine tc (y := 2) (by decide) ?_
  refine va_sld hx hb hX hbl hbA hS (in_c (by decide)) dL_law_1705 ?_
  refine tc (y := xs 2) (congrArg xs (by decide)) ?_
  refine ro_V (As := [.int (xs 1), .int (xs 2)]) (rest := []) hC hE kV_L_214 (c_X11_route l D K x fs hfs (xs 1) (xs 2)) hPx 0 10 rfl rfl rfl hl.1 rfl (Nat.le_of_ble_eq_true rfl) ⟨(Nat.le_of_ble_eq_true rfl), (Nat.le_of_ble_eq_true rfl)⟩ ⟨(Nat.le_of_ble_eq_true rfl), (Nat.le_of_ble_eq_true rfl)⟩ dL_law_1706 (fun r1 hw1 => ?_)
  refine lv_aload_n hx hb dL_law_1709 rfl (lv_at hl 1 rfl) ?_
  refine lv_aload_n hx hb dL_law_1710 rfl (lv_at hl 3 rfl) ?_
  refine lv_iload_n hx hb dL_law_1711 rfl (lv_at hl 0 rfl) ?_
  refine lv_iconst (v := 1) hx hb dL_law_1712 (by decide) ?_
  refine lv_iadd hx hb dL_law_1713 ?_
  refine tc (y := 1) (by decide) ?_
  refine va_sld hx hb hX hbl hbA hS (in_c (by decide)) dL_law_1714 ?_
  refine tc (y := xs 1) (congrArg xs (by decide)) ?_
  refine lv_aload_n hx hb dL_law_1715 rfl (lv_at hl 3 rfl) ?_
  refine lv_iload_n hx hb dL_law_1716 rfl (lv_at hl 0 rfl) ?_
  refine lv_iconst (v := 2) hx hb dL_law_1717 (by decide) ?_
  refine lv_iadd hx hb dL_law_1718 ?_
  refine tc (y := 2) (by decide) ?_
  refine va_sld hx hb hX hbl hbA hS (in_c (by decide)) dL_law_1719 ?_
  refine tc (y := xs 2) (congrArg xs (by decide)) ?_
  refine ro_V (As := [.int (xs 1), .int (xs 2)]) (rest := [.int r1]) hC hE kV_L_217 (c_X12_route l D K y fm hfm (xs 1) (xs 2)) hPm 0 11 rfl rfl rfl hl.1 rfl (Nat.le_of_ble_eq_true rfl) ⟨(Nat.le_of_ble_eq_true rfl), (Nat.le_of_ble_eq_true rfl)⟩ ⟨(Nat.le_of_ble_eq_true rfl), (Nat.le_of_ble_eq_true rfl)⟩ dL_law_1720 (fun r2 hw2 => ?_)
  refine lv_icmp_eq (tgt := 2343) hx hb dL_law_1723 (by decide) (fun _ => ?_) (fun h => absurd (hw1.trans hw2.symm) h)
  refine W.widen (k := 1000) (n := 200000) (Nat.le_of_ble_eq_true rfl) (Nat.le_of_ble_eq_true rfl) ?_
  exact law_next hC hr hk hX hbl hS (lv_sub hl [3, 0] rfl)
