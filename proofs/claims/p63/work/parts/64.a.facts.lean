set_option maxRecDepth 20000 in
theorem w_1184 : Cond.methodLink RX10 3 objectInit ∈ wl := tm_1 (List.mem_of_getElem? (i := 41) rfl) rfl
set_option maxRecDepth 20000 in
theorem w_1185 : Cond.instanceMethod objectInit ∈ wl := tm_1 (List.mem_of_getElem? (i := 28) rfl) rfl
set_option maxRecDepth 20000 in
theorem w_1186 : Cond.code objectInit ⟨#[0xb1]⟩ 1 none ∈ wl := tm_1 (List.mem_of_getElem? (i := 29) rfl) rfl
set_option maxRecDepth 20000 in
theorem w_1187 : Cond.arrayClass .int ∈ wl := tm_1 (List.mem_of_getElem? (i := 97) rfl) rfl
set_option maxRecDepth 20000 in
theorem w_1188 : Cond.methodLink RX4 3 objectInit ∈ wl := tm_1 (List.mem_of_getElem? (i := 35) rfl) rfl
set_option maxRecDepth 20000 in
theorem w_1189 : Cond.arrayClass .byte ∈ wl := tm_1 (List.mem_of_getElem? (i := 96) rfl) rfl
set_option maxRecDepth 20000 in
theorem w_1190 : Cond.classLink RX4 19 RX10 ∈ wl := tm_1 (List.mem_of_getElem? (i := 36) rfl) rfl
set_option maxRecDepth 20000 in
theorem w_1191 : Cond.instantiable RX10 12 ∈ wl := tm_1 (List.mem_of_getElem? (i := 37) rfl) rfl
set_option maxRecDepth 20000 in
theorem w_1192 : Cond.code yX10_init cX10_init 1 none ∈ wl := tm_1 (List.mem_of_getElem? (i := 40) rfl) rfl
set_option maxRecDepth 20000 in
theorem w_1193 : Cond.instanceMethod yX10_init ∈ wl := tm_1 (List.mem_of_getElem? (i := 39) rfl) rfl
set_option maxRecDepth 20000 in
theorem w_1194 : Cond.methodLink RX2 3 objectInit ∈ wl := tm_1 (List.mem_of_getElem? (i := 140) rfl) rfl
set_option maxRecDepth 20000 in
theorem w_1195 : Cond.methodLink RX9 3 objectInit ∈ wl := tm_1 (List.mem_of_getElem? (i := 168) rfl) rfl
set_option maxRecDepth 20000 in
theorem w_1196 : Cond.methodLink RX5 3 objectInit ∈ wl := tm_1 (List.mem_of_getElem? (i := 194) rfl) rfl
set_option maxRecDepth 20000 in
theorem w_1197 : Cond.arrayClass .long ∈ wl := tm_1 (List.mem_of_getElem? (i := 208) rfl) rfl
set_option maxRecDepth 20000 in
theorem w_1198 : Cond.methodLink RX5 22 yJ7_fill_53178 ∈ wl := tm_1 (List.mem_of_getElem? (i := 195) rfl) rfl
set_option maxRecDepth 20000 in
theorem w_1199 : Cond.methodLink RX6 3 objectInit ∈ wl := tm_1 (List.mem_of_getElem? (i := 217) rfl) rfl
set_option maxRecDepth 20000 in
theorem w_1200 : Cond.methodLink RX6 15 Lib.Math.max.name ∈ wl := tm_1 (List.mem_of_getElem? (i := 218) rfl) rfl
set_option maxRecDepth 20000 in
theorem w_1201 : Cond.code yX6_init cX6_init 3 none ∈ wl := tm_1 (List.mem_of_getElem? (i := 216) rfl) rfl
set_option maxRecDepth 20000 in
theorem w_1202 : Cond.methodLink RX1 3 yX6_init ∈ wl := tm_1 (List.mem_of_getElem? (i := 214) rfl) rfl
set_option maxRecDepth 20000 in
theorem w_1203 : Cond.instanceMethod yX6_init ∈ wl := tm_1 (List.mem_of_getElem? (i := 215) rfl) rfl
set_option maxRecDepth 20000 in
theorem w_1204 : Cond.classLink RX1 9 RX9 ∈ wl := tm_1 (List.mem_of_getElem? (i := 221) rfl) rfl
set_option maxRecDepth 20000 in
theorem w_1205 : Cond.instantiable RX9 3 ∈ wl := tm_1 (List.mem_of_getElem? (i := 164) rfl) rfl
set_option maxRecDepth 20000 in
theorem w_1206 : Cond.code yX9_init cX9_init 1 none ∈ wl := tm_1 (List.mem_of_getElem? (i := 167) rfl) rfl
set_option maxRecDepth 20000 in
theorem w_1207 : Cond.instanceMethod yX9_init ∈ wl := tm_1 (List.mem_of_getElem? (i := 166) rfl) rfl
set_option maxRecDepth 20000 in
theorem w_1208 : Cond.methodLink RX7 3 yX6_init ∈ wl := tm_2 (List.mem_of_getElem? (i := 27) rfl) rfl
set_option maxRecDepth 20000 in
theorem w_1209 : Cond.methodLink RX3 3 objectInit ∈ wl := tm_2 (List.mem_of_getElem? (i := 43) rfl) rfl
set_option maxRecDepth 20000 in
theorem w_1210 : Cond.methodLink RX0 3 objectInit ∈ wl := tm_2 (List.mem_of_getElem? (i := 66) rfl) rfl
set_option maxRecDepth 20000 in
theorem w_1211 : Cond.classLink RX0 9 RX10 ∈ wl := tm_2 (List.mem_of_getElem? (i := 67) rfl) rfl
set_option maxRecDepth 20000 in
theorem w_1212 : Cond.classLink RX0 18 RX9 ∈ wl := tm_2 (List.mem_of_getElem? (i := 69) rfl) rfl
set_option maxRecDepth 20000 in
theorem w_1213 : Cond.methodLink RX8 3 objectInit ∈ wl := tm_2 (List.mem_of_getElem? (i := 98) rfl) rfl
set_option maxRecDepth 20000 in
theorem w_1214 : Cond.methodLink RX11 3 objectInit ∈ wl := tm_1 (List.mem_of_getElem? (i := 27) rfl) rfl
set_option maxRecDepth 20000 in
theorem w_1215 : Cond.classLink RX11 9 RX4 ∈ wl := tm_1 (List.mem_of_getElem? (i := 30) rfl) rfl
set_option maxRecDepth 20000 in
theorem w_1216 : Cond.instantiable RX4 10 ∈ wl := tm_1 (List.mem_of_getElem? (i := 31) rfl) rfl
set_option maxRecDepth 20000 in
theorem w_1217 : Cond.code yX4_init cX4_init 1 none ∈ wl := tm_1 (List.mem_of_getElem? (i := 34) rfl) rfl
set_option maxRecDepth 20000 in
theorem w_1218 : Cond.instanceMethod yX4_init ∈ wl := tm_1 (List.mem_of_getElem? (i := 33) rfl) rfl
set_option maxRecDepth 20000 in
theorem w_1219 : Cond.classLink RX11 16 RX10 ∈ wl := tm_1 (List.mem_of_getElem? (i := 133) rfl) rfl
set_option maxRecDepth 20000 in
theorem w_1220 : Cond.classLink RX11 23 RX2 ∈ wl := tm_1 (List.mem_of_getElem? (i := 135) rfl) rfl
set_option maxRecDepth 20000 in
theorem w_1221 : Cond.instantiable RX2 6 ∈ wl := tm_1 (List.mem_of_getElem? (i := 136) rfl) rfl
set_option maxRecDepth 20000 in
theorem w_1222 : Cond.code yX2_init cX2_init 1 none ∈ wl := tm_1 (List.mem_of_getElem? (i := 139) rfl) rfl
set_option maxRecDepth 20000 in
theorem w_1223 : Cond.instanceMethod yX2_init ∈ wl := tm_1 (List.mem_of_getElem? (i := 138) rfl) rfl
set_option maxRecDepth 20000 in
theorem w_1224 : Cond.classLink RX11 30 RX9 ∈ wl := tm_1 (List.mem_of_getElem? (i := 163) rfl) rfl
set_option maxRecDepth 20000 in
theorem w_1225 : Cond.classLink RX11 37 RX5 ∈ wl := tm_1 (List.mem_of_getElem? (i := 189) rfl) rfl
set_option maxRecDepth 20000 in
theorem w_1226 : Cond.instantiable RX5 3 ∈ wl := tm_1 (List.mem_of_getElem? (i := 190) rfl) rfl
set_option maxRecDepth 20000 in
theorem w_1227 : Cond.code yX5_init cX5_init 1 none ∈ wl := tm_1 (List.mem_of_getElem? (i := 193) rfl) rfl
set_option maxRecDepth 20000 in
theorem w_1228 : Cond.methodLink RX11 39 yX5_init ∈ wl := tm_1 (List.mem_of_getElem? (i := 191) rfl) rfl
set_option maxRecDepth 20000 in
theorem w_1229 : Cond.instanceMethod yX5_init ∈ wl := tm_1 (List.mem_of_getElem? (i := 192) rfl) rfl
set_option maxRecDepth 20000 in
theorem w_1230 : Cond.classLink RX11 44 RX1 ∈ wl := tm_1 (List.mem_of_getElem? (i := 209) rfl) rfl
set_option maxRecDepth 20000 in
theorem w_1231 : Cond.instantiable RX1 10 ∈ wl := tm_1 (List.mem_of_getElem? (i := 210) rfl) rfl
set_option maxRecDepth 20000 in
theorem w_1232 : Cond.code yX1_init cX1_init 1 none ∈ wl := tm_1 (List.mem_of_getElem? (i := 213) rfl) rfl
set_option maxRecDepth 20000 in
theorem w_1233 : Cond.methodLink RX11 46 yX1_init ∈ wl := tm_1 (List.mem_of_getElem? (i := 211) rfl) rfl
set_option maxRecDepth 20000 in
theorem w_1234 : Cond.instanceMethod yX1_init ∈ wl := tm_1 (List.mem_of_getElem? (i := 212) rfl) rfl
set_option maxRecDepth 20000 in
theorem w_1235 : Cond.classLink RX11 51 RX7 ∈ wl := tm_2 (List.mem_of_getElem? (i := 22) rfl) rfl
set_option maxRecDepth 20000 in
theorem w_1236 : Cond.instantiable RX7 7 ∈ wl := tm_2 (List.mem_of_getElem? (i := 23) rfl) rfl
set_option maxRecDepth 20000 in
theorem w_1237 : Cond.code yX7_init cX7_init 1 none ∈ wl := tm_2 (List.mem_of_getElem? (i := 26) rfl) rfl
set_option maxRecDepth 20000 in
theorem w_1238 : Cond.methodLink RX11 53 yX7_init ∈ wl := tm_2 (List.mem_of_getElem? (i := 24) rfl) rfl
set_option maxRecDepth 20000 in
theorem w_1239 : Cond.instanceMethod yX7_init ∈ wl := tm_2 (List.mem_of_getElem? (i := 25) rfl) rfl
set_option maxRecDepth 20000 in
theorem w_1240 : Cond.classLink RX11 58 RX3 ∈ wl := tm_2 (List.mem_of_getElem? (i := 38) rfl) rfl
set_option maxRecDepth 20000 in
theorem w_1241 : Cond.instantiable RX3 5 ∈ wl := tm_2 (List.mem_of_getElem? (i := 39) rfl) rfl
set_option maxRecDepth 20000 in
theorem w_1242 : Cond.code yX3_init cX3_init 1 none ∈ wl := tm_2 (List.mem_of_getElem? (i := 42) rfl) rfl
set_option maxRecDepth 20000 in
theorem w_1243 : Cond.instanceMethod yX3_init ∈ wl := tm_2 (List.mem_of_getElem? (i := 41) rfl) rfl
set_option maxRecDepth 20000 in
theorem w_1244 : Cond.classLink RX11 65 RX0 ∈ wl := tm_2 (List.mem_of_getElem? (i := 61) rfl) rfl
set_option maxRecDepth 20000 in
theorem w_1245 : Cond.instantiable RX0 6 ∈ wl := tm_2 (List.mem_of_getElem? (i := 62) rfl) rfl
set_option maxRecDepth 20000 in
theorem w_1246 : Cond.code yX0_init cX0_init 1 none ∈ wl := tm_2 (List.mem_of_getElem? (i := 65) rfl) rfl
set_option maxRecDepth 20000 in
theorem w_1247 : Cond.instanceMethod yX0_init ∈ wl := tm_2 (List.mem_of_getElem? (i := 64) rfl) rfl
set_option maxRecDepth 20000 in
theorem w_1248 : Cond.classLink RX11 72 RX8 ∈ wl := tm_2 (List.mem_of_getElem? (i := 93) rfl) rfl
set_option maxRecDepth 20000 in
theorem w_1249 : Cond.instantiable RX8 3 ∈ wl := tm_2 (List.mem_of_getElem? (i := 94) rfl) rfl
set_option maxRecDepth 20000 in
theorem w_1250 : Cond.code yX8_init cX8_init 1 none ∈ wl := tm_2 (List.mem_of_getElem? (i := 97) rfl) rfl
set_option maxRecDepth 20000 in
theorem w_1251 : Cond.instanceMethod yX8_init ∈ wl := tm_2 (List.mem_of_getElem? (i := 96) rfl) rfl
set_option maxRecDepth 20000 in
theorem w_1252 : Cond.fieldLink RX11 79 "LostWood" "imageWoods" "[LLostWood$Wood;" ∈ wl := tm_2 (List.mem_of_getElem? (i := 121) rfl) rfl
set_option maxRecDepth 20000 in
theorem w_1253 : Cond.fieldLink RX11 83 "LostWood" "imageParties" "[LLostWood$Party;" ∈ wl := tm_2 (List.mem_of_getElem? (i := 122) rfl) rfl
set_option maxRecDepth 20000 in
theorem w_1254 : Cond.methodLink RX12 3 objectInit ∈ wl := tm_6 (List.mem_of_getElem? (i := 47) rfl) rfl
set_option maxRecDepth 20000 in
theorem w_1255 : Cond.arrayClass .boolean ∈ wl := tm_6 (List.mem_of_getElem? (i := 207) rfl) rfl
theorem kd_X10_init : okD yX10_init 0 := by decide +kernel
theorem kd_X6_init : okD yX6_init 1 := by decide +kernel
theorem kd_X9_init : okD yX9_init 0 := by decide +kernel
theorem kd_X4_init : okD yX4_init 0 := by decide +kernel
theorem kd_X2_init : okD yX2_init 0 := by decide +kernel
theorem kd_X5_init : okD yX5_init 0 := by decide +kernel
theorem kd_X1_init : okD yX1_init 0 := by decide +kernel
theorem kd_X7_init : okD yX7_init 0 := by decide +kernel
theorem kd_X3_init : okD yX3_init 0 := by decide +kernel
theorem kd_X0_init : okD yX0_init 0 := by decide +kernel
theorem kd_X8_init : okD yX8_init 0 := by decide +kernel
set_option maxRecDepth 20000 in
theorem kIN_X4_21 : okIN RX4 21 yX10_init RX11 cX10_init 1 0 := ⟨⟨List.mem_of_getElem? (i := 1) rfl, w_1192, w_25, kd_X10_init⟩, rfl, w_1193⟩
set_option maxRecDepth 20000 in
theorem kS_X5_22 : okS RX5 22 yJ7_fill_53178 cJ7_fill_53178 4 none 2 := ⟨⟨w_1198, w_130, w_127, kd_J7_fill_53178⟩, w_132⟩
set_option maxRecDepth 20000 in
theorem kI_X1_3 : okI RX1 3 yX6_init cX6_init 3 1 := ⟨⟨w_1202, w_1201, w_283, kd_X6_init⟩, rfl, w_1203⟩
set_option maxRecDepth 20000 in
theorem kIN_X1_11 : okIN RX1 11 yX9_init RX11 cX9_init 1 0 := ⟨⟨List.mem_of_getElem? (i := 5) rfl, w_1206, w_230, kd_X9_init⟩, rfl, w_1207⟩
set_option maxRecDepth 20000 in
theorem kI_X7_3 : okI RX7 3 yX6_init cX6_init 3 1 := ⟨⟨w_1208, w_1201, w_283, kd_X6_init⟩, rfl, w_1203⟩
set_option maxRecDepth 20000 in
theorem kIN_X0_11 : okIN RX0 11 yX10_init RX11 cX10_init 1 0 := ⟨⟨List.mem_of_getElem? (i := 8) rfl, w_1192, w_25, kd_X10_init⟩, rfl, w_1193⟩
set_option maxRecDepth 20000 in
theorem kIN_X0_20 : okIN RX0 20 yX9_init RX11 cX9_init 1 0 := ⟨⟨List.mem_of_getElem? (i := 9) rfl, w_1206, w_230, kd_X9_init⟩, rfl, w_1207⟩
set_option maxRecDepth 20000 in
theorem kIN_X11_11 : okIN RX11 11 yX4_init RX11 cX4_init 1 0 := ⟨⟨List.mem_of_getElem? (i := 0) rfl, w_1217, w_408, kd_X4_init⟩, rfl, w_1218⟩
set_option maxRecDepth 20000 in
theorem kIN_X11_18 : okIN RX11 18 yX10_init RX11 cX10_init 1 0 := ⟨⟨List.mem_of_getElem? (i := 2) rfl, w_1192, w_25, kd_X10_init⟩, rfl, w_1193⟩
set_option maxRecDepth 20000 in
theorem kIN_X11_25 : okIN RX11 25 yX2_init RX11 cX2_init 1 0 := ⟨⟨List.mem_of_getElem? (i := 3) rfl, w_1222, w_602, kd_X2_init⟩, rfl, w_1223⟩
set_option maxRecDepth 20000 in
theorem kIN_X11_32 : okIN RX11 32 yX9_init RX11 cX9_init 1 0 := ⟨⟨List.mem_of_getElem? (i := 4) rfl, w_1206, w_230, kd_X9_init⟩, rfl, w_1207⟩
set_option maxRecDepth 20000 in
theorem kI_X11_39 : okI RX11 39 yX5_init cX5_init 1 0 := ⟨⟨w_1228, w_1227, w_105, kd_X5_init⟩, rfl, w_1229⟩
set_option maxRecDepth 20000 in
theorem kI_X11_46 : okI RX11 46 yX1_init cX1_init 1 0 := ⟨⟨w_1233, w_1232, w_331, kd_X1_init⟩, rfl, w_1234⟩
set_option maxRecDepth 20000 in
theorem kI_X11_53 : okI RX11 53 yX7_init cX7_init 1 0 := ⟨⟨w_1238, w_1237, w_321, kd_X7_init⟩, rfl, w_1239⟩
set_option maxRecDepth 20000 in
theorem kIN_X11_60 : okIN RX11 60 yX3_init RX11 cX3_init 1 0 := ⟨⟨List.mem_of_getElem? (i := 6) rfl, w_1242, w_173, kd_X3_init⟩, rfl, w_1243⟩
set_option maxRecDepth 20000 in
theorem kIN_X11_67 : okIN RX11 67 yX0_init RX11 cX0_init 1 0 := ⟨⟨List.mem_of_getElem? (i := 7) rfl, w_1246, w_204, kd_X0_init⟩, rfl, w_1247⟩
set_option maxRecDepth 20000 in
theorem kIN_X11_74 : okIN RX11 74 yX8_init RX11 cX8_init 1 0 := ⟨⟨List.mem_of_getElem? (i := 10) rfl, w_1250, w_152, kd_X8_init⟩, rfl, w_1251⟩
