set_option maxRecDepth 20000 in
theorem w_1260 : Cond.code yX12_image cX12_image 3 (some .int) ∈ wl := tm_6 (List.mem_of_getElem? (i := 211) rfl) rfl
set_option maxRecDepth 20000 in
theorem w_1261 : Cond.methodLink RL 262 yX12_image ∈ wl := tm_6 (List.mem_of_getElem? (i := 208) rfl) rfl
set_option maxRecDepth 20000 in
theorem w_1262 : Cond.instanceMethod yX12_image ∈ wl := tm_6 (List.mem_of_getElem? (i := 209) rfl) rfl
set_option maxRecDepth 20000 in
theorem w_1263 : Cond.selects RX12 yX12_image yX12_image ∈ wl := tm_6 (List.mem_of_getElem? (i := 210) rfl) rfl
set_option maxRecDepth 20000 in
theorem w_1264 : Cond.code yX12_back cX12_back 3 (some .int) ∈ wl := tm_6 (List.mem_of_getElem? (i := 219) rfl) rfl
set_option maxRecDepth 20000 in
theorem w_1265 : Cond.methodLink RL 266 yX12_back ∈ wl := tm_6 (List.mem_of_getElem? (i := 216) rfl) rfl
set_option maxRecDepth 20000 in
theorem w_1266 : Cond.instanceMethod yX12_back ∈ wl := tm_6 (List.mem_of_getElem? (i := 217) rfl) rfl
set_option maxRecDepth 20000 in
theorem w_1267 : Cond.selects RX12 yX12_back yX12_back ∈ wl := tm_6 (List.mem_of_getElem? (i := 218) rfl) rfl
set_option maxRecDepth 20000 in
theorem w_1268 : Cond.code yX11_feed cX11_feed 6 (some .int) ∈ wl := tm_2 (List.mem_of_getElem? (i := 151) rfl) rfl
set_option maxRecDepth 20000 in
theorem w_1269 : Cond.methodLink RL 13 yX11_feed ∈ wl := tm_2 (List.mem_of_getElem? (i := 148) rfl) rfl
set_option maxRecDepth 20000 in
theorem w_1270 : Cond.instanceMethod yX11_feed ∈ wl := tm_2 (List.mem_of_getElem? (i := 149) rfl) rfl
set_option maxRecDepth 20000 in
theorem w_1271 : Cond.selects RX11 yX11_feed yX11_feed ∈ wl := tm_2 (List.mem_of_getElem? (i := 150) rfl) rfl
set_option maxRecDepth 20000 in
theorem w_1272 : Cond.code yX12_feed cX12_feed 7 (some .int) ∈ wl := tm_6 (List.mem_of_getElem? (i := 223) rfl) rfl
set_option maxRecDepth 20000 in
theorem w_1273 : Cond.methodLink RL 17 yX12_feed ∈ wl := tm_6 (List.mem_of_getElem? (i := 220) rfl) rfl
set_option maxRecDepth 20000 in
theorem w_1274 : Cond.instanceMethod yX12_feed ∈ wl := tm_6 (List.mem_of_getElem? (i := 221) rfl) rfl
set_option maxRecDepth 20000 in
theorem w_1275 : Cond.selects RX12 yX12_feed yX12_feed ∈ wl := tm_6 (List.mem_of_getElem? (i := 222) rfl) rfl
set_option maxRecDepth 20000 in
theorem w_1276 : Cond.code yX11_end cX11_end 2 (some .int) ∈ wl := tm_2 (List.mem_of_getElem? (i := 163) rfl) rfl
set_option maxRecDepth 20000 in
theorem w_1277 : Cond.methodLink RL 18 yX11_end ∈ wl := tm_2 (List.mem_of_getElem? (i := 160) rfl) rfl
set_option maxRecDepth 20000 in
theorem w_1278 : Cond.instanceMethod yX11_end ∈ wl := tm_2 (List.mem_of_getElem? (i := 161) rfl) rfl
set_option maxRecDepth 20000 in
theorem w_1279 : Cond.selects RX11 yX11_end yX11_end ∈ wl := tm_2 (List.mem_of_getElem? (i := 162) rfl) rfl
set_option maxRecDepth 20000 in
theorem w_1280 : Cond.code yX12_end cX12_end 2 (some .int) ∈ wl := tm_6 (List.mem_of_getElem? (i := 227) rfl) rfl
set_option maxRecDepth 20000 in
theorem w_1281 : Cond.methodLink RL 22 yX12_end ∈ wl := tm_6 (List.mem_of_getElem? (i := 224) rfl) rfl
set_option maxRecDepth 20000 in
theorem w_1282 : Cond.instanceMethod yX12_end ∈ wl := tm_6 (List.mem_of_getElem? (i := 225) rfl) rfl
set_option maxRecDepth 20000 in
theorem w_1283 : Cond.selects RX12 yX12_end yX12_end ∈ wl := tm_6 (List.mem_of_getElem? (i := 226) rfl) rfl
set_option maxRecDepth 20000 in
theorem w_1284 : Cond.code yX11_wood cX11_wood 1 (some .int) ∈ wl := tm_2 (List.mem_of_getElem? (i := 167) rfl) rfl
set_option maxRecDepth 20000 in
theorem w_1285 : Cond.methodLink RL 23 yX11_wood ∈ wl := tm_2 (List.mem_of_getElem? (i := 164) rfl) rfl
set_option maxRecDepth 20000 in
theorem w_1286 : Cond.instanceMethod yX11_wood ∈ wl := tm_2 (List.mem_of_getElem? (i := 165) rfl) rfl
set_option maxRecDepth 20000 in
theorem w_1287 : Cond.selects RX11 yX11_wood yX11_wood ∈ wl := tm_2 (List.mem_of_getElem? (i := 166) rfl) rfl
set_option maxRecDepth 20000 in
theorem w_1288 : Cond.code yX12_wood cX12_wood 2 (some .int) ∈ wl := tm_6 (List.mem_of_getElem? (i := 235) rfl) rfl
set_option maxRecDepth 20000 in
theorem w_1289 : Cond.methodLink RL 27 yX12_wood ∈ wl := tm_6 (List.mem_of_getElem? (i := 232) rfl) rfl
set_option maxRecDepth 20000 in
theorem w_1290 : Cond.instanceMethod yX12_wood ∈ wl := tm_6 (List.mem_of_getElem? (i := 233) rfl) rfl
set_option maxRecDepth 20000 in
theorem w_1291 : Cond.selects RX12 yX12_wood yX12_wood ∈ wl := tm_6 (List.mem_of_getElem? (i := 234) rfl) rfl
set_option maxRecDepth 20000 in
theorem w_1292 : Cond.code yX11_fault cX11_fault 2 (some .int) ∈ wl := tm_3 (List.mem_of_getElem? (i := 103) rfl) rfl
set_option maxRecDepth 20000 in
theorem w_1293 : Cond.methodLink RL 28 yX11_fault ∈ wl := tm_3 (List.mem_of_getElem? (i := 100) rfl) rfl
set_option maxRecDepth 20000 in
theorem w_1294 : Cond.instanceMethod yX11_fault ∈ wl := tm_3 (List.mem_of_getElem? (i := 101) rfl) rfl
set_option maxRecDepth 20000 in
theorem w_1295 : Cond.selects RX11 yX11_fault yX11_fault ∈ wl := tm_3 (List.mem_of_getElem? (i := 102) rfl) rfl
set_option maxRecDepth 20000 in
theorem w_1296 : Cond.code yX12_fault cX12_fault 2 (some .int) ∈ wl := tm_6 (List.mem_of_getElem? (i := 231) rfl) rfl
set_option maxRecDepth 20000 in
theorem w_1297 : Cond.methodLink RL 31 yX12_fault ∈ wl := tm_6 (List.mem_of_getElem? (i := 228) rfl) rfl
set_option maxRecDepth 20000 in
theorem w_1298 : Cond.instanceMethod yX12_fault ∈ wl := tm_6 (List.mem_of_getElem? (i := 229) rfl) rfl
set_option maxRecDepth 20000 in
theorem w_1299 : Cond.selects RX12 yX12_fault yX12_fault ∈ wl := tm_6 (List.mem_of_getElem? (i := 230) rfl) rfl
set_option maxRecDepth 20000 in
theorem w_1300 : Cond.code yX11_leads cX11_leads 3 (some .int) ∈ wl := tm_3 (List.mem_of_getElem? (i := 107) rfl) rfl
set_option maxRecDepth 20000 in
theorem w_1301 : Cond.methodLink RL 32 yX11_leads ∈ wl := tm_3 (List.mem_of_getElem? (i := 104) rfl) rfl
set_option maxRecDepth 20000 in
theorem w_1302 : Cond.instanceMethod yX11_leads ∈ wl := tm_3 (List.mem_of_getElem? (i := 105) rfl) rfl
set_option maxRecDepth 20000 in
theorem w_1303 : Cond.selects RX11 yX11_leads yX11_leads ∈ wl := tm_3 (List.mem_of_getElem? (i := 106) rfl) rfl
set_option maxRecDepth 20000 in
theorem w_1304 : Cond.code yX12_leads cX12_leads 3 (some .int) ∈ wl := tm_7 (List.mem_of_getElem? (i := 96) rfl) rfl
set_option maxRecDepth 20000 in
theorem w_1305 : Cond.methodLink RL 36 yX12_leads ∈ wl := tm_7 (List.mem_of_getElem? (i := 93) rfl) rfl
set_option maxRecDepth 20000 in
theorem w_1306 : Cond.instanceMethod yX12_leads ∈ wl := tm_7 (List.mem_of_getElem? (i := 94) rfl) rfl
set_option maxRecDepth 20000 in
theorem w_1307 : Cond.selects RX12 yX12_leads yX12_leads ∈ wl := tm_7 (List.mem_of_getElem? (i := 95) rfl) rfl
set_option maxRecDepth 20000 in
theorem w_1308 : Cond.code yX11_mark cX11_mark 2 (some .int) ∈ wl := tm_3 (List.mem_of_getElem? (i := 117) rfl) rfl
set_option maxRecDepth 20000 in
theorem w_1309 : Cond.methodLink RL 37 yX11_mark ∈ wl := tm_3 (List.mem_of_getElem? (i := 114) rfl) rfl
set_option maxRecDepth 20000 in
theorem w_1310 : Cond.instanceMethod yX11_mark ∈ wl := tm_3 (List.mem_of_getElem? (i := 115) rfl) rfl
set_option maxRecDepth 20000 in
theorem w_1311 : Cond.selects RX11 yX11_mark yX11_mark ∈ wl := tm_3 (List.mem_of_getElem? (i := 116) rfl) rfl
set_option maxRecDepth 20000 in
theorem w_1312 : Cond.code yX12_mark cX12_mark 2 (some .int) ∈ wl := tm_7 (List.mem_of_getElem? (i := 112) rfl) rfl
set_option maxRecDepth 20000 in
theorem w_1313 : Cond.methodLink RL 40 yX12_mark ∈ wl := tm_7 (List.mem_of_getElem? (i := 109) rfl) rfl
set_option maxRecDepth 20000 in
theorem w_1314 : Cond.instanceMethod yX12_mark ∈ wl := tm_7 (List.mem_of_getElem? (i := 110) rfl) rfl
set_option maxRecDepth 20000 in
theorem w_1315 : Cond.selects RX12 yX12_mark yX12_mark ∈ wl := tm_7 (List.mem_of_getElem? (i := 111) rfl) rfl
set_option maxRecDepth 20000 in
theorem w_1316 : Cond.code yX11_becomes cX11_becomes 3 (some .int) ∈ wl := tm_3 (List.mem_of_getElem? (i := 125) rfl) rfl
set_option maxRecDepth 20000 in
theorem w_1317 : Cond.methodLink RL 41 yX11_becomes ∈ wl := tm_3 (List.mem_of_getElem? (i := 122) rfl) rfl
set_option maxRecDepth 20000 in
theorem w_1318 : Cond.instanceMethod yX11_becomes ∈ wl := tm_3 (List.mem_of_getElem? (i := 123) rfl) rfl
set_option maxRecDepth 20000 in
theorem w_1319 : Cond.selects RX11 yX11_becomes yX11_becomes ∈ wl := tm_3 (List.mem_of_getElem? (i := 124) rfl) rfl
set_option maxRecDepth 20000 in
theorem w_1320 : Cond.code yX12_becomes cX12_becomes 3 (some .int) ∈ wl := tm_7 (List.mem_of_getElem? (i := 120) rfl) rfl
set_option maxRecDepth 20000 in
theorem w_1321 : Cond.methodLink RL 44 yX12_becomes ∈ wl := tm_7 (List.mem_of_getElem? (i := 117) rfl) rfl
set_option maxRecDepth 20000 in
theorem w_1322 : Cond.instanceMethod yX12_becomes ∈ wl := tm_7 (List.mem_of_getElem? (i := 118) rfl) rfl
set_option maxRecDepth 20000 in
theorem w_1323 : Cond.selects RX12 yX12_becomes yX12_becomes ∈ wl := tm_7 (List.mem_of_getElem? (i := 119) rfl) rfl
set_option maxRecDepth 20000 in
theorem w_1324 : Cond.code yX11_seen cX11_seen 3 (some .int) ∈ wl := tm_3 (List.mem_of_getElem? (i := 141) rfl) rfl
set_option maxRecDepth 20000 in
theorem w_1325 : Cond.methodLink RL 45 yX11_seen ∈ wl := tm_3 (List.mem_of_getElem? (i := 138) rfl) rfl
set_option maxRecDepth 20000 in
theorem w_1326 : Cond.instanceMethod yX11_seen ∈ wl := tm_3 (List.mem_of_getElem? (i := 139) rfl) rfl
set_option maxRecDepth 20000 in
theorem w_1327 : Cond.selects RX11 yX11_seen yX11_seen ∈ wl := tm_3 (List.mem_of_getElem? (i := 140) rfl) rfl
set_option maxRecDepth 20000 in
theorem w_1328 : Cond.code yX12_seen cX12_seen 3 (some .int) ∈ wl := tm_7 (List.mem_of_getElem? (i := 143) rfl) rfl
set_option maxRecDepth 20000 in
theorem w_1329 : Cond.methodLink RL 48 yX12_seen ∈ wl := tm_7 (List.mem_of_getElem? (i := 140) rfl) rfl
set_option maxRecDepth 20000 in
theorem w_1330 : Cond.instanceMethod yX12_seen ∈ wl := tm_7 (List.mem_of_getElem? (i := 141) rfl) rfl
set_option maxRecDepth 20000 in
theorem w_1331 : Cond.selects RX12 yX12_seen yX12_seen ∈ wl := tm_7 (List.mem_of_getElem? (i := 142) rfl) rfl
set_option maxRecDepth 20000 in
theorem w_1332 : Cond.code yX11_where cX11_where 2 (some .int) ∈ wl := tm_3 (List.mem_of_getElem? (i := 152) rfl) rfl
set_option maxRecDepth 20000 in
theorem w_1333 : Cond.methodLink RL 49 yX11_where ∈ wl := tm_3 (List.mem_of_getElem? (i := 149) rfl) rfl
set_option maxRecDepth 20000 in
theorem w_1334 : Cond.instanceMethod yX11_where ∈ wl := tm_3 (List.mem_of_getElem? (i := 150) rfl) rfl
set_option maxRecDepth 20000 in
theorem w_1335 : Cond.selects RX11 yX11_where yX11_where ∈ wl := tm_3 (List.mem_of_getElem? (i := 151) rfl) rfl
set_option maxRecDepth 20000 in
theorem w_1336 : Cond.code yX12_where cX12_where 2 (some .int) ∈ wl := tm_7 (List.mem_of_getElem? (i := 152) rfl) rfl
set_option maxRecDepth 20000 in
theorem w_1337 : Cond.methodLink RL 52 yX12_where ∈ wl := tm_7 (List.mem_of_getElem? (i := 149) rfl) rfl
set_option maxRecDepth 20000 in
theorem w_1338 : Cond.instanceMethod yX12_where ∈ wl := tm_7 (List.mem_of_getElem? (i := 150) rfl) rfl
set_option maxRecDepth 20000 in
theorem w_1339 : Cond.selects RX12 yX12_where yX12_where ∈ wl := tm_7 (List.mem_of_getElem? (i := 151) rfl) rfl
set_option maxRecDepth 20000 in
theorem w_1340 : Cond.code yX11_thinks cX11_thinks 2 (some .int) ∈ wl := tm_3 (List.mem_of_getElem? (i := 168) rfl) rfl
set_option maxRecDepth 20000 in
theorem w_1341 : Cond.methodLink RL 53 yX11_thinks ∈ wl := tm_3 (List.mem_of_getElem? (i := 165) rfl) rfl
set_option maxRecDepth 20000 in
theorem w_1342 : Cond.instanceMethod yX11_thinks ∈ wl := tm_3 (List.mem_of_getElem? (i := 166) rfl) rfl
set_option maxRecDepth 20000 in
theorem w_1343 : Cond.selects RX11 yX11_thinks yX11_thinks ∈ wl := tm_3 (List.mem_of_getElem? (i := 167) rfl) rfl
set_option maxRecDepth 20000 in
theorem w_1344 : Cond.code yX12_thinks cX12_thinks 2 (some .int) ∈ wl := tm_7 (List.mem_of_getElem? (i := 164) rfl) rfl
set_option maxRecDepth 20000 in
theorem w_1345 : Cond.methodLink RL 56 yX12_thinks ∈ wl := tm_7 (List.mem_of_getElem? (i := 161) rfl) rfl
set_option maxRecDepth 20000 in
theorem w_1346 : Cond.instanceMethod yX12_thinks ∈ wl := tm_7 (List.mem_of_getElem? (i := 162) rfl) rfl
set_option maxRecDepth 20000 in
theorem w_1347 : Cond.selects RX12 yX12_thinks yX12_thinks ∈ wl := tm_7 (List.mem_of_getElem? (i := 163) rfl) rfl
set_option maxRecDepth 20000 in
theorem w_1348 : Cond.code yX11_pupil cX11_pupil 3 (some .int) ∈ wl := tm_3 (List.mem_of_getElem? (i := 172) rfl) rfl
set_option maxRecDepth 20000 in
theorem w_1349 : Cond.methodLink RL 57 yX11_pupil ∈ wl := tm_3 (List.mem_of_getElem? (i := 169) rfl) rfl
set_option maxRecDepth 20000 in
theorem w_1350 : Cond.instanceMethod yX11_pupil ∈ wl := tm_3 (List.mem_of_getElem? (i := 170) rfl) rfl
set_option maxRecDepth 20000 in
theorem w_1351 : Cond.selects RX11 yX11_pupil yX11_pupil ∈ wl := tm_3 (List.mem_of_getElem? (i := 171) rfl) rfl
set_option maxRecDepth 20000 in
theorem w_1352 : Cond.code yX12_pupil cX12_pupil 3 (some .int) ∈ wl := tm_7 (List.mem_of_getElem? (i := 172) rfl) rfl
set_option maxRecDepth 20000 in
theorem w_1353 : Cond.methodLink RL 60 yX12_pupil ∈ wl := tm_7 (List.mem_of_getElem? (i := 169) rfl) rfl
set_option maxRecDepth 20000 in
theorem w_1354 : Cond.instanceMethod yX12_pupil ∈ wl := tm_7 (List.mem_of_getElem? (i := 170) rfl) rfl
set_option maxRecDepth 20000 in
theorem w_1355 : Cond.selects RX12 yX12_pupil yX12_pupil ∈ wl := tm_7 (List.mem_of_getElem? (i := 171) rfl) rfl
set_option maxRecDepth 20000 in
theorem w_1356 : Cond.code yX11_goes cX11_goes 3 (some .int) ∈ wl := tm_3 (List.mem_of_getElem? (i := 194) rfl) rfl
set_option maxRecDepth 20000 in
theorem w_1357 : Cond.methodLink RL 61 yX11_goes ∈ wl := tm_3 (List.mem_of_getElem? (i := 191) rfl) rfl
set_option maxRecDepth 20000 in
theorem w_1358 : Cond.instanceMethod yX11_goes ∈ wl := tm_3 (List.mem_of_getElem? (i := 192) rfl) rfl
set_option maxRecDepth 20000 in
theorem w_1359 : Cond.selects RX11 yX11_goes yX11_goes ∈ wl := tm_3 (List.mem_of_getElem? (i := 193) rfl) rfl
set_option maxRecDepth 20000 in
theorem w_1360 : Cond.code yX12_goes cX12_goes 4 (some .int) ∈ wl := tm_7 (List.mem_of_getElem? (i := 195) rfl) rfl
set_option maxRecDepth 20000 in
theorem w_1361 : Cond.methodLink RL 64 yX12_goes ∈ wl := tm_7 (List.mem_of_getElem? (i := 192) rfl) rfl
set_option maxRecDepth 20000 in
theorem w_1362 : Cond.instanceMethod yX12_goes ∈ wl := tm_7 (List.mem_of_getElem? (i := 193) rfl) rfl
set_option maxRecDepth 20000 in
theorem w_1363 : Cond.selects RX12 yX12_goes yX12_goes ∈ wl := tm_7 (List.mem_of_getElem? (i := 194) rfl) rfl
set_option maxRecDepth 20000 in
theorem w_1364 : Cond.code yX11_most cX11_most 5 (some .int) ∈ wl := tm_3 (List.mem_of_getElem? (i := 211) rfl) rfl
set_option maxRecDepth 20000 in
theorem w_1365 : Cond.methodLink RL 65 yX11_most ∈ wl := tm_3 (List.mem_of_getElem? (i := 208) rfl) rfl
set_option maxRecDepth 20000 in
theorem w_1366 : Cond.instanceMethod yX11_most ∈ wl := tm_3 (List.mem_of_getElem? (i := 209) rfl) rfl
set_option maxRecDepth 20000 in
theorem w_1367 : Cond.selects RX11 yX11_most yX11_most ∈ wl := tm_3 (List.mem_of_getElem? (i := 210) rfl) rfl
set_option maxRecDepth 20000 in
theorem w_1368 : Cond.code yX12_most cX12_most 5 (some .int) ∈ wl := tm_7 (List.mem_of_getElem? (i := 203) rfl) rfl
set_option maxRecDepth 20000 in
theorem w_1369 : Cond.methodLink RL 68 yX12_most ∈ wl := tm_7 (List.mem_of_getElem? (i := 200) rfl) rfl
set_option maxRecDepth 20000 in
theorem w_1370 : Cond.instanceMethod yX12_most ∈ wl := tm_7 (List.mem_of_getElem? (i := 201) rfl) rfl
set_option maxRecDepth 20000 in
theorem w_1371 : Cond.selects RX12 yX12_most yX12_most ∈ wl := tm_7 (List.mem_of_getElem? (i := 202) rfl) rfl
set_option maxRecDepth 20000 in
theorem w_1372 : Cond.code yX11_who cX11_who 4 (some .int) ∈ wl := tm_3 (List.mem_of_getElem? (i := 219) rfl) rfl
set_option maxRecDepth 20000 in
theorem w_1373 : Cond.methodLink RL 69 yX11_who ∈ wl := tm_3 (List.mem_of_getElem? (i := 216) rfl) rfl
set_option maxRecDepth 20000 in
theorem w_1374 : Cond.instanceMethod yX11_who ∈ wl := tm_3 (List.mem_of_getElem? (i := 217) rfl) rfl
set_option maxRecDepth 20000 in
theorem w_1375 : Cond.selects RX11 yX11_who yX11_who ∈ wl := tm_3 (List.mem_of_getElem? (i := 218) rfl) rfl
set_option maxRecDepth 20000 in
theorem w_1376 : Cond.code yX12_who cX12_who 4 (some .int) ∈ wl := tm_7 (List.mem_of_getElem? (i := 208) rfl) rfl
set_option maxRecDepth 20000 in
theorem w_1377 : Cond.methodLink RL 72 yX12_who ∈ wl := tm_7 (List.mem_of_getElem? (i := 205) rfl) rfl
set_option maxRecDepth 20000 in
theorem w_1378 : Cond.instanceMethod yX12_who ∈ wl := tm_7 (List.mem_of_getElem? (i := 206) rfl) rfl
set_option maxRecDepth 20000 in
theorem w_1379 : Cond.selects RX12 yX12_who yX12_who ∈ wl := tm_7 (List.mem_of_getElem? (i := 207) rfl) rfl
set_option maxRecDepth 20000 in
theorem w_1380 : Cond.code yX11_undo cX11_undo 1 (some .int) ∈ wl := tm_3 (List.mem_of_getElem? (i := 223) rfl) rfl
set_option maxRecDepth 20000 in
theorem w_1381 : Cond.methodLink RL 73 yX11_undo ∈ wl := tm_3 (List.mem_of_getElem? (i := 220) rfl) rfl
set_option maxRecDepth 20000 in
theorem w_1382 : Cond.instanceMethod yX11_undo ∈ wl := tm_3 (List.mem_of_getElem? (i := 221) rfl) rfl
set_option maxRecDepth 20000 in
theorem w_1383 : Cond.selects RX11 yX11_undo yX11_undo ∈ wl := tm_3 (List.mem_of_getElem? (i := 222) rfl) rfl
set_option maxRecDepth 20000 in
theorem w_1384 : Cond.code yX12_undo cX12_undo 1 (some .int) ∈ wl := tm_7 (List.mem_of_getElem? (i := 212) rfl) rfl
set_option maxRecDepth 20000 in
theorem w_1385 : Cond.methodLink RL 76 yX12_undo ∈ wl := tm_7 (List.mem_of_getElem? (i := 209) rfl) rfl
set_option maxRecDepth 20000 in
theorem w_1386 : Cond.instanceMethod yX12_undo ∈ wl := tm_7 (List.mem_of_getElem? (i := 210) rfl) rfl
set_option maxRecDepth 20000 in
theorem w_1387 : Cond.selects RX12 yX12_undo yX12_undo ∈ wl := tm_7 (List.mem_of_getElem? (i := 211) rfl) rfl
set_option maxRecDepth 20000 in
theorem w_1388 : Cond.code yX11_anew cX11_anew 2 (some .int) ∈ wl := tm_3 (List.mem_of_getElem? (i := 231) rfl) rfl
set_option maxRecDepth 20000 in
theorem w_1389 : Cond.methodLink RL 77 yX11_anew ∈ wl := tm_3 (List.mem_of_getElem? (i := 228) rfl) rfl
set_option maxRecDepth 20000 in
theorem w_1390 : Cond.instanceMethod yX11_anew ∈ wl := tm_3 (List.mem_of_getElem? (i := 229) rfl) rfl
set_option maxRecDepth 20000 in
theorem w_1391 : Cond.selects RX11 yX11_anew yX11_anew ∈ wl := tm_3 (List.mem_of_getElem? (i := 230) rfl) rfl
set_option maxRecDepth 20000 in
theorem w_1392 : Cond.code yX12_anew cX12_anew 2 (some .int) ∈ wl := tm_7 (List.mem_of_getElem? (i := 220) rfl) rfl
set_option maxRecDepth 20000 in
theorem w_1393 : Cond.methodLink RL 80 yX12_anew ∈ wl := tm_7 (List.mem_of_getElem? (i := 217) rfl) rfl
set_option maxRecDepth 20000 in
theorem w_1394 : Cond.instanceMethod yX12_anew ∈ wl := tm_7 (List.mem_of_getElem? (i := 218) rfl) rfl
set_option maxRecDepth 20000 in
theorem w_1395 : Cond.selects RX12 yX12_anew yX12_anew ∈ wl := tm_7 (List.mem_of_getElem? (i := 219) rfl) rfl
set_option maxRecDepth 20000 in
theorem w_1396 : Cond.code yX11_would cX11_would 4 (some .int) ∈ wl := tm_3 (List.mem_of_getElem? (i := 235) rfl) rfl
set_option maxRecDepth 20000 in
theorem w_1397 : Cond.methodLink RL 81 yX11_would ∈ wl := tm_3 (List.mem_of_getElem? (i := 232) rfl) rfl
set_option maxRecDepth 20000 in
theorem w_1398 : Cond.instanceMethod yX11_would ∈ wl := tm_3 (List.mem_of_getElem? (i := 233) rfl) rfl
set_option maxRecDepth 20000 in
theorem w_1399 : Cond.selects RX11 yX11_would yX11_would ∈ wl := tm_3 (List.mem_of_getElem? (i := 234) rfl) rfl
set_option maxRecDepth 20000 in
theorem w_1400 : Cond.code yX12_would cX12_would 4 (some .int) ∈ wl := tm_7 (List.mem_of_getElem? (i := 224) rfl) rfl
set_option maxRecDepth 20000 in
theorem w_1401 : Cond.methodLink RL 84 yX12_would ∈ wl := tm_7 (List.mem_of_getElem? (i := 221) rfl) rfl
set_option maxRecDepth 20000 in
theorem w_1402 : Cond.instanceMethod yX12_would ∈ wl := tm_7 (List.mem_of_getElem? (i := 222) rfl) rfl
set_option maxRecDepth 20000 in
theorem w_1403 : Cond.selects RX12 yX12_would yX12_would ∈ wl := tm_7 (List.mem_of_getElem? (i := 223) rfl) rfl
set_option maxRecDepth 20000 in
theorem w_1404 : Cond.code yX11_think cX11_think 4 (some .int) ∈ wl := tm_4 (List.mem_of_getElem? (i := 29) rfl) rfl
set_option maxRecDepth 20000 in
theorem w_1405 : Cond.methodLink RL 85 yX11_think ∈ wl := tm_4 (List.mem_of_getElem? (i := 26) rfl) rfl
set_option maxRecDepth 20000 in
theorem w_1406 : Cond.instanceMethod yX11_think ∈ wl := tm_4 (List.mem_of_getElem? (i := 27) rfl) rfl
set_option maxRecDepth 20000 in
theorem w_1407 : Cond.selects RX11 yX11_think yX11_think ∈ wl := tm_4 (List.mem_of_getElem? (i := 28) rfl) rfl
set_option maxRecDepth 20000 in
theorem w_1408 : Cond.code yX12_think cX12_think 4 (some .int) ∈ wl := tm_8 (List.mem_of_getElem? (i := 7) rfl) rfl
set_option maxRecDepth 20000 in
theorem w_1409 : Cond.methodLink RL 88 yX12_think ∈ wl := tm_8 (List.mem_of_getElem? (i := 4) rfl) rfl
set_option maxRecDepth 20000 in
theorem w_1410 : Cond.instanceMethod yX12_think ∈ wl := tm_8 (List.mem_of_getElem? (i := 5) rfl) rfl
set_option maxRecDepth 20000 in
theorem w_1411 : Cond.selects RX12 yX12_think yX12_think ∈ wl := tm_8 (List.mem_of_getElem? (i := 6) rfl) rfl
set_option maxRecDepth 20000 in
theorem w_1412 : Cond.code yX11_knows cX11_knows 4 (some .int) ∈ wl := tm_4 (List.mem_of_getElem? (i := 33) rfl) rfl
set_option maxRecDepth 20000 in
theorem w_1413 : Cond.methodLink RL 89 yX11_knows ∈ wl := tm_4 (List.mem_of_getElem? (i := 30) rfl) rfl
set_option maxRecDepth 20000 in
theorem w_1414 : Cond.instanceMethod yX11_knows ∈ wl := tm_4 (List.mem_of_getElem? (i := 31) rfl) rfl
set_option maxRecDepth 20000 in
theorem w_1415 : Cond.selects RX11 yX11_knows yX11_knows ∈ wl := tm_4 (List.mem_of_getElem? (i := 32) rfl) rfl
set_option maxRecDepth 20000 in
theorem w_1416 : Cond.code yX12_knows cX12_knows 4 (some .int) ∈ wl := tm_8 (List.mem_of_getElem? (i := 11) rfl) rfl
set_option maxRecDepth 20000 in
theorem w_1417 : Cond.methodLink RL 92 yX12_knows ∈ wl := tm_8 (List.mem_of_getElem? (i := 8) rfl) rfl
set_option maxRecDepth 20000 in
theorem w_1418 : Cond.instanceMethod yX12_knows ∈ wl := tm_8 (List.mem_of_getElem? (i := 9) rfl) rfl
set_option maxRecDepth 20000 in
theorem w_1419 : Cond.selects RX12 yX12_knows yX12_knows ∈ wl := tm_8 (List.mem_of_getElem? (i := 10) rfl) rfl
set_option maxRecDepth 20000 in
theorem w_1420 : Cond.code yX11_loses cX11_loses 4 (some .int) ∈ wl := tm_4 (List.mem_of_getElem? (i := 42) rfl) rfl
set_option maxRecDepth 20000 in
theorem w_1421 : Cond.methodLink RL 93 yX11_loses ∈ wl := tm_4 (List.mem_of_getElem? (i := 39) rfl) rfl
set_option maxRecDepth 20000 in
theorem w_1422 : Cond.instanceMethod yX11_loses ∈ wl := tm_4 (List.mem_of_getElem? (i := 40) rfl) rfl
set_option maxRecDepth 20000 in
theorem w_1423 : Cond.selects RX11 yX11_loses yX11_loses ∈ wl := tm_4 (List.mem_of_getElem? (i := 41) rfl) rfl
set_option maxRecDepth 20000 in
theorem w_1424 : Cond.code yX12_loses cX12_loses 4 (some .int) ∈ wl := tm_8 (List.mem_of_getElem? (i := 15) rfl) rfl
set_option maxRecDepth 20000 in
theorem w_1425 : Cond.methodLink RL 96 yX12_loses ∈ wl := tm_8 (List.mem_of_getElem? (i := 12) rfl) rfl
set_option maxRecDepth 20000 in
theorem w_1426 : Cond.instanceMethod yX12_loses ∈ wl := tm_8 (List.mem_of_getElem? (i := 13) rfl) rfl
set_option maxRecDepth 20000 in
theorem w_1427 : Cond.selects RX12 yX12_loses yX12_loses ∈ wl := tm_8 (List.mem_of_getElem? (i := 14) rfl) rfl
set_option maxRecDepth 20000 in
theorem w_1428 : Cond.code yX11_doubts cX11_doubts 6 (some .int) ∈ wl := tm_4 (List.mem_of_getElem? (i := 46) rfl) rfl
set_option maxRecDepth 20000 in
theorem w_1429 : Cond.methodLink RL 97 yX11_doubts ∈ wl := tm_4 (List.mem_of_getElem? (i := 43) rfl) rfl
set_option maxRecDepth 20000 in
theorem w_1430 : Cond.instanceMethod yX11_doubts ∈ wl := tm_4 (List.mem_of_getElem? (i := 44) rfl) rfl
set_option maxRecDepth 20000 in
theorem w_1431 : Cond.selects RX11 yX11_doubts yX11_doubts ∈ wl := tm_4 (List.mem_of_getElem? (i := 45) rfl) rfl
set_option maxRecDepth 20000 in
theorem w_1432 : Cond.code yX12_doubts cX12_doubts 4 (some .int) ∈ wl := tm_8 (List.mem_of_getElem? (i := 19) rfl) rfl
set_option maxRecDepth 20000 in
theorem w_1433 : Cond.methodLink RL 100 yX12_doubts ∈ wl := tm_8 (List.mem_of_getElem? (i := 16) rfl) rfl
set_option maxRecDepth 20000 in
theorem w_1434 : Cond.instanceMethod yX12_doubts ∈ wl := tm_8 (List.mem_of_getElem? (i := 17) rfl) rfl
set_option maxRecDepth 20000 in
theorem w_1435 : Cond.selects RX12 yX12_doubts yX12_doubts ∈ wl := tm_8 (List.mem_of_getElem? (i := 18) rfl) rfl
set_option maxRecDepth 20000 in
theorem w_1436 : Cond.code yX11_blur cX11_blur 3 (some .int) ∈ wl := tm_4 (List.mem_of_getElem? (i := 51) rfl) rfl
set_option maxRecDepth 20000 in
theorem w_1437 : Cond.methodLink RL 101 yX11_blur ∈ wl := tm_4 (List.mem_of_getElem? (i := 48) rfl) rfl
set_option maxRecDepth 20000 in
theorem w_1438 : Cond.instanceMethod yX11_blur ∈ wl := tm_4 (List.mem_of_getElem? (i := 49) rfl) rfl
set_option maxRecDepth 20000 in
theorem w_1439 : Cond.selects RX11 yX11_blur yX11_blur ∈ wl := tm_4 (List.mem_of_getElem? (i := 50) rfl) rfl
set_option maxRecDepth 20000 in
theorem w_1440 : Cond.code yX12_blur cX12_blur 3 (some .int) ∈ wl := tm_8 (List.mem_of_getElem? (i := 23) rfl) rfl
set_option maxRecDepth 20000 in
theorem w_1441 : Cond.methodLink RL 104 yX12_blur ∈ wl := tm_8 (List.mem_of_getElem? (i := 20) rfl) rfl
set_option maxRecDepth 20000 in
theorem w_1442 : Cond.instanceMethod yX12_blur ∈ wl := tm_8 (List.mem_of_getElem? (i := 21) rfl) rfl
set_option maxRecDepth 20000 in
theorem w_1443 : Cond.selects RX12 yX12_blur yX12_blur ∈ wl := tm_8 (List.mem_of_getElem? (i := 22) rfl) rfl
set_option maxRecDepth 20000 in
theorem w_1444 : Cond.code yX11_blurs cX11_blurs 4 (some .int) ∈ wl := tm_4 (List.mem_of_getElem? (i := 114) rfl) rfl
set_option maxRecDepth 20000 in
theorem w_1445 : Cond.methodLink RL 105 yX11_blurs ∈ wl := tm_4 (List.mem_of_getElem? (i := 111) rfl) rfl
set_option maxRecDepth 20000 in
theorem w_1446 : Cond.instanceMethod yX11_blurs ∈ wl := tm_4 (List.mem_of_getElem? (i := 112) rfl) rfl
set_option maxRecDepth 20000 in
theorem w_1447 : Cond.selects RX11 yX11_blurs yX11_blurs ∈ wl := tm_4 (List.mem_of_getElem? (i := 113) rfl) rfl
set_option maxRecDepth 20000 in
theorem w_1448 : Cond.code yX12_blurs cX12_blurs 4 (some .int) ∈ wl := tm_8 (List.mem_of_getElem? (i := 43) rfl) rfl
set_option maxRecDepth 20000 in
theorem w_1449 : Cond.methodLink RL 109 yX12_blurs ∈ wl := tm_8 (List.mem_of_getElem? (i := 40) rfl) rfl
set_option maxRecDepth 20000 in
theorem w_1450 : Cond.instanceMethod yX12_blurs ∈ wl := tm_8 (List.mem_of_getElem? (i := 41) rfl) rfl
set_option maxRecDepth 20000 in
theorem w_1451 : Cond.selects RX12 yX12_blurs yX12_blurs ∈ wl := tm_8 (List.mem_of_getElem? (i := 42) rfl) rfl
set_option maxRecDepth 20000 in
theorem w_1452 : Cond.code yX11_stray cX11_stray 2 (some .int) ∈ wl := tm_4 (List.mem_of_getElem? (i := 125) rfl) rfl
set_option maxRecDepth 20000 in
theorem w_1453 : Cond.methodLink RL 110 yX11_stray ∈ wl := tm_4 (List.mem_of_getElem? (i := 122) rfl) rfl
set_option maxRecDepth 20000 in
theorem w_1454 : Cond.instanceMethod yX11_stray ∈ wl := tm_4 (List.mem_of_getElem? (i := 123) rfl) rfl
set_option maxRecDepth 20000 in
theorem w_1455 : Cond.selects RX11 yX11_stray yX11_stray ∈ wl := tm_4 (List.mem_of_getElem? (i := 124) rfl) rfl
set_option maxRecDepth 20000 in
theorem w_1456 : Cond.code yX12_stray cX12_stray 2 (some .int) ∈ wl := tm_8 (List.mem_of_getElem? (i := 51) rfl) rfl
set_option maxRecDepth 20000 in
theorem w_1457 : Cond.methodLink RL 113 yX12_stray ∈ wl := tm_8 (List.mem_of_getElem? (i := 48) rfl) rfl
set_option maxRecDepth 20000 in
theorem w_1458 : Cond.instanceMethod yX12_stray ∈ wl := tm_8 (List.mem_of_getElem? (i := 49) rfl) rfl
set_option maxRecDepth 20000 in
theorem w_1459 : Cond.selects RX12 yX12_stray yX12_stray ∈ wl := tm_8 (List.mem_of_getElem? (i := 50) rfl) rfl
set_option maxRecDepth 20000 in
theorem w_1460 : Cond.code yX11_strays cX11_strays 3 (some .int) ∈ wl := tm_4 (List.mem_of_getElem? (i := 129) rfl) rfl
set_option maxRecDepth 20000 in
theorem w_1461 : Cond.methodLink RL 114 yX11_strays ∈ wl := tm_4 (List.mem_of_getElem? (i := 126) rfl) rfl
set_option maxRecDepth 20000 in
theorem w_1462 : Cond.instanceMethod yX11_strays ∈ wl := tm_4 (List.mem_of_getElem? (i := 127) rfl) rfl
set_option maxRecDepth 20000 in
theorem w_1463 : Cond.selects RX11 yX11_strays yX11_strays ∈ wl := tm_4 (List.mem_of_getElem? (i := 128) rfl) rfl
set_option maxRecDepth 20000 in
theorem w_1464 : Cond.code yX12_strays cX12_strays 3 (some .int) ∈ wl := tm_8 (List.mem_of_getElem? (i := 55) rfl) rfl
set_option maxRecDepth 20000 in
theorem w_1465 : Cond.methodLink RL 117 yX12_strays ∈ wl := tm_8 (List.mem_of_getElem? (i := 52) rfl) rfl
set_option maxRecDepth 20000 in
theorem w_1466 : Cond.instanceMethod yX12_strays ∈ wl := tm_8 (List.mem_of_getElem? (i := 53) rfl) rfl
set_option maxRecDepth 20000 in
theorem w_1467 : Cond.selects RX12 yX12_strays yX12_strays ∈ wl := tm_8 (List.mem_of_getElem? (i := 54) rfl) rfl
set_option maxRecDepth 20000 in
theorem w_1468 : Cond.code yX11_home cX11_home 2 (some .int) ∈ wl := tm_4 (List.mem_of_getElem? (i := 133) rfl) rfl
set_option maxRecDepth 20000 in
theorem w_1469 : Cond.methodLink RL 118 yX11_home ∈ wl := tm_4 (List.mem_of_getElem? (i := 130) rfl) rfl
set_option maxRecDepth 20000 in
theorem w_1470 : Cond.instanceMethod yX11_home ∈ wl := tm_4 (List.mem_of_getElem? (i := 131) rfl) rfl
set_option maxRecDepth 20000 in
theorem w_1471 : Cond.selects RX11 yX11_home yX11_home ∈ wl := tm_4 (List.mem_of_getElem? (i := 132) rfl) rfl
set_option maxRecDepth 20000 in
theorem w_1472 : Cond.code yX12_home cX12_home 2 (some .int) ∈ wl := tm_8 (List.mem_of_getElem? (i := 59) rfl) rfl
set_option maxRecDepth 20000 in
theorem w_1473 : Cond.methodLink RL 121 yX12_home ∈ wl := tm_8 (List.mem_of_getElem? (i := 56) rfl) rfl
set_option maxRecDepth 20000 in
theorem w_1474 : Cond.instanceMethod yX12_home ∈ wl := tm_8 (List.mem_of_getElem? (i := 57) rfl) rfl
set_option maxRecDepth 20000 in
theorem w_1475 : Cond.selects RX12 yX12_home yX12_home ∈ wl := tm_8 (List.mem_of_getElem? (i := 58) rfl) rfl
set_option maxRecDepth 20000 in
theorem w_1476 : Cond.code yX11_homes cX11_homes 3 (some .int) ∈ wl := tm_4 (List.mem_of_getElem? (i := 137) rfl) rfl
set_option maxRecDepth 20000 in
theorem w_1477 : Cond.methodLink RL 122 yX11_homes ∈ wl := tm_4 (List.mem_of_getElem? (i := 134) rfl) rfl
set_option maxRecDepth 20000 in
theorem w_1478 : Cond.instanceMethod yX11_homes ∈ wl := tm_4 (List.mem_of_getElem? (i := 135) rfl) rfl
set_option maxRecDepth 20000 in
theorem w_1479 : Cond.selects RX11 yX11_homes yX11_homes ∈ wl := tm_4 (List.mem_of_getElem? (i := 136) rfl) rfl
set_option maxRecDepth 20000 in
theorem w_1480 : Cond.code yX12_homes cX12_homes 3 (some .int) ∈ wl := tm_8 (List.mem_of_getElem? (i := 63) rfl) rfl
set_option maxRecDepth 20000 in
theorem w_1481 : Cond.methodLink RL 125 yX12_homes ∈ wl := tm_8 (List.mem_of_getElem? (i := 60) rfl) rfl
set_option maxRecDepth 20000 in
theorem w_1482 : Cond.instanceMethod yX12_homes ∈ wl := tm_8 (List.mem_of_getElem? (i := 61) rfl) rfl
set_option maxRecDepth 20000 in
theorem w_1483 : Cond.selects RX12 yX12_homes yX12_homes ∈ wl := tm_8 (List.mem_of_getElem? (i := 62) rfl) rfl
set_option maxRecDepth 20000 in
theorem w_1484 : Cond.code yX11_states cX11_states 2 (some .int) ∈ wl := tm_4 (List.mem_of_getElem? (i := 141) rfl) rfl
set_option maxRecDepth 20000 in
theorem w_1485 : Cond.methodLink RL 126 yX11_states ∈ wl := tm_4 (List.mem_of_getElem? (i := 138) rfl) rfl
set_option maxRecDepth 20000 in
theorem w_1486 : Cond.instanceMethod yX11_states ∈ wl := tm_4 (List.mem_of_getElem? (i := 139) rfl) rfl
set_option maxRecDepth 20000 in
theorem w_1487 : Cond.selects RX11 yX11_states yX11_states ∈ wl := tm_4 (List.mem_of_getElem? (i := 140) rfl) rfl
set_option maxRecDepth 20000 in
theorem w_1488 : Cond.code yX12_states cX12_states 2 (some .int) ∈ wl := tm_8 (List.mem_of_getElem? (i := 67) rfl) rfl
set_option maxRecDepth 20000 in
theorem w_1489 : Cond.methodLink RL 129 yX12_states ∈ wl := tm_8 (List.mem_of_getElem? (i := 64) rfl) rfl
set_option maxRecDepth 20000 in
theorem w_1490 : Cond.instanceMethod yX12_states ∈ wl := tm_8 (List.mem_of_getElem? (i := 65) rfl) rfl
set_option maxRecDepth 20000 in
theorem w_1491 : Cond.selects RX12 yX12_states yX12_states ∈ wl := tm_8 (List.mem_of_getElem? (i := 66) rfl) rfl
set_option maxRecDepth 20000 in
theorem w_1492 : Cond.code yX11_plan cX11_plan 2 (some .int) ∈ wl := tm_4 (List.mem_of_getElem? (i := 145) rfl) rfl
set_option maxRecDepth 20000 in
theorem w_1493 : Cond.methodLink RL 130 yX11_plan ∈ wl := tm_4 (List.mem_of_getElem? (i := 142) rfl) rfl
set_option maxRecDepth 20000 in
theorem w_1494 : Cond.instanceMethod yX11_plan ∈ wl := tm_4 (List.mem_of_getElem? (i := 143) rfl) rfl
set_option maxRecDepth 20000 in
theorem w_1495 : Cond.selects RX11 yX11_plan yX11_plan ∈ wl := tm_4 (List.mem_of_getElem? (i := 144) rfl) rfl
set_option maxRecDepth 20000 in
theorem w_1496 : Cond.code yX12_plan cX12_plan 3 (some .int) ∈ wl := tm_8 (List.mem_of_getElem? (i := 71) rfl) rfl
set_option maxRecDepth 20000 in
theorem w_1497 : Cond.methodLink RL 133 yX12_plan ∈ wl := tm_8 (List.mem_of_getElem? (i := 68) rfl) rfl
set_option maxRecDepth 20000 in
theorem w_1498 : Cond.instanceMethod yX12_plan ∈ wl := tm_8 (List.mem_of_getElem? (i := 69) rfl) rfl
set_option maxRecDepth 20000 in
theorem w_1499 : Cond.selects RX12 yX12_plan yX12_plan ∈ wl := tm_8 (List.mem_of_getElem? (i := 70) rfl) rfl
set_option maxRecDepth 20000 in
theorem w_1500 : Cond.code yX11_first cX11_first 2 (some .int) ∈ wl := tm_4 (List.mem_of_getElem? (i := 184) rfl) rfl
set_option maxRecDepth 20000 in
theorem w_1501 : Cond.methodLink RL 134 yX11_first ∈ wl := tm_4 (List.mem_of_getElem? (i := 181) rfl) rfl
set_option maxRecDepth 20000 in
theorem w_1502 : Cond.instanceMethod yX11_first ∈ wl := tm_4 (List.mem_of_getElem? (i := 182) rfl) rfl
set_option maxRecDepth 20000 in
theorem w_1503 : Cond.selects RX11 yX11_first yX11_first ∈ wl := tm_4 (List.mem_of_getElem? (i := 183) rfl) rfl
set_option maxRecDepth 20000 in
theorem w_1504 : Cond.code yX12_first cX12_first 3 (some .int) ∈ wl := tm_8 (List.mem_of_getElem? (i := 84) rfl) rfl
set_option maxRecDepth 20000 in
theorem w_1505 : Cond.methodLink RL 137 yX12_first ∈ wl := tm_8 (List.mem_of_getElem? (i := 81) rfl) rfl
set_option maxRecDepth 20000 in
theorem w_1506 : Cond.instanceMethod yX12_first ∈ wl := tm_8 (List.mem_of_getElem? (i := 82) rfl) rfl
set_option maxRecDepth 20000 in
theorem w_1507 : Cond.selects RX12 yX12_first yX12_first ∈ wl := tm_8 (List.mem_of_getElem? (i := 83) rfl) rfl
set_option maxRecDepth 20000 in
theorem w_1508 : Cond.code yX11_hardest cX11_hardest 4 (some .int) ∈ wl := tm_4 (List.mem_of_getElem? (i := 192) rfl) rfl
set_option maxRecDepth 20000 in
theorem w_1509 : Cond.methodLink RL 138 yX11_hardest ∈ wl := tm_4 (List.mem_of_getElem? (i := 189) rfl) rfl
set_option maxRecDepth 20000 in
theorem w_1510 : Cond.instanceMethod yX11_hardest ∈ wl := tm_4 (List.mem_of_getElem? (i := 190) rfl) rfl
set_option maxRecDepth 20000 in
theorem w_1511 : Cond.selects RX11 yX11_hardest yX11_hardest ∈ wl := tm_4 (List.mem_of_getElem? (i := 191) rfl) rfl
set_option maxRecDepth 20000 in
theorem w_1512 : Cond.code yX12_hardest cX12_hardest 5 (some .int) ∈ wl := tm_8 (List.mem_of_getElem? (i := 92) rfl) rfl
set_option maxRecDepth 20000 in
theorem w_1513 : Cond.methodLink RL 141 yX12_hardest ∈ wl := tm_8 (List.mem_of_getElem? (i := 89) rfl) rfl
set_option maxRecDepth 20000 in
theorem w_1514 : Cond.instanceMethod yX12_hardest ∈ wl := tm_8 (List.mem_of_getElem? (i := 90) rfl) rfl
set_option maxRecDepth 20000 in
theorem w_1515 : Cond.selects RX12 yX12_hardest yX12_hardest ∈ wl := tm_8 (List.mem_of_getElem? (i := 91) rfl) rfl
set_option maxRecDepth 20000 in
theorem w_1516 : Cond.code yX11_alike cX11_alike 3 (some .int) ∈ wl := tm_4 (List.mem_of_getElem? (i := 196) rfl) rfl
set_option maxRecDepth 20000 in
theorem w_1517 : Cond.methodLink RL 142 yX11_alike ∈ wl := tm_4 (List.mem_of_getElem? (i := 193) rfl) rfl
set_option maxRecDepth 20000 in
theorem w_1518 : Cond.instanceMethod yX11_alike ∈ wl := tm_4 (List.mem_of_getElem? (i := 194) rfl) rfl
set_option maxRecDepth 20000 in
theorem w_1519 : Cond.selects RX11 yX11_alike yX11_alike ∈ wl := tm_4 (List.mem_of_getElem? (i := 195) rfl) rfl
set_option maxRecDepth 20000 in
theorem w_1520 : Cond.code yX12_alike cX12_alike 3 (some .int) ∈ wl := tm_8 (List.mem_of_getElem? (i := 96) rfl) rfl
set_option maxRecDepth 20000 in
theorem w_1521 : Cond.methodLink RL 145 yX12_alike ∈ wl := tm_8 (List.mem_of_getElem? (i := 93) rfl) rfl
set_option maxRecDepth 20000 in
theorem w_1522 : Cond.instanceMethod yX12_alike ∈ wl := tm_8 (List.mem_of_getElem? (i := 94) rfl) rfl
set_option maxRecDepth 20000 in
theorem w_1523 : Cond.selects RX12 yX12_alike yX12_alike ∈ wl := tm_8 (List.mem_of_getElem? (i := 95) rfl) rfl
set_option maxRecDepth 20000 in
theorem w_1524 : Cond.code yX11_kinds cX11_kinds 5 (some .int) ∈ wl := tm_4 (List.mem_of_getElem? (i := 215) rfl) rfl
set_option maxRecDepth 20000 in
theorem w_1525 : Cond.methodLink RL 146 yX11_kinds ∈ wl := tm_4 (List.mem_of_getElem? (i := 212) rfl) rfl
set_option maxRecDepth 20000 in
theorem w_1526 : Cond.instanceMethod yX11_kinds ∈ wl := tm_4 (List.mem_of_getElem? (i := 213) rfl) rfl
set_option maxRecDepth 20000 in
theorem w_1527 : Cond.selects RX11 yX11_kinds yX11_kinds ∈ wl := tm_4 (List.mem_of_getElem? (i := 214) rfl) rfl
set_option maxRecDepth 20000 in
theorem w_1528 : Cond.code yX12_kinds cX12_kinds 1 (some .int) ∈ wl := tm_8 (List.mem_of_getElem? (i := 112) rfl) rfl
set_option maxRecDepth 20000 in
theorem w_1529 : Cond.methodLink RL 149 yX12_kinds ∈ wl := tm_8 (List.mem_of_getElem? (i := 109) rfl) rfl
set_option maxRecDepth 20000 in
theorem w_1530 : Cond.instanceMethod yX12_kinds ∈ wl := tm_8 (List.mem_of_getElem? (i := 110) rfl) rfl
set_option maxRecDepth 20000 in
theorem w_1531 : Cond.selects RX12 yX12_kinds yX12_kinds ∈ wl := tm_8 (List.mem_of_getElem? (i := 111) rfl) rfl
set_option maxRecDepth 20000 in
theorem w_1532 : Cond.code yX11_tells cX11_tells 3 (some .int) ∈ wl := tm_4 (List.mem_of_getElem? (i := 219) rfl) rfl
set_option maxRecDepth 20000 in
theorem w_1533 : Cond.methodLink RL 150 yX11_tells ∈ wl := tm_4 (List.mem_of_getElem? (i := 216) rfl) rfl
set_option maxRecDepth 20000 in
theorem w_1534 : Cond.instanceMethod yX11_tells ∈ wl := tm_4 (List.mem_of_getElem? (i := 217) rfl) rfl
set_option maxRecDepth 20000 in
theorem w_1535 : Cond.selects RX11 yX11_tells yX11_tells ∈ wl := tm_4 (List.mem_of_getElem? (i := 218) rfl) rfl
set_option maxRecDepth 20000 in
theorem w_1536 : Cond.code yX12_tells cX12_tells 4 (some .int) ∈ wl := tm_8 (List.mem_of_getElem? (i := 116) rfl) rfl
set_option maxRecDepth 20000 in
theorem w_1537 : Cond.methodLink RL 153 yX12_tells ∈ wl := tm_8 (List.mem_of_getElem? (i := 113) rfl) rfl
set_option maxRecDepth 20000 in
theorem w_1538 : Cond.instanceMethod yX12_tells ∈ wl := tm_8 (List.mem_of_getElem? (i := 114) rfl) rfl
set_option maxRecDepth 20000 in
theorem w_1539 : Cond.selects RX12 yX12_tells yX12_tells ∈ wl := tm_8 (List.mem_of_getElem? (i := 115) rfl) rfl
set_option maxRecDepth 20000 in
theorem w_1540 : Cond.code yX11_told cX11_told 4 (some .int) ∈ wl := tm_4 (List.mem_of_getElem? (i := 226) rfl) rfl
set_option maxRecDepth 20000 in
theorem w_1541 : Cond.methodLink RL 154 yX11_told ∈ wl := tm_4 (List.mem_of_getElem? (i := 223) rfl) rfl
set_option maxRecDepth 20000 in
theorem w_1542 : Cond.instanceMethod yX11_told ∈ wl := tm_4 (List.mem_of_getElem? (i := 224) rfl) rfl
set_option maxRecDepth 20000 in
theorem w_1543 : Cond.selects RX11 yX11_told yX11_told ∈ wl := tm_4 (List.mem_of_getElem? (i := 225) rfl) rfl
set_option maxRecDepth 20000 in
theorem w_1544 : Cond.code yX12_told_ cX12_told_ 5 (some .int) ∈ wl := tm_8 (List.mem_of_getElem? (i := 124) rfl) rfl
set_option maxRecDepth 20000 in
theorem w_1545 : Cond.methodLink RL 157 yX12_told_ ∈ wl := tm_8 (List.mem_of_getElem? (i := 121) rfl) rfl
set_option maxRecDepth 20000 in
theorem w_1546 : Cond.instanceMethod yX12_told_ ∈ wl := tm_8 (List.mem_of_getElem? (i := 122) rfl) rfl
set_option maxRecDepth 20000 in
theorem w_1547 : Cond.selects RX12 yX12_told_ yX12_told_ ∈ wl := tm_8 (List.mem_of_getElem? (i := 123) rfl) rfl
set_option maxRecDepth 20000 in
theorem w_1548 : Cond.code yX11_bares cX11_bares 3 (some .int) ∈ wl := tm_4 (List.mem_of_getElem? (i := 233) rfl) rfl
set_option maxRecDepth 20000 in
theorem w_1549 : Cond.methodLink RL 158 yX11_bares ∈ wl := tm_4 (List.mem_of_getElem? (i := 230) rfl) rfl
set_option maxRecDepth 20000 in
theorem w_1550 : Cond.instanceMethod yX11_bares ∈ wl := tm_4 (List.mem_of_getElem? (i := 231) rfl) rfl
set_option maxRecDepth 20000 in
theorem w_1551 : Cond.selects RX11 yX11_bares yX11_bares ∈ wl := tm_4 (List.mem_of_getElem? (i := 232) rfl) rfl
set_option maxRecDepth 20000 in
theorem w_1552 : Cond.code yX12_bares cX12_bares 3 (some .int) ∈ wl := tm_8 (List.mem_of_getElem? (i := 128) rfl) rfl
set_option maxRecDepth 20000 in
theorem w_1553 : Cond.methodLink RL 161 yX12_bares ∈ wl := tm_8 (List.mem_of_getElem? (i := 125) rfl) rfl
set_option maxRecDepth 20000 in
theorem w_1554 : Cond.instanceMethod yX12_bares ∈ wl := tm_8 (List.mem_of_getElem? (i := 126) rfl) rfl
set_option maxRecDepth 20000 in
theorem w_1555 : Cond.selects RX12 yX12_bares yX12_bares ∈ wl := tm_8 (List.mem_of_getElem? (i := 127) rfl) rfl
set_option maxRecDepth 20000 in
theorem w_1556 : Cond.code yX11_bared cX11_bared 3 (some .int) ∈ wl := tm_5 (List.mem_of_getElem? (i := 11) rfl) rfl
set_option maxRecDepth 20000 in
theorem w_1557 : Cond.methodLink RL 162 yX11_bared ∈ wl := tm_5 (List.mem_of_getElem? (i := 8) rfl) rfl
set_option maxRecDepth 20000 in
theorem w_1558 : Cond.instanceMethod yX11_bared ∈ wl := tm_5 (List.mem_of_getElem? (i := 9) rfl) rfl
set_option maxRecDepth 20000 in
theorem w_1559 : Cond.selects RX11 yX11_bared yX11_bared ∈ wl := tm_5 (List.mem_of_getElem? (i := 10) rfl) rfl
set_option maxRecDepth 20000 in
theorem w_1560 : Cond.code yX12_bared cX12_bared 3 (some .int) ∈ wl := tm_8 (List.mem_of_getElem? (i := 136) rfl) rfl
set_option maxRecDepth 20000 in
theorem w_1561 : Cond.methodLink RL 165 yX12_bared ∈ wl := tm_8 (List.mem_of_getElem? (i := 133) rfl) rfl
set_option maxRecDepth 20000 in
theorem w_1562 : Cond.instanceMethod yX12_bared ∈ wl := tm_8 (List.mem_of_getElem? (i := 134) rfl) rfl
set_option maxRecDepth 20000 in
theorem w_1563 : Cond.selects RX12 yX12_bared yX12_bared ∈ wl := tm_8 (List.mem_of_getElem? (i := 135) rfl) rfl
set_option maxRecDepth 20000 in
theorem w_1564 : Cond.code yX11_gather cX11_gather 2 (some .int) ∈ wl := tm_5 (List.mem_of_getElem? (i := 15) rfl) rfl
set_option maxRecDepth 20000 in
theorem w_1565 : Cond.methodLink RL 166 yX11_gather ∈ wl := tm_5 (List.mem_of_getElem? (i := 12) rfl) rfl
set_option maxRecDepth 20000 in
theorem w_1566 : Cond.instanceMethod yX11_gather ∈ wl := tm_5 (List.mem_of_getElem? (i := 13) rfl) rfl
set_option maxRecDepth 20000 in
theorem w_1567 : Cond.selects RX11 yX11_gather yX11_gather ∈ wl := tm_5 (List.mem_of_getElem? (i := 14) rfl) rfl
set_option maxRecDepth 20000 in
theorem w_1568 : Cond.code yX12_gather cX12_gather 3 (some .int) ∈ wl := tm_8 (List.mem_of_getElem? (i := 140) rfl) rfl
set_option maxRecDepth 20000 in
theorem w_1569 : Cond.methodLink RL 169 yX12_gather ∈ wl := tm_8 (List.mem_of_getElem? (i := 137) rfl) rfl
set_option maxRecDepth 20000 in
theorem w_1570 : Cond.instanceMethod yX12_gather ∈ wl := tm_8 (List.mem_of_getElem? (i := 138) rfl) rfl
set_option maxRecDepth 20000 in
theorem w_1571 : Cond.selects RX12 yX12_gather yX12_gather ∈ wl := tm_8 (List.mem_of_getElem? (i := 139) rfl) rfl
set_option maxRecDepth 20000 in
theorem w_1572 : Cond.code yX11_gathers cX11_gathers 3 (some .int) ∈ wl := tm_5 (List.mem_of_getElem? (i := 19) rfl) rfl
set_option maxRecDepth 20000 in
theorem w_1573 : Cond.methodLink RL 170 yX11_gathers ∈ wl := tm_5 (List.mem_of_getElem? (i := 16) rfl) rfl
set_option maxRecDepth 20000 in
theorem w_1574 : Cond.instanceMethod yX11_gathers ∈ wl := tm_5 (List.mem_of_getElem? (i := 17) rfl) rfl
set_option maxRecDepth 20000 in
theorem w_1575 : Cond.selects RX11 yX11_gathers yX11_gathers ∈ wl := tm_5 (List.mem_of_getElem? (i := 18) rfl) rfl
set_option maxRecDepth 20000 in
theorem w_1576 : Cond.code yX12_gathers cX12_gathers 4 (some .int) ∈ wl := tm_8 (List.mem_of_getElem? (i := 148) rfl) rfl
set_option maxRecDepth 20000 in
theorem w_1577 : Cond.methodLink RL 173 yX12_gathers ∈ wl := tm_8 (List.mem_of_getElem? (i := 145) rfl) rfl
set_option maxRecDepth 20000 in
theorem w_1578 : Cond.instanceMethod yX12_gathers ∈ wl := tm_8 (List.mem_of_getElem? (i := 146) rfl) rfl
set_option maxRecDepth 20000 in
theorem w_1579 : Cond.selects RX12 yX12_gathers yX12_gathers ∈ wl := tm_8 (List.mem_of_getElem? (i := 147) rfl) rfl
set_option maxRecDepth 20000 in
theorem w_1580 : Cond.code yX11_roundabout cX11_roundabout 2 (some .int) ∈ wl := tm_5 (List.mem_of_getElem? (i := 23) rfl) rfl
set_option maxRecDepth 20000 in
theorem w_1581 : Cond.methodLink RL 174 yX11_roundabout ∈ wl := tm_5 (List.mem_of_getElem? (i := 20) rfl) rfl
set_option maxRecDepth 20000 in
theorem w_1582 : Cond.instanceMethod yX11_roundabout ∈ wl := tm_5 (List.mem_of_getElem? (i := 21) rfl) rfl
set_option maxRecDepth 20000 in
theorem w_1583 : Cond.selects RX11 yX11_roundabout yX11_roundabout ∈ wl := tm_5 (List.mem_of_getElem? (i := 22) rfl) rfl
set_option maxRecDepth 20000 in
theorem w_1584 : Cond.code yX12_roundabout cX12_roundabout 4 (some .int) ∈ wl := tm_8 (List.mem_of_getElem? (i := 152) rfl) rfl
set_option maxRecDepth 20000 in
theorem w_1585 : Cond.methodLink RL 177 yX12_roundabout ∈ wl := tm_8 (List.mem_of_getElem? (i := 149) rfl) rfl
set_option maxRecDepth 20000 in
theorem w_1586 : Cond.instanceMethod yX12_roundabout ∈ wl := tm_8 (List.mem_of_getElem? (i := 150) rfl) rfl
set_option maxRecDepth 20000 in
theorem w_1587 : Cond.selects RX12 yX12_roundabout yX12_roundabout ∈ wl := tm_8 (List.mem_of_getElem? (i := 151) rfl) rfl
set_option maxRecDepth 20000 in
theorem w_1588 : Cond.code yX11_meet cX11_meet 3 (some .int) ∈ wl := tm_5 (List.mem_of_getElem? (i := 39) rfl) rfl
set_option maxRecDepth 20000 in
theorem w_1589 : Cond.methodLink RL 178 yX11_meet ∈ wl := tm_5 (List.mem_of_getElem? (i := 36) rfl) rfl
set_option maxRecDepth 20000 in
theorem w_1590 : Cond.instanceMethod yX11_meet ∈ wl := tm_5 (List.mem_of_getElem? (i := 37) rfl) rfl
set_option maxRecDepth 20000 in
theorem w_1591 : Cond.selects RX11 yX11_meet yX11_meet ∈ wl := tm_5 (List.mem_of_getElem? (i := 38) rfl) rfl
set_option maxRecDepth 20000 in
theorem w_1592 : Cond.code yX12_meet cX12_meet 3 (some .int) ∈ wl := tm_8 (List.mem_of_getElem? (i := 156) rfl) rfl
set_option maxRecDepth 20000 in
theorem w_1593 : Cond.methodLink RL 181 yX12_meet ∈ wl := tm_8 (List.mem_of_getElem? (i := 153) rfl) rfl
set_option maxRecDepth 20000 in
theorem w_1594 : Cond.instanceMethod yX12_meet ∈ wl := tm_8 (List.mem_of_getElem? (i := 154) rfl) rfl
set_option maxRecDepth 20000 in
theorem w_1595 : Cond.selects RX12 yX12_meet yX12_meet ∈ wl := tm_8 (List.mem_of_getElem? (i := 155) rfl) rfl
set_option maxRecDepth 20000 in
theorem w_1596 : Cond.code yX11_met cX11_met 4 (some .int) ∈ wl := tm_5 (List.mem_of_getElem? (i := 52) rfl) rfl
set_option maxRecDepth 20000 in
theorem w_1597 : Cond.methodLink RL 182 yX11_met ∈ wl := tm_5 (List.mem_of_getElem? (i := 49) rfl) rfl
set_option maxRecDepth 20000 in
theorem w_1598 : Cond.instanceMethod yX11_met ∈ wl := tm_5 (List.mem_of_getElem? (i := 50) rfl) rfl
set_option maxRecDepth 20000 in
theorem w_1599 : Cond.selects RX11 yX11_met yX11_met ∈ wl := tm_5 (List.mem_of_getElem? (i := 51) rfl) rfl
set_option maxRecDepth 20000 in
theorem w_1600 : Cond.code yX12_met cX12_met 4 (some .int) ∈ wl := tm_8 (List.mem_of_getElem? (i := 168) rfl) rfl
set_option maxRecDepth 20000 in
theorem w_1601 : Cond.methodLink RL 185 yX12_met ∈ wl := tm_8 (List.mem_of_getElem? (i := 165) rfl) rfl
set_option maxRecDepth 20000 in
theorem w_1602 : Cond.instanceMethod yX12_met ∈ wl := tm_8 (List.mem_of_getElem? (i := 166) rfl) rfl
set_option maxRecDepth 20000 in
theorem w_1603 : Cond.selects RX12 yX12_met yX12_met ∈ wl := tm_8 (List.mem_of_getElem? (i := 167) rfl) rfl
set_option maxRecDepth 20000 in
theorem w_1604 : Cond.code yX11_read cX11_read 3 (some .int) ∈ wl := tm_5 (List.mem_of_getElem? (i := 61) rfl) rfl
set_option maxRecDepth 20000 in
theorem w_1605 : Cond.methodLink RL 186 yX11_read ∈ wl := tm_5 (List.mem_of_getElem? (i := 58) rfl) rfl
set_option maxRecDepth 20000 in
theorem w_1606 : Cond.instanceMethod yX11_read ∈ wl := tm_5 (List.mem_of_getElem? (i := 59) rfl) rfl
set_option maxRecDepth 20000 in
theorem w_1607 : Cond.selects RX11 yX11_read yX11_read ∈ wl := tm_5 (List.mem_of_getElem? (i := 60) rfl) rfl
set_option maxRecDepth 20000 in
theorem w_1608 : Cond.code yX12_read cX12_read 3 (some .int) ∈ wl := tm_8 (List.mem_of_getElem? (i := 172) rfl) rfl
set_option maxRecDepth 20000 in
theorem w_1609 : Cond.methodLink RL 189 yX12_read ∈ wl := tm_8 (List.mem_of_getElem? (i := 169) rfl) rfl
set_option maxRecDepth 20000 in
theorem w_1610 : Cond.instanceMethod yX12_read ∈ wl := tm_8 (List.mem_of_getElem? (i := 170) rfl) rfl
set_option maxRecDepth 20000 in
theorem w_1611 : Cond.selects RX12 yX12_read yX12_read ∈ wl := tm_8 (List.mem_of_getElem? (i := 171) rfl) rfl
set_option maxRecDepth 20000 in
theorem w_1612 : Cond.code yX11_began cX11_began 5 (some .int) ∈ wl := tm_5 (List.mem_of_getElem? (i := 74) rfl) rfl
set_option maxRecDepth 20000 in
theorem w_1613 : Cond.methodLink RL 190 yX11_began ∈ wl := tm_5 (List.mem_of_getElem? (i := 71) rfl) rfl
set_option maxRecDepth 20000 in
theorem w_1614 : Cond.instanceMethod yX11_began ∈ wl := tm_5 (List.mem_of_getElem? (i := 72) rfl) rfl
set_option maxRecDepth 20000 in
theorem w_1615 : Cond.selects RX11 yX11_began yX11_began ∈ wl := tm_5 (List.mem_of_getElem? (i := 73) rfl) rfl
set_option maxRecDepth 20000 in
theorem w_1616 : Cond.code yX12_began cX12_began 5 (some .int) ∈ wl := tm_8 (List.mem_of_getElem? (i := 185) rfl) rfl
set_option maxRecDepth 20000 in
theorem w_1617 : Cond.methodLink RL 193 yX12_began ∈ wl := tm_8 (List.mem_of_getElem? (i := 182) rfl) rfl
set_option maxRecDepth 20000 in
theorem w_1618 : Cond.instanceMethod yX12_began ∈ wl := tm_8 (List.mem_of_getElem? (i := 183) rfl) rfl
set_option maxRecDepth 20000 in
theorem w_1619 : Cond.selects RX12 yX12_began yX12_began ∈ wl := tm_8 (List.mem_of_getElem? (i := 184) rfl) rfl
set_option maxRecDepth 20000 in
theorem w_1620 : Cond.code yX11_ask cX11_ask 3 (some .int) ∈ wl := tm_5 (List.mem_of_getElem? (i := 78) rfl) rfl
set_option maxRecDepth 20000 in
theorem w_1621 : Cond.methodLink RL 194 yX11_ask ∈ wl := tm_5 (List.mem_of_getElem? (i := 75) rfl) rfl
set_option maxRecDepth 20000 in
theorem w_1622 : Cond.instanceMethod yX11_ask ∈ wl := tm_5 (List.mem_of_getElem? (i := 76) rfl) rfl
set_option maxRecDepth 20000 in
theorem w_1623 : Cond.selects RX11 yX11_ask yX11_ask ∈ wl := tm_5 (List.mem_of_getElem? (i := 77) rfl) rfl
set_option maxRecDepth 20000 in
theorem w_1624 : Cond.code yX12_ask cX12_ask 3 (some .int) ∈ wl := tm_8 (List.mem_of_getElem? (i := 189) rfl) rfl
set_option maxRecDepth 20000 in
theorem w_1625 : Cond.methodLink RL 197 yX12_ask ∈ wl := tm_8 (List.mem_of_getElem? (i := 186) rfl) rfl
set_option maxRecDepth 20000 in
theorem w_1626 : Cond.instanceMethod yX12_ask ∈ wl := tm_8 (List.mem_of_getElem? (i := 187) rfl) rfl
set_option maxRecDepth 20000 in
theorem w_1627 : Cond.selects RX12 yX12_ask yX12_ask ∈ wl := tm_8 (List.mem_of_getElem? (i := 188) rfl) rfl
set_option maxRecDepth 20000 in
theorem w_1628 : Cond.code yX11_leaves cX11_leaves 4 (some .int) ∈ wl := tm_5 (List.mem_of_getElem? (i := 90) rfl) rfl
set_option maxRecDepth 20000 in
theorem w_1629 : Cond.methodLink RL 198 yX11_leaves ∈ wl := tm_5 (List.mem_of_getElem? (i := 87) rfl) rfl
set_option maxRecDepth 20000 in
theorem w_1630 : Cond.instanceMethod yX11_leaves ∈ wl := tm_5 (List.mem_of_getElem? (i := 88) rfl) rfl
set_option maxRecDepth 20000 in
theorem w_1631 : Cond.selects RX11 yX11_leaves yX11_leaves ∈ wl := tm_5 (List.mem_of_getElem? (i := 89) rfl) rfl
set_option maxRecDepth 20000 in
theorem w_1632 : Cond.code yX12_leaves cX12_leaves 4 (some .int) ∈ wl := tm_8 (List.mem_of_getElem? (i := 201) rfl) rfl
set_option maxRecDepth 20000 in
theorem w_1633 : Cond.methodLink RL 201 yX12_leaves ∈ wl := tm_8 (List.mem_of_getElem? (i := 198) rfl) rfl
set_option maxRecDepth 20000 in
theorem w_1634 : Cond.instanceMethod yX12_leaves ∈ wl := tm_8 (List.mem_of_getElem? (i := 199) rfl) rfl
set_option maxRecDepth 20000 in
theorem w_1635 : Cond.selects RX12 yX12_leaves yX12_leaves ∈ wl := tm_8 (List.mem_of_getElem? (i := 200) rfl) rfl
set_option maxRecDepth 20000 in
theorem w_1636 : Cond.code yX11_course cX11_course 4 (some .int) ∈ wl := tm_5 (List.mem_of_getElem? (i := 94) rfl) rfl
set_option maxRecDepth 20000 in
theorem w_1637 : Cond.methodLink RL 202 yX11_course ∈ wl := tm_5 (List.mem_of_getElem? (i := 91) rfl) rfl
set_option maxRecDepth 20000 in
theorem w_1638 : Cond.instanceMethod yX11_course ∈ wl := tm_5 (List.mem_of_getElem? (i := 92) rfl) rfl
set_option maxRecDepth 20000 in
theorem w_1639 : Cond.selects RX11 yX11_course yX11_course ∈ wl := tm_5 (List.mem_of_getElem? (i := 93) rfl) rfl
set_option maxRecDepth 20000 in
theorem w_1640 : Cond.code yX12_course cX12_course 4 (some .int) ∈ wl := tm_8 (List.mem_of_getElem? (i := 205) rfl) rfl
set_option maxRecDepth 20000 in
theorem w_1641 : Cond.methodLink RL 205 yX12_course ∈ wl := tm_8 (List.mem_of_getElem? (i := 202) rfl) rfl
set_option maxRecDepth 20000 in
theorem w_1642 : Cond.instanceMethod yX12_course ∈ wl := tm_8 (List.mem_of_getElem? (i := 203) rfl) rfl
set_option maxRecDepth 20000 in
theorem w_1643 : Cond.selects RX12 yX12_course yX12_course ∈ wl := tm_8 (List.mem_of_getElem? (i := 204) rfl) rfl
set_option maxRecDepth 20000 in
theorem w_1644 : Cond.code yX11_lesson cX11_lesson 5 (some .int) ∈ wl := tm_5 (List.mem_of_getElem? (i := 128) rfl) rfl
set_option maxRecDepth 20000 in
theorem w_1645 : Cond.methodLink RL 206 yX11_lesson ∈ wl := tm_5 (List.mem_of_getElem? (i := 125) rfl) rfl
set_option maxRecDepth 20000 in
theorem w_1646 : Cond.instanceMethod yX11_lesson ∈ wl := tm_5 (List.mem_of_getElem? (i := 126) rfl) rfl
set_option maxRecDepth 20000 in
theorem w_1647 : Cond.selects RX11 yX11_lesson yX11_lesson ∈ wl := tm_5 (List.mem_of_getElem? (i := 127) rfl) rfl
set_option maxRecDepth 20000 in
theorem w_1648 : Cond.code yX12_lesson cX12_lesson 5 (some .int) ∈ wl := tm_8 (List.mem_of_getElem? (i := 229) rfl) rfl
set_option maxRecDepth 20000 in
theorem w_1649 : Cond.methodLink RL 209 yX12_lesson ∈ wl := tm_8 (List.mem_of_getElem? (i := 226) rfl) rfl
set_option maxRecDepth 20000 in
theorem w_1650 : Cond.instanceMethod yX12_lesson ∈ wl := tm_8 (List.mem_of_getElem? (i := 227) rfl) rfl
set_option maxRecDepth 20000 in
theorem w_1651 : Cond.selects RX12 yX12_lesson yX12_lesson ∈ wl := tm_8 (List.mem_of_getElem? (i := 228) rfl) rfl
set_option maxRecDepth 20000 in
theorem w_1652 : Cond.code yX11_spoilt cX11_spoilt 4 (some .int) ∈ wl := tm_5 (List.mem_of_getElem? (i := 132) rfl) rfl
set_option maxRecDepth 20000 in
theorem w_1653 : Cond.methodLink RL 210 yX11_spoilt ∈ wl := tm_5 (List.mem_of_getElem? (i := 129) rfl) rfl
set_option maxRecDepth 20000 in
theorem w_1654 : Cond.instanceMethod yX11_spoilt ∈ wl := tm_5 (List.mem_of_getElem? (i := 130) rfl) rfl
set_option maxRecDepth 20000 in
theorem w_1655 : Cond.selects RX11 yX11_spoilt yX11_spoilt ∈ wl := tm_5 (List.mem_of_getElem? (i := 131) rfl) rfl
set_option maxRecDepth 20000 in
theorem w_1656 : Cond.code yX12_spoilt cX12_spoilt 4 (some .int) ∈ wl := tm_8 (List.mem_of_getElem? (i := 233) rfl) rfl
set_option maxRecDepth 20000 in
theorem w_1657 : Cond.methodLink RL 213 yX12_spoilt ∈ wl := tm_8 (List.mem_of_getElem? (i := 230) rfl) rfl
set_option maxRecDepth 20000 in
theorem w_1658 : Cond.instanceMethod yX12_spoilt ∈ wl := tm_8 (List.mem_of_getElem? (i := 231) rfl) rfl
set_option maxRecDepth 20000 in
theorem w_1659 : Cond.selects RX12 yX12_spoilt yX12_spoilt ∈ wl := tm_8 (List.mem_of_getElem? (i := 232) rfl) rfl
set_option maxRecDepth 20000 in
theorem w_1660 : Cond.code yX11_route cX11_route 3 (some .int) ∈ wl := tm_5 (List.mem_of_getElem? (i := 136) rfl) rfl
set_option maxRecDepth 20000 in
theorem w_1661 : Cond.methodLink RL 214 yX11_route ∈ wl := tm_5 (List.mem_of_getElem? (i := 133) rfl) rfl
set_option maxRecDepth 20000 in
theorem w_1662 : Cond.instanceMethod yX11_route ∈ wl := tm_5 (List.mem_of_getElem? (i := 134) rfl) rfl
set_option maxRecDepth 20000 in
theorem w_1663 : Cond.selects RX11 yX11_route yX11_route ∈ wl := tm_5 (List.mem_of_getElem? (i := 135) rfl) rfl
set_option maxRecDepth 20000 in
theorem w_1664 : Cond.code yX12_route cX12_route 3 (some .int) ∈ wl := tm_8 (List.mem_of_getElem? (i := 237) rfl) rfl
set_option maxRecDepth 20000 in
theorem w_1665 : Cond.methodLink RL 217 yX12_route ∈ wl := tm_8 (List.mem_of_getElem? (i := 234) rfl) rfl
set_option maxRecDepth 20000 in
theorem w_1666 : Cond.instanceMethod yX12_route ∈ wl := tm_8 (List.mem_of_getElem? (i := 235) rfl) rfl
set_option maxRecDepth 20000 in
theorem w_1667 : Cond.selects RX12 yX12_route yX12_route ∈ wl := tm_8 (List.mem_of_getElem? (i := 236) rfl) rfl
set_option maxRecDepth 20000 in
theorem w_1668 : Cond.code yX11_dark cX11_dark 4 (some .int) ∈ wl := tm_5 (List.mem_of_getElem? (i := 154) rfl) rfl
set_option maxRecDepth 20000 in
theorem w_1669 : Cond.methodLink RL 218 yX11_dark ∈ wl := tm_5 (List.mem_of_getElem? (i := 151) rfl) rfl
set_option maxRecDepth 20000 in
theorem w_1670 : Cond.instanceMethod yX11_dark ∈ wl := tm_5 (List.mem_of_getElem? (i := 152) rfl) rfl
set_option maxRecDepth 20000 in
theorem w_1671 : Cond.selects RX11 yX11_dark yX11_dark ∈ wl := tm_5 (List.mem_of_getElem? (i := 153) rfl) rfl
set_option maxRecDepth 20000 in
theorem w_1672 : Cond.code yX12_dark cX12_dark 3 (some .int) ∈ wl := tm_9 (List.mem_of_getElem? (i := 5) rfl) rfl
set_option maxRecDepth 20000 in
theorem w_1673 : Cond.methodLink RL 221 yX12_dark ∈ wl := tm_9 (List.mem_of_getElem? (i := 2) rfl) rfl
set_option maxRecDepth 20000 in
theorem w_1674 : Cond.instanceMethod yX12_dark ∈ wl := tm_9 (List.mem_of_getElem? (i := 3) rfl) rfl
set_option maxRecDepth 20000 in
theorem w_1675 : Cond.selects RX12 yX12_dark yX12_dark ∈ wl := tm_9 (List.mem_of_getElem? (i := 4) rfl) rfl
set_option maxRecDepth 20000 in
theorem w_1676 : Cond.code yX11_detour cX11_detour 4 (some .int) ∈ wl := tm_5 (List.mem_of_getElem? (i := 158) rfl) rfl
set_option maxRecDepth 20000 in
theorem w_1677 : Cond.methodLink RL 222 yX11_detour ∈ wl := tm_5 (List.mem_of_getElem? (i := 155) rfl) rfl
set_option maxRecDepth 20000 in
theorem w_1678 : Cond.instanceMethod yX11_detour ∈ wl := tm_5 (List.mem_of_getElem? (i := 156) rfl) rfl
set_option maxRecDepth 20000 in
theorem w_1679 : Cond.selects RX11 yX11_detour yX11_detour ∈ wl := tm_5 (List.mem_of_getElem? (i := 157) rfl) rfl
set_option maxRecDepth 20000 in
theorem w_1680 : Cond.code yX12_detour cX12_detour 3 (some .int) ∈ wl := tm_9 (List.mem_of_getElem? (i := 9) rfl) rfl
set_option maxRecDepth 20000 in
theorem w_1681 : Cond.methodLink RL 225 yX12_detour ∈ wl := tm_9 (List.mem_of_getElem? (i := 6) rfl) rfl
set_option maxRecDepth 20000 in
theorem w_1682 : Cond.instanceMethod yX12_detour ∈ wl := tm_9 (List.mem_of_getElem? (i := 7) rfl) rfl
set_option maxRecDepth 20000 in
theorem w_1683 : Cond.selects RX12 yX12_detour yX12_detour ∈ wl := tm_9 (List.mem_of_getElem? (i := 8) rfl) rfl
set_option maxRecDepth 20000 in
theorem w_1684 : Cond.code yX11_fog cX11_fog 7 (some .int) ∈ wl := tm_5 (List.mem_of_getElem? (i := 162) rfl) rfl
set_option maxRecDepth 20000 in
theorem w_1685 : Cond.methodLink RL 226 yX11_fog ∈ wl := tm_5 (List.mem_of_getElem? (i := 159) rfl) rfl
set_option maxRecDepth 20000 in
theorem w_1686 : Cond.instanceMethod yX11_fog ∈ wl := tm_5 (List.mem_of_getElem? (i := 160) rfl) rfl
set_option maxRecDepth 20000 in
theorem w_1687 : Cond.selects RX11 yX11_fog yX11_fog ∈ wl := tm_5 (List.mem_of_getElem? (i := 161) rfl) rfl
set_option maxRecDepth 20000 in
theorem w_1688 : Cond.code yX12_fog cX12_fog 6 (some .int) ∈ wl := tm_9 (List.mem_of_getElem? (i := 13) rfl) rfl
set_option maxRecDepth 20000 in
theorem w_1689 : Cond.methodLink RL 230 yX12_fog ∈ wl := tm_9 (List.mem_of_getElem? (i := 10) rfl) rfl
set_option maxRecDepth 20000 in
theorem w_1690 : Cond.instanceMethod yX12_fog ∈ wl := tm_9 (List.mem_of_getElem? (i := 11) rfl) rfl
set_option maxRecDepth 20000 in
theorem w_1691 : Cond.selects RX12 yX12_fog yX12_fog ∈ wl := tm_9 (List.mem_of_getElem? (i := 12) rfl) rfl
set_option maxRecDepth 20000 in
theorem w_1692 : Cond.code yX11_likely cX11_likely 5 (some .int) ∈ wl := tm_5 (List.mem_of_getElem? (i := 178) rfl) rfl
set_option maxRecDepth 20000 in
theorem w_1693 : Cond.methodLink RL 231 yX11_likely ∈ wl := tm_5 (List.mem_of_getElem? (i := 175) rfl) rfl
set_option maxRecDepth 20000 in
theorem w_1694 : Cond.instanceMethod yX11_likely ∈ wl := tm_5 (List.mem_of_getElem? (i := 176) rfl) rfl
set_option maxRecDepth 20000 in
theorem w_1695 : Cond.selects RX11 yX11_likely yX11_likely ∈ wl := tm_5 (List.mem_of_getElem? (i := 177) rfl) rfl
set_option maxRecDepth 20000 in
theorem w_1696 : Cond.code yX12_likely cX12_likely 5 (some .int) ∈ wl := tm_9 (List.mem_of_getElem? (i := 25) rfl) rfl
set_option maxRecDepth 20000 in
theorem w_1697 : Cond.methodLink RL 234 yX12_likely ∈ wl := tm_9 (List.mem_of_getElem? (i := 22) rfl) rfl
set_option maxRecDepth 20000 in
theorem w_1698 : Cond.instanceMethod yX12_likely ∈ wl := tm_9 (List.mem_of_getElem? (i := 23) rfl) rfl
set_option maxRecDepth 20000 in
theorem w_1699 : Cond.selects RX12 yX12_likely yX12_likely ∈ wl := tm_9 (List.mem_of_getElem? (i := 24) rfl) rfl
set_option maxRecDepth 20000 in
theorem w_1700 : Cond.code yX11_can cX11_can 3 (some .int) ∈ wl := tm_5 (List.mem_of_getElem? (i := 182) rfl) rfl
set_option maxRecDepth 20000 in
theorem w_1701 : Cond.methodLink RL 235 yX11_can ∈ wl := tm_5 (List.mem_of_getElem? (i := 179) rfl) rfl
set_option maxRecDepth 20000 in
theorem w_1702 : Cond.instanceMethod yX11_can ∈ wl := tm_5 (List.mem_of_getElem? (i := 180) rfl) rfl
set_option maxRecDepth 20000 in
theorem w_1703 : Cond.selects RX11 yX11_can yX11_can ∈ wl := tm_5 (List.mem_of_getElem? (i := 181) rfl) rfl
set_option maxRecDepth 20000 in
theorem w_1704 : Cond.code yX12_can cX12_can 5 (some .int) ∈ wl := tm_9 (List.mem_of_getElem? (i := 29) rfl) rfl
set_option maxRecDepth 20000 in
theorem w_1705 : Cond.methodLink RL 238 yX12_can ∈ wl := tm_9 (List.mem_of_getElem? (i := 26) rfl) rfl
set_option maxRecDepth 20000 in
theorem w_1706 : Cond.instanceMethod yX12_can ∈ wl := tm_9 (List.mem_of_getElem? (i := 27) rfl) rfl
set_option maxRecDepth 20000 in
theorem w_1707 : Cond.selects RX12 yX12_can yX12_can ∈ wl := tm_9 (List.mem_of_getElem? (i := 28) rfl) rfl
set_option maxRecDepth 20000 in
theorem w_1708 : Cond.code yX11_lead cX11_lead 5 (some .int) ∈ wl := tm_5 (List.mem_of_getElem? (i := 186) rfl) rfl
set_option maxRecDepth 20000 in
theorem w_1709 : Cond.methodLink RL 239 yX11_lead ∈ wl := tm_5 (List.mem_of_getElem? (i := 183) rfl) rfl
set_option maxRecDepth 20000 in
theorem w_1710 : Cond.instanceMethod yX11_lead ∈ wl := tm_5 (List.mem_of_getElem? (i := 184) rfl) rfl
set_option maxRecDepth 20000 in
theorem w_1711 : Cond.selects RX11 yX11_lead yX11_lead ∈ wl := tm_5 (List.mem_of_getElem? (i := 185) rfl) rfl
set_option maxRecDepth 20000 in
theorem w_1712 : Cond.code yX12_lead cX12_lead 5 (some .int) ∈ wl := tm_9 (List.mem_of_getElem? (i := 33) rfl) rfl
set_option maxRecDepth 20000 in
theorem w_1713 : Cond.methodLink RL 242 yX12_lead ∈ wl := tm_9 (List.mem_of_getElem? (i := 30) rfl) rfl
set_option maxRecDepth 20000 in
theorem w_1714 : Cond.instanceMethod yX12_lead ∈ wl := tm_9 (List.mem_of_getElem? (i := 31) rfl) rfl
set_option maxRecDepth 20000 in
theorem w_1715 : Cond.selects RX12 yX12_lead yX12_lead ∈ wl := tm_9 (List.mem_of_getElem? (i := 32) rfl) rfl
set_option maxRecDepth 20000 in
theorem w_1716 : Cond.code yX11_marks cX11_marks 4 (some .int) ∈ wl := tm_5 (List.mem_of_getElem? (i := 191) rfl) rfl
set_option maxRecDepth 20000 in
theorem w_1717 : Cond.methodLink RL 243 yX11_marks ∈ wl := tm_5 (List.mem_of_getElem? (i := 188) rfl) rfl
set_option maxRecDepth 20000 in
theorem w_1718 : Cond.instanceMethod yX11_marks ∈ wl := tm_5 (List.mem_of_getElem? (i := 189) rfl) rfl
set_option maxRecDepth 20000 in
theorem w_1719 : Cond.selects RX11 yX11_marks yX11_marks ∈ wl := tm_5 (List.mem_of_getElem? (i := 190) rfl) rfl
set_option maxRecDepth 20000 in
theorem w_1720 : Cond.code yX12_marks cX12_marks 4 (some .int) ∈ wl := tm_9 (List.mem_of_getElem? (i := 37) rfl) rfl
set_option maxRecDepth 20000 in
theorem w_1721 : Cond.methodLink RL 246 yX12_marks ∈ wl := tm_9 (List.mem_of_getElem? (i := 34) rfl) rfl
set_option maxRecDepth 20000 in
theorem w_1722 : Cond.instanceMethod yX12_marks ∈ wl := tm_9 (List.mem_of_getElem? (i := 35) rfl) rfl
set_option maxRecDepth 20000 in
theorem w_1723 : Cond.selects RX12 yX12_marks yX12_marks ∈ wl := tm_9 (List.mem_of_getElem? (i := 36) rfl) rfl
set_option maxRecDepth 20000 in
theorem w_1724 : Cond.code yX11_drawn cX11_drawn 6 (some .int) ∈ wl := tm_5 (List.mem_of_getElem? (i := 196) rfl) rfl
set_option maxRecDepth 20000 in
theorem w_1725 : Cond.methodLink RL 247 yX11_drawn ∈ wl := tm_5 (List.mem_of_getElem? (i := 193) rfl) rfl
set_option maxRecDepth 20000 in
theorem w_1726 : Cond.instanceMethod yX11_drawn ∈ wl := tm_5 (List.mem_of_getElem? (i := 194) rfl) rfl
set_option maxRecDepth 20000 in
theorem w_1727 : Cond.selects RX11 yX11_drawn yX11_drawn ∈ wl := tm_5 (List.mem_of_getElem? (i := 195) rfl) rfl
set_option maxRecDepth 20000 in
theorem w_1728 : Cond.code yX12_drawn cX12_drawn 5 (some .int) ∈ wl := tm_9 (List.mem_of_getElem? (i := 41) rfl) rfl
set_option maxRecDepth 20000 in
theorem w_1729 : Cond.methodLink RL 250 yX12_drawn ∈ wl := tm_9 (List.mem_of_getElem? (i := 38) rfl) rfl
set_option maxRecDepth 20000 in
theorem w_1730 : Cond.instanceMethod yX12_drawn ∈ wl := tm_9 (List.mem_of_getElem? (i := 39) rfl) rfl
set_option maxRecDepth 20000 in
theorem w_1731 : Cond.selects RX12 yX12_drawn yX12_drawn ∈ wl := tm_9 (List.mem_of_getElem? (i := 40) rfl) rfl
set_option maxRecDepth 20000 in
theorem w_1732 : Cond.code yX11_luck cX11_luck 7 (some .int) ∈ wl := tm_5 (List.mem_of_getElem? (i := 211) rfl) rfl
set_option maxRecDepth 20000 in
theorem w_1733 : Cond.methodLink RL 251 yX11_luck ∈ wl := tm_5 (List.mem_of_getElem? (i := 208) rfl) rfl
set_option maxRecDepth 20000 in
theorem w_1734 : Cond.instanceMethod yX11_luck ∈ wl := tm_5 (List.mem_of_getElem? (i := 209) rfl) rfl
set_option maxRecDepth 20000 in
theorem w_1735 : Cond.selects RX11 yX11_luck yX11_luck ∈ wl := tm_5 (List.mem_of_getElem? (i := 210) rfl) rfl
set_option maxRecDepth 20000 in
theorem w_1736 : Cond.code yX12_luck cX12_luck 7 (some .int) ∈ wl := tm_9 (List.mem_of_getElem? (i := 59) rfl) rfl
set_option maxRecDepth 20000 in
theorem w_1737 : Cond.methodLink RL 254 yX12_luck ∈ wl := tm_9 (List.mem_of_getElem? (i := 56) rfl) rfl
set_option maxRecDepth 20000 in
theorem w_1738 : Cond.instanceMethod yX12_luck ∈ wl := tm_9 (List.mem_of_getElem? (i := 57) rfl) rfl
set_option maxRecDepth 20000 in
theorem w_1739 : Cond.selects RX12 yX12_luck yX12_luck ∈ wl := tm_9 (List.mem_of_getElem? (i := 58) rfl) rfl
set_option maxRecDepth 20000 in
theorem w_1740 : Cond.code yX11_count cX11_count 2 (some .int) ∈ wl := tm_5 (List.mem_of_getElem? (i := 215) rfl) rfl
set_option maxRecDepth 20000 in
theorem w_1741 : Cond.methodLink RL 255 yX11_count ∈ wl := tm_5 (List.mem_of_getElem? (i := 212) rfl) rfl
set_option maxRecDepth 20000 in
theorem w_1742 : Cond.instanceMethod yX11_count ∈ wl := tm_5 (List.mem_of_getElem? (i := 213) rfl) rfl
set_option maxRecDepth 20000 in
theorem w_1743 : Cond.selects RX11 yX11_count yX11_count ∈ wl := tm_5 (List.mem_of_getElem? (i := 214) rfl) rfl
set_option maxRecDepth 20000 in
theorem w_1744 : Cond.code yX12_count cX12_count 5 (some .int) ∈ wl := tm_9 (List.mem_of_getElem? (i := 64) rfl) rfl
set_option maxRecDepth 20000 in
theorem w_1745 : Cond.methodLink RL 258 yX12_count ∈ wl := tm_9 (List.mem_of_getElem? (i := 61) rfl) rfl
set_option maxRecDepth 20000 in
theorem w_1746 : Cond.instanceMethod yX12_count ∈ wl := tm_9 (List.mem_of_getElem? (i := 62) rfl) rfl
set_option maxRecDepth 20000 in
theorem w_1747 : Cond.selects RX12 yX12_count yX12_count ∈ wl := tm_9 (List.mem_of_getElem? (i := 63) rfl) rfl
set_option maxRecDepth 20000 in
theorem w_1748 : Cond.code yX11_image cX11_image 2 (some .int) ∈ wl := tm_5 (List.mem_of_getElem? (i := 228) rfl) rfl
set_option maxRecDepth 20000 in
theorem w_1749 : Cond.methodLink RL 259 yX11_image ∈ wl := tm_5 (List.mem_of_getElem? (i := 225) rfl) rfl
set_option maxRecDepth 20000 in
theorem w_1750 : Cond.instanceMethod yX11_image ∈ wl := tm_5 (List.mem_of_getElem? (i := 226) rfl) rfl
set_option maxRecDepth 20000 in
theorem w_1751 : Cond.selects RX11 yX11_image yX11_image ∈ wl := tm_5 (List.mem_of_getElem? (i := 227) rfl) rfl
set_option maxRecDepth 20000 in
theorem w_1752 : Cond.code yX11_back cX11_back 2 (some .int) ∈ wl := tm_5 (List.mem_of_getElem? (i := 237) rfl) rfl
set_option maxRecDepth 20000 in
theorem w_1753 : Cond.methodLink RL 263 yX11_back ∈ wl := tm_5 (List.mem_of_getElem? (i := 234) rfl) rfl
set_option maxRecDepth 20000 in
theorem w_1754 : Cond.instanceMethod yX11_back ∈ wl := tm_5 (List.mem_of_getElem? (i := 235) rfl) rfl
set_option maxRecDepth 20000 in
theorem w_1755 : Cond.selects RX11 yX11_back yX11_back ∈ wl := tm_5 (List.mem_of_getElem? (i := 236) rfl) rfl
set_option maxRecDepth 20000 in
theorem w_1756 : Cond.code yX11_row cX11_row 4 (some .int) ∈ wl := tm_6 (List.mem_of_getElem? (i := 1) rfl) rfl
set_option maxRecDepth 20000 in
theorem w_1757 : Cond.methodLink RL 267 yX11_row ∈ wl := tm_5 (List.mem_of_getElem? (i := 238) rfl) rfl
set_option maxRecDepth 20000 in
theorem w_1758 : Cond.instanceMethod yX11_row ∈ wl := tm_5 (List.mem_of_getElem? (i := 239) rfl) rfl
set_option maxRecDepth 20000 in
theorem w_1759 : Cond.selects RX11 yX11_row yX11_row ∈ wl := tm_6 (List.mem_of_getElem? (i := 0) rfl) rfl
set_option maxRecDepth 20000 in
theorem w_1760 : Cond.code yX12_row cX12_row 5 (some .int) ∈ wl := tm_9 (List.mem_of_getElem? (i := 68) rfl) rfl
set_option maxRecDepth 20000 in
theorem w_1761 : Cond.methodLink RL 270 yX12_row ∈ wl := tm_9 (List.mem_of_getElem? (i := 65) rfl) rfl
set_option maxRecDepth 20000 in
theorem w_1762 : Cond.instanceMethod yX12_row ∈ wl := tm_9 (List.mem_of_getElem? (i := 66) rfl) rfl
set_option maxRecDepth 20000 in
theorem w_1763 : Cond.selects RX12 yX12_row yX12_row ∈ wl := tm_9 (List.mem_of_getElem? (i := 67) rfl) rfl
set_option maxRecDepth 20000 in
theorem w_1764 : Cond.constantLong RL 271 (4294967295) ∈ wl := tm_9 (List.mem_of_getElem? (i := 80) rfl) rfl
set_option maxRecDepth 20000 in
theorem w_1765 : Cond.code yX11_write cX11_write 5 (some .int) ∈ wl := tm_6 (List.mem_of_getElem? (i := 15) rfl) rfl
set_option maxRecDepth 20000 in
theorem w_1766 : Cond.methodLink RL 273 yX11_write ∈ wl := tm_6 (List.mem_of_getElem? (i := 12) rfl) rfl
set_option maxRecDepth 20000 in
theorem w_1767 : Cond.instanceMethod yX11_write ∈ wl := tm_6 (List.mem_of_getElem? (i := 13) rfl) rfl
set_option maxRecDepth 20000 in
theorem w_1768 : Cond.selects RX11 yX11_write yX11_write ∈ wl := tm_6 (List.mem_of_getElem? (i := 14) rfl) rfl
set_option maxRecDepth 20000 in
theorem w_1769 : Cond.code yX12_write cX12_write 5 (some .int) ∈ wl := tm_9 (List.mem_of_getElem? (i := 72) rfl) rfl
set_option maxRecDepth 20000 in
theorem w_1770 : Cond.methodLink RL 277 yX12_write ∈ wl := tm_9 (List.mem_of_getElem? (i := 69) rfl) rfl
set_option maxRecDepth 20000 in
theorem w_1771 : Cond.instanceMethod yX12_write ∈ wl := tm_9 (List.mem_of_getElem? (i := 70) rfl) rfl
set_option maxRecDepth 20000 in
theorem w_1772 : Cond.selects RX12 yX12_write yX12_write ∈ wl := tm_9 (List.mem_of_getElem? (i := 71) rfl) rfl
set_option maxRecDepth 20000 in
theorem w_1773 : Cond.code yX11_paste cX11_paste 6 (some .int) ∈ wl := tm_6 (List.mem_of_getElem? (i := 30) rfl) rfl
set_option maxRecDepth 20000 in
theorem w_1774 : Cond.methodLink RL 278 yX11_paste ∈ wl := tm_6 (List.mem_of_getElem? (i := 27) rfl) rfl
set_option maxRecDepth 20000 in
theorem w_1775 : Cond.instanceMethod yX11_paste ∈ wl := tm_6 (List.mem_of_getElem? (i := 28) rfl) rfl
set_option maxRecDepth 20000 in
theorem w_1776 : Cond.selects RX11 yX11_paste yX11_paste ∈ wl := tm_6 (List.mem_of_getElem? (i := 29) rfl) rfl
set_option maxRecDepth 20000 in
theorem w_1777 : Cond.code yX12_paste cX12_paste 7 (some .int) ∈ wl := tm_9 (List.mem_of_getElem? (i := 79) rfl) rfl
set_option maxRecDepth 20000 in
theorem w_1778 : Cond.methodLink RL 281 yX12_paste ∈ wl := tm_9 (List.mem_of_getElem? (i := 76) rfl) rfl
set_option maxRecDepth 20000 in
theorem w_1779 : Cond.instanceMethod yX12_paste ∈ wl := tm_9 (List.mem_of_getElem? (i := 77) rfl) rfl
set_option maxRecDepth 20000 in
theorem w_1780 : Cond.selects RX12 yX12_paste yX12_paste ∈ wl := tm_9 (List.mem_of_getElem? (i := 78) rfl) rfl
theorem kd_X12_image : okD yX12_image 1 := by decide +kernel
theorem kd_X12_back : okD yX12_back 1 := by decide +kernel
theorem kd_X11_feed : okD yX11_feed 5 := by decide +kernel
theorem kd_X12_feed : okD yX12_feed 5 := by decide +kernel
theorem kd_X11_end : okD yX11_end 1 := by decide +kernel
theorem kd_X12_end : okD yX12_end 1 := by decide +kernel
theorem kd_X11_wood : okD yX11_wood 0 := by decide +kernel
theorem kd_X12_wood : okD yX12_wood 0 := by decide +kernel
theorem kd_X11_fault : okD yX11_fault 1 := by decide +kernel
theorem kd_X12_fault : okD yX12_fault 1 := by decide +kernel
theorem kd_X11_leads : okD yX11_leads 2 := by decide +kernel
theorem kd_X12_leads : okD yX12_leads 2 := by decide +kernel
theorem kd_X11_mark : okD yX11_mark 1 := by decide +kernel
theorem kd_X12_mark : okD yX12_mark 1 := by decide +kernel
theorem kd_X11_becomes : okD yX11_becomes 2 := by decide +kernel
theorem kd_X12_becomes : okD yX12_becomes 2 := by decide +kernel
theorem kd_X11_seen : okD yX11_seen 2 := by decide +kernel
theorem kd_X12_seen : okD yX12_seen 2 := by decide +kernel
theorem kd_X11_where : okD yX11_where 1 := by decide +kernel
theorem kd_X12_where : okD yX12_where 1 := by decide +kernel
theorem kd_X11_thinks : okD yX11_thinks 1 := by decide +kernel
theorem kd_X12_thinks : okD yX12_thinks 1 := by decide +kernel
theorem kd_X11_pupil : okD yX11_pupil 2 := by decide +kernel
theorem kd_X12_pupil : okD yX12_pupil 2 := by decide +kernel
theorem kd_X11_goes : okD yX11_goes 2 := by decide +kernel
theorem kd_X12_goes : okD yX12_goes 2 := by decide +kernel
theorem kd_X11_most : okD yX11_most 0 := by decide +kernel
theorem kd_X12_most : okD yX12_most 0 := by decide +kernel
theorem kd_X11_who : okD yX11_who 1 := by decide +kernel
theorem kd_X12_who : okD yX12_who 1 := by decide +kernel
theorem kd_X11_undo : okD yX11_undo 0 := by decide +kernel
theorem kd_X12_undo : okD yX12_undo 0 := by decide +kernel
theorem kd_X11_anew : okD yX11_anew 0 := by decide +kernel
theorem kd_X12_anew : okD yX12_anew 0 := by decide +kernel
theorem kd_X11_would : okD yX11_would 2 := by decide +kernel
theorem kd_X12_would : okD yX12_would 2 := by decide +kernel
theorem kd_X11_think : okD yX11_think 2 := by decide +kernel
theorem kd_X12_think : okD yX12_think 2 := by decide +kernel
theorem kd_X11_knows : okD yX11_knows 2 := by decide +kernel
theorem kd_X12_knows : okD yX12_knows 2 := by decide +kernel
theorem kd_X11_loses : okD yX11_loses 2 := by decide +kernel
theorem kd_X12_loses : okD yX12_loses 2 := by decide +kernel
theorem kd_X11_doubts : okD yX11_doubts 2 := by decide +kernel
theorem kd_X12_doubts : okD yX12_doubts 2 := by decide +kernel
theorem kd_X11_blur : okD yX11_blur 2 := by decide +kernel
theorem kd_X12_blur : okD yX12_blur 2 := by decide +kernel
theorem kd_X11_blurs : okD yX11_blurs 3 := by decide +kernel
theorem kd_X12_blurs : okD yX12_blurs 3 := by decide +kernel
theorem kd_X11_stray : okD yX11_stray 1 := by decide +kernel
theorem kd_X12_stray : okD yX12_stray 1 := by decide +kernel
theorem kd_X11_strays : okD yX11_strays 2 := by decide +kernel
theorem kd_X12_strays : okD yX12_strays 2 := by decide +kernel
theorem kd_X11_home : okD yX11_home 1 := by decide +kernel
theorem kd_X12_home : okD yX12_home 1 := by decide +kernel
theorem kd_X11_homes : okD yX11_homes 2 := by decide +kernel
theorem kd_X12_homes : okD yX12_homes 2 := by decide +kernel
theorem kd_X11_states : okD yX11_states 1 := by decide +kernel
theorem kd_X12_states : okD yX12_states 1 := by decide +kernel
theorem kd_X11_plan : okD yX11_plan 1 := by decide +kernel
theorem kd_X12_plan : okD yX12_plan 1 := by decide +kernel
theorem kd_X11_first : okD yX11_first 1 := by decide +kernel
theorem kd_X12_first : okD yX12_first 1 := by decide +kernel
theorem kd_X11_hardest : okD yX11_hardest 0 := by decide +kernel
theorem kd_X12_hardest : okD yX12_hardest 0 := by decide +kernel
theorem kd_X11_alike : okD yX11_alike 2 := by decide +kernel
theorem kd_X12_alike : okD yX12_alike 2 := by decide +kernel
theorem kd_X11_kinds : okD yX11_kinds 0 := by decide +kernel
theorem kd_X12_kinds : okD yX12_kinds 0 := by decide +kernel
theorem kd_X11_tells : okD yX11_tells 2 := by decide +kernel
theorem kd_X12_tells : okD yX12_tells 2 := by decide +kernel
theorem kd_X11_told : okD yX11_told 3 := by decide +kernel
theorem kd_X12_told_ : okD yX12_told_ 3 := by decide +kernel
theorem kd_X11_bares : okD yX11_bares 2 := by decide +kernel
theorem kd_X12_bares : okD yX12_bares 2 := by decide +kernel
theorem kd_X11_bared : okD yX11_bared 2 := by decide +kernel
theorem kd_X12_bared : okD yX12_bared 2 := by decide +kernel
theorem kd_X11_gather : okD yX11_gather 1 := by decide +kernel
theorem kd_X12_gather : okD yX12_gather 1 := by decide +kernel
theorem kd_X11_gathers : okD yX11_gathers 2 := by decide +kernel
theorem kd_X12_gathers : okD yX12_gathers 2 := by decide +kernel
theorem kd_X11_roundabout : okD yX11_roundabout 1 := by decide +kernel
theorem kd_X12_roundabout : okD yX12_roundabout 1 := by decide +kernel
theorem kd_X11_meet : okD yX11_meet 2 := by decide +kernel
theorem kd_X12_meet : okD yX12_meet 2 := by decide +kernel
theorem kd_X11_met : okD yX11_met 2 := by decide +kernel
theorem kd_X12_met : okD yX12_met 2 := by decide +kernel
theorem kd_X11_read : okD yX11_read 1 := by decide +kernel
theorem kd_X12_read : okD yX12_read 1 := by decide +kernel
theorem kd_X11_began : okD yX11_began 1 := by decide +kernel
theorem kd_X12_began : okD yX12_began 1 := by decide +kernel
theorem kd_X11_ask : okD yX11_ask 1 := by decide +kernel
theorem kd_X12_ask : okD yX12_ask 1 := by decide +kernel
theorem kd_X11_leaves : okD yX11_leaves 1 := by decide +kernel
theorem kd_X12_leaves : okD yX12_leaves 1 := by decide +kernel
theorem kd_X11_course : okD yX11_course 2 := by decide +kernel
theorem kd_X12_course : okD yX12_course 2 := by decide +kernel
theorem kd_X11_lesson : okD yX11_lesson 3 := by decide +kernel
theorem kd_X12_lesson : okD yX12_lesson 3 := by decide +kernel
theorem kd_X11_spoilt : okD yX11_spoilt 2 := by decide +kernel
theorem kd_X12_spoilt : okD yX12_spoilt 2 := by decide +kernel
theorem kd_X11_route : okD yX11_route 2 := by decide +kernel
theorem kd_X12_route : okD yX12_route 2 := by decide +kernel
theorem kd_X11_dark : okD yX11_dark 2 := by decide +kernel
theorem kd_X12_dark : okD yX12_dark 2 := by decide +kernel
theorem kd_X11_detour : okD yX11_detour 2 := by decide +kernel
theorem kd_X12_detour : okD yX12_detour 2 := by decide +kernel
theorem kd_X11_fog : okD yX11_fog 4 := by decide +kernel
theorem kd_X12_fog : okD yX12_fog 4 := by decide +kernel
theorem kd_X11_likely : okD yX11_likely 2 := by decide +kernel
theorem kd_X12_likely : okD yX12_likely 2 := by decide +kernel
theorem kd_X11_can : okD yX11_can 2 := by decide +kernel
theorem kd_X12_can : okD yX12_can 2 := by decide +kernel
theorem kd_X11_lead : okD yX11_lead 3 := by decide +kernel
theorem kd_X12_lead : okD yX12_lead 3 := by decide +kernel
theorem kd_X11_marks : okD yX11_marks 2 := by decide +kernel
theorem kd_X12_marks : okD yX12_marks 2 := by decide +kernel
theorem kd_X11_drawn : okD yX11_drawn 4 := by decide +kernel
theorem kd_X12_drawn : okD yX12_drawn 4 := by decide +kernel
theorem kd_X11_luck : okD yX11_luck 4 := by decide +kernel
theorem kd_X12_luck : okD yX12_luck 4 := by decide +kernel
theorem kd_X11_count : okD yX11_count 1 := by decide +kernel
theorem kd_X12_count : okD yX12_count 1 := by decide +kernel
theorem kd_X11_image : okD yX11_image 1 := by decide +kernel
theorem kd_X11_back : okD yX11_back 1 := by decide +kernel
theorem kd_X11_row : okD yX11_row 3 := by decide +kernel
theorem kd_X12_row : okD yX12_row 3 := by decide +kernel
theorem kd_X11_write : okD yX11_write 3 := by decide +kernel
theorem kd_X12_write : okD yX12_write 3 := by decide +kernel
theorem kd_X11_paste : okD yX11_paste 5 := by decide +kernel
theorem kd_X12_paste : okD yX12_paste 5 := by decide +kernel
set_option maxRecDepth 20000 in
theorem kV_L_262 : okV RL 262 yX12_image cX12_image 3 (some .int) 1 := ⟨⟨w_1261, w_1260, w_765, kd_X12_image⟩, w_1262, w_1263⟩
set_option maxRecDepth 20000 in
theorem kV_L_266 : okV RL 266 yX12_back cX12_back 3 (some .int) 1 := ⟨⟨w_1265, w_1264, w_765, kd_X12_back⟩, w_1266, w_1267⟩
set_option maxRecDepth 20000 in
theorem kV_L_13 : okV RL 13 yX11_feed cX11_feed 6 (some .int) 5 := ⟨⟨w_1269, w_1268, w_34, kd_X11_feed⟩, w_1270, w_1271⟩
set_option maxRecDepth 20000 in
theorem kV_L_17 : okV RL 17 yX12_feed cX12_feed 7 (some .int) 5 := ⟨⟨w_1273, w_1272, w_765, kd_X12_feed⟩, w_1274, w_1275⟩
set_option maxRecDepth 20000 in
theorem kV_L_18 : okV RL 18 yX11_end cX11_end 2 (some .int) 1 := ⟨⟨w_1277, w_1276, w_34, kd_X11_end⟩, w_1278, w_1279⟩
set_option maxRecDepth 20000 in
theorem kV_L_22 : okV RL 22 yX12_end cX12_end 2 (some .int) 1 := ⟨⟨w_1281, w_1280, w_765, kd_X12_end⟩, w_1282, w_1283⟩
set_option maxRecDepth 20000 in
theorem kV_L_23 : okV RL 23 yX11_wood cX11_wood 1 (some .int) 0 := ⟨⟨w_1285, w_1284, w_34, kd_X11_wood⟩, w_1286, w_1287⟩
set_option maxRecDepth 20000 in
theorem kV_L_27 : okV RL 27 yX12_wood cX12_wood 2 (some .int) 0 := ⟨⟨w_1289, w_1288, w_765, kd_X12_wood⟩, w_1290, w_1291⟩
set_option maxRecDepth 20000 in
theorem kV_L_28 : okV RL 28 yX11_fault cX11_fault 2 (some .int) 1 := ⟨⟨w_1293, w_1292, w_34, kd_X11_fault⟩, w_1294, w_1295⟩
set_option maxRecDepth 20000 in
theorem kV_L_31 : okV RL 31 yX12_fault cX12_fault 2 (some .int) 1 := ⟨⟨w_1297, w_1296, w_765, kd_X12_fault⟩, w_1298, w_1299⟩
set_option maxRecDepth 20000 in
theorem kV_L_32 : okV RL 32 yX11_leads cX11_leads 3 (some .int) 2 := ⟨⟨w_1301, w_1300, w_34, kd_X11_leads⟩, w_1302, w_1303⟩
set_option maxRecDepth 20000 in
theorem kV_L_36 : okV RL 36 yX12_leads cX12_leads 3 (some .int) 2 := ⟨⟨w_1305, w_1304, w_765, kd_X12_leads⟩, w_1306, w_1307⟩
set_option maxRecDepth 20000 in
theorem kV_L_37 : okV RL 37 yX11_mark cX11_mark 2 (some .int) 1 := ⟨⟨w_1309, w_1308, w_34, kd_X11_mark⟩, w_1310, w_1311⟩
set_option maxRecDepth 20000 in
theorem kV_L_40 : okV RL 40 yX12_mark cX12_mark 2 (some .int) 1 := ⟨⟨w_1313, w_1312, w_765, kd_X12_mark⟩, w_1314, w_1315⟩
set_option maxRecDepth 20000 in
theorem kV_L_41 : okV RL 41 yX11_becomes cX11_becomes 3 (some .int) 2 := ⟨⟨w_1317, w_1316, w_34, kd_X11_becomes⟩, w_1318, w_1319⟩
set_option maxRecDepth 20000 in
theorem kV_L_44 : okV RL 44 yX12_becomes cX12_becomes 3 (some .int) 2 := ⟨⟨w_1321, w_1320, w_765, kd_X12_becomes⟩, w_1322, w_1323⟩
set_option maxRecDepth 20000 in
theorem kV_L_45 : okV RL 45 yX11_seen cX11_seen 3 (some .int) 2 := ⟨⟨w_1325, w_1324, w_34, kd_X11_seen⟩, w_1326, w_1327⟩
set_option maxRecDepth 20000 in
theorem kV_L_48 : okV RL 48 yX12_seen cX12_seen 3 (some .int) 2 := ⟨⟨w_1329, w_1328, w_765, kd_X12_seen⟩, w_1330, w_1331⟩
set_option maxRecDepth 20000 in
theorem kV_L_49 : okV RL 49 yX11_where cX11_where 2 (some .int) 1 := ⟨⟨w_1333, w_1332, w_34, kd_X11_where⟩, w_1334, w_1335⟩
set_option maxRecDepth 20000 in
theorem kV_L_52 : okV RL 52 yX12_where cX12_where 2 (some .int) 1 := ⟨⟨w_1337, w_1336, w_765, kd_X12_where⟩, w_1338, w_1339⟩
set_option maxRecDepth 20000 in
theorem kV_L_53 : okV RL 53 yX11_thinks cX11_thinks 2 (some .int) 1 := ⟨⟨w_1341, w_1340, w_34, kd_X11_thinks⟩, w_1342, w_1343⟩
set_option maxRecDepth 20000 in
theorem kV_L_56 : okV RL 56 yX12_thinks cX12_thinks 2 (some .int) 1 := ⟨⟨w_1345, w_1344, w_765, kd_X12_thinks⟩, w_1346, w_1347⟩
set_option maxRecDepth 20000 in
theorem kV_L_57 : okV RL 57 yX11_pupil cX11_pupil 3 (some .int) 2 := ⟨⟨w_1349, w_1348, w_34, kd_X11_pupil⟩, w_1350, w_1351⟩
set_option maxRecDepth 20000 in
theorem kV_L_60 : okV RL 60 yX12_pupil cX12_pupil 3 (some .int) 2 := ⟨⟨w_1353, w_1352, w_765, kd_X12_pupil⟩, w_1354, w_1355⟩
set_option maxRecDepth 20000 in
theorem kV_L_61 : okV RL 61 yX11_goes cX11_goes 3 (some .int) 2 := ⟨⟨w_1357, w_1356, w_34, kd_X11_goes⟩, w_1358, w_1359⟩
set_option maxRecDepth 20000 in
theorem kV_L_64 : okV RL 64 yX12_goes cX12_goes 4 (some .int) 2 := ⟨⟨w_1361, w_1360, w_765, kd_X12_goes⟩, w_1362, w_1363⟩
set_option maxRecDepth 20000 in
theorem kV_L_65 : okV RL 65 yX11_most cX11_most 5 (some .int) 0 := ⟨⟨w_1365, w_1364, w_34, kd_X11_most⟩, w_1366, w_1367⟩
set_option maxRecDepth 20000 in
theorem kV_L_68 : okV RL 68 yX12_most cX12_most 5 (some .int) 0 := ⟨⟨w_1369, w_1368, w_765, kd_X12_most⟩, w_1370, w_1371⟩
set_option maxRecDepth 20000 in
theorem kV_L_69 : okV RL 69 yX11_who cX11_who 4 (some .int) 1 := ⟨⟨w_1373, w_1372, w_34, kd_X11_who⟩, w_1374, w_1375⟩
set_option maxRecDepth 20000 in
theorem kV_L_72 : okV RL 72 yX12_who cX12_who 4 (some .int) 1 := ⟨⟨w_1377, w_1376, w_765, kd_X12_who⟩, w_1378, w_1379⟩
set_option maxRecDepth 20000 in
theorem kV_L_73 : okV RL 73 yX11_undo cX11_undo 1 (some .int) 0 := ⟨⟨w_1381, w_1380, w_34, kd_X11_undo⟩, w_1382, w_1383⟩
set_option maxRecDepth 20000 in
theorem kV_L_76 : okV RL 76 yX12_undo cX12_undo 1 (some .int) 0 := ⟨⟨w_1385, w_1384, w_765, kd_X12_undo⟩, w_1386, w_1387⟩
set_option maxRecDepth 20000 in
theorem kV_L_77 : okV RL 77 yX11_anew cX11_anew 2 (some .int) 0 := ⟨⟨w_1389, w_1388, w_34, kd_X11_anew⟩, w_1390, w_1391⟩
set_option maxRecDepth 20000 in
theorem kV_L_80 : okV RL 80 yX12_anew cX12_anew 2 (some .int) 0 := ⟨⟨w_1393, w_1392, w_765, kd_X12_anew⟩, w_1394, w_1395⟩
set_option maxRecDepth 20000 in
theorem kV_L_81 : okV RL 81 yX11_would cX11_would 4 (some .int) 2 := ⟨⟨w_1397, w_1396, w_34, kd_X11_would⟩, w_1398, w_1399⟩
set_option maxRecDepth 20000 in
theorem kV_L_84 : okV RL 84 yX12_would cX12_would 4 (some .int) 2 := ⟨⟨w_1401, w_1400, w_765, kd_X12_would⟩, w_1402, w_1403⟩
set_option maxRecDepth 20000 in
theorem kV_L_85 : okV RL 85 yX11_think cX11_think 4 (some .int) 2 := ⟨⟨w_1405, w_1404, w_34, kd_X11_think⟩, w_1406, w_1407⟩
set_option maxRecDepth 20000 in
theorem kV_L_88 : okV RL 88 yX12_think cX12_think 4 (some .int) 2 := ⟨⟨w_1409, w_1408, w_765, kd_X12_think⟩, w_1410, w_1411⟩
set_option maxRecDepth 20000 in
theorem kV_L_89 : okV RL 89 yX11_knows cX11_knows 4 (some .int) 2 := ⟨⟨w_1413, w_1412, w_34, kd_X11_knows⟩, w_1414, w_1415⟩
set_option maxRecDepth 20000 in
theorem kV_L_92 : okV RL 92 yX12_knows cX12_knows 4 (some .int) 2 := ⟨⟨w_1417, w_1416, w_765, kd_X12_knows⟩, w_1418, w_1419⟩
set_option maxRecDepth 20000 in
theorem kV_L_93 : okV RL 93 yX11_loses cX11_loses 4 (some .int) 2 := ⟨⟨w_1421, w_1420, w_34, kd_X11_loses⟩, w_1422, w_1423⟩
set_option maxRecDepth 20000 in
theorem kV_L_96 : okV RL 96 yX12_loses cX12_loses 4 (some .int) 2 := ⟨⟨w_1425, w_1424, w_765, kd_X12_loses⟩, w_1426, w_1427⟩
set_option maxRecDepth 20000 in
theorem kV_L_97 : okV RL 97 yX11_doubts cX11_doubts 6 (some .int) 2 := ⟨⟨w_1429, w_1428, w_34, kd_X11_doubts⟩, w_1430, w_1431⟩
set_option maxRecDepth 20000 in
theorem kV_L_100 : okV RL 100 yX12_doubts cX12_doubts 4 (some .int) 2 := ⟨⟨w_1433, w_1432, w_765, kd_X12_doubts⟩, w_1434, w_1435⟩
set_option maxRecDepth 20000 in
theorem kV_L_101 : okV RL 101 yX11_blur cX11_blur 3 (some .int) 2 := ⟨⟨w_1437, w_1436, w_34, kd_X11_blur⟩, w_1438, w_1439⟩
set_option maxRecDepth 20000 in
theorem kV_L_104 : okV RL 104 yX12_blur cX12_blur 3 (some .int) 2 := ⟨⟨w_1441, w_1440, w_765, kd_X12_blur⟩, w_1442, w_1443⟩
set_option maxRecDepth 20000 in
theorem kV_L_105 : okV RL 105 yX11_blurs cX11_blurs 4 (some .int) 3 := ⟨⟨w_1445, w_1444, w_34, kd_X11_blurs⟩, w_1446, w_1447⟩
set_option maxRecDepth 20000 in
theorem kV_L_109 : okV RL 109 yX12_blurs cX12_blurs 4 (some .int) 3 := ⟨⟨w_1449, w_1448, w_765, kd_X12_blurs⟩, w_1450, w_1451⟩
set_option maxRecDepth 20000 in
theorem kV_L_110 : okV RL 110 yX11_stray cX11_stray 2 (some .int) 1 := ⟨⟨w_1453, w_1452, w_34, kd_X11_stray⟩, w_1454, w_1455⟩
set_option maxRecDepth 20000 in
theorem kV_L_113 : okV RL 113 yX12_stray cX12_stray 2 (some .int) 1 := ⟨⟨w_1457, w_1456, w_765, kd_X12_stray⟩, w_1458, w_1459⟩
set_option maxRecDepth 20000 in
theorem kV_L_114 : okV RL 114 yX11_strays cX11_strays 3 (some .int) 2 := ⟨⟨w_1461, w_1460, w_34, kd_X11_strays⟩, w_1462, w_1463⟩
set_option maxRecDepth 20000 in
theorem kV_L_117 : okV RL 117 yX12_strays cX12_strays 3 (some .int) 2 := ⟨⟨w_1465, w_1464, w_765, kd_X12_strays⟩, w_1466, w_1467⟩
set_option maxRecDepth 20000 in
theorem kV_L_118 : okV RL 118 yX11_home cX11_home 2 (some .int) 1 := ⟨⟨w_1469, w_1468, w_34, kd_X11_home⟩, w_1470, w_1471⟩
set_option maxRecDepth 20000 in
theorem kV_L_121 : okV RL 121 yX12_home cX12_home 2 (some .int) 1 := ⟨⟨w_1473, w_1472, w_765, kd_X12_home⟩, w_1474, w_1475⟩
set_option maxRecDepth 20000 in
theorem kV_L_122 : okV RL 122 yX11_homes cX11_homes 3 (some .int) 2 := ⟨⟨w_1477, w_1476, w_34, kd_X11_homes⟩, w_1478, w_1479⟩
set_option maxRecDepth 20000 in
theorem kV_L_125 : okV RL 125 yX12_homes cX12_homes 3 (some .int) 2 := ⟨⟨w_1481, w_1480, w_765, kd_X12_homes⟩, w_1482, w_1483⟩
set_option maxRecDepth 20000 in
theorem kV_L_126 : okV RL 126 yX11_states cX11_states 2 (some .int) 1 := ⟨⟨w_1485, w_1484, w_34, kd_X11_states⟩, w_1486, w_1487⟩
set_option maxRecDepth 20000 in
theorem kV_L_129 : okV RL 129 yX12_states cX12_states 2 (some .int) 1 := ⟨⟨w_1489, w_1488, w_765, kd_X12_states⟩, w_1490, w_1491⟩
set_option maxRecDepth 20000 in
theorem kV_L_130 : okV RL 130 yX11_plan cX11_plan 2 (some .int) 1 := ⟨⟨w_1493, w_1492, w_34, kd_X11_plan⟩, w_1494, w_1495⟩
set_option maxRecDepth 20000 in
theorem kV_L_133 : okV RL 133 yX12_plan cX12_plan 3 (some .int) 1 := ⟨⟨w_1497, w_1496, w_765, kd_X12_plan⟩, w_1498, w_1499⟩
set_option maxRecDepth 20000 in
theorem kV_L_134 : okV RL 134 yX11_first cX11_first 2 (some .int) 1 := ⟨⟨w_1501, w_1500, w_34, kd_X11_first⟩, w_1502, w_1503⟩
set_option maxRecDepth 20000 in
theorem kV_L_137 : okV RL 137 yX12_first cX12_first 3 (some .int) 1 := ⟨⟨w_1505, w_1504, w_765, kd_X12_first⟩, w_1506, w_1507⟩
set_option maxRecDepth 20000 in
theorem kV_L_138 : okV RL 138 yX11_hardest cX11_hardest 4 (some .int) 0 := ⟨⟨w_1509, w_1508, w_34, kd_X11_hardest⟩, w_1510, w_1511⟩
set_option maxRecDepth 20000 in
theorem kV_L_141 : okV RL 141 yX12_hardest cX12_hardest 5 (some .int) 0 := ⟨⟨w_1513, w_1512, w_765, kd_X12_hardest⟩, w_1514, w_1515⟩
set_option maxRecDepth 20000 in
theorem kV_L_142 : okV RL 142 yX11_alike cX11_alike 3 (some .int) 2 := ⟨⟨w_1517, w_1516, w_34, kd_X11_alike⟩, w_1518, w_1519⟩
set_option maxRecDepth 20000 in
theorem kV_L_145 : okV RL 145 yX12_alike cX12_alike 3 (some .int) 2 := ⟨⟨w_1521, w_1520, w_765, kd_X12_alike⟩, w_1522, w_1523⟩
set_option maxRecDepth 20000 in
theorem kV_L_146 : okV RL 146 yX11_kinds cX11_kinds 5 (some .int) 0 := ⟨⟨w_1525, w_1524, w_34, kd_X11_kinds⟩, w_1526, w_1527⟩
set_option maxRecDepth 20000 in
theorem kV_L_149 : okV RL 149 yX12_kinds cX12_kinds 1 (some .int) 0 := ⟨⟨w_1529, w_1528, w_765, kd_X12_kinds⟩, w_1530, w_1531⟩
set_option maxRecDepth 20000 in
theorem kV_L_150 : okV RL 150 yX11_tells cX11_tells 3 (some .int) 2 := ⟨⟨w_1533, w_1532, w_34, kd_X11_tells⟩, w_1534, w_1535⟩
set_option maxRecDepth 20000 in
theorem kV_L_153 : okV RL 153 yX12_tells cX12_tells 4 (some .int) 2 := ⟨⟨w_1537, w_1536, w_765, kd_X12_tells⟩, w_1538, w_1539⟩
set_option maxRecDepth 20000 in
theorem kV_L_154 : okV RL 154 yX11_told cX11_told 4 (some .int) 3 := ⟨⟨w_1541, w_1540, w_34, kd_X11_told⟩, w_1542, w_1543⟩
set_option maxRecDepth 20000 in
theorem kV_L_157 : okV RL 157 yX12_told_ cX12_told_ 5 (some .int) 3 := ⟨⟨w_1545, w_1544, w_765, kd_X12_told_⟩, w_1546, w_1547⟩
set_option maxRecDepth 20000 in
theorem kV_L_158 : okV RL 158 yX11_bares cX11_bares 3 (some .int) 2 := ⟨⟨w_1549, w_1548, w_34, kd_X11_bares⟩, w_1550, w_1551⟩
set_option maxRecDepth 20000 in
theorem kV_L_161 : okV RL 161 yX12_bares cX12_bares 3 (some .int) 2 := ⟨⟨w_1553, w_1552, w_765, kd_X12_bares⟩, w_1554, w_1555⟩
set_option maxRecDepth 20000 in
theorem kV_L_162 : okV RL 162 yX11_bared cX11_bared 3 (some .int) 2 := ⟨⟨w_1557, w_1556, w_34, kd_X11_bared⟩, w_1558, w_1559⟩
set_option maxRecDepth 20000 in
theorem kV_L_165 : okV RL 165 yX12_bared cX12_bared 3 (some .int) 2 := ⟨⟨w_1561, w_1560, w_765, kd_X12_bared⟩, w_1562, w_1563⟩
set_option maxRecDepth 20000 in
theorem kV_L_166 : okV RL 166 yX11_gather cX11_gather 2 (some .int) 1 := ⟨⟨w_1565, w_1564, w_34, kd_X11_gather⟩, w_1566, w_1567⟩
set_option maxRecDepth 20000 in
theorem kV_L_169 : okV RL 169 yX12_gather cX12_gather 3 (some .int) 1 := ⟨⟨w_1569, w_1568, w_765, kd_X12_gather⟩, w_1570, w_1571⟩
set_option maxRecDepth 20000 in
theorem kV_L_170 : okV RL 170 yX11_gathers cX11_gathers 3 (some .int) 2 := ⟨⟨w_1573, w_1572, w_34, kd_X11_gathers⟩, w_1574, w_1575⟩
set_option maxRecDepth 20000 in
theorem kV_L_173 : okV RL 173 yX12_gathers cX12_gathers 4 (some .int) 2 := ⟨⟨w_1577, w_1576, w_765, kd_X12_gathers⟩, w_1578, w_1579⟩
set_option maxRecDepth 20000 in
theorem kV_L_174 : okV RL 174 yX11_roundabout cX11_roundabout 2 (some .int) 1 := ⟨⟨w_1581, w_1580, w_34, kd_X11_roundabout⟩, w_1582, w_1583⟩
set_option maxRecDepth 20000 in
theorem kV_L_177 : okV RL 177 yX12_roundabout cX12_roundabout 4 (some .int) 1 := ⟨⟨w_1585, w_1584, w_765, kd_X12_roundabout⟩, w_1586, w_1587⟩
set_option maxRecDepth 20000 in
theorem kV_L_178 : okV RL 178 yX11_meet cX11_meet 3 (some .int) 2 := ⟨⟨w_1589, w_1588, w_34, kd_X11_meet⟩, w_1590, w_1591⟩
set_option maxRecDepth 20000 in
theorem kV_L_181 : okV RL 181 yX12_meet cX12_meet 3 (some .int) 2 := ⟨⟨w_1593, w_1592, w_765, kd_X12_meet⟩, w_1594, w_1595⟩
set_option maxRecDepth 20000 in
theorem kV_L_182 : okV RL 182 yX11_met cX11_met 4 (some .int) 2 := ⟨⟨w_1597, w_1596, w_34, kd_X11_met⟩, w_1598, w_1599⟩
set_option maxRecDepth 20000 in
theorem kV_L_185 : okV RL 185 yX12_met cX12_met 4 (some .int) 2 := ⟨⟨w_1601, w_1600, w_765, kd_X12_met⟩, w_1602, w_1603⟩
set_option maxRecDepth 20000 in
theorem kV_L_186 : okV RL 186 yX11_read cX11_read 3 (some .int) 1 := ⟨⟨w_1605, w_1604, w_34, kd_X11_read⟩, w_1606, w_1607⟩
set_option maxRecDepth 20000 in
theorem kV_L_189 : okV RL 189 yX12_read cX12_read 3 (some .int) 1 := ⟨⟨w_1609, w_1608, w_765, kd_X12_read⟩, w_1610, w_1611⟩
set_option maxRecDepth 20000 in
theorem kV_L_190 : okV RL 190 yX11_began cX11_began 5 (some .int) 1 := ⟨⟨w_1613, w_1612, w_34, kd_X11_began⟩, w_1614, w_1615⟩
set_option maxRecDepth 20000 in
theorem kV_L_193 : okV RL 193 yX12_began cX12_began 5 (some .int) 1 := ⟨⟨w_1617, w_1616, w_765, kd_X12_began⟩, w_1618, w_1619⟩
set_option maxRecDepth 20000 in
theorem kV_L_194 : okV RL 194 yX11_ask cX11_ask 3 (some .int) 1 := ⟨⟨w_1621, w_1620, w_34, kd_X11_ask⟩, w_1622, w_1623⟩
set_option maxRecDepth 20000 in
theorem kV_L_197 : okV RL 197 yX12_ask cX12_ask 3 (some .int) 1 := ⟨⟨w_1625, w_1624, w_765, kd_X12_ask⟩, w_1626, w_1627⟩
set_option maxRecDepth 20000 in
theorem kV_L_198 : okV RL 198 yX11_leaves cX11_leaves 4 (some .int) 1 := ⟨⟨w_1629, w_1628, w_34, kd_X11_leaves⟩, w_1630, w_1631⟩
set_option maxRecDepth 20000 in
theorem kV_L_201 : okV RL 201 yX12_leaves cX12_leaves 4 (some .int) 1 := ⟨⟨w_1633, w_1632, w_765, kd_X12_leaves⟩, w_1634, w_1635⟩
set_option maxRecDepth 20000 in
theorem kV_L_202 : okV RL 202 yX11_course cX11_course 4 (some .int) 2 := ⟨⟨w_1637, w_1636, w_34, kd_X11_course⟩, w_1638, w_1639⟩
set_option maxRecDepth 20000 in
theorem kV_L_205 : okV RL 205 yX12_course cX12_course 4 (some .int) 2 := ⟨⟨w_1641, w_1640, w_765, kd_X12_course⟩, w_1642, w_1643⟩
set_option maxRecDepth 20000 in
theorem kV_L_206 : okV RL 206 yX11_lesson cX11_lesson 5 (some .int) 3 := ⟨⟨w_1645, w_1644, w_34, kd_X11_lesson⟩, w_1646, w_1647⟩
set_option maxRecDepth 20000 in
theorem kV_L_209 : okV RL 209 yX12_lesson cX12_lesson 5 (some .int) 3 := ⟨⟨w_1649, w_1648, w_765, kd_X12_lesson⟩, w_1650, w_1651⟩
set_option maxRecDepth 20000 in
theorem kV_L_210 : okV RL 210 yX11_spoilt cX11_spoilt 4 (some .int) 2 := ⟨⟨w_1653, w_1652, w_34, kd_X11_spoilt⟩, w_1654, w_1655⟩
set_option maxRecDepth 20000 in
theorem kV_L_213 : okV RL 213 yX12_spoilt cX12_spoilt 4 (some .int) 2 := ⟨⟨w_1657, w_1656, w_765, kd_X12_spoilt⟩, w_1658, w_1659⟩
set_option maxRecDepth 20000 in
theorem kV_L_214 : okV RL 214 yX11_route cX11_route 3 (some .int) 2 := ⟨⟨w_1661, w_1660, w_34, kd_X11_route⟩, w_1662, w_1663⟩
set_option maxRecDepth 20000 in
theorem kV_L_217 : okV RL 217 yX12_route cX12_route 3 (some .int) 2 := ⟨⟨w_1665, w_1664, w_765, kd_X12_route⟩, w_1666, w_1667⟩
set_option maxRecDepth 20000 in
theorem kV_L_218 : okV RL 218 yX11_dark cX11_dark 4 (some .int) 2 := ⟨⟨w_1669, w_1668, w_34, kd_X11_dark⟩, w_1670, w_1671⟩
set_option maxRecDepth 20000 in
theorem kV_L_221 : okV RL 221 yX12_dark cX12_dark 3 (some .int) 2 := ⟨⟨w_1673, w_1672, w_765, kd_X12_dark⟩, w_1674, w_1675⟩
set_option maxRecDepth 20000 in
theorem kV_L_222 : okV RL 222 yX11_detour cX11_detour 4 (some .int) 2 := ⟨⟨w_1677, w_1676, w_34, kd_X11_detour⟩, w_1678, w_1679⟩
set_option maxRecDepth 20000 in
theorem kV_L_225 : okV RL 225 yX12_detour cX12_detour 3 (some .int) 2 := ⟨⟨w_1681, w_1680, w_765, kd_X12_detour⟩, w_1682, w_1683⟩
set_option maxRecDepth 20000 in
theorem kV_L_226 : okV RL 226 yX11_fog cX11_fog 7 (some .int) 4 := ⟨⟨w_1685, w_1684, w_34, kd_X11_fog⟩, w_1686, w_1687⟩
set_option maxRecDepth 20000 in
theorem kV_L_230 : okV RL 230 yX12_fog cX12_fog 6 (some .int) 4 := ⟨⟨w_1689, w_1688, w_765, kd_X12_fog⟩, w_1690, w_1691⟩
set_option maxRecDepth 20000 in
theorem kV_L_231 : okV RL 231 yX11_likely cX11_likely 5 (some .int) 2 := ⟨⟨w_1693, w_1692, w_34, kd_X11_likely⟩, w_1694, w_1695⟩
set_option maxRecDepth 20000 in
theorem kV_L_234 : okV RL 234 yX12_likely cX12_likely 5 (some .int) 2 := ⟨⟨w_1697, w_1696, w_765, kd_X12_likely⟩, w_1698, w_1699⟩
set_option maxRecDepth 20000 in
theorem kV_L_235 : okV RL 235 yX11_can cX11_can 3 (some .int) 2 := ⟨⟨w_1701, w_1700, w_34, kd_X11_can⟩, w_1702, w_1703⟩
set_option maxRecDepth 20000 in
theorem kV_L_238 : okV RL 238 yX12_can cX12_can 5 (some .int) 2 := ⟨⟨w_1705, w_1704, w_765, kd_X12_can⟩, w_1706, w_1707⟩
set_option maxRecDepth 20000 in
theorem kV_L_239 : okV RL 239 yX11_lead cX11_lead 5 (some .int) 3 := ⟨⟨w_1709, w_1708, w_34, kd_X11_lead⟩, w_1710, w_1711⟩
set_option maxRecDepth 20000 in
theorem kV_L_242 : okV RL 242 yX12_lead cX12_lead 5 (some .int) 3 := ⟨⟨w_1713, w_1712, w_765, kd_X12_lead⟩, w_1714, w_1715⟩
set_option maxRecDepth 20000 in
theorem kV_L_243 : okV RL 243 yX11_marks cX11_marks 4 (some .int) 2 := ⟨⟨w_1717, w_1716, w_34, kd_X11_marks⟩, w_1718, w_1719⟩
set_option maxRecDepth 20000 in
theorem kV_L_246 : okV RL 246 yX12_marks cX12_marks 4 (some .int) 2 := ⟨⟨w_1721, w_1720, w_765, kd_X12_marks⟩, w_1722, w_1723⟩
set_option maxRecDepth 20000 in
theorem kV_L_247 : okV RL 247 yX11_drawn cX11_drawn 6 (some .int) 4 := ⟨⟨w_1725, w_1724, w_34, kd_X11_drawn⟩, w_1726, w_1727⟩
set_option maxRecDepth 20000 in
theorem kV_L_250 : okV RL 250 yX12_drawn cX12_drawn 5 (some .int) 4 := ⟨⟨w_1729, w_1728, w_765, kd_X12_drawn⟩, w_1730, w_1731⟩
set_option maxRecDepth 20000 in
theorem kV_L_251 : okV RL 251 yX11_luck cX11_luck 7 (some .int) 4 := ⟨⟨w_1733, w_1732, w_34, kd_X11_luck⟩, w_1734, w_1735⟩
set_option maxRecDepth 20000 in
theorem kV_L_254 : okV RL 254 yX12_luck cX12_luck 7 (some .int) 4 := ⟨⟨w_1737, w_1736, w_765, kd_X12_luck⟩, w_1738, w_1739⟩
set_option maxRecDepth 20000 in
theorem kV_L_255 : okV RL 255 yX11_count cX11_count 2 (some .int) 1 := ⟨⟨w_1741, w_1740, w_34, kd_X11_count⟩, w_1742, w_1743⟩
set_option maxRecDepth 20000 in
theorem kV_L_258 : okV RL 258 yX12_count cX12_count 5 (some .int) 1 := ⟨⟨w_1745, w_1744, w_765, kd_X12_count⟩, w_1746, w_1747⟩
set_option maxRecDepth 20000 in
theorem kV_L_259 : okV RL 259 yX11_image cX11_image 2 (some .int) 1 := ⟨⟨w_1749, w_1748, w_34, kd_X11_image⟩, w_1750, w_1751⟩
set_option maxRecDepth 20000 in
theorem kV_L_263 : okV RL 263 yX11_back cX11_back 2 (some .int) 1 := ⟨⟨w_1753, w_1752, w_34, kd_X11_back⟩, w_1754, w_1755⟩
set_option maxRecDepth 20000 in
theorem kV_L_267 : okV RL 267 yX11_row cX11_row 4 (some .int) 3 := ⟨⟨w_1757, w_1756, w_34, kd_X11_row⟩, w_1758, w_1759⟩
set_option maxRecDepth 20000 in
theorem kV_L_270 : okV RL 270 yX12_row cX12_row 5 (some .int) 3 := ⟨⟨w_1761, w_1760, w_765, kd_X12_row⟩, w_1762, w_1763⟩
set_option maxRecDepth 20000 in
theorem kV_L_273 : okV RL 273 yX11_write cX11_write 5 (some .int) 3 := ⟨⟨w_1766, w_1765, w_34, kd_X11_write⟩, w_1767, w_1768⟩
set_option maxRecDepth 20000 in
theorem kV_L_277 : okV RL 277 yX12_write cX12_write 5 (some .int) 3 := ⟨⟨w_1770, w_1769, w_765, kd_X12_write⟩, w_1771, w_1772⟩
set_option maxRecDepth 20000 in
theorem kV_L_278 : okV RL 278 yX11_paste cX11_paste 6 (some .int) 5 := ⟨⟨w_1774, w_1773, w_34, kd_X11_paste⟩, w_1775, w_1776⟩
set_option maxRecDepth 20000 in
theorem kV_L_281 : okV RL 281 yX12_paste cX12_paste 7 (some .int) 5 := ⟨⟨w_1778, w_1777, w_765, kd_X12_paste⟩, w_1779, w_1780⟩
