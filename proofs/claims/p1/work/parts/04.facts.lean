set_option maxRecDepth 20000 in
theorem w_0 : Cond.constant RX11 375 (2000000000) ∈ wl := tm_5 (List.mem_of_getElem? (i := 200) rfl) rfl
set_option maxRecDepth 20000 in
theorem w_1 : Cond.constant RJ6 265 (1431655765) ∈ wl := tm_3 (List.mem_of_getElem? (i := 180) rfl) rfl
set_option maxRecDepth 20000 in
theorem w_2 : Cond.constant RJ6 266 (858993459) ∈ wl := tm_3 (List.mem_of_getElem? (i := 181) rfl) rfl
set_option maxRecDepth 20000 in
theorem w_3 : Cond.constant RJ6 267 (252645135) ∈ wl := tm_3 (List.mem_of_getElem? (i := 182) rfl) rfl
set_option maxRecDepth 20000 in
theorem w_4 : Cond.laysFinal "LostWood$Wood" "LostWood$Wood" "ways" "[I" ∈ wl := tm_1 (List.mem_of_getElem? (i := 71) rfl) rfl
set_option maxRecDepth 20000 in
theorem w_5 : Cond.laysFinal "LostWood$Wood" "LostWood$Wood" "signs" "[I" ∈ wl := tm_1 (List.mem_of_getElem? (i := 73) rfl) rfl
set_option maxRecDepth 20000 in
theorem w_6 : Cond.laysFinal "LostWood$Wood" "LostWood$Wood" "starts" "[I" ∈ wl := tm_1 (List.mem_of_getElem? (i := 75) rfl) rfl
set_option maxRecDepth 20000 in
theorem w_7 : Cond.laysFinal "LostWood$Wood" "LostWood$Wood" "turns" "[I" ∈ wl := tm_1 (List.mem_of_getElem? (i := 77) rfl) rfl
set_option maxRecDepth 20000 in
theorem w_8 : Cond.laysFinal "LostWood$Wood" "LostWood$Wood" "thoughts" "[I" ∈ wl := tm_1 (List.mem_of_getElem? (i := 79) rfl) rfl
set_option maxRecDepth 20000 in
theorem w_9 : Cond.laysFinal "LostWood$Wood" "LostWood$Wood" "lessonKinds" "[I" ∈ wl := tm_1 (List.mem_of_getElem? (i := 81) rfl) rfl
set_option maxRecDepth 20000 in
theorem w_10 : Cond.laysFinal "LostWood$Wood" "LostWood$Wood" "lessonNumbers" "[I" ∈ wl := tm_1 (List.mem_of_getElem? (i := 83) rfl) rfl
set_option maxRecDepth 20000 in
theorem w_11 : Cond.laysFinal "LostWood$Wood" "LostWood$Wood" "lessonWinds" "[I" ∈ wl := tm_1 (List.mem_of_getElem? (i := 85) rfl) rfl
set_option maxRecDepth 20000 in
theorem w_12 : Cond.lays "LostWood$Wood" "LostWood$Wood" "places" "I" ∈ wl := tm_1 (List.mem_of_getElem? (i := 87) rfl) rfl
set_option maxRecDepth 20000 in
theorem w_13 : Cond.lays "LostWood$Wood" "LostWood$Wood" "pupils" "I" ∈ wl := tm_1 (List.mem_of_getElem? (i := 89) rfl) rfl
set_option maxRecDepth 20000 in
theorem w_14 : Cond.lays "LostWood$Wood" "LostWood$Wood" "lessons" "I" ∈ wl := tm_1 (List.mem_of_getElem? (i := 91) rfl) rfl
set_option maxRecDepth 20000 in
theorem w_15 : Cond.lays "LostWood$Wood" "LostWood$Wood" "lines" "I" ∈ wl := tm_1 (List.mem_of_getElem? (i := 93) rfl) rfl
set_option maxRecDepth 20000 in
theorem w_16 : Cond.fieldLink RX10 42 "LostWood$Wood" "places" "I" ∈ wl := tm_1 (List.mem_of_getElem? (i := 56) rfl) rfl
set_option maxRecDepth 20000 in
theorem w_17 : Cond.fieldLink RX10 46 "LostWood$Wood" "pupils" "I" ∈ wl := tm_1 (List.mem_of_getElem? (i := 61) rfl) rfl
set_option maxRecDepth 20000 in
theorem w_18 : Cond.fieldLink RX10 52 "LostWood$Wood" "lines" "I" ∈ wl := tm_1 (List.mem_of_getElem? (i := 68) rfl) rfl
set_option maxRecDepth 20000 in
theorem w_19 : Cond.code yX10_all cX10_all 1 (some .int) ∈ wl := tm_3 (List.mem_of_getElem? (i := 133) rfl) rfl
set_option maxRecDepth 20000 in
theorem w_20 : Cond.initialized RX10 ∈ wl := tm_1 (List.mem_of_getElem? (i := 3) rfl) rfl
set_option maxRecDepth 20000 in
theorem w_21 : Cond.methodLink RX10 61 yX10_all ∈ wl := tm_3 (List.mem_of_getElem? (i := 130) rfl) rfl
set_option maxRecDepth 20000 in
theorem w_22 : Cond.instanceMethod yX10_all ∈ wl := tm_3 (List.mem_of_getElem? (i := 131) rfl) rfl
set_option maxRecDepth 20000 in
theorem w_23 : Cond.selects RX10 yX10_all yX10_all ∈ wl := tm_3 (List.mem_of_getElem? (i := 132) rfl) rfl
set_option maxRecDepth 20000 in
theorem w_24 : Cond.code yX10_showing cX10_showing 5 (some .int) ∈ wl := tm_3 (List.mem_of_getElem? (i := 148) rfl) rfl
set_option maxRecDepth 20000 in
theorem w_25 : Cond.methodLink RX10 76 yX10_showing ∈ wl := tm_5 (List.mem_of_getElem? (i := 2) rfl) rfl
set_option maxRecDepth 20000 in
theorem w_26 : Cond.instanceMethod yX10_showing ∈ wl := tm_3 (List.mem_of_getElem? (i := 146) rfl) rfl
set_option maxRecDepth 20000 in
theorem w_27 : Cond.selects RX10 yX10_showing yX10_showing ∈ wl := tm_3 (List.mem_of_getElem? (i := 147) rfl) rfl
set_option maxRecDepth 20000 in
theorem w_28 : Cond.code yX11_isSlot cX11_isSlot 1 (some .boolean) ∈ wl := tm_4 (List.mem_of_getElem? (i := 2) rfl) rfl
set_option maxRecDepth 20000 in
theorem w_29 : Cond.initialized RX11 ∈ wl := tm_1 (List.mem_of_getElem? (i := 1) rfl) rfl
set_option maxRecDepth 20000 in
theorem w_30 : Cond.static yX11_isSlot ∈ wl := tm_4 (List.mem_of_getElem? (i := 1) rfl) rfl
set_option maxRecDepth 20000 in
theorem w_31 : Cond.laysFinal "LostWood$Rows" "LostWood$Rows" "numbers" "[J" ∈ wl := tm_1 (List.mem_of_getElem? (i := 201) rfl) rfl
set_option maxRecDepth 20000 in
theorem w_32 : Cond.laysFinal "LostWood$Rows" "LostWood$Rows" "widths" "[I" ∈ wl := tm_1 (List.mem_of_getElem? (i := 203) rfl) rfl
set_option maxRecDepth 20000 in
theorem w_33 : Cond.laysFinal "LostWood$Rows" "LostWood$Rows" "sizes" "[I" ∈ wl := tm_1 (List.mem_of_getElem? (i := 205) rfl) rfl
set_option maxRecDepth 20000 in
theorem w_34 : Cond.fieldLink RX5 19 "LostWood$Rows" "sizes" "[I" ∈ wl := tm_1 (List.mem_of_getElem? (i := 200) rfl) rfl
set_option maxRecDepth 20000 in
theorem w_35 : Cond.code yX5_has cX5_has 2 (some .boolean) ∈ wl := tm_4 (List.mem_of_getElem? (i := 6) rfl) rfl
set_option maxRecDepth 20000 in
theorem w_36 : Cond.initialized RX5 ∈ wl := tm_1 (List.mem_of_getElem? (i := 6) rfl) rfl
set_option maxRecDepth 20000 in
theorem w_37 : Cond.methodLink RX5 35 yX5_has ∈ wl := tm_4 (List.mem_of_getElem? (i := 12) rfl) rfl
set_option maxRecDepth 20000 in
theorem w_38 : Cond.instanceMethod yX5_has ∈ wl := tm_4 (List.mem_of_getElem? (i := 4) rfl) rfl
set_option maxRecDepth 20000 in
theorem w_39 : Cond.selects RX5 yX5_has yX5_has ∈ wl := tm_4 (List.mem_of_getElem? (i := 5) rfl) rfl
set_option maxRecDepth 20000 in
theorem w_40 : Cond.laysFinal "LostWood" "LostWood" "reader" "LLostWood$Reader;" ∈ wl := tm_2 (List.mem_of_getElem? (i := 123) rfl) rfl
set_option maxRecDepth 20000 in
theorem w_41 : Cond.laysFinal "LostWood" "LostWood" "here" "LLostWood$Wood;" ∈ wl := tm_2 (List.mem_of_getElem? (i := 125) rfl) rfl
set_option maxRecDepth 20000 in
theorem w_42 : Cond.laysFinal "LostWood" "LostWood" "party" "LLostWood$Party;" ∈ wl := tm_2 (List.mem_of_getElem? (i := 127) rfl) rfl
set_option maxRecDepth 20000 in
theorem w_43 : Cond.laysFinal "LostWood" "LostWood" "walker" "LLostWood$Walker;" ∈ wl := tm_2 (List.mem_of_getElem? (i := 129) rfl) rfl
set_option maxRecDepth 20000 in
theorem w_44 : Cond.laysFinal "LostWood" "LostWood" "rows" "LLostWood$Rows;" ∈ wl := tm_2 (List.mem_of_getElem? (i := 131) rfl) rfl
set_option maxRecDepth 20000 in
theorem w_45 : Cond.laysFinal "LostWood" "LostWood" "minds" "LLostWood$Minds;" ∈ wl := tm_2 (List.mem_of_getElem? (i := 133) rfl) rfl
set_option maxRecDepth 20000 in
theorem w_46 : Cond.laysFinal "LostWood" "LostWood" "sets" "LLostWood$Sets;" ∈ wl := tm_2 (List.mem_of_getElem? (i := 135) rfl) rfl
set_option maxRecDepth 20000 in
theorem w_47 : Cond.laysFinal "LostWood" "LostWood" "plans" "LLostWood$Plans;" ∈ wl := tm_2 (List.mem_of_getElem? (i := 137) rfl) rfl
set_option maxRecDepth 20000 in
theorem w_48 : Cond.laysFinal "LostWood" "LostWood" "courses" "LLostWood$Courses;" ∈ wl := tm_2 (List.mem_of_getElem? (i := 139) rfl) rfl
set_option maxRecDepth 20000 in
theorem w_49 : Cond.laysFinal "LostWood" "LostWood" "travel" "LLostWood$Travel;" ∈ wl := tm_2 (List.mem_of_getElem? (i := 141) rfl) rfl
set_option maxRecDepth 20000 in
theorem w_50 : Cond.laysFinal "LostWood" "LostWood" "imageWoods" "[LLostWood$Wood;" ∈ wl := tm_2 (List.mem_of_getElem? (i := 143) rfl) rfl
set_option maxRecDepth 20000 in
theorem w_51 : Cond.laysFinal "LostWood" "LostWood" "imageParties" "[LLostWood$Party;" ∈ wl := tm_2 (List.mem_of_getElem? (i := 145) rfl) rfl
set_option maxRecDepth 20000 in
theorem w_52 : Cond.fieldLink RX11 19 "LostWood" "here" "LLostWood$Wood;" ∈ wl := tm_2 (List.mem_of_getElem? (i := 112) rfl) rfl
set_option maxRecDepth 20000 in
theorem w_53 : Cond.code yX10_hasPlace cX10_hasPlace 2 (some .boolean) ∈ wl := tm_3 (List.mem_of_getElem? (i := 48) rfl) rfl
set_option maxRecDepth 20000 in
theorem w_54 : Cond.methodLink RX11 126 yX10_hasPlace ∈ wl := tm_3 (List.mem_of_getElem? (i := 108) rfl) rfl
set_option maxRecDepth 20000 in
theorem w_55 : Cond.instanceMethod yX10_hasPlace ∈ wl := tm_3 (List.mem_of_getElem? (i := 46) rfl) rfl
set_option maxRecDepth 20000 in
theorem w_56 : Cond.selects RX10 yX10_hasPlace yX10_hasPlace ∈ wl := tm_3 (List.mem_of_getElem? (i := 47) rfl) rfl
set_option maxRecDepth 20000 in
theorem w_57 : Cond.code yX10_hasPupil cX10_hasPupil 2 (some .boolean) ∈ wl := tm_3 (List.mem_of_getElem? (i := 160) rfl) rfl
set_option maxRecDepth 20000 in
theorem w_58 : Cond.methodLink RX11 334 yX10_hasPupil ∈ wl := tm_3 (List.mem_of_getElem? (i := 157) rfl) rfl
set_option maxRecDepth 20000 in
theorem w_59 : Cond.instanceMethod yX10_hasPupil ∈ wl := tm_3 (List.mem_of_getElem? (i := 158) rfl) rfl
set_option maxRecDepth 20000 in
theorem w_60 : Cond.selects RX10 yX10_hasPupil yX10_hasPupil ∈ wl := tm_3 (List.mem_of_getElem? (i := 159) rfl) rfl
set_option maxRecDepth 20000 in
theorem w_61 : Cond.methodLink RX11 352 yX11_isSlot ∈ wl := tm_4 (List.mem_of_getElem? (i := 0) rfl) rfl
set_option maxRecDepth 20000 in
theorem w_62 : Cond.code yX11_stand cX11_stand 2 (some .boolean) ∈ wl := tm_3 (List.mem_of_getElem? (i := 156) rfl) rfl
set_option maxRecDepth 20000 in
theorem w_63 : Cond.methodLink RX11 152 yX11_stand ∈ wl := tm_3 (List.mem_of_getElem? (i := 153) rfl) rfl
set_option maxRecDepth 20000 in
theorem w_64 : Cond.instanceMethod yX11_stand ∈ wl := tm_3 (List.mem_of_getElem? (i := 155) rfl) rfl
set_option maxRecDepth 20000 in
theorem w_65 : Cond.selects RX11 yX11_stand yX11_stand ∈ wl := tp_1 (q := (yX11_stand, 12)) (List.mem_of_getElem? (i := 15) rfl)
set_option maxRecDepth 20000 in
theorem w_66 : Cond.code yX10_stands cX10_stands 1 (some .boolean) ∈ wl := tm_3 (List.mem_of_getElem? (i := 215) rfl) rfl
set_option maxRecDepth 20000 in
theorem w_67 : Cond.methodLink RX11 185 yX10_stands ∈ wl := tm_3 (List.mem_of_getElem? (i := 212) rfl) rfl
set_option maxRecDepth 20000 in
theorem w_68 : Cond.instanceMethod yX10_stands ∈ wl := tm_3 (List.mem_of_getElem? (i := 213) rfl) rfl
set_option maxRecDepth 20000 in
theorem w_69 : Cond.selects RX10 yX10_stands yX10_stands ∈ wl := tm_3 (List.mem_of_getElem? (i := 214) rfl) rfl
set_option maxRecDepth 20000 in
theorem w_70 : Cond.code yX10_hasSet cX10_hasSet 2 (some .boolean) ∈ wl := tm_3 (List.mem_of_getElem? (i := 129) rfl) rfl
set_option maxRecDepth 20000 in
theorem w_71 : Cond.methodLink RX11 140 yX10_hasSet ∈ wl := tm_3 (List.mem_of_getElem? (i := 126) rfl) rfl
set_option maxRecDepth 20000 in
theorem w_72 : Cond.instanceMethod yX10_hasSet ∈ wl := tm_3 (List.mem_of_getElem? (i := 127) rfl) rfl
set_option maxRecDepth 20000 in
theorem w_73 : Cond.selects RX10 yX10_hasSet yX10_hasSet ∈ wl := tm_3 (List.mem_of_getElem? (i := 128) rfl) rfl
set_option maxRecDepth 20000 in
theorem w_74 : Cond.code yX11_isWind cX11_isWind 1 (some .boolean) ∈ wl := tm_3 (List.mem_of_getElem? (i := 51) rfl) rfl
set_option maxRecDepth 20000 in
theorem w_75 : Cond.methodLink RX11 129 yX11_isWind ∈ wl := tm_3 (List.mem_of_getElem? (i := 109) rfl) rfl
set_option maxRecDepth 20000 in
theorem w_76 : Cond.static yX11_isWind ∈ wl := tm_3 (List.mem_of_getElem? (i := 50) rfl) rfl
set_option maxRecDepth 20000 in
theorem w_77 : Cond.code yX11_refuseWalk cX11_refuseWalk 4 (some .int) ∈ wl := tm_3 (List.mem_of_getElem? (i := 239) rfl) rfl
set_option maxRecDepth 20000 in
theorem w_78 : Cond.methodLink RX11 191 yX11_refuseWalk ∈ wl := tm_3 (List.mem_of_getElem? (i := 236) rfl) rfl
set_option maxRecDepth 20000 in
theorem w_79 : Cond.instanceMethod yX11_refuseWalk ∈ wl := tm_3 (List.mem_of_getElem? (i := 238) rfl) rfl
set_option maxRecDepth 20000 in
theorem w_80 : Cond.selects RX11 yX11_refuseWalk yX11_refuseWalk ∈ wl := tp_2 (q := (yX11_refuseWalk, 12)) (List.mem_of_getElem? (i := 0) rfl)
set_option maxRecDepth 20000 in
theorem w_81 : Cond.code yX11_seek cX11_seek 4 (some .boolean) ∈ wl := tm_4 (List.mem_of_getElem? (i := 55) rfl) rfl
set_option maxRecDepth 20000 in
theorem w_82 : Cond.methodLink RX11 212 yX11_seek ∈ wl := tm_4 (List.mem_of_getElem? (i := 52) rfl) rfl
set_option maxRecDepth 20000 in
theorem w_83 : Cond.instanceMethod yX11_seek ∈ wl := tm_4 (List.mem_of_getElem? (i := 54) rfl) rfl
set_option maxRecDepth 20000 in
theorem w_84 : Cond.selects RX11 yX11_seek yX11_seek ∈ wl := tp_2 (q := (yX11_seek, 12)) (List.mem_of_getElem? (i := 3) rfl)
set_option maxRecDepth 20000 in
theorem w_85 : Cond.code yX11_arePlaces cX11_arePlaces 3 (some .boolean) ∈ wl := tm_4 (List.mem_of_getElem? (i := 200) rfl) rfl
set_option maxRecDepth 20000 in
theorem w_86 : Cond.methodLink RX11 236 yX11_arePlaces ∈ wl := tm_4 (List.mem_of_getElem? (i := 197) rfl) rfl
set_option maxRecDepth 20000 in
theorem w_87 : Cond.instanceMethod yX11_arePlaces ∈ wl := tm_4 (List.mem_of_getElem? (i := 199) rfl) rfl
set_option maxRecDepth 20000 in
theorem w_88 : Cond.selects RX11 yX11_arePlaces yX11_arePlaces ∈ wl := tp_2 (q := (yX11_arePlaces, 12)) (List.mem_of_getElem? (i := 7) rfl)
set_option maxRecDepth 20000 in
theorem w_89 : Cond.code yX11_refuseReading cX11_refuseReading 3 (some .int) ∈ wl := tm_5 (List.mem_of_getElem? (i := 65) rfl) rfl
set_option maxRecDepth 20000 in
theorem w_90 : Cond.methodLink RX11 269 yX11_refuseReading ∈ wl := tm_5 (List.mem_of_getElem? (i := 62) rfl) rfl
set_option maxRecDepth 20000 in
theorem w_91 : Cond.instanceMethod yX11_refuseReading ∈ wl := tm_5 (List.mem_of_getElem? (i := 64) rfl) rfl
set_option maxRecDepth 20000 in
theorem w_92 : Cond.selects RX11 yX11_refuseReading yX11_refuseReading ∈ wl := tp_2 (q := (yX11_refuseReading, 12)) (List.mem_of_getElem? (i := 12) rfl)
set_option maxRecDepth 20000 in
theorem w_93 : Cond.code yX11_isDraw cX11_isDraw 2 (some .boolean) ∈ wl := tm_5 (List.mem_of_getElem? (i := 199) rfl) rfl
set_option maxRecDepth 20000 in
theorem w_94 : Cond.methodLink RX11 328 yX11_isDraw ∈ wl := tm_5 (List.mem_of_getElem? (i := 197) rfl) rfl
set_option maxRecDepth 20000 in
theorem w_95 : Cond.static yX11_isDraw ∈ wl := tm_5 (List.mem_of_getElem? (i := 198) rfl) rfl
set_option maxRecDepth 20000 in
theorem w_96 : Cond.fieldLink RX11 12 "LostWood" "reader" "LLostWood$Reader;" ∈ wl := tm_2 (List.mem_of_getElem? (i := 111) rfl) rfl
set_option maxRecDepth 20000 in
theorem w_97 : Cond.laysFinal "LostWood$Reader" "LostWood$Reader" "tape" "[B" ∈ wl := tm_1 (List.mem_of_getElem? (i := 112) rfl) rfl
set_option maxRecDepth 20000 in
theorem w_98 : Cond.lays "LostWood$Reader" "LostWood$Reader" "length" "I" ∈ wl := tm_1 (List.mem_of_getElem? (i := 114) rfl) rfl
set_option maxRecDepth 20000 in
theorem w_99 : Cond.lays "LostWood$Reader" "LostWood$Reader" "faultKind" "I" ∈ wl := tm_1 (List.mem_of_getElem? (i := 116) rfl) rfl
set_option maxRecDepth 20000 in
theorem w_100 : Cond.lays "LostWood$Reader" "LostWood$Reader" "faultPlace" "I" ∈ wl := tm_1 (List.mem_of_getElem? (i := 118) rfl) rfl
set_option maxRecDepth 20000 in
theorem w_101 : Cond.laysFinal "LostWood$Reader" "LostWood$Reader" "draft" "LLostWood$Wood;" ∈ wl := tm_1 (List.mem_of_getElem? (i := 120) rfl) rfl
set_option maxRecDepth 20000 in
theorem w_102 : Cond.lays "LostWood$Reader" "LostWood$Reader" "kind" "I" ∈ wl := tm_1 (List.mem_of_getElem? (i := 122) rfl) rfl
set_option maxRecDepth 20000 in
theorem w_103 : Cond.lays "LostWood$Reader" "LostWood$Reader" "from" "I" ∈ wl := tm_1 (List.mem_of_getElem? (i := 124) rfl) rfl
set_option maxRecDepth 20000 in
theorem w_104 : Cond.lays "LostWood$Reader" "LostWood$Reader" "behind" "I" ∈ wl := tm_1 (List.mem_of_getElem? (i := 126) rfl) rfl
set_option maxRecDepth 20000 in
theorem w_105 : Cond.lays "LostWood$Reader" "LostWood$Reader" "number" "I" ∈ wl := tm_1 (List.mem_of_getElem? (i := 128) rfl) rfl
set_option maxRecDepth 20000 in
theorem w_106 : Cond.lays "LostWood$Reader" "LostWood$Reader" "taken" "I" ∈ wl := tm_1 (List.mem_of_getElem? (i := 130) rfl) rfl
set_option maxRecDepth 20000 in
theorem w_107 : Cond.fieldLink RX11 123 "LostWood$Reader" "faultPlace" "I" ∈ wl := tm_1 (List.mem_of_getElem? (i := 104) rfl) rfl
set_option maxRecDepth 20000 in
theorem w_108 : Cond.fieldLink RX11 120 "LostWood$Reader" "faultKind" "I" ∈ wl := tm_1 (List.mem_of_getElem? (i := 102) rfl) rfl
set_option maxRecDepth 20000 in
theorem w_109 : Cond.fieldLink RX11 233 "LostWood$Wood" "places" "I" ∈ wl := tm_1 (List.mem_of_getElem? (i := 60) rfl) rfl
set_option maxRecDepth 20000 in
theorem w_110 : Cond.code yX10_waysElsewhere cX10_waysElsewhere 4 (some .int) ∈ wl := tm_5 (List.mem_of_getElem? (i := 219) rfl) rfl
set_option maxRecDepth 20000 in
theorem w_111 : Cond.methodLink RX11 337 yX10_waysElsewhere ∈ wl := tm_5 (List.mem_of_getElem? (i := 216) rfl) rfl
set_option maxRecDepth 20000 in
theorem w_112 : Cond.instanceMethod yX10_waysElsewhere ∈ wl := tm_5 (List.mem_of_getElem? (i := 217) rfl) rfl
set_option maxRecDepth 20000 in
theorem w_113 : Cond.selects RX10 yX10_waysElsewhere yX10_waysElsewhere ∈ wl := tm_5 (List.mem_of_getElem? (i := 218) rfl) rfl
set_option maxRecDepth 20000 in
theorem w_114 : Cond.code yX10_marked cX10_marked 1 (some .int) ∈ wl := tm_5 (List.mem_of_getElem? (i := 1) rfl) rfl
set_option maxRecDepth 20000 in
theorem w_115 : Cond.methodLink RX11 340 yX10_marked ∈ wl := tm_4 (List.mem_of_getElem? (i := 238) rfl) rfl
set_option maxRecDepth 20000 in
theorem w_116 : Cond.instanceMethod yX10_marked ∈ wl := tm_4 (List.mem_of_getElem? (i := 239) rfl) rfl
set_option maxRecDepth 20000 in
theorem w_117 : Cond.selects RX10 yX10_marked yX10_marked ∈ wl := tm_5 (List.mem_of_getElem? (i := 0) rfl) rfl
set_option maxRecDepth 20000 in
theorem w_118 : Cond.code yJ6_bitCount_0f7a4 cJ6_bitCount_0f7a4 1 (some .int) ∈ wl := tm_3 (List.mem_of_getElem? (i := 179) rfl) rfl
set_option maxRecDepth 20000 in
theorem w_119 : Cond.initialized "java/lang/Integer" ∈ wl := tm_1 (List.mem_of_getElem? (i := 21) rfl) rfl
set_option maxRecDepth 20000 in
theorem w_120 : Cond.methodLink RX11 251 yJ6_bitCount_0f7a4 ∈ wl := tm_5 (List.mem_of_getElem? (i := 3) rfl) rfl
set_option maxRecDepth 20000 in
theorem w_121 : Cond.static yJ6_bitCount_0f7a4 ∈ wl := tm_3 (List.mem_of_getElem? (i := 178) rfl) rfl
set_option maxRecDepth 20000 in
theorem w_122 : Cond.fieldLink RX11 343 "LostWood$Wood" "pupils" "I" ∈ wl := tm_1 (List.mem_of_getElem? (i := 63) rfl) rfl
set_option maxRecDepth 20000 in
theorem w_123 : Cond.fieldLink RX11 291 "LostWood$Wood" "lessons" "I" ∈ wl := tm_1 (List.mem_of_getElem? (i := 67) rfl) rfl
set_option maxRecDepth 20000 in
theorem w_124 : Cond.fieldLink RX11 117 "LostWood$Wood" "lines" "I" ∈ wl := tm_1 (List.mem_of_getElem? (i := 69) rfl) rfl
set_option maxRecDepth 20000 in
theorem w_125 : Cond.fieldLink RX11 95 "LostWood$Reader" "length" "I" ∈ wl := tm_1 (List.mem_of_getElem? (i := 100) rfl) rfl
set_option maxRecDepth 20000 in
theorem w_126 : Cond.fieldLink RX11 26 "LostWood" "party" "LLostWood$Party;" ∈ wl := tm_2 (List.mem_of_getElem? (i := 113) rfl) rfl
set_option maxRecDepth 20000 in
theorem w_127 : Cond.laysFinal "LostWood$Party" "LostWood$Party" "at" "[I" ∈ wl := tm_1 (List.mem_of_getElem? (i := 150) rfl) rfl
set_option maxRecDepth 20000 in
theorem w_128 : Cond.laysFinal "LostWood$Party" "LostWood$Party" "thought" "[I" ∈ wl := tm_1 (List.mem_of_getElem? (i := 152) rfl) rfl
set_option maxRecDepth 20000 in
theorem w_129 : Cond.laysFinal "LostWood$Party" "LostWood$Party" "whose" "[I" ∈ wl := tm_1 (List.mem_of_getElem? (i := 154) rfl) rfl
set_option maxRecDepth 20000 in
theorem w_130 : Cond.laysFinal "LostWood$Party" "LostWood$Party" "wasAt" "[I" ∈ wl := tm_1 (List.mem_of_getElem? (i := 156) rfl) rfl
set_option maxRecDepth 20000 in
theorem w_131 : Cond.laysFinal "LostWood$Party" "LostWood$Party" "wasThought" "[I" ∈ wl := tm_1 (List.mem_of_getElem? (i := 158) rfl) rfl
set_option maxRecDepth 20000 in
theorem w_132 : Cond.lays "LostWood$Party" "LostWood$Party" "steps" "I" ∈ wl := tm_1 (List.mem_of_getElem? (i := 160) rfl) rfl
set_option maxRecDepth 20000 in
theorem w_133 : Cond.fieldLink RX11 174 "LostWood$Party" "steps" "I" ∈ wl := tm_1 (List.mem_of_getElem? (i := 149) rfl) rfl
set_option maxRecDepth 20000 in
theorem w_134 : Cond.fieldLink RX11 40 "LostWood" "rows" "LLostWood$Rows;" ∈ wl := tm_2 (List.mem_of_getElem? (i := 115) rfl) rfl
set_option maxRecDepth 20000 in
theorem w_135 : Cond.code yX5_kept cX5_kept 3 (some .int) ∈ wl := tm_5 (List.mem_of_getElem? (i := 224) rfl) rfl
set_option maxRecDepth 20000 in
theorem w_136 : Cond.methodLink RX11 346 yX5_kept ∈ wl := tm_5 (List.mem_of_getElem? (i := 221) rfl) rfl
set_option maxRecDepth 20000 in
theorem w_137 : Cond.instanceMethod yX5_kept ∈ wl := tm_5 (List.mem_of_getElem? (i := 222) rfl) rfl
set_option maxRecDepth 20000 in
theorem w_138 : Cond.selects RX5 yX5_kept yX5_kept ∈ wl := tm_5 (List.mem_of_getElem? (i := 223) rfl) rfl
set_option maxRecDepth 20000 in
theorem w_139 : Cond.fieldLink RX11 79 "LostWood" "imageWoods" "[LLostWood$Wood;" ∈ wl := tm_2 (List.mem_of_getElem? (i := 121) rfl) rfl
set_option maxRecDepth 20000 in
theorem w_140 : Cond.methodLink RX11 358 yX5_has ∈ wl := tm_4 (List.mem_of_getElem? (i := 3) rfl) rfl
set_option maxRecDepth 20000 in
theorem w_141 : Cond.lays "LostWoodModel" "LostWoodModel" "thrown" "I" ∈ wl := tm_6 (List.mem_of_getElem? (i := 100) rfl) rfl
set_option maxRecDepth 20000 in
theorem w_142 : Cond.laysFinal "LostWoodModel" "LostWoodModel" "world" "[I" ∈ wl := tm_6 (List.mem_of_getElem? (i := 102) rfl) rfl
set_option maxRecDepth 20000 in
theorem w_143 : Cond.laysFinal "LostWoodModel" "LostWoodModel" "images" "[I" ∈ wl := tm_6 (List.mem_of_getElem? (i := 104) rfl) rfl
set_option maxRecDepth 20000 in
theorem w_144 : Cond.laysFinal "LostWoodModel" "LostWoodModel" "hasImage" "[Z" ∈ wl := tm_6 (List.mem_of_getElem? (i := 106) rfl) rfl
set_option maxRecDepth 20000 in
theorem w_145 : Cond.laysFinal "LostWoodModel" "LostWoodModel" "tape" "[B" ∈ wl := tm_6 (List.mem_of_getElem? (i := 108) rfl) rfl
set_option maxRecDepth 20000 in
theorem w_146 : Cond.lays "LostWoodModel" "LostWoodModel" "taped" "I" ∈ wl := tm_6 (List.mem_of_getElem? (i := 110) rfl) rfl
set_option maxRecDepth 20000 in
theorem w_147 : Cond.laysFinal "LostWoodModel" "LostWoodModel" "five" "[I" ∈ wl := tm_6 (List.mem_of_getElem? (i := 112) rfl) rfl
set_option maxRecDepth 20000 in
theorem w_148 : Cond.lays "LostWoodModel" "LostWoodModel" "size" "I" ∈ wl := tm_6 (List.mem_of_getElem? (i := 114) rfl) rfl
set_option maxRecDepth 20000 in
theorem w_149 : Cond.lays "LostWoodModel" "LostWoodModel" "at" "I" ∈ wl := tm_6 (List.mem_of_getElem? (i := 116) rfl) rfl
set_option maxRecDepth 20000 in
theorem w_150 : Cond.lays "LostWoodModel" "LostWoodModel" "from" "I" ∈ wl := tm_6 (List.mem_of_getElem? (i := 118) rfl) rfl
set_option maxRecDepth 20000 in
theorem w_151 : Cond.lays "LostWoodModel" "LostWoodModel" "token" "I" ∈ wl := tm_6 (List.mem_of_getElem? (i := 120) rfl) rfl
set_option maxRecDepth 20000 in
theorem w_152 : Cond.lays "LostWoodModel" "LostWoodModel" "value" "I" ∈ wl := tm_6 (List.mem_of_getElem? (i := 122) rfl) rfl
set_option maxRecDepth 20000 in
theorem w_153 : Cond.lays "LostWoodModel" "LostWoodModel" "faultKind" "I" ∈ wl := tm_6 (List.mem_of_getElem? (i := 124) rfl) rfl
set_option maxRecDepth 20000 in
theorem w_154 : Cond.lays "LostWoodModel" "LostWoodModel" "faultPlace" "I" ∈ wl := tm_6 (List.mem_of_getElem? (i := 126) rfl) rfl
set_option maxRecDepth 20000 in
theorem w_155 : Cond.laysFinal "LostWoodModel" "LostWoodModel" "fresh" "[I" ∈ wl := tm_6 (List.mem_of_getElem? (i := 128) rfl) rfl
set_option maxRecDepth 20000 in
theorem w_156 : Cond.lays "LostWoodModel" "LostWoodModel" "where" "I" ∈ wl := tm_6 (List.mem_of_getElem? (i := 130) rfl) rfl
set_option maxRecDepth 20000 in
theorem w_157 : Cond.lays "LostWoodModel" "LostWoodModel" "thinks" "I" ∈ wl := tm_6 (List.mem_of_getElem? (i := 132) rfl) rfl
set_option maxRecDepth 20000 in
theorem w_158 : Cond.lays "LostWoodModel" "LostWoodModel" "lies" "I" ∈ wl := tm_6 (List.mem_of_getElem? (i := 134) rfl) rfl
set_option maxRecDepth 20000 in
theorem w_159 : Cond.lays "LostWoodModel" "LostWoodModel" "firstKnows" "I" ∈ wl := tm_6 (List.mem_of_getElem? (i := 136) rfl) rfl
set_option maxRecDepth 20000 in
theorem w_160 : Cond.lays "LostWoodModel" "LostWoodModel" "firstLost" "I" ∈ wl := tm_6 (List.mem_of_getElem? (i := 138) rfl) rfl
set_option maxRecDepth 20000 in
theorem w_161 : Cond.lays "LostWoodModel" "LostWoodModel" "mostDoubt" "I" ∈ wl := tm_6 (List.mem_of_getElem? (i := 140) rfl) rfl
set_option maxRecDepth 20000 in
theorem w_162 : Cond.laysFinal "LostWoodModel" "LostWoodModel" "queue" "[I" ∈ wl := tm_6 (List.mem_of_getElem? (i := 142) rfl) rfl
set_option maxRecDepth 20000 in
theorem w_163 : Cond.laysFinal "LostWoodModel" "LostWoodModel" "farOf" "[I" ∈ wl := tm_6 (List.mem_of_getElem? (i := 144) rfl) rfl
set_option maxRecDepth 20000 in
theorem w_164 : Cond.laysFinal "LostWoodModel" "LostWoodModel" "cameBy" "[I" ∈ wl := tm_6 (List.mem_of_getElem? (i := 146) rfl) rfl
set_option maxRecDepth 20000 in
theorem w_165 : Cond.laysFinal "LostWoodModel" "LostWoodModel" "cameFrom" "[I" ∈ wl := tm_6 (List.mem_of_getElem? (i := 148) rfl) rfl
set_option maxRecDepth 20000 in
theorem w_166 : Cond.lays "LostWoodModel" "LostWoodModel" "queued" "I" ∈ wl := tm_6 (List.mem_of_getElem? (i := 150) rfl) rfl
set_option maxRecDepth 20000 in
theorem w_167 : Cond.laysFinal "LostWoodModel" "LostWoodModel" "depth" "[I" ∈ wl := tm_6 (List.mem_of_getElem? (i := 152) rfl) rfl
set_option maxRecDepth 20000 in
theorem w_168 : Cond.laysFinal "LostWoodModel" "LostWoodModel" "kind" "[I" ∈ wl := tm_6 (List.mem_of_getElem? (i := 154) rfl) rfl
set_option maxRecDepth 20000 in
theorem w_169 : Cond.laysFinal "LostWoodModel" "LostWoodModel" "kindThen" "[I" ∈ wl := tm_6 (List.mem_of_getElem? (i := 156) rfl) rfl
set_option maxRecDepth 20000 in
theorem w_170 : Cond.laysFinal "LostWoodModel" "LostWoodModel" "twos" "[I" ∈ wl := tm_6 (List.mem_of_getElem? (i := 158) rfl) rfl
set_option maxRecDepth 20000 in
theorem w_171 : Cond.laysFinal "LostWoodModel" "LostWoodModel" "twoFar" "[I" ∈ wl := tm_6 (List.mem_of_getElem? (i := 160) rfl) rfl
set_option maxRecDepth 20000 in
theorem w_172 : Cond.laysFinal "LostWoodModel" "LostWoodModel" "twoBy" "[I" ∈ wl := tm_6 (List.mem_of_getElem? (i := 162) rfl) rfl
set_option maxRecDepth 20000 in
theorem w_173 : Cond.laysFinal "LostWoodModel" "LostWoodModel" "twoFrom" "[I" ∈ wl := tm_6 (List.mem_of_getElem? (i := 164) rfl) rfl
set_option maxRecDepth 20000 in
theorem w_174 : Cond.laysFinal "LostWoodModel" "LostWoodModel" "setQueue" "[I" ∈ wl := tm_6 (List.mem_of_getElem? (i := 166) rfl) rfl
set_option maxRecDepth 20000 in
theorem w_175 : Cond.laysFinal "LostWoodModel" "LostWoodModel" "setFar" "[I" ∈ wl := tm_6 (List.mem_of_getElem? (i := 168) rfl) rfl
set_option maxRecDepth 20000 in
theorem w_176 : Cond.laysFinal "LostWoodModel" "LostWoodModel" "setBy" "[I" ∈ wl := tm_6 (List.mem_of_getElem? (i := 170) rfl) rfl
set_option maxRecDepth 20000 in
theorem w_177 : Cond.laysFinal "LostWoodModel" "LostWoodModel" "setFrom" "[I" ∈ wl := tm_6 (List.mem_of_getElem? (i := 172) rfl) rfl
set_option maxRecDepth 20000 in
theorem w_178 : Cond.lays "LostWoodModel" "LostWoodModel" "setQueued" "I" ∈ wl := tm_6 (List.mem_of_getElem? (i := 174) rfl) rfl
set_option maxRecDepth 20000 in
theorem w_179 : Cond.lays "LostWoodModel" "LostWoodModel" "meetSteps" "I" ∈ wl := tm_6 (List.mem_of_getElem? (i := 176) rfl) rfl
set_option maxRecDepth 20000 in
theorem w_180 : Cond.lays "LostWoodModel" "LostWoodModel" "meetSet" "I" ∈ wl := tm_6 (List.mem_of_getElem? (i := 178) rfl) rfl
set_option maxRecDepth 20000 in
theorem w_181 : Cond.laysFinal "LostWoodModel" "LostWoodModel" "order" "[I" ∈ wl := tm_6 (List.mem_of_getElem? (i := 180) rfl) rfl
set_option maxRecDepth 20000 in
theorem w_182 : Cond.laysFinal "LostWoodModel" "LostWoodModel" "bestOrder" "[I" ∈ wl := tm_6 (List.mem_of_getElem? (i := 182) rfl) rfl
set_option maxRecDepth 20000 in
theorem w_183 : Cond.laysFinal "LostWoodModel" "LostWoodModel" "kept" "[I" ∈ wl := tm_6 (List.mem_of_getElem? (i := 184) rfl) rfl
set_option maxRecDepth 20000 in
theorem w_184 : Cond.lays "LostWoodModel" "LostWoodModel" "courseMost" "I" ∈ wl := tm_6 (List.mem_of_getElem? (i := 186) rfl) rfl
set_option maxRecDepth 20000 in
theorem w_185 : Cond.lays "LostWoodModel" "LostWoodModel" "courseLeast" "I" ∈ wl := tm_6 (List.mem_of_getElem? (i := 188) rfl) rfl
set_option maxRecDepth 20000 in
theorem w_186 : Cond.laysFinal "LostWoodModel" "LostWoodModel" "cost" "[I" ∈ wl := tm_6 (List.mem_of_getElem? (i := 190) rfl) rfl
set_option maxRecDepth 20000 in
theorem w_187 : Cond.laysFinal "LostWoodModel" "LostWoodModel" "rows" "[I" ∈ wl := tm_6 (List.mem_of_getElem? (i := 192) rfl) rfl
set_option maxRecDepth 20000 in
theorem w_188 : Cond.laysFinal "LostWoodModel" "LostWoodModel" "rowsThen" "[I" ∈ wl := tm_6 (List.mem_of_getElem? (i := 194) rfl) rfl
set_option maxRecDepth 20000 in
theorem w_189 : Cond.lays "LostWoodModel" "LostWoodModel" "knewOften" "I" ∈ wl := tm_6 (List.mem_of_getElem? (i := 196) rfl) rfl
set_option maxRecDepth 20000 in
theorem w_190 : Cond.laysFinal "LostWoodModel" "LostWoodModel" "many" "[I" ∈ wl := tm_6 (List.mem_of_getElem? (i := 198) rfl) rfl
set_option maxRecDepth 20000 in
theorem w_191 : Cond.laysFinal "LostWoodModel" "LostWoodModel" "width" "[I" ∈ wl := tm_6 (List.mem_of_getElem? (i := 200) rfl) rfl
set_option maxRecDepth 20000 in
theorem w_192 : Cond.laysFinal "LostWoodModel" "LostWoodModel" "numbers" "[J" ∈ wl := tm_6 (List.mem_of_getElem? (i := 202) rfl) rfl
set_option maxRecDepth 20000 in
theorem w_193 : Cond.laysFinal "LostWoodModel" "LostWoodModel" "moving" "[J" ∈ wl := tm_6 (List.mem_of_getElem? (i := 204) rfl) rfl
set_option maxRecDepth 20000 in
theorem w_194 : Cond.fieldLink RX12 9 "LostWoodModel" "world" "[I" ∈ wl := tm_6 (List.mem_of_getElem? (i := 48) rfl) rfl
set_option maxRecDepth 20000 in
theorem w_195 : Cond.code yX12_in cX12_in 6 (some .boolean) ∈ wl := tm_6 (List.mem_of_getElem? (i := 215) rfl) rfl
set_option maxRecDepth 20000 in
theorem w_196 : Cond.initialized RX12 ∈ wl := tm_1 (List.mem_of_getElem? (i := 15) rfl) rfl
set_option maxRecDepth 20000 in
theorem w_197 : Cond.methodLink RX12 115 yX12_in ∈ wl := tm_6 (List.mem_of_getElem? (i := 213) rfl) rfl
set_option maxRecDepth 20000 in
theorem w_198 : Cond.static yX12_in ∈ wl := tm_6 (List.mem_of_getElem? (i := 214) rfl) rfl
set_option maxRecDepth 20000 in
theorem w_199 : Cond.code yX12_isPlace cX12_isPlace 3 (some .boolean) ∈ wl := tm_7 (List.mem_of_getElem? (i := 100) rfl) rfl
set_option maxRecDepth 20000 in
theorem w_200 : Cond.methodLink RX12 119 yX12_isPlace ∈ wl := tm_7 (List.mem_of_getElem? (i := 97) rfl) rfl
set_option maxRecDepth 20000 in
theorem w_201 : Cond.instanceMethod yX12_isPlace ∈ wl := tm_7 (List.mem_of_getElem? (i := 99) rfl) rfl
set_option maxRecDepth 20000 in
theorem w_202 : Cond.selects RX12 yX12_isPlace yX12_isPlace ∈ wl := tp_4 (q := (yX12_isPlace, 53)) (List.mem_of_getElem? (i := 8) rfl)
set_option maxRecDepth 20000 in
theorem w_203 : Cond.constantLong RX12 123 (3) ∈ wl := tm_7 (List.mem_of_getElem? (i := 104) rfl) rfl
set_option maxRecDepth 20000 in
theorem w_204 : Cond.code yX12_isWood cX12_isWood 1 (some .boolean) ∈ wl := tm_7 (List.mem_of_getElem? (i := 128) rfl) rfl
set_option maxRecDepth 20000 in
theorem w_205 : Cond.methodLink RX12 125 yX12_isWood ∈ wl := tm_7 (List.mem_of_getElem? (i := 125) rfl) rfl
set_option maxRecDepth 20000 in
theorem w_206 : Cond.instanceMethod yX12_isWood ∈ wl := tm_7 (List.mem_of_getElem? (i := 127) rfl) rfl
set_option maxRecDepth 20000 in
theorem w_207 : Cond.selects RX12 yX12_isWood yX12_isWood ∈ wl := tp_4 (q := (yX12_isWood, 53)) (List.mem_of_getElem? (i := 12) rfl)
set_option maxRecDepth 20000 in
theorem w_208 : Cond.code yX12_isSlot cX12_isSlot 1 (some .boolean) ∈ wl := tm_7 (List.mem_of_getElem? (i := 231) rfl) rfl
set_option maxRecDepth 20000 in
theorem w_209 : Cond.methodLink RX12 334 yX12_isSlot ∈ wl := tm_7 (List.mem_of_getElem? (i := 229) rfl) rfl
set_option maxRecDepth 20000 in
theorem w_210 : Cond.static yX12_isSlot ∈ wl := tm_7 (List.mem_of_getElem? (i := 230) rfl) rfl
set_option maxRecDepth 20000 in
theorem w_211 : Cond.code yX12_isPupil cX12_isPupil 2 (some .boolean) ∈ wl := tm_7 (List.mem_of_getElem? (i := 156) rfl) rfl
set_option maxRecDepth 20000 in
theorem w_212 : Cond.methodLink RX12 310 yX12_isPupil ∈ wl := tm_7 (List.mem_of_getElem? (i := 153) rfl) rfl
set_option maxRecDepth 20000 in
theorem w_213 : Cond.instanceMethod yX12_isPupil ∈ wl := tm_7 (List.mem_of_getElem? (i := 155) rfl) rfl
set_option maxRecDepth 20000 in
theorem w_214 : Cond.selects RX12 yX12_isPupil yX12_isPupil ∈ wl := tp_5 (q := (yX12_isPupil, 53)) (List.mem_of_getElem? (i := 0) rfl)
set_option maxRecDepth 20000 in
theorem w_215 : Cond.constantLong RX12 481 (2000000000) ∈ wl := tm_9 (List.mem_of_getElem? (i := 46) rfl) rfl
set_option maxRecDepth 20000 in
theorem w_216 : Cond.code yX12_isSet cX12_isSet 2 (some .boolean) ∈ wl := tm_7 (List.mem_of_getElem? (i := 124) rfl) rfl
set_option maxRecDepth 20000 in
theorem w_217 : Cond.methodLink RX12 282 yX12_isSet ∈ wl := tm_7 (List.mem_of_getElem? (i := 121) rfl) rfl
set_option maxRecDepth 20000 in
theorem w_218 : Cond.instanceMethod yX12_isSet ∈ wl := tm_7 (List.mem_of_getElem? (i := 123) rfl) rfl
set_option maxRecDepth 20000 in
theorem w_219 : Cond.selects RX12 yX12_isSet yX12_isSet ∈ wl := tp_4 (q := (yX12_isSet, 53)) (List.mem_of_getElem? (i := 11) rfl)
set_option maxRecDepth 20000 in
theorem w_220 : Cond.code yX12_asksWalk cX12_asksWalk 4 (some .int) ∈ wl := tm_7 (List.mem_of_getElem? (i := 228) rfl) rfl
set_option maxRecDepth 20000 in
theorem w_221 : Cond.methodLink RX12 353 yX12_asksWalk ∈ wl := tm_7 (List.mem_of_getElem? (i := 225) rfl) rfl
set_option maxRecDepth 20000 in
theorem w_222 : Cond.instanceMethod yX12_asksWalk ∈ wl := tm_7 (List.mem_of_getElem? (i := 227) rfl) rfl
set_option maxRecDepth 20000 in
theorem w_223 : Cond.selects RX12 yX12_asksWalk yX12_asksWalk ∈ wl := tp_5 (q := (yX12_asksWalk, 53)) (List.mem_of_getElem? (i := 9) rfl)
set_option maxRecDepth 20000 in
theorem w_224 : Cond.code yX12_areTwo cX12_areTwo 3 (some .boolean) ∈ wl := tm_8 (List.mem_of_getElem? (i := 100) rfl) rfl
set_option maxRecDepth 20000 in
theorem w_225 : Cond.methodLink RX12 394 yX12_areTwo ∈ wl := tm_8 (List.mem_of_getElem? (i := 97) rfl) rfl
set_option maxRecDepth 20000 in
theorem w_226 : Cond.instanceMethod yX12_areTwo ∈ wl := tm_8 (List.mem_of_getElem? (i := 99) rfl) rfl
set_option maxRecDepth 20000 in
theorem w_227 : Cond.selects RX12 yX12_areTwo yX12_areTwo ∈ wl := tp_6 (q := (yX12_areTwo, 53)) (List.mem_of_getElem? (i := 5) rfl)
set_option maxRecDepth 20000 in
theorem w_228 : Cond.code yX12_asksRead cX12_asksRead 3 (some .int) ∈ wl := tm_8 (List.mem_of_getElem? (i := 176) rfl) rfl
set_option maxRecDepth 20000 in
theorem w_229 : Cond.methodLink RX12 426 yX12_asksRead ∈ wl := tm_8 (List.mem_of_getElem? (i := 173) rfl) rfl
set_option maxRecDepth 20000 in
theorem w_230 : Cond.instanceMethod yX12_asksRead ∈ wl := tm_8 (List.mem_of_getElem? (i := 175) rfl) rfl
set_option maxRecDepth 20000 in
theorem w_231 : Cond.selects RX12 yX12_asksRead yX12_asksRead ∈ wl := tp_6 (q := (yX12_asksRead, 53)) (List.mem_of_getElem? (i := 13) rfl)
set_option maxRecDepth 20000 in
theorem w_232 : Cond.code yX12_isDrawn cX12_isDrawn 4 (some .boolean) ∈ wl := tm_9 (List.mem_of_getElem? (i := 45) rfl) rfl
set_option maxRecDepth 20000 in
theorem w_233 : Cond.methodLink RX12 485 yX12_isDrawn ∈ wl := tm_9 (List.mem_of_getElem? (i := 42) rfl) rfl
set_option maxRecDepth 20000 in
theorem w_234 : Cond.instanceMethod yX12_isDrawn ∈ wl := tm_9 (List.mem_of_getElem? (i := 44) rfl) rfl
set_option maxRecDepth 20000 in
theorem w_235 : Cond.selects RX12 yX12_isDrawn yX12_isDrawn ∈ wl := tp_7 (q := (yX12_isDrawn, 53)) (List.mem_of_getElem? (i := 8) rfl)
set_option maxRecDepth 20000 in
theorem w_236 : Cond.fieldLink RX12 27 "LostWoodModel" "faultPlace" "I" ∈ wl := tm_6 (List.mem_of_getElem? (i := 60) rfl) rfl
set_option maxRecDepth 20000 in
theorem w_237 : Cond.fieldLink RX12 170 "LostWoodModel" "faultKind" "I" ∈ wl := tm_6 (List.mem_of_getElem? (i := 59) rfl) rfl
set_option maxRecDepth 20000 in
theorem w_238 : Cond.fieldLink RX12 133 "LostWoodModel" "taped" "I" ∈ wl := tm_6 (List.mem_of_getElem? (i := 52) rfl) rfl
set_option maxRecDepth 20000 in
theorem w_239 : Cond.fieldLink RX12 97 "LostWoodModel" "many" "[I" ∈ wl := tm_6 (List.mem_of_getElem? (i := 96) rfl) rfl
set_option maxRecDepth 20000 in
theorem w_240 : Cond.constantLong RX12 113 (2) ∈ wl := tm_6 (List.mem_of_getElem? (i := 212) rfl) rfl
set_option maxRecDepth 20000 in
theorem w_241 : Cond.fieldLink RX12 16 "LostWoodModel" "hasImage" "[Z" ∈ wl := tm_6 (List.mem_of_getElem? (i := 50) rfl) rfl
set_option maxRecDepth 20000 in
theorem w_242 : Cond.methodLink RX10 3 objectInit ∈ wl := tm_1 (List.mem_of_getElem? (i := 41) rfl) rfl
set_option maxRecDepth 20000 in
theorem w_243 : Cond.instanceMethod objectInit ∈ wl := tm_1 (List.mem_of_getElem? (i := 28) rfl) rfl
set_option maxRecDepth 20000 in
theorem w_244 : Cond.code objectInit ⟨#[0xb1]⟩ 1 none ∈ wl := tm_1 (List.mem_of_getElem? (i := 29) rfl) rfl
set_option maxRecDepth 20000 in
theorem w_245 : Cond.arrayClass .int ∈ wl := tm_1 (List.mem_of_getElem? (i := 97) rfl) rfl
set_option maxRecDepth 20000 in
theorem w_246 : Cond.fieldLink RX10 9 "LostWood$Wood" "ways" "[I" ∈ wl := tm_1 (List.mem_of_getElem? (i := 42) rfl) rfl
set_option maxRecDepth 20000 in
theorem w_247 : Cond.fieldLink RX10 15 "LostWood$Wood" "signs" "[I" ∈ wl := tm_1 (List.mem_of_getElem? (i := 43) rfl) rfl
set_option maxRecDepth 20000 in
theorem w_248 : Cond.fieldLink RX10 18 "LostWood$Wood" "starts" "[I" ∈ wl := tm_1 (List.mem_of_getElem? (i := 44) rfl) rfl
set_option maxRecDepth 20000 in
theorem w_249 : Cond.fieldLink RX10 21 "LostWood$Wood" "turns" "[I" ∈ wl := tm_1 (List.mem_of_getElem? (i := 46) rfl) rfl
set_option maxRecDepth 20000 in
theorem w_250 : Cond.fieldLink RX10 24 "LostWood$Wood" "thoughts" "[I" ∈ wl := tm_1 (List.mem_of_getElem? (i := 48) rfl) rfl
set_option maxRecDepth 20000 in
theorem w_251 : Cond.fieldLink RX10 27 "LostWood$Wood" "lessonKinds" "[I" ∈ wl := tm_1 (List.mem_of_getElem? (i := 50) rfl) rfl
set_option maxRecDepth 20000 in
theorem w_252 : Cond.fieldLink RX10 30 "LostWood$Wood" "lessonNumbers" "[I" ∈ wl := tm_1 (List.mem_of_getElem? (i := 52) rfl) rfl
set_option maxRecDepth 20000 in
theorem w_253 : Cond.fieldLink RX10 33 "LostWood$Wood" "lessonWinds" "[I" ∈ wl := tm_1 (List.mem_of_getElem? (i := 54) rfl) rfl
set_option maxRecDepth 20000 in
theorem w_254 : Cond.methodLink RX4 3 objectInit ∈ wl := tm_1 (List.mem_of_getElem? (i := 35) rfl) rfl
set_option maxRecDepth 20000 in
theorem w_255 : Cond.arrayClass .byte ∈ wl := tm_1 (List.mem_of_getElem? (i := 96) rfl) rfl
set_option maxRecDepth 20000 in
theorem w_256 : Cond.fieldLink RX4 9 "LostWood$Reader" "tape" "[B" ∈ wl := tm_1 (List.mem_of_getElem? (i := 98) rfl) rfl
set_option maxRecDepth 20000 in
theorem w_257 : Cond.fieldLink RX4 15 "LostWood$Reader" "faultPlace" "I" ∈ wl := tm_1 (List.mem_of_getElem? (i := 103) rfl) rfl
set_option maxRecDepth 20000 in
theorem w_258 : Cond.classLink RX4 19 RX10 ∈ wl := tm_1 (List.mem_of_getElem? (i := 36) rfl) rfl
set_option maxRecDepth 20000 in
theorem w_259 : Cond.instantiable RX10 12 ∈ wl := tm_1 (List.mem_of_getElem? (i := 37) rfl) rfl
set_option maxRecDepth 20000 in
theorem w_260 : Cond.code yX10_init cX10_init 1 none ∈ wl := tm_1 (List.mem_of_getElem? (i := 40) rfl) rfl
set_option maxRecDepth 20000 in
theorem w_261 : Cond.instanceMethod yX10_init ∈ wl := tm_1 (List.mem_of_getElem? (i := 39) rfl) rfl
set_option maxRecDepth 20000 in
theorem w_262 : Cond.fieldLink RX4 22 "LostWood$Reader" "draft" "LLostWood$Wood;" ∈ wl := tm_1 (List.mem_of_getElem? (i := 105) rfl) rfl
set_option maxRecDepth 20000 in
theorem w_263 : Cond.methodLink RX2 3 objectInit ∈ wl := tm_1 (List.mem_of_getElem? (i := 140) rfl) rfl
set_option maxRecDepth 20000 in
theorem w_264 : Cond.fieldLink RX2 9 "LostWood$Party" "at" "[I" ∈ wl := tm_1 (List.mem_of_getElem? (i := 141) rfl) rfl
set_option maxRecDepth 20000 in
theorem w_265 : Cond.fieldLink RX2 15 "LostWood$Party" "thought" "[I" ∈ wl := tm_1 (List.mem_of_getElem? (i := 143) rfl) rfl
set_option maxRecDepth 20000 in
theorem w_266 : Cond.fieldLink RX2 18 "LostWood$Party" "whose" "[I" ∈ wl := tm_1 (List.mem_of_getElem? (i := 145) rfl) rfl
set_option maxRecDepth 20000 in
theorem w_267 : Cond.fieldLink RX2 21 "LostWood$Party" "wasAt" "[I" ∈ wl := tm_1 (List.mem_of_getElem? (i := 146) rfl) rfl
set_option maxRecDepth 20000 in
theorem w_268 : Cond.fieldLink RX2 24 "LostWood$Party" "wasThought" "[I" ∈ wl := tm_1 (List.mem_of_getElem? (i := 147) rfl) rfl
set_option maxRecDepth 20000 in
theorem w_269 : Cond.methodLink RX9 3 objectInit ∈ wl := tm_1 (List.mem_of_getElem? (i := 168) rfl) rfl
set_option maxRecDepth 20000 in
theorem w_270 : Cond.methodLink RX5 3 objectInit ∈ wl := tm_1 (List.mem_of_getElem? (i := 194) rfl) rfl
set_option maxRecDepth 20000 in
theorem w_271 : Cond.arrayClass .long ∈ wl := tm_1 (List.mem_of_getElem? (i := 208) rfl) rfl
set_option maxRecDepth 20000 in
theorem w_272 : Cond.fieldLink RX5 9 "LostWood$Rows" "numbers" "[J" ∈ wl := tm_1 (List.mem_of_getElem? (i := 198) rfl) rfl
set_option maxRecDepth 20000 in
theorem w_273 : Cond.fieldLink RX5 15 "LostWood$Rows" "widths" "[I" ∈ wl := tm_1 (List.mem_of_getElem? (i := 199) rfl) rfl
set_option maxRecDepth 20000 in
theorem w_274 : Cond.code yJ7_fill_53178 cJ7_fill_53178 4 none ∈ wl := tm_1 (List.mem_of_getElem? (i := 197) rfl) rfl
set_option maxRecDepth 20000 in
theorem w_275 : Cond.initialized RJ7 ∈ wl := tm_1 (List.mem_of_getElem? (i := 7) rfl) rfl
set_option maxRecDepth 20000 in
theorem w_276 : Cond.methodLink RX5 22 yJ7_fill_53178 ∈ wl := tm_1 (List.mem_of_getElem? (i := 195) rfl) rfl
set_option maxRecDepth 20000 in
theorem w_277 : Cond.static yJ7_fill_53178 ∈ wl := tm_1 (List.mem_of_getElem? (i := 196) rfl) rfl
set_option maxRecDepth 20000 in
theorem w_278 : Cond.methodLink RX6 3 objectInit ∈ wl := tm_1 (List.mem_of_getElem? (i := 217) rfl) rfl
set_option maxRecDepth 20000 in
theorem w_279 : Cond.laysFinal "LostWood$Minds" "LostWood$Search" "stamps" "[I" ∈ wl := tm_2 (List.mem_of_getElem? (i := 9) rfl) rfl
set_option maxRecDepth 20000 in
theorem w_280 : Cond.laysFinal "LostWood$Minds" "LostWood$Search" "found" "[I" ∈ wl := tm_2 (List.mem_of_getElem? (i := 11) rfl) rfl
set_option maxRecDepth 20000 in
theorem w_281 : Cond.laysFinal "LostWood$Minds" "LostWood$Search" "links" "[I" ∈ wl := tm_2 (List.mem_of_getElem? (i := 13) rfl) rfl
set_option maxRecDepth 20000 in
theorem w_282 : Cond.lays "LostWood$Minds" "LostWood$Search" "round" "I" ∈ wl := tm_2 (List.mem_of_getElem? (i := 15) rfl) rfl
set_option maxRecDepth 20000 in
theorem w_283 : Cond.lays "LostWood$Minds" "LostWood$Search" "size" "I" ∈ wl := tm_2 (List.mem_of_getElem? (i := 17) rfl) rfl
set_option maxRecDepth 20000 in
theorem w_284 : Cond.lays "LostWood$Minds" "LostWood$Search" "goal" "I" ∈ wl := tm_2 (List.mem_of_getElem? (i := 19) rfl) rfl
set_option maxRecDepth 20000 in
theorem w_285 : Cond.laysFinal "LostWood$Minds" "LostWood$Minds" "walker" "LLostWood$Walker;" ∈ wl := tm_2 (List.mem_of_getElem? (i := 1) rfl) rfl
set_option maxRecDepth 20000 in
theorem w_286 : Cond.lays "LostWood$Minds" "LostWood$Minds" "turn" "I" ∈ wl := tm_2 (List.mem_of_getElem? (i := 3) rfl) rfl
set_option maxRecDepth 20000 in
theorem w_287 : Cond.lays "LostWood$Minds" "LostWood$Minds" "aim" "I" ∈ wl := tm_2 (List.mem_of_getElem? (i := 5) rfl) rfl
set_option maxRecDepth 20000 in
theorem w_288 : Cond.lays "LostWood$Minds" "LostWood$Minds" "least" "I" ∈ wl := tm_2 (List.mem_of_getElem? (i := 7) rfl) rfl
set_option maxRecDepth 20000 in
theorem w_289 : Cond.fieldLink RX6 9 "LostWood$Search" "goal" "I" ∈ wl := tm_1 (List.mem_of_getElem? (i := 238) rfl) rfl
set_option maxRecDepth 20000 in
theorem w_290 : Cond.methodLink RX6 15 Lib.Math.max.name ∈ wl := tm_1 (List.mem_of_getElem? (i := 218) rfl) rfl
set_option maxRecDepth 20000 in
theorem w_291 : Cond.static Lib.Math.max.name ∈ wl := tm_1 (List.mem_of_getElem? (i := 219) rfl) rfl
set_option maxRecDepth 20000 in
theorem w_292 : Cond.initialized "java/lang/Math" ∈ wl := tm_1 (List.mem_of_getElem? (i := 10) rfl) rfl
set_option maxRecDepth 20000 in
theorem w_293 : Cond.code Lib.Math.max.name Lib.Math.max.code 2 (some .int) ∈ wl := tm_1 (List.mem_of_getElem? (i := 220) rfl) rfl
set_option maxRecDepth 20000 in
theorem w_294 : Cond.fieldLink RX6 21 "LostWood$Search" "stamps" "[I" ∈ wl := tm_1 (List.mem_of_getElem? (i := 227) rfl) rfl
set_option maxRecDepth 20000 in
theorem w_295 : Cond.fieldLink RX6 25 "LostWood$Search" "found" "[I" ∈ wl := tm_1 (List.mem_of_getElem? (i := 228) rfl) rfl
set_option maxRecDepth 20000 in
theorem w_296 : Cond.fieldLink RX6 28 "LostWood$Search" "links" "[I" ∈ wl := tm_1 (List.mem_of_getElem? (i := 231) rfl) rfl
set_option maxRecDepth 20000 in
theorem w_297 : Cond.laysFinal "LostWood$Sets" "LostWood$Search" "stamps" "[I" ∈ wl := tm_2 (List.mem_of_getElem? (i := 31) rfl) rfl
set_option maxRecDepth 20000 in
theorem w_298 : Cond.laysFinal "LostWood$Sets" "LostWood$Search" "found" "[I" ∈ wl := tm_2 (List.mem_of_getElem? (i := 32) rfl) rfl
set_option maxRecDepth 20000 in
theorem w_299 : Cond.laysFinal "LostWood$Sets" "LostWood$Search" "links" "[I" ∈ wl := tm_2 (List.mem_of_getElem? (i := 33) rfl) rfl
set_option maxRecDepth 20000 in
theorem w_300 : Cond.lays "LostWood$Sets" "LostWood$Search" "round" "I" ∈ wl := tm_2 (List.mem_of_getElem? (i := 34) rfl) rfl
set_option maxRecDepth 20000 in
theorem w_301 : Cond.lays "LostWood$Sets" "LostWood$Search" "size" "I" ∈ wl := tm_2 (List.mem_of_getElem? (i := 35) rfl) rfl
set_option maxRecDepth 20000 in
theorem w_302 : Cond.lays "LostWood$Sets" "LostWood$Search" "goal" "I" ∈ wl := tm_2 (List.mem_of_getElem? (i := 36) rfl) rfl
set_option maxRecDepth 20000 in
theorem w_303 : Cond.lays "LostWood$Sets" "LostWood$Sets" "aim" "I" ∈ wl := tm_2 (List.mem_of_getElem? (i := 29) rfl) rfl
set_option maxRecDepth 20000 in
theorem w_304 : Cond.code yX6_init cX6_init 3 none ∈ wl := tm_1 (List.mem_of_getElem? (i := 216) rfl) rfl
set_option maxRecDepth 20000 in
theorem w_305 : Cond.initialized RX6 ∈ wl := tm_1 (List.mem_of_getElem? (i := 8) rfl) rfl
set_option maxRecDepth 20000 in
theorem w_306 : Cond.methodLink RX1 3 yX6_init ∈ wl := tm_1 (List.mem_of_getElem? (i := 214) rfl) rfl
set_option maxRecDepth 20000 in
theorem w_307 : Cond.instanceMethod yX6_init ∈ wl := tm_1 (List.mem_of_getElem? (i := 215) rfl) rfl
set_option maxRecDepth 20000 in
theorem w_308 : Cond.lays "LostWood$Walker" "LostWood$Walker" "at" "I" ∈ wl := tm_1 (List.mem_of_getElem? (i := 182) rfl) rfl
set_option maxRecDepth 20000 in
theorem w_309 : Cond.lays "LostWood$Walker" "LostWood$Walker" "thought" "I" ∈ wl := tm_1 (List.mem_of_getElem? (i := 184) rfl) rfl
set_option maxRecDepth 20000 in
theorem w_310 : Cond.lays "LostWood$Walker" "LostWood$Walker" "turn" "I" ∈ wl := tm_1 (List.mem_of_getElem? (i := 186) rfl) rfl
set_option maxRecDepth 20000 in
theorem w_311 : Cond.classLink RX1 9 RX9 ∈ wl := tm_1 (List.mem_of_getElem? (i := 221) rfl) rfl
set_option maxRecDepth 20000 in
theorem w_312 : Cond.instantiable RX9 3 ∈ wl := tm_1 (List.mem_of_getElem? (i := 164) rfl) rfl
set_option maxRecDepth 20000 in
theorem w_313 : Cond.initialized RX9 ∈ wl := tm_1 (List.mem_of_getElem? (i := 5) rfl) rfl
set_option maxRecDepth 20000 in
theorem w_314 : Cond.code yX9_init cX9_init 1 none ∈ wl := tm_1 (List.mem_of_getElem? (i := 167) rfl) rfl
set_option maxRecDepth 20000 in
theorem w_315 : Cond.instanceMethod yX9_init ∈ wl := tm_1 (List.mem_of_getElem? (i := 166) rfl) rfl
set_option maxRecDepth 20000 in
theorem w_316 : Cond.fieldLink RX1 14 "LostWood$Minds" "walker" "LLostWood$Walker;" ∈ wl := tm_1 (List.mem_of_getElem? (i := 223) rfl) rfl
set_option maxRecDepth 20000 in
theorem w_317 : Cond.methodLink RX7 3 yX6_init ∈ wl := tm_2 (List.mem_of_getElem? (i := 27) rfl) rfl
set_option maxRecDepth 20000 in
theorem w_318 : Cond.methodLink RX3 3 objectInit ∈ wl := tm_2 (List.mem_of_getElem? (i := 43) rfl) rfl
set_option maxRecDepth 20000 in
theorem w_319 : Cond.laysFinal "LostWood$Plans" "LostWood$Plans" "depths" "[I" ∈ wl := tm_2 (List.mem_of_getElem? (i := 50) rfl) rfl
set_option maxRecDepth 20000 in
theorem w_320 : Cond.laysFinal "LostWood$Plans" "LostWood$Plans" "nexts" "[I" ∈ wl := tm_2 (List.mem_of_getElem? (i := 52) rfl) rfl
set_option maxRecDepth 20000 in
theorem w_321 : Cond.laysFinal "LostWood$Plans" "LostWood$Plans" "peers" "[I" ∈ wl := tm_2 (List.mem_of_getElem? (i := 54) rfl) rfl
set_option maxRecDepth 20000 in
theorem w_322 : Cond.lays "LostWood$Plans" "LostWood$Plans" "all" "I" ∈ wl := tm_2 (List.mem_of_getElem? (i := 56) rfl) rfl
set_option maxRecDepth 20000 in
theorem w_323 : Cond.lays "LostWood$Plans" "LostWood$Plans" "ready" "Z" ∈ wl := tm_2 (List.mem_of_getElem? (i := 58) rfl) rfl
set_option maxRecDepth 20000 in
theorem w_324 : Cond.fieldLink RX3 9 "LostWood$Plans" "depths" "[I" ∈ wl := tm_2 (List.mem_of_getElem? (i := 44) rfl) rfl
set_option maxRecDepth 20000 in
theorem w_325 : Cond.fieldLink RX3 15 "LostWood$Plans" "nexts" "[I" ∈ wl := tm_2 (List.mem_of_getElem? (i := 45) rfl) rfl
set_option maxRecDepth 20000 in
theorem w_326 : Cond.fieldLink RX3 18 "LostWood$Plans" "peers" "[I" ∈ wl := tm_2 (List.mem_of_getElem? (i := 46) rfl) rfl
set_option maxRecDepth 20000 in
theorem w_327 : Cond.methodLink RX0 3 objectInit ∈ wl := tm_2 (List.mem_of_getElem? (i := 66) rfl) rfl
set_option maxRecDepth 20000 in
theorem w_328 : Cond.classLink RX0 9 RX10 ∈ wl := tm_2 (List.mem_of_getElem? (i := 67) rfl) rfl
set_option maxRecDepth 20000 in
theorem w_329 : Cond.laysFinal "LostWood$Courses" "LostWood$Courses" "ground" "LLostWood$Wood;" ∈ wl := tm_2 (List.mem_of_getElem? (i := 80) rfl) rfl
set_option maxRecDepth 20000 in
theorem w_330 : Cond.laysFinal "LostWood$Courses" "LostWood$Courses" "taught" "LLostWood$Walker;" ∈ wl := tm_2 (List.mem_of_getElem? (i := 82) rfl) rfl
set_option maxRecDepth 20000 in
theorem w_331 : Cond.laysFinal "LostWood$Courses" "LostWood$Courses" "order" "[I" ∈ wl := tm_2 (List.mem_of_getElem? (i := 84) rfl) rfl
set_option maxRecDepth 20000 in
theorem w_332 : Cond.laysFinal "LostWood$Courses" "LostWood$Courses" "worst" "[I" ∈ wl := tm_2 (List.mem_of_getElem? (i := 86) rfl) rfl
set_option maxRecDepth 20000 in
theorem w_333 : Cond.lays "LostWood$Courses" "LostWood$Courses" "greatest" "I" ∈ wl := tm_2 (List.mem_of_getElem? (i := 88) rfl) rfl
set_option maxRecDepth 20000 in
theorem w_334 : Cond.lays "LostWood$Courses" "LostWood$Courses" "least" "I" ∈ wl := tm_2 (List.mem_of_getElem? (i := 90) rfl) rfl
set_option maxRecDepth 20000 in
theorem w_335 : Cond.fieldLink RX0 12 "LostWood$Courses" "ground" "LLostWood$Wood;" ∈ wl := tm_2 (List.mem_of_getElem? (i := 71) rfl) rfl
set_option maxRecDepth 20000 in
theorem w_336 : Cond.classLink RX0 18 RX9 ∈ wl := tm_2 (List.mem_of_getElem? (i := 69) rfl) rfl
set_option maxRecDepth 20000 in
theorem w_337 : Cond.fieldLink RX0 21 "LostWood$Courses" "taught" "LLostWood$Walker;" ∈ wl := tm_2 (List.mem_of_getElem? (i := 72) rfl) rfl
set_option maxRecDepth 20000 in
theorem w_338 : Cond.fieldLink RX0 25 "LostWood$Courses" "order" "[I" ∈ wl := tm_2 (List.mem_of_getElem? (i := 73) rfl) rfl
set_option maxRecDepth 20000 in
theorem w_339 : Cond.fieldLink RX0 29 "LostWood$Courses" "worst" "[I" ∈ wl := tm_2 (List.mem_of_getElem? (i := 74) rfl) rfl
set_option maxRecDepth 20000 in
theorem w_340 : Cond.methodLink RX8 3 objectInit ∈ wl := tm_2 (List.mem_of_getElem? (i := 98) rfl) rfl
set_option maxRecDepth 20000 in
theorem w_341 : Cond.laysFinal "LostWood$Travel" "LostWood$Travel" "costs" "[I" ∈ wl := tm_2 (List.mem_of_getElem? (i := 102) rfl) rfl
set_option maxRecDepth 20000 in
theorem w_342 : Cond.laysFinal "LostWood$Travel" "LostWood$Travel" "chances" "[I" ∈ wl := tm_2 (List.mem_of_getElem? (i := 104) rfl) rfl
set_option maxRecDepth 20000 in
theorem w_343 : Cond.laysFinal "LostWood$Travel" "LostWood$Travel" "later" "[I" ∈ wl := tm_2 (List.mem_of_getElem? (i := 106) rfl) rfl
set_option maxRecDepth 20000 in
theorem w_344 : Cond.fieldLink RX8 9 "LostWood$Travel" "costs" "[I" ∈ wl := tm_2 (List.mem_of_getElem? (i := 99) rfl) rfl
set_option maxRecDepth 20000 in
theorem w_345 : Cond.fieldLink RX8 15 "LostWood$Travel" "chances" "[I" ∈ wl := tm_2 (List.mem_of_getElem? (i := 100) rfl) rfl
set_option maxRecDepth 20000 in
theorem w_346 : Cond.fieldLink RX8 18 "LostWood$Travel" "later" "[I" ∈ wl := tm_2 (List.mem_of_getElem? (i := 101) rfl) rfl
set_option maxRecDepth 20000 in
theorem w_347 : Cond.methodLink RX11 3 objectInit ∈ wl := tm_1 (List.mem_of_getElem? (i := 27) rfl) rfl
set_option maxRecDepth 20000 in
theorem w_348 : Cond.classLink RX11 9 RX4 ∈ wl := tm_1 (List.mem_of_getElem? (i := 30) rfl) rfl
set_option maxRecDepth 20000 in
theorem w_349 : Cond.instantiable RX4 10 ∈ wl := tm_1 (List.mem_of_getElem? (i := 31) rfl) rfl
set_option maxRecDepth 20000 in
theorem w_350 : Cond.initialized RX4 ∈ wl := tm_1 (List.mem_of_getElem? (i := 2) rfl) rfl
set_option maxRecDepth 20000 in
theorem w_351 : Cond.code yX4_init cX4_init 1 none ∈ wl := tm_1 (List.mem_of_getElem? (i := 34) rfl) rfl
set_option maxRecDepth 20000 in
theorem w_352 : Cond.instanceMethod yX4_init ∈ wl := tm_1 (List.mem_of_getElem? (i := 33) rfl) rfl
set_option maxRecDepth 20000 in
theorem w_353 : Cond.classLink RX11 16 RX10 ∈ wl := tm_1 (List.mem_of_getElem? (i := 133) rfl) rfl
set_option maxRecDepth 20000 in
theorem w_354 : Cond.classLink RX11 23 RX2 ∈ wl := tm_1 (List.mem_of_getElem? (i := 135) rfl) rfl
set_option maxRecDepth 20000 in
theorem w_355 : Cond.instantiable RX2 6 ∈ wl := tm_1 (List.mem_of_getElem? (i := 136) rfl) rfl
set_option maxRecDepth 20000 in
theorem w_356 : Cond.initialized RX2 ∈ wl := tm_1 (List.mem_of_getElem? (i := 4) rfl) rfl
set_option maxRecDepth 20000 in
theorem w_357 : Cond.code yX2_init cX2_init 1 none ∈ wl := tm_1 (List.mem_of_getElem? (i := 139) rfl) rfl
set_option maxRecDepth 20000 in
theorem w_358 : Cond.instanceMethod yX2_init ∈ wl := tm_1 (List.mem_of_getElem? (i := 138) rfl) rfl
set_option maxRecDepth 20000 in
theorem w_359 : Cond.classLink RX11 30 RX9 ∈ wl := tm_1 (List.mem_of_getElem? (i := 163) rfl) rfl
set_option maxRecDepth 20000 in
theorem w_360 : Cond.fieldLink RX11 33 "LostWood" "walker" "LLostWood$Walker;" ∈ wl := tm_2 (List.mem_of_getElem? (i := 114) rfl) rfl
set_option maxRecDepth 20000 in
theorem w_361 : Cond.classLink RX11 37 RX5 ∈ wl := tm_1 (List.mem_of_getElem? (i := 189) rfl) rfl
set_option maxRecDepth 20000 in
theorem w_362 : Cond.instantiable RX5 3 ∈ wl := tm_1 (List.mem_of_getElem? (i := 190) rfl) rfl
set_option maxRecDepth 20000 in
theorem w_363 : Cond.code yX5_init cX5_init 1 none ∈ wl := tm_1 (List.mem_of_getElem? (i := 193) rfl) rfl
set_option maxRecDepth 20000 in
theorem w_364 : Cond.methodLink RX11 39 yX5_init ∈ wl := tm_1 (List.mem_of_getElem? (i := 191) rfl) rfl
set_option maxRecDepth 20000 in
theorem w_365 : Cond.instanceMethod yX5_init ∈ wl := tm_1 (List.mem_of_getElem? (i := 192) rfl) rfl
set_option maxRecDepth 20000 in
theorem w_366 : Cond.classLink RX11 44 RX1 ∈ wl := tm_1 (List.mem_of_getElem? (i := 209) rfl) rfl
set_option maxRecDepth 20000 in
theorem w_367 : Cond.instantiable RX1 10 ∈ wl := tm_1 (List.mem_of_getElem? (i := 210) rfl) rfl
set_option maxRecDepth 20000 in
theorem w_368 : Cond.initialized RX1 ∈ wl := tm_1 (List.mem_of_getElem? (i := 9) rfl) rfl
set_option maxRecDepth 20000 in
theorem w_369 : Cond.code yX1_init cX1_init 1 none ∈ wl := tm_1 (List.mem_of_getElem? (i := 213) rfl) rfl
set_option maxRecDepth 20000 in
theorem w_370 : Cond.methodLink RX11 46 yX1_init ∈ wl := tm_1 (List.mem_of_getElem? (i := 211) rfl) rfl
set_option maxRecDepth 20000 in
theorem w_371 : Cond.instanceMethod yX1_init ∈ wl := tm_1 (List.mem_of_getElem? (i := 212) rfl) rfl
set_option maxRecDepth 20000 in
theorem w_372 : Cond.fieldLink RX11 47 "LostWood" "minds" "LLostWood$Minds;" ∈ wl := tm_2 (List.mem_of_getElem? (i := 116) rfl) rfl
set_option maxRecDepth 20000 in
theorem w_373 : Cond.classLink RX11 51 RX7 ∈ wl := tm_2 (List.mem_of_getElem? (i := 22) rfl) rfl
set_option maxRecDepth 20000 in
theorem w_374 : Cond.instantiable RX7 7 ∈ wl := tm_2 (List.mem_of_getElem? (i := 23) rfl) rfl
set_option maxRecDepth 20000 in
theorem w_375 : Cond.initialized RX7 ∈ wl := tm_1 (List.mem_of_getElem? (i := 11) rfl) rfl
set_option maxRecDepth 20000 in
theorem w_376 : Cond.code yX7_init cX7_init 1 none ∈ wl := tm_2 (List.mem_of_getElem? (i := 26) rfl) rfl
set_option maxRecDepth 20000 in
theorem w_377 : Cond.methodLink RX11 53 yX7_init ∈ wl := tm_2 (List.mem_of_getElem? (i := 24) rfl) rfl
set_option maxRecDepth 20000 in
theorem w_378 : Cond.instanceMethod yX7_init ∈ wl := tm_2 (List.mem_of_getElem? (i := 25) rfl) rfl
set_option maxRecDepth 20000 in
theorem w_379 : Cond.fieldLink RX11 54 "LostWood" "sets" "LLostWood$Sets;" ∈ wl := tm_2 (List.mem_of_getElem? (i := 117) rfl) rfl
set_option maxRecDepth 20000 in
theorem w_380 : Cond.classLink RX11 58 RX3 ∈ wl := tm_2 (List.mem_of_getElem? (i := 38) rfl) rfl
set_option maxRecDepth 20000 in
theorem w_381 : Cond.instantiable RX3 5 ∈ wl := tm_2 (List.mem_of_getElem? (i := 39) rfl) rfl
set_option maxRecDepth 20000 in
theorem w_382 : Cond.initialized RX3 ∈ wl := tm_1 (List.mem_of_getElem? (i := 12) rfl) rfl
set_option maxRecDepth 20000 in
theorem w_383 : Cond.code yX3_init cX3_init 1 none ∈ wl := tm_2 (List.mem_of_getElem? (i := 42) rfl) rfl
set_option maxRecDepth 20000 in
theorem w_384 : Cond.instanceMethod yX3_init ∈ wl := tm_2 (List.mem_of_getElem? (i := 41) rfl) rfl
set_option maxRecDepth 20000 in
theorem w_385 : Cond.fieldLink RX11 61 "LostWood" "plans" "LLostWood$Plans;" ∈ wl := tm_2 (List.mem_of_getElem? (i := 118) rfl) rfl
set_option maxRecDepth 20000 in
theorem w_386 : Cond.classLink RX11 65 RX0 ∈ wl := tm_2 (List.mem_of_getElem? (i := 61) rfl) rfl
set_option maxRecDepth 20000 in
theorem w_387 : Cond.instantiable RX0 6 ∈ wl := tm_2 (List.mem_of_getElem? (i := 62) rfl) rfl
set_option maxRecDepth 20000 in
theorem w_388 : Cond.initialized RX0 ∈ wl := tm_1 (List.mem_of_getElem? (i := 13) rfl) rfl
set_option maxRecDepth 20000 in
theorem w_389 : Cond.code yX0_init cX0_init 1 none ∈ wl := tm_2 (List.mem_of_getElem? (i := 65) rfl) rfl
set_option maxRecDepth 20000 in
theorem w_390 : Cond.instanceMethod yX0_init ∈ wl := tm_2 (List.mem_of_getElem? (i := 64) rfl) rfl
set_option maxRecDepth 20000 in
theorem w_391 : Cond.fieldLink RX11 68 "LostWood" "courses" "LLostWood$Courses;" ∈ wl := tm_2 (List.mem_of_getElem? (i := 119) rfl) rfl
set_option maxRecDepth 20000 in
theorem w_392 : Cond.classLink RX11 72 RX8 ∈ wl := tm_2 (List.mem_of_getElem? (i := 93) rfl) rfl
set_option maxRecDepth 20000 in
theorem w_393 : Cond.instantiable RX8 3 ∈ wl := tm_2 (List.mem_of_getElem? (i := 94) rfl) rfl
set_option maxRecDepth 20000 in
theorem w_394 : Cond.initialized RX8 ∈ wl := tm_1 (List.mem_of_getElem? (i := 14) rfl) rfl
set_option maxRecDepth 20000 in
theorem w_395 : Cond.code yX8_init cX8_init 1 none ∈ wl := tm_2 (List.mem_of_getElem? (i := 97) rfl) rfl
set_option maxRecDepth 20000 in
theorem w_396 : Cond.instanceMethod yX8_init ∈ wl := tm_2 (List.mem_of_getElem? (i := 96) rfl) rfl
set_option maxRecDepth 20000 in
theorem w_397 : Cond.fieldLink RX11 75 "LostWood" "travel" "LLostWood$Travel;" ∈ wl := tm_2 (List.mem_of_getElem? (i := 120) rfl) rfl
set_option maxRecDepth 20000 in
theorem w_398 : Cond.fieldLink RX11 83 "LostWood" "imageParties" "[LLostWood$Party;" ∈ wl := tm_2 (List.mem_of_getElem? (i := 122) rfl) rfl
set_option maxRecDepth 20000 in
theorem w_399 : Cond.methodLink RX12 3 objectInit ∈ wl := tm_6 (List.mem_of_getElem? (i := 47) rfl) rfl
set_option maxRecDepth 20000 in
theorem w_400 : Cond.fieldLink RX12 13 "LostWoodModel" "images" "[I" ∈ wl := tm_6 (List.mem_of_getElem? (i := 49) rfl) rfl
set_option maxRecDepth 20000 in
theorem w_401 : Cond.arrayClass .boolean ∈ wl := tm_6 (List.mem_of_getElem? (i := 207) rfl) rfl
set_option maxRecDepth 20000 in
theorem w_402 : Cond.fieldLink RX12 20 "LostWoodModel" "tape" "[B" ∈ wl := tm_6 (List.mem_of_getElem? (i := 51) rfl) rfl
set_option maxRecDepth 20000 in
theorem w_403 : Cond.fieldLink RX12 24 "LostWoodModel" "five" "[I" ∈ wl := tm_6 (List.mem_of_getElem? (i := 53) rfl) rfl
set_option maxRecDepth 20000 in
theorem w_404 : Cond.fieldLink RX12 31 "LostWoodModel" "fresh" "[I" ∈ wl := tm_6 (List.mem_of_getElem? (i := 61) rfl) rfl
set_option maxRecDepth 20000 in
theorem w_405 : Cond.fieldLink RX12 34 "LostWoodModel" "queue" "[I" ∈ wl := tm_6 (List.mem_of_getElem? (i := 68) rfl) rfl
set_option maxRecDepth 20000 in
theorem w_406 : Cond.fieldLink RX12 37 "LostWoodModel" "farOf" "[I" ∈ wl := tm_6 (List.mem_of_getElem? (i := 69) rfl) rfl
set_option maxRecDepth 20000 in
theorem w_407 : Cond.fieldLink RX12 40 "LostWoodModel" "cameBy" "[I" ∈ wl := tm_6 (List.mem_of_getElem? (i := 70) rfl) rfl
set_option maxRecDepth 20000 in
theorem w_408 : Cond.fieldLink RX12 43 "LostWoodModel" "cameFrom" "[I" ∈ wl := tm_6 (List.mem_of_getElem? (i := 71) rfl) rfl
set_option maxRecDepth 20000 in
theorem w_409 : Cond.fieldLink RX12 46 "LostWoodModel" "depth" "[I" ∈ wl := tm_6 (List.mem_of_getElem? (i := 73) rfl) rfl
set_option maxRecDepth 20000 in
theorem w_410 : Cond.fieldLink RX12 49 "LostWoodModel" "kind" "[I" ∈ wl := tm_6 (List.mem_of_getElem? (i := 74) rfl) rfl
set_option maxRecDepth 20000 in
theorem w_411 : Cond.fieldLink RX12 52 "LostWoodModel" "kindThen" "[I" ∈ wl := tm_6 (List.mem_of_getElem? (i := 75) rfl) rfl
set_option maxRecDepth 20000 in
theorem w_412 : Cond.fieldLink RX12 55 "LostWoodModel" "twos" "[I" ∈ wl := tm_6 (List.mem_of_getElem? (i := 76) rfl) rfl
set_option maxRecDepth 20000 in
theorem w_413 : Cond.fieldLink RX12 58 "LostWoodModel" "twoFar" "[I" ∈ wl := tm_6 (List.mem_of_getElem? (i := 77) rfl) rfl
set_option maxRecDepth 20000 in
theorem w_414 : Cond.fieldLink RX12 61 "LostWoodModel" "twoBy" "[I" ∈ wl := tm_6 (List.mem_of_getElem? (i := 78) rfl) rfl
set_option maxRecDepth 20000 in
theorem w_415 : Cond.fieldLink RX12 64 "LostWoodModel" "twoFrom" "[I" ∈ wl := tm_6 (List.mem_of_getElem? (i := 79) rfl) rfl
set_option maxRecDepth 20000 in
theorem w_416 : Cond.fieldLink RX12 67 "LostWoodModel" "setQueue" "[I" ∈ wl := tm_6 (List.mem_of_getElem? (i := 80) rfl) rfl
set_option maxRecDepth 20000 in
theorem w_417 : Cond.fieldLink RX12 70 "LostWoodModel" "setFar" "[I" ∈ wl := tm_6 (List.mem_of_getElem? (i := 81) rfl) rfl
set_option maxRecDepth 20000 in
theorem w_418 : Cond.fieldLink RX12 73 "LostWoodModel" "setBy" "[I" ∈ wl := tm_6 (List.mem_of_getElem? (i := 82) rfl) rfl
set_option maxRecDepth 20000 in
theorem w_419 : Cond.fieldLink RX12 76 "LostWoodModel" "setFrom" "[I" ∈ wl := tm_6 (List.mem_of_getElem? (i := 83) rfl) rfl
set_option maxRecDepth 20000 in
theorem w_420 : Cond.fieldLink RX12 79 "LostWoodModel" "order" "[I" ∈ wl := tm_6 (List.mem_of_getElem? (i := 87) rfl) rfl
set_option maxRecDepth 20000 in
theorem w_421 : Cond.fieldLink RX12 82 "LostWoodModel" "bestOrder" "[I" ∈ wl := tm_6 (List.mem_of_getElem? (i := 88) rfl) rfl
set_option maxRecDepth 20000 in
theorem w_422 : Cond.fieldLink RX12 85 "LostWoodModel" "kept" "[I" ∈ wl := tm_6 (List.mem_of_getElem? (i := 89) rfl) rfl
set_option maxRecDepth 20000 in
theorem w_423 : Cond.fieldLink RX12 88 "LostWoodModel" "cost" "[I" ∈ wl := tm_6 (List.mem_of_getElem? (i := 92) rfl) rfl
set_option maxRecDepth 20000 in
theorem w_424 : Cond.fieldLink RX12 91 "LostWoodModel" "rows" "[I" ∈ wl := tm_6 (List.mem_of_getElem? (i := 93) rfl) rfl
set_option maxRecDepth 20000 in
theorem w_425 : Cond.fieldLink RX12 94 "LostWoodModel" "rowsThen" "[I" ∈ wl := tm_6 (List.mem_of_getElem? (i := 94) rfl) rfl
set_option maxRecDepth 20000 in
theorem w_426 : Cond.fieldLink RX12 100 "LostWoodModel" "width" "[I" ∈ wl := tm_6 (List.mem_of_getElem? (i := 97) rfl) rfl
set_option maxRecDepth 20000 in
theorem w_427 : Cond.fieldLink RX12 103 "LostWoodModel" "numbers" "[J" ∈ wl := tm_6 (List.mem_of_getElem? (i := 98) rfl) rfl
set_option maxRecDepth 20000 in
theorem w_428 : Cond.fieldLink RX12 107 "LostWoodModel" "moving" "[J" ∈ wl := tm_6 (List.mem_of_getElem? (i := 99) rfl) rfl
set_option maxRecDepth 20000 in
theorem w_429 : Cond.fieldLink RX4 26 "LostWood$Reader" "length" "I" ∈ wl := tm_1 (List.mem_of_getElem? (i := 99) rfl) rfl
set_option maxRecDepth 20000 in
theorem w_430 : Cond.code yX4_hasRoom cX4_hasRoom 2 (some .boolean) ∈ wl := tm_2 (List.mem_of_getElem? (i := 155) rfl) rfl
set_option maxRecDepth 20000 in
theorem w_431 : Cond.methodLink RX11 87 yX4_hasRoom ∈ wl := tm_2 (List.mem_of_getElem? (i := 152) rfl) rfl
set_option maxRecDepth 20000 in
theorem w_432 : Cond.instanceMethod yX4_hasRoom ∈ wl := tm_2 (List.mem_of_getElem? (i := 153) rfl) rfl
set_option maxRecDepth 20000 in
theorem w_433 : Cond.selects RX4 yX4_hasRoom yX4_hasRoom ∈ wl := tm_2 (List.mem_of_getElem? (i := 154) rfl) rfl
set_option maxRecDepth 20000 in
theorem w_434 : Cond.code yX4_append cX4_append 3 none ∈ wl := tm_2 (List.mem_of_getElem? (i := 159) rfl) rfl
set_option maxRecDepth 20000 in
theorem w_435 : Cond.methodLink RX11 91 yX4_append ∈ wl := tm_2 (List.mem_of_getElem? (i := 156) rfl) rfl
set_option maxRecDepth 20000 in
theorem w_436 : Cond.instanceMethod yX4_append ∈ wl := tm_2 (List.mem_of_getElem? (i := 157) rfl) rfl
set_option maxRecDepth 20000 in
theorem w_437 : Cond.selects RX4 yX4_append yX4_append ∈ wl := tm_2 (List.mem_of_getElem? (i := 158) rfl) rfl
set_option maxRecDepth 20000 in
theorem w_438 : Cond.fieldLink RX4 35 "LostWood$Reader" "behind" "I" ∈ wl := tm_1 (List.mem_of_getElem? (i := 109) rfl) rfl
set_option maxRecDepth 20000 in
theorem w_439 : Cond.fieldLink RX4 54 "LostWood$Reader" "from" "I" ∈ wl := tm_1 (List.mem_of_getElem? (i := 108) rfl) rfl
set_option maxRecDepth 20000 in
theorem w_440 : Cond.code yX4_kindAt cX4_kindAt 3 (some .int) ∈ wl := tm_2 (List.mem_of_getElem? (i := 184) rfl) rfl
set_option maxRecDepth 20000 in
theorem w_441 : Cond.methodLink RX4 57 yX4_kindAt ∈ wl := tm_2 (List.mem_of_getElem? (i := 181) rfl) rfl
set_option maxRecDepth 20000 in
theorem w_442 : Cond.instanceMethod yX4_kindAt ∈ wl := tm_2 (List.mem_of_getElem? (i := 183) rfl) rfl
set_option maxRecDepth 20000 in
theorem w_443 : Cond.selects RX4 yX4_kindAt yX4_kindAt ∈ wl := tp_1 (q := (yX4_kindAt, 10)) (List.mem_of_getElem? (i := 1) rfl)
set_option maxRecDepth 20000 in
theorem w_444 : Cond.fieldLink RX4 41 "LostWood$Reader" "kind" "I" ∈ wl := tm_1 (List.mem_of_getElem? (i := 107) rfl) rfl
set_option maxRecDepth 20000 in
theorem w_445 : Cond.code yX4_byteAt cX4_byteAt 2 (some .int) ∈ wl := tm_2 (List.mem_of_getElem? (i := 188) rfl) rfl
set_option maxRecDepth 20000 in
theorem w_446 : Cond.methodLink RX4 61 yX4_byteAt ∈ wl := tm_2 (List.mem_of_getElem? (i := 185) rfl) rfl
set_option maxRecDepth 20000 in
theorem w_447 : Cond.instanceMethod yX4_byteAt ∈ wl := tm_2 (List.mem_of_getElem? (i := 187) rfl) rfl
set_option maxRecDepth 20000 in
theorem w_448 : Cond.selects RX4 yX4_byteAt yX4_byteAt ∈ wl := tp_1 (q := (yX4_byteAt, 10)) (List.mem_of_getElem? (i := 2) rfl)
set_option maxRecDepth 20000 in
theorem w_449 : Cond.fieldLink RX4 64 "LostWood$Reader" "number" "I" ∈ wl := tm_1 (List.mem_of_getElem? (i := 110) rfl) rfl
set_option maxRecDepth 20000 in
theorem w_450 : Cond.methodLink RX10 36 yJ7_fill_53178 ∈ wl := tm_2 (List.mem_of_getElem? (i := 176) rfl) rfl
set_option maxRecDepth 20000 in
theorem w_451 : Cond.fieldLink RX10 49 "LostWood$Wood" "lessons" "I" ∈ wl := tm_1 (List.mem_of_getElem? (i := 65) rfl) rfl
set_option maxRecDepth 20000 in
theorem w_452 : Cond.code yX10_clear cX10_clear 2 none ∈ wl := tm_2 (List.mem_of_getElem? (i := 175) rfl) rfl
set_option maxRecDepth 20000 in
theorem w_453 : Cond.methodLink RX4 29 yX10_clear ∈ wl := tm_2 (List.mem_of_getElem? (i := 172) rfl) rfl
set_option maxRecDepth 20000 in
theorem w_454 : Cond.instanceMethod yX10_clear ∈ wl := tm_2 (List.mem_of_getElem? (i := 173) rfl) rfl
set_option maxRecDepth 20000 in
theorem w_455 : Cond.selects RX10 yX10_clear yX10_clear ∈ wl := tm_2 (List.mem_of_getElem? (i := 174) rfl) rfl
set_option maxRecDepth 20000 in
theorem w_456 : Cond.fieldLink RX4 32 "LostWood$Reader" "faultKind" "I" ∈ wl := tm_1 (List.mem_of_getElem? (i := 101) rfl) rfl
set_option maxRecDepth 20000 in
theorem w_457 : Cond.code yX4_advance cX4_advance 3 none ∈ wl := tm_2 (List.mem_of_getElem? (i := 180) rfl) rfl
set_option maxRecDepth 20000 in
theorem w_458 : Cond.methodLink RX4 38 yX4_advance ∈ wl := tm_2 (List.mem_of_getElem? (i := 177) rfl) rfl
set_option maxRecDepth 20000 in
theorem w_459 : Cond.instanceMethod yX4_advance ∈ wl := tm_2 (List.mem_of_getElem? (i := 179) rfl) rfl
set_option maxRecDepth 20000 in
theorem w_460 : Cond.selects RX4 yX4_advance yX4_advance ∈ wl := tp_1 (q := (yX4_advance, 10)) (List.mem_of_getElem? (i := 0) rfl)
set_option maxRecDepth 20000 in
theorem w_461 : Cond.methodLink RX10 55 arraycopyName ∈ wl := tm_3 (List.mem_of_getElem? (i := 93) rfl) rfl
set_option maxRecDepth 20000 in
theorem w_462 : Cond.native arraycopyName ∈ wl := tm_3 (List.mem_of_getElem? (i := 95) rfl) rfl
set_option maxRecDepth 20000 in
theorem w_463 : Cond.static arraycopyName ∈ wl := tm_3 (List.mem_of_getElem? (i := 94) rfl) rfl
set_option maxRecDepth 20000 in
theorem w_464 : Cond.initialized "java/lang/System" ∈ wl := tm_1 (List.mem_of_getElem? (i := 20) rfl) rfl
set_option maxRecDepth 20000 in
theorem w_465 : Cond.methodLink RX2 39 arraycopyName ∈ wl := tm_5 (List.mem_of_getElem? (i := 233) rfl) rfl
set_option maxRecDepth 20000 in
theorem w_466 : Cond.fieldLink RX2 35 "LostWood$Party" "steps" "I" ∈ wl := tm_1 (List.mem_of_getElem? (i := 148) rfl) rfl
set_option maxRecDepth 20000 in
theorem w_467 : Cond.fieldLink RX2 27 "LostWood$Wood" "starts" "[I" ∈ wl := tm_1 (List.mem_of_getElem? (i := 45) rfl) rfl
set_option maxRecDepth 20000 in
theorem w_468 : Cond.fieldLink RX2 32 "LostWood$Wood" "thoughts" "[I" ∈ wl := tm_1 (List.mem_of_getElem? (i := 49) rfl) rfl
set_option maxRecDepth 20000 in
theorem w_469 : Cond.code yX4_parse cX4_parse 2 (some .boolean) ∈ wl := tm_2 (List.mem_of_getElem? (i := 171) rfl) rfl
set_option maxRecDepth 20000 in
theorem w_470 : Cond.methodLink RX11 99 yX4_parse ∈ wl := tm_2 (List.mem_of_getElem? (i := 168) rfl) rfl
set_option maxRecDepth 20000 in
theorem w_471 : Cond.instanceMethod yX4_parse ∈ wl := tm_2 (List.mem_of_getElem? (i := 169) rfl) rfl
set_option maxRecDepth 20000 in
theorem w_472 : Cond.selects RX4 yX4_parse yX4_parse ∈ wl := tm_2 (List.mem_of_getElem? (i := 170) rfl) rfl
set_option maxRecDepth 20000 in
theorem w_473 : Cond.fieldLink RX11 103 "LostWood$Reader" "draft" "LLostWood$Wood;" ∈ wl := tm_1 (List.mem_of_getElem? (i := 106) rfl) rfl
set_option maxRecDepth 20000 in
theorem w_474 : Cond.code yX10_copyFrom cX10_copyFrom 2 none ∈ wl := tm_3 (List.mem_of_getElem? (i := 92) rfl) rfl
set_option maxRecDepth 20000 in
theorem w_475 : Cond.methodLink RX11 106 yX10_copyFrom ∈ wl := tm_3 (List.mem_of_getElem? (i := 89) rfl) rfl
set_option maxRecDepth 20000 in
theorem w_476 : Cond.instanceMethod yX10_copyFrom ∈ wl := tm_3 (List.mem_of_getElem? (i := 90) rfl) rfl
set_option maxRecDepth 20000 in
theorem w_477 : Cond.selects RX10 yX10_copyFrom yX10_copyFrom ∈ wl := tm_3 (List.mem_of_getElem? (i := 91) rfl) rfl
set_option maxRecDepth 20000 in
theorem w_478 : Cond.code yX2_assemble cX2_assemble 3 none ∈ wl := tm_3 (List.mem_of_getElem? (i := 99) rfl) rfl
set_option maxRecDepth 20000 in
theorem w_479 : Cond.methodLink RX11 110 yX2_assemble ∈ wl := tm_3 (List.mem_of_getElem? (i := 96) rfl) rfl
set_option maxRecDepth 20000 in
theorem w_480 : Cond.instanceMethod yX2_assemble ∈ wl := tm_3 (List.mem_of_getElem? (i := 97) rfl) rfl
set_option maxRecDepth 20000 in
theorem w_481 : Cond.selects RX2 yX2_assemble yX2_assemble ∈ wl := tm_3 (List.mem_of_getElem? (i := 98) rfl) rfl
set_option maxRecDepth 20000 in
theorem w_482 : Cond.fieldLink RX11 113 "LostWood$Plans" "ready" "Z" ∈ wl := tm_2 (List.mem_of_getElem? (i := 49) rfl) rfl
set_option maxRecDepth 20000 in
theorem w_483 : Cond.code yX2_copyFrom cX2_copyFrom 2 none ∈ wl := tm_5 (List.mem_of_getElem? (i := 232) rfl) rfl
set_option maxRecDepth 20000 in
theorem w_484 : Cond.methodLink RX11 349 yX2_copyFrom ∈ wl := tm_5 (List.mem_of_getElem? (i := 229) rfl) rfl
set_option maxRecDepth 20000 in
theorem w_485 : Cond.instanceMethod yX2_copyFrom ∈ wl := tm_5 (List.mem_of_getElem? (i := 230) rfl) rfl
set_option maxRecDepth 20000 in
theorem w_486 : Cond.selects RX2 yX2_copyFrom yX2_copyFrom ∈ wl := tm_5 (List.mem_of_getElem? (i := 231) rfl) rfl
set_option maxRecDepth 20000 in
theorem w_487 : Cond.code yJ7_rangeCheck_23922 cJ7_rangeCheck_23922 3 none ∈ wl := tm_6 (List.mem_of_getElem? (i := 11) rfl) rfl
set_option maxRecDepth 20000 in
theorem w_488 : Cond.methodLink RJ7 13 yJ7_rangeCheck_23922 ∈ wl := tm_6 (List.mem_of_getElem? (i := 9) rfl) rfl
set_option maxRecDepth 20000 in
theorem w_489 : Cond.static yJ7_rangeCheck_23922 ∈ wl := tm_6 (List.mem_of_getElem? (i := 10) rfl) rfl
set_option maxRecDepth 20000 in
theorem w_490 : Cond.code yJ7_fill_bad5a cJ7_fill_bad5a 6 none ∈ wl := tm_6 (List.mem_of_getElem? (i := 8) rfl) rfl
set_option maxRecDepth 20000 in
theorem w_491 : Cond.methodLink RX5 32 yJ7_fill_bad5a ∈ wl := tm_6 (List.mem_of_getElem? (i := 6) rfl) rfl
set_option maxRecDepth 20000 in
theorem w_492 : Cond.static yJ7_fill_bad5a ∈ wl := tm_6 (List.mem_of_getElem? (i := 7) rfl) rfl
set_option maxRecDepth 20000 in
theorem w_493 : Cond.code yX5_make cX5_make 5 none ∈ wl := tm_6 (List.mem_of_getElem? (i := 5) rfl) rfl
set_option maxRecDepth 20000 in
theorem w_494 : Cond.methodLink RX11 355 yX5_make ∈ wl := tm_6 (List.mem_of_getElem? (i := 2) rfl) rfl
set_option maxRecDepth 20000 in
theorem w_495 : Cond.instanceMethod yX5_make ∈ wl := tm_6 (List.mem_of_getElem? (i := 3) rfl) rfl
set_option maxRecDepth 20000 in
theorem w_496 : Cond.selects RX5 yX5_make yX5_make ∈ wl := tm_6 (List.mem_of_getElem? (i := 4) rfl) rfl
set_option maxRecDepth 20000 in
theorem w_497 : Cond.fieldLink RX12 136 "LostWoodModel" "size" "I" ∈ wl := tm_6 (List.mem_of_getElem? (i := 54) rfl) rfl
set_option maxRecDepth 20000 in
theorem w_498 : Cond.fieldLink RX12 139 "LostWoodModel" "at" "I" ∈ wl := tm_6 (List.mem_of_getElem? (i := 55) rfl) rfl
set_option maxRecDepth 20000 in
theorem w_499 : Cond.code yX12_see cX12_see 2 (some .int) ∈ wl := tm_7 (List.mem_of_getElem? (i := 3) rfl) rfl
set_option maxRecDepth 20000 in
theorem w_500 : Cond.methodLink RX12 142 yX12_see ∈ wl := tm_7 (List.mem_of_getElem? (i := 0) rfl) rfl
set_option maxRecDepth 20000 in
theorem w_501 : Cond.instanceMethod yX12_see ∈ wl := tm_7 (List.mem_of_getElem? (i := 2) rfl) rfl
set_option maxRecDepth 20000 in
theorem w_502 : Cond.selects RX12 yX12_see yX12_see ∈ wl := tp_3 (q := (yX12_see, 53)) (List.mem_of_getElem? (i := 7) rfl)
set_option maxRecDepth 20000 in
theorem w_503 : Cond.fieldLink RX12 146 "LostWoodModel" "from" "I" ∈ wl := tm_6 (List.mem_of_getElem? (i := 56) rfl) rfl
set_option maxRecDepth 20000 in
theorem w_504 : Cond.fieldLink RX12 149 "LostWoodModel" "token" "I" ∈ wl := tm_6 (List.mem_of_getElem? (i := 57) rfl) rfl
set_option maxRecDepth 20000 in
theorem w_505 : Cond.code yX12_advance cX12_advance 2 none ∈ wl := tm_6 (List.mem_of_getElem? (i := 239) rfl) rfl
set_option maxRecDepth 20000 in
theorem w_506 : Cond.methodLink RX12 189 yX12_advance ∈ wl := tm_6 (List.mem_of_getElem? (i := 236) rfl) rfl
set_option maxRecDepth 20000 in
theorem w_507 : Cond.instanceMethod yX12_advance ∈ wl := tm_6 (List.mem_of_getElem? (i := 238) rfl) rfl
set_option maxRecDepth 20000 in
theorem w_508 : Cond.selects RX12 yX12_advance yX12_advance ∈ wl := tp_3 (q := (yX12_advance, 53)) (List.mem_of_getElem? (i := 6) rfl)
set_option maxRecDepth 20000 in
theorem w_509 : Cond.code yX12_good cX12_good 1 (some .boolean) ∈ wl := tm_7 (List.mem_of_getElem? (i := 13) rfl) rfl
set_option maxRecDepth 20000 in
theorem w_510 : Cond.methodLink RX12 173 yX12_good ∈ wl := tm_7 (List.mem_of_getElem? (i := 10) rfl) rfl
set_option maxRecDepth 20000 in
theorem w_511 : Cond.instanceMethod yX12_good ∈ wl := tm_7 (List.mem_of_getElem? (i := 12) rfl) rfl
set_option maxRecDepth 20000 in
theorem w_512 : Cond.selects RX12 yX12_good yX12_good ∈ wl := tp_3 (q := (yX12_good, 53)) (List.mem_of_getElem? (i := 8) rfl)
set_option maxRecDepth 20000 in
theorem w_513 : Cond.code yX11_feed cX11_feed 6 (some .int) ∈ wl := tm_2 (List.mem_of_getElem? (i := 151) rfl) rfl
set_option maxRecDepth 20000 in
theorem w_514 : Cond.methodLink RL 13 yX11_feed ∈ wl := tm_2 (List.mem_of_getElem? (i := 148) rfl) rfl
set_option maxRecDepth 20000 in
theorem w_515 : Cond.instanceMethod yX11_feed ∈ wl := tm_2 (List.mem_of_getElem? (i := 149) rfl) rfl
set_option maxRecDepth 20000 in
theorem w_516 : Cond.selects RX11 yX11_feed yX11_feed ∈ wl := tm_2 (List.mem_of_getElem? (i := 150) rfl) rfl
set_option maxRecDepth 20000 in
theorem w_517 : Cond.code yX12_feed cX12_feed 7 (some .int) ∈ wl := tm_6 (List.mem_of_getElem? (i := 223) rfl) rfl
set_option maxRecDepth 20000 in
theorem w_518 : Cond.methodLink RL 17 yX12_feed ∈ wl := tm_6 (List.mem_of_getElem? (i := 220) rfl) rfl
set_option maxRecDepth 20000 in
theorem w_519 : Cond.instanceMethod yX12_feed ∈ wl := tm_6 (List.mem_of_getElem? (i := 221) rfl) rfl
set_option maxRecDepth 20000 in
theorem w_520 : Cond.selects RX12 yX12_feed yX12_feed ∈ wl := tm_6 (List.mem_of_getElem? (i := 222) rfl) rfl
set_option maxRecDepth 20000 in
theorem w_521 : Cond.code yX11_end cX11_end 2 (some .int) ∈ wl := tm_2 (List.mem_of_getElem? (i := 163) rfl) rfl
set_option maxRecDepth 20000 in
theorem w_522 : Cond.methodLink RL 18 yX11_end ∈ wl := tm_2 (List.mem_of_getElem? (i := 160) rfl) rfl
set_option maxRecDepth 20000 in
theorem w_523 : Cond.instanceMethod yX11_end ∈ wl := tm_2 (List.mem_of_getElem? (i := 161) rfl) rfl
set_option maxRecDepth 20000 in
theorem w_524 : Cond.selects RX11 yX11_end yX11_end ∈ wl := tm_2 (List.mem_of_getElem? (i := 162) rfl) rfl
set_option maxRecDepth 20000 in
theorem w_525 : Cond.code yX12_end cX12_end 2 (some .int) ∈ wl := tm_6 (List.mem_of_getElem? (i := 227) rfl) rfl
set_option maxRecDepth 20000 in
theorem w_526 : Cond.methodLink RL 22 yX12_end ∈ wl := tm_6 (List.mem_of_getElem? (i := 224) rfl) rfl
set_option maxRecDepth 20000 in
theorem w_527 : Cond.instanceMethod yX12_end ∈ wl := tm_6 (List.mem_of_getElem? (i := 225) rfl) rfl
set_option maxRecDepth 20000 in
theorem w_528 : Cond.selects RX12 yX12_end yX12_end ∈ wl := tm_6 (List.mem_of_getElem? (i := 226) rfl) rfl
set_option maxRecDepth 20000 in
theorem w_529 : Cond.code yX11_wood cX11_wood 1 (some .int) ∈ wl := tm_2 (List.mem_of_getElem? (i := 167) rfl) rfl
set_option maxRecDepth 20000 in
theorem w_530 : Cond.methodLink RL 23 yX11_wood ∈ wl := tm_2 (List.mem_of_getElem? (i := 164) rfl) rfl
set_option maxRecDepth 20000 in
theorem w_531 : Cond.instanceMethod yX11_wood ∈ wl := tm_2 (List.mem_of_getElem? (i := 165) rfl) rfl
set_option maxRecDepth 20000 in
theorem w_532 : Cond.selects RX11 yX11_wood yX11_wood ∈ wl := tm_2 (List.mem_of_getElem? (i := 166) rfl) rfl
set_option maxRecDepth 20000 in
theorem w_533 : Cond.code yX12_wood cX12_wood 2 (some .int) ∈ wl := tm_6 (List.mem_of_getElem? (i := 235) rfl) rfl
set_option maxRecDepth 20000 in
theorem w_534 : Cond.methodLink RL 27 yX12_wood ∈ wl := tm_6 (List.mem_of_getElem? (i := 232) rfl) rfl
set_option maxRecDepth 20000 in
theorem w_535 : Cond.instanceMethod yX12_wood ∈ wl := tm_6 (List.mem_of_getElem? (i := 233) rfl) rfl
set_option maxRecDepth 20000 in
theorem w_536 : Cond.selects RX12 yX12_wood yX12_wood ∈ wl := tm_6 (List.mem_of_getElem? (i := 234) rfl) rfl
set_option maxRecDepth 20000 in
theorem w_537 : Cond.code yX11_fault cX11_fault 2 (some .int) ∈ wl := tm_3 (List.mem_of_getElem? (i := 103) rfl) rfl
set_option maxRecDepth 20000 in
theorem w_538 : Cond.methodLink RL 28 yX11_fault ∈ wl := tm_3 (List.mem_of_getElem? (i := 100) rfl) rfl
set_option maxRecDepth 20000 in
theorem w_539 : Cond.instanceMethod yX11_fault ∈ wl := tm_3 (List.mem_of_getElem? (i := 101) rfl) rfl
set_option maxRecDepth 20000 in
theorem w_540 : Cond.selects RX11 yX11_fault yX11_fault ∈ wl := tm_3 (List.mem_of_getElem? (i := 102) rfl) rfl
set_option maxRecDepth 20000 in
theorem w_541 : Cond.code yX12_fault cX12_fault 2 (some .int) ∈ wl := tm_6 (List.mem_of_getElem? (i := 231) rfl) rfl
set_option maxRecDepth 20000 in
theorem w_542 : Cond.methodLink RL 31 yX12_fault ∈ wl := tm_6 (List.mem_of_getElem? (i := 228) rfl) rfl
set_option maxRecDepth 20000 in
theorem w_543 : Cond.instanceMethod yX12_fault ∈ wl := tm_6 (List.mem_of_getElem? (i := 229) rfl) rfl
set_option maxRecDepth 20000 in
theorem w_544 : Cond.selects RX12 yX12_fault yX12_fault ∈ wl := tm_6 (List.mem_of_getElem? (i := 230) rfl) rfl
set_option maxRecDepth 20000 in
theorem w_545 : Cond.code yX11_leads cX11_leads 3 (some .int) ∈ wl := tm_3 (List.mem_of_getElem? (i := 107) rfl) rfl
set_option maxRecDepth 20000 in
theorem w_546 : Cond.methodLink RL 32 yX11_leads ∈ wl := tm_3 (List.mem_of_getElem? (i := 104) rfl) rfl
set_option maxRecDepth 20000 in
theorem w_547 : Cond.instanceMethod yX11_leads ∈ wl := tm_3 (List.mem_of_getElem? (i := 105) rfl) rfl
set_option maxRecDepth 20000 in
theorem w_548 : Cond.selects RX11 yX11_leads yX11_leads ∈ wl := tm_3 (List.mem_of_getElem? (i := 106) rfl) rfl
set_option maxRecDepth 20000 in
theorem w_549 : Cond.code yX12_leads cX12_leads 3 (some .int) ∈ wl := tm_7 (List.mem_of_getElem? (i := 96) rfl) rfl
set_option maxRecDepth 20000 in
theorem w_550 : Cond.methodLink RL 36 yX12_leads ∈ wl := tm_7 (List.mem_of_getElem? (i := 93) rfl) rfl
set_option maxRecDepth 20000 in
theorem w_551 : Cond.instanceMethod yX12_leads ∈ wl := tm_7 (List.mem_of_getElem? (i := 94) rfl) rfl
set_option maxRecDepth 20000 in
theorem w_552 : Cond.selects RX12 yX12_leads yX12_leads ∈ wl := tm_7 (List.mem_of_getElem? (i := 95) rfl) rfl
set_option maxRecDepth 20000 in
theorem w_553 : Cond.code yX11_mark cX11_mark 2 (some .int) ∈ wl := tm_3 (List.mem_of_getElem? (i := 117) rfl) rfl
set_option maxRecDepth 20000 in
theorem w_554 : Cond.methodLink RL 37 yX11_mark ∈ wl := tm_3 (List.mem_of_getElem? (i := 114) rfl) rfl
set_option maxRecDepth 20000 in
theorem w_555 : Cond.instanceMethod yX11_mark ∈ wl := tm_3 (List.mem_of_getElem? (i := 115) rfl) rfl
set_option maxRecDepth 20000 in
theorem w_556 : Cond.selects RX11 yX11_mark yX11_mark ∈ wl := tm_3 (List.mem_of_getElem? (i := 116) rfl) rfl
set_option maxRecDepth 20000 in
theorem w_557 : Cond.code yX12_mark cX12_mark 2 (some .int) ∈ wl := tm_7 (List.mem_of_getElem? (i := 112) rfl) rfl
set_option maxRecDepth 20000 in
theorem w_558 : Cond.methodLink RL 40 yX12_mark ∈ wl := tm_7 (List.mem_of_getElem? (i := 109) rfl) rfl
set_option maxRecDepth 20000 in
theorem w_559 : Cond.instanceMethod yX12_mark ∈ wl := tm_7 (List.mem_of_getElem? (i := 110) rfl) rfl
set_option maxRecDepth 20000 in
theorem w_560 : Cond.selects RX12 yX12_mark yX12_mark ∈ wl := tm_7 (List.mem_of_getElem? (i := 111) rfl) rfl
set_option maxRecDepth 20000 in
theorem w_561 : Cond.code yX11_becomes cX11_becomes 3 (some .int) ∈ wl := tm_3 (List.mem_of_getElem? (i := 125) rfl) rfl
set_option maxRecDepth 20000 in
theorem w_562 : Cond.methodLink RL 41 yX11_becomes ∈ wl := tm_3 (List.mem_of_getElem? (i := 122) rfl) rfl
set_option maxRecDepth 20000 in
theorem w_563 : Cond.instanceMethod yX11_becomes ∈ wl := tm_3 (List.mem_of_getElem? (i := 123) rfl) rfl
set_option maxRecDepth 20000 in
theorem w_564 : Cond.selects RX11 yX11_becomes yX11_becomes ∈ wl := tm_3 (List.mem_of_getElem? (i := 124) rfl) rfl
set_option maxRecDepth 20000 in
theorem w_565 : Cond.code yX12_becomes cX12_becomes 3 (some .int) ∈ wl := tm_7 (List.mem_of_getElem? (i := 120) rfl) rfl
set_option maxRecDepth 20000 in
theorem w_566 : Cond.methodLink RL 44 yX12_becomes ∈ wl := tm_7 (List.mem_of_getElem? (i := 117) rfl) rfl
set_option maxRecDepth 20000 in
theorem w_567 : Cond.instanceMethod yX12_becomes ∈ wl := tm_7 (List.mem_of_getElem? (i := 118) rfl) rfl
set_option maxRecDepth 20000 in
theorem w_568 : Cond.selects RX12 yX12_becomes yX12_becomes ∈ wl := tm_7 (List.mem_of_getElem? (i := 119) rfl) rfl
set_option maxRecDepth 20000 in
theorem w_569 : Cond.code yX11_seen cX11_seen 3 (some .int) ∈ wl := tm_3 (List.mem_of_getElem? (i := 141) rfl) rfl
set_option maxRecDepth 20000 in
theorem w_570 : Cond.methodLink RL 45 yX11_seen ∈ wl := tm_3 (List.mem_of_getElem? (i := 138) rfl) rfl
set_option maxRecDepth 20000 in
theorem w_571 : Cond.instanceMethod yX11_seen ∈ wl := tm_3 (List.mem_of_getElem? (i := 139) rfl) rfl
set_option maxRecDepth 20000 in
theorem w_572 : Cond.selects RX11 yX11_seen yX11_seen ∈ wl := tm_3 (List.mem_of_getElem? (i := 140) rfl) rfl
set_option maxRecDepth 20000 in
theorem w_573 : Cond.code yX12_seen cX12_seen 3 (some .int) ∈ wl := tm_7 (List.mem_of_getElem? (i := 143) rfl) rfl
set_option maxRecDepth 20000 in
theorem w_574 : Cond.methodLink RL 48 yX12_seen ∈ wl := tm_7 (List.mem_of_getElem? (i := 140) rfl) rfl
set_option maxRecDepth 20000 in
theorem w_575 : Cond.instanceMethod yX12_seen ∈ wl := tm_7 (List.mem_of_getElem? (i := 141) rfl) rfl
set_option maxRecDepth 20000 in
theorem w_576 : Cond.selects RX12 yX12_seen yX12_seen ∈ wl := tm_7 (List.mem_of_getElem? (i := 142) rfl) rfl
set_option maxRecDepth 20000 in
theorem w_577 : Cond.code yX11_where cX11_where 2 (some .int) ∈ wl := tm_3 (List.mem_of_getElem? (i := 152) rfl) rfl
set_option maxRecDepth 20000 in
theorem w_578 : Cond.methodLink RL 49 yX11_where ∈ wl := tm_3 (List.mem_of_getElem? (i := 149) rfl) rfl
set_option maxRecDepth 20000 in
theorem w_579 : Cond.instanceMethod yX11_where ∈ wl := tm_3 (List.mem_of_getElem? (i := 150) rfl) rfl
set_option maxRecDepth 20000 in
theorem w_580 : Cond.selects RX11 yX11_where yX11_where ∈ wl := tm_3 (List.mem_of_getElem? (i := 151) rfl) rfl
set_option maxRecDepth 20000 in
theorem w_581 : Cond.code yX12_where cX12_where 2 (some .int) ∈ wl := tm_7 (List.mem_of_getElem? (i := 152) rfl) rfl
set_option maxRecDepth 20000 in
theorem w_582 : Cond.methodLink RL 52 yX12_where ∈ wl := tm_7 (List.mem_of_getElem? (i := 149) rfl) rfl
set_option maxRecDepth 20000 in
theorem w_583 : Cond.instanceMethod yX12_where ∈ wl := tm_7 (List.mem_of_getElem? (i := 150) rfl) rfl
set_option maxRecDepth 20000 in
theorem w_584 : Cond.selects RX12 yX12_where yX12_where ∈ wl := tm_7 (List.mem_of_getElem? (i := 151) rfl) rfl
set_option maxRecDepth 20000 in
theorem w_585 : Cond.code yX11_thinks cX11_thinks 2 (some .int) ∈ wl := tm_3 (List.mem_of_getElem? (i := 168) rfl) rfl
set_option maxRecDepth 20000 in
theorem w_586 : Cond.methodLink RL 53 yX11_thinks ∈ wl := tm_3 (List.mem_of_getElem? (i := 165) rfl) rfl
set_option maxRecDepth 20000 in
theorem w_587 : Cond.instanceMethod yX11_thinks ∈ wl := tm_3 (List.mem_of_getElem? (i := 166) rfl) rfl
set_option maxRecDepth 20000 in
theorem w_588 : Cond.selects RX11 yX11_thinks yX11_thinks ∈ wl := tm_3 (List.mem_of_getElem? (i := 167) rfl) rfl
set_option maxRecDepth 20000 in
theorem w_589 : Cond.code yX12_thinks cX12_thinks 2 (some .int) ∈ wl := tm_7 (List.mem_of_getElem? (i := 164) rfl) rfl
set_option maxRecDepth 20000 in
theorem w_590 : Cond.methodLink RL 56 yX12_thinks ∈ wl := tm_7 (List.mem_of_getElem? (i := 161) rfl) rfl
set_option maxRecDepth 20000 in
theorem w_591 : Cond.instanceMethod yX12_thinks ∈ wl := tm_7 (List.mem_of_getElem? (i := 162) rfl) rfl
set_option maxRecDepth 20000 in
theorem w_592 : Cond.selects RX12 yX12_thinks yX12_thinks ∈ wl := tm_7 (List.mem_of_getElem? (i := 163) rfl) rfl
set_option maxRecDepth 20000 in
theorem w_593 : Cond.code yX11_pupil cX11_pupil 3 (some .int) ∈ wl := tm_3 (List.mem_of_getElem? (i := 172) rfl) rfl
set_option maxRecDepth 20000 in
theorem w_594 : Cond.methodLink RL 57 yX11_pupil ∈ wl := tm_3 (List.mem_of_getElem? (i := 169) rfl) rfl
set_option maxRecDepth 20000 in
theorem w_595 : Cond.instanceMethod yX11_pupil ∈ wl := tm_3 (List.mem_of_getElem? (i := 170) rfl) rfl
set_option maxRecDepth 20000 in
theorem w_596 : Cond.selects RX11 yX11_pupil yX11_pupil ∈ wl := tm_3 (List.mem_of_getElem? (i := 171) rfl) rfl
set_option maxRecDepth 20000 in
theorem w_597 : Cond.code yX12_pupil cX12_pupil 3 (some .int) ∈ wl := tm_7 (List.mem_of_getElem? (i := 172) rfl) rfl
set_option maxRecDepth 20000 in
theorem w_598 : Cond.methodLink RL 60 yX12_pupil ∈ wl := tm_7 (List.mem_of_getElem? (i := 169) rfl) rfl
set_option maxRecDepth 20000 in
theorem w_599 : Cond.instanceMethod yX12_pupil ∈ wl := tm_7 (List.mem_of_getElem? (i := 170) rfl) rfl
set_option maxRecDepth 20000 in
theorem w_600 : Cond.selects RX12 yX12_pupil yX12_pupil ∈ wl := tm_7 (List.mem_of_getElem? (i := 171) rfl) rfl
set_option maxRecDepth 20000 in
theorem w_601 : Cond.code yX11_goes cX11_goes 3 (some .int) ∈ wl := tm_3 (List.mem_of_getElem? (i := 194) rfl) rfl
set_option maxRecDepth 20000 in
theorem w_602 : Cond.methodLink RL 61 yX11_goes ∈ wl := tm_3 (List.mem_of_getElem? (i := 191) rfl) rfl
set_option maxRecDepth 20000 in
theorem w_603 : Cond.instanceMethod yX11_goes ∈ wl := tm_3 (List.mem_of_getElem? (i := 192) rfl) rfl
set_option maxRecDepth 20000 in
theorem w_604 : Cond.selects RX11 yX11_goes yX11_goes ∈ wl := tm_3 (List.mem_of_getElem? (i := 193) rfl) rfl
set_option maxRecDepth 20000 in
theorem w_605 : Cond.code yX12_goes cX12_goes 4 (some .int) ∈ wl := tm_7 (List.mem_of_getElem? (i := 195) rfl) rfl
set_option maxRecDepth 20000 in
theorem w_606 : Cond.methodLink RL 64 yX12_goes ∈ wl := tm_7 (List.mem_of_getElem? (i := 192) rfl) rfl
set_option maxRecDepth 20000 in
theorem w_607 : Cond.instanceMethod yX12_goes ∈ wl := tm_7 (List.mem_of_getElem? (i := 193) rfl) rfl
set_option maxRecDepth 20000 in
theorem w_608 : Cond.selects RX12 yX12_goes yX12_goes ∈ wl := tm_7 (List.mem_of_getElem? (i := 194) rfl) rfl
set_option maxRecDepth 20000 in
theorem w_609 : Cond.code yX11_most cX11_most 5 (some .int) ∈ wl := tm_3 (List.mem_of_getElem? (i := 211) rfl) rfl
set_option maxRecDepth 20000 in
theorem w_610 : Cond.methodLink RL 65 yX11_most ∈ wl := tm_3 (List.mem_of_getElem? (i := 208) rfl) rfl
set_option maxRecDepth 20000 in
theorem w_611 : Cond.instanceMethod yX11_most ∈ wl := tm_3 (List.mem_of_getElem? (i := 209) rfl) rfl
set_option maxRecDepth 20000 in
theorem w_612 : Cond.selects RX11 yX11_most yX11_most ∈ wl := tm_3 (List.mem_of_getElem? (i := 210) rfl) rfl
set_option maxRecDepth 20000 in
theorem w_613 : Cond.code yX12_most cX12_most 5 (some .int) ∈ wl := tm_7 (List.mem_of_getElem? (i := 203) rfl) rfl
set_option maxRecDepth 20000 in
theorem w_614 : Cond.methodLink RL 68 yX12_most ∈ wl := tm_7 (List.mem_of_getElem? (i := 200) rfl) rfl
set_option maxRecDepth 20000 in
theorem w_615 : Cond.instanceMethod yX12_most ∈ wl := tm_7 (List.mem_of_getElem? (i := 201) rfl) rfl
set_option maxRecDepth 20000 in
theorem w_616 : Cond.selects RX12 yX12_most yX12_most ∈ wl := tm_7 (List.mem_of_getElem? (i := 202) rfl) rfl
set_option maxRecDepth 20000 in
theorem w_617 : Cond.code yX11_who cX11_who 4 (some .int) ∈ wl := tm_3 (List.mem_of_getElem? (i := 219) rfl) rfl
set_option maxRecDepth 20000 in
theorem w_618 : Cond.methodLink RL 69 yX11_who ∈ wl := tm_3 (List.mem_of_getElem? (i := 216) rfl) rfl
set_option maxRecDepth 20000 in
theorem w_619 : Cond.instanceMethod yX11_who ∈ wl := tm_3 (List.mem_of_getElem? (i := 217) rfl) rfl
set_option maxRecDepth 20000 in
theorem w_620 : Cond.selects RX11 yX11_who yX11_who ∈ wl := tm_3 (List.mem_of_getElem? (i := 218) rfl) rfl
set_option maxRecDepth 20000 in
theorem w_621 : Cond.code yX12_who cX12_who 4 (some .int) ∈ wl := tm_7 (List.mem_of_getElem? (i := 208) rfl) rfl
set_option maxRecDepth 20000 in
theorem w_622 : Cond.methodLink RL 72 yX12_who ∈ wl := tm_7 (List.mem_of_getElem? (i := 205) rfl) rfl
set_option maxRecDepth 20000 in
theorem w_623 : Cond.instanceMethod yX12_who ∈ wl := tm_7 (List.mem_of_getElem? (i := 206) rfl) rfl
set_option maxRecDepth 20000 in
theorem w_624 : Cond.selects RX12 yX12_who yX12_who ∈ wl := tm_7 (List.mem_of_getElem? (i := 207) rfl) rfl
set_option maxRecDepth 20000 in
theorem w_625 : Cond.code yX11_undo cX11_undo 1 (some .int) ∈ wl := tm_3 (List.mem_of_getElem? (i := 223) rfl) rfl
set_option maxRecDepth 20000 in
theorem w_626 : Cond.methodLink RL 73 yX11_undo ∈ wl := tm_3 (List.mem_of_getElem? (i := 220) rfl) rfl
set_option maxRecDepth 20000 in
theorem w_627 : Cond.instanceMethod yX11_undo ∈ wl := tm_3 (List.mem_of_getElem? (i := 221) rfl) rfl
set_option maxRecDepth 20000 in
theorem w_628 : Cond.selects RX11 yX11_undo yX11_undo ∈ wl := tm_3 (List.mem_of_getElem? (i := 222) rfl) rfl
set_option maxRecDepth 20000 in
theorem w_629 : Cond.code yX12_undo cX12_undo 1 (some .int) ∈ wl := tm_7 (List.mem_of_getElem? (i := 212) rfl) rfl
set_option maxRecDepth 20000 in
theorem w_630 : Cond.methodLink RL 76 yX12_undo ∈ wl := tm_7 (List.mem_of_getElem? (i := 209) rfl) rfl
set_option maxRecDepth 20000 in
theorem w_631 : Cond.instanceMethod yX12_undo ∈ wl := tm_7 (List.mem_of_getElem? (i := 210) rfl) rfl
set_option maxRecDepth 20000 in
theorem w_632 : Cond.selects RX12 yX12_undo yX12_undo ∈ wl := tm_7 (List.mem_of_getElem? (i := 211) rfl) rfl
set_option maxRecDepth 20000 in
theorem w_633 : Cond.code yX11_anew cX11_anew 2 (some .int) ∈ wl := tm_3 (List.mem_of_getElem? (i := 231) rfl) rfl
set_option maxRecDepth 20000 in
theorem w_634 : Cond.methodLink RL 77 yX11_anew ∈ wl := tm_3 (List.mem_of_getElem? (i := 228) rfl) rfl
set_option maxRecDepth 20000 in
theorem w_635 : Cond.instanceMethod yX11_anew ∈ wl := tm_3 (List.mem_of_getElem? (i := 229) rfl) rfl
set_option maxRecDepth 20000 in
theorem w_636 : Cond.selects RX11 yX11_anew yX11_anew ∈ wl := tm_3 (List.mem_of_getElem? (i := 230) rfl) rfl
set_option maxRecDepth 20000 in
theorem w_637 : Cond.code yX12_anew cX12_anew 2 (some .int) ∈ wl := tm_7 (List.mem_of_getElem? (i := 220) rfl) rfl
set_option maxRecDepth 20000 in
theorem w_638 : Cond.methodLink RL 80 yX12_anew ∈ wl := tm_7 (List.mem_of_getElem? (i := 217) rfl) rfl
set_option maxRecDepth 20000 in
theorem w_639 : Cond.instanceMethod yX12_anew ∈ wl := tm_7 (List.mem_of_getElem? (i := 218) rfl) rfl
set_option maxRecDepth 20000 in
theorem w_640 : Cond.selects RX12 yX12_anew yX12_anew ∈ wl := tm_7 (List.mem_of_getElem? (i := 219) rfl) rfl
set_option maxRecDepth 20000 in
theorem w_641 : Cond.code yX11_would cX11_would 4 (some .int) ∈ wl := tm_3 (List.mem_of_getElem? (i := 235) rfl) rfl
set_option maxRecDepth 20000 in
theorem w_642 : Cond.methodLink RL 81 yX11_would ∈ wl := tm_3 (List.mem_of_getElem? (i := 232) rfl) rfl
set_option maxRecDepth 20000 in
theorem w_643 : Cond.instanceMethod yX11_would ∈ wl := tm_3 (List.mem_of_getElem? (i := 233) rfl) rfl
set_option maxRecDepth 20000 in
theorem w_644 : Cond.selects RX11 yX11_would yX11_would ∈ wl := tm_3 (List.mem_of_getElem? (i := 234) rfl) rfl
set_option maxRecDepth 20000 in
theorem w_645 : Cond.code yX12_would cX12_would 4 (some .int) ∈ wl := tm_7 (List.mem_of_getElem? (i := 224) rfl) rfl
set_option maxRecDepth 20000 in
theorem w_646 : Cond.methodLink RL 84 yX12_would ∈ wl := tm_7 (List.mem_of_getElem? (i := 221) rfl) rfl
set_option maxRecDepth 20000 in
theorem w_647 : Cond.instanceMethod yX12_would ∈ wl := tm_7 (List.mem_of_getElem? (i := 222) rfl) rfl
set_option maxRecDepth 20000 in
theorem w_648 : Cond.selects RX12 yX12_would yX12_would ∈ wl := tm_7 (List.mem_of_getElem? (i := 223) rfl) rfl
set_option maxRecDepth 20000 in
theorem w_649 : Cond.code yX11_think cX11_think 4 (some .int) ∈ wl := tm_4 (List.mem_of_getElem? (i := 29) rfl) rfl
set_option maxRecDepth 20000 in
theorem w_650 : Cond.methodLink RL 85 yX11_think ∈ wl := tm_4 (List.mem_of_getElem? (i := 26) rfl) rfl
set_option maxRecDepth 20000 in
theorem w_651 : Cond.instanceMethod yX11_think ∈ wl := tm_4 (List.mem_of_getElem? (i := 27) rfl) rfl
set_option maxRecDepth 20000 in
theorem w_652 : Cond.selects RX11 yX11_think yX11_think ∈ wl := tm_4 (List.mem_of_getElem? (i := 28) rfl) rfl
set_option maxRecDepth 20000 in
theorem w_653 : Cond.code yX12_think cX12_think 4 (some .int) ∈ wl := tm_8 (List.mem_of_getElem? (i := 7) rfl) rfl
set_option maxRecDepth 20000 in
theorem w_654 : Cond.methodLink RL 88 yX12_think ∈ wl := tm_8 (List.mem_of_getElem? (i := 4) rfl) rfl
set_option maxRecDepth 20000 in
theorem w_655 : Cond.instanceMethod yX12_think ∈ wl := tm_8 (List.mem_of_getElem? (i := 5) rfl) rfl
set_option maxRecDepth 20000 in
theorem w_656 : Cond.selects RX12 yX12_think yX12_think ∈ wl := tm_8 (List.mem_of_getElem? (i := 6) rfl) rfl
set_option maxRecDepth 20000 in
theorem w_657 : Cond.code yX11_knows cX11_knows 4 (some .int) ∈ wl := tm_4 (List.mem_of_getElem? (i := 33) rfl) rfl
set_option maxRecDepth 20000 in
theorem w_658 : Cond.methodLink RL 89 yX11_knows ∈ wl := tm_4 (List.mem_of_getElem? (i := 30) rfl) rfl
set_option maxRecDepth 20000 in
theorem w_659 : Cond.instanceMethod yX11_knows ∈ wl := tm_4 (List.mem_of_getElem? (i := 31) rfl) rfl
set_option maxRecDepth 20000 in
theorem w_660 : Cond.selects RX11 yX11_knows yX11_knows ∈ wl := tm_4 (List.mem_of_getElem? (i := 32) rfl) rfl
set_option maxRecDepth 20000 in
theorem w_661 : Cond.code yX12_knows cX12_knows 4 (some .int) ∈ wl := tm_8 (List.mem_of_getElem? (i := 11) rfl) rfl
set_option maxRecDepth 20000 in
theorem w_662 : Cond.methodLink RL 92 yX12_knows ∈ wl := tm_8 (List.mem_of_getElem? (i := 8) rfl) rfl
set_option maxRecDepth 20000 in
theorem w_663 : Cond.instanceMethod yX12_knows ∈ wl := tm_8 (List.mem_of_getElem? (i := 9) rfl) rfl
set_option maxRecDepth 20000 in
theorem w_664 : Cond.selects RX12 yX12_knows yX12_knows ∈ wl := tm_8 (List.mem_of_getElem? (i := 10) rfl) rfl
set_option maxRecDepth 20000 in
theorem w_665 : Cond.code yX11_loses cX11_loses 4 (some .int) ∈ wl := tm_4 (List.mem_of_getElem? (i := 42) rfl) rfl
set_option maxRecDepth 20000 in
theorem w_666 : Cond.methodLink RL 93 yX11_loses ∈ wl := tm_4 (List.mem_of_getElem? (i := 39) rfl) rfl
set_option maxRecDepth 20000 in
theorem w_667 : Cond.instanceMethod yX11_loses ∈ wl := tm_4 (List.mem_of_getElem? (i := 40) rfl) rfl
set_option maxRecDepth 20000 in
theorem w_668 : Cond.selects RX11 yX11_loses yX11_loses ∈ wl := tm_4 (List.mem_of_getElem? (i := 41) rfl) rfl
set_option maxRecDepth 20000 in
theorem w_669 : Cond.code yX12_loses cX12_loses 4 (some .int) ∈ wl := tm_8 (List.mem_of_getElem? (i := 15) rfl) rfl
set_option maxRecDepth 20000 in
theorem w_670 : Cond.methodLink RL 96 yX12_loses ∈ wl := tm_8 (List.mem_of_getElem? (i := 12) rfl) rfl
set_option maxRecDepth 20000 in
theorem w_671 : Cond.instanceMethod yX12_loses ∈ wl := tm_8 (List.mem_of_getElem? (i := 13) rfl) rfl
set_option maxRecDepth 20000 in
theorem w_672 : Cond.selects RX12 yX12_loses yX12_loses ∈ wl := tm_8 (List.mem_of_getElem? (i := 14) rfl) rfl
set_option maxRecDepth 20000 in
theorem w_673 : Cond.code yX11_doubts cX11_doubts 6 (some .int) ∈ wl := tm_4 (List.mem_of_getElem? (i := 46) rfl) rfl
set_option maxRecDepth 20000 in
theorem w_674 : Cond.methodLink RL 97 yX11_doubts ∈ wl := tm_4 (List.mem_of_getElem? (i := 43) rfl) rfl
set_option maxRecDepth 20000 in
theorem w_675 : Cond.instanceMethod yX11_doubts ∈ wl := tm_4 (List.mem_of_getElem? (i := 44) rfl) rfl
set_option maxRecDepth 20000 in
theorem w_676 : Cond.selects RX11 yX11_doubts yX11_doubts ∈ wl := tm_4 (List.mem_of_getElem? (i := 45) rfl) rfl
set_option maxRecDepth 20000 in
theorem w_677 : Cond.code yX12_doubts cX12_doubts 4 (some .int) ∈ wl := tm_8 (List.mem_of_getElem? (i := 19) rfl) rfl
set_option maxRecDepth 20000 in
theorem w_678 : Cond.methodLink RL 100 yX12_doubts ∈ wl := tm_8 (List.mem_of_getElem? (i := 16) rfl) rfl
set_option maxRecDepth 20000 in
theorem w_679 : Cond.instanceMethod yX12_doubts ∈ wl := tm_8 (List.mem_of_getElem? (i := 17) rfl) rfl
set_option maxRecDepth 20000 in
theorem w_680 : Cond.selects RX12 yX12_doubts yX12_doubts ∈ wl := tm_8 (List.mem_of_getElem? (i := 18) rfl) rfl
set_option maxRecDepth 20000 in
theorem w_681 : Cond.code yX11_blur cX11_blur 3 (some .int) ∈ wl := tm_4 (List.mem_of_getElem? (i := 51) rfl) rfl
set_option maxRecDepth 20000 in
theorem w_682 : Cond.methodLink RL 101 yX11_blur ∈ wl := tm_4 (List.mem_of_getElem? (i := 48) rfl) rfl
set_option maxRecDepth 20000 in
theorem w_683 : Cond.instanceMethod yX11_blur ∈ wl := tm_4 (List.mem_of_getElem? (i := 49) rfl) rfl
set_option maxRecDepth 20000 in
theorem w_684 : Cond.selects RX11 yX11_blur yX11_blur ∈ wl := tm_4 (List.mem_of_getElem? (i := 50) rfl) rfl
set_option maxRecDepth 20000 in
theorem w_685 : Cond.code yX12_blur cX12_blur 3 (some .int) ∈ wl := tm_8 (List.mem_of_getElem? (i := 23) rfl) rfl
set_option maxRecDepth 20000 in
theorem w_686 : Cond.methodLink RL 104 yX12_blur ∈ wl := tm_8 (List.mem_of_getElem? (i := 20) rfl) rfl
set_option maxRecDepth 20000 in
theorem w_687 : Cond.instanceMethod yX12_blur ∈ wl := tm_8 (List.mem_of_getElem? (i := 21) rfl) rfl
set_option maxRecDepth 20000 in
theorem w_688 : Cond.selects RX12 yX12_blur yX12_blur ∈ wl := tm_8 (List.mem_of_getElem? (i := 22) rfl) rfl
set_option maxRecDepth 20000 in
theorem w_689 : Cond.code yX11_blurs cX11_blurs 4 (some .int) ∈ wl := tm_4 (List.mem_of_getElem? (i := 114) rfl) rfl
set_option maxRecDepth 20000 in
theorem w_690 : Cond.methodLink RL 105 yX11_blurs ∈ wl := tm_4 (List.mem_of_getElem? (i := 111) rfl) rfl
set_option maxRecDepth 20000 in
theorem w_691 : Cond.instanceMethod yX11_blurs ∈ wl := tm_4 (List.mem_of_getElem? (i := 112) rfl) rfl
set_option maxRecDepth 20000 in
theorem w_692 : Cond.selects RX11 yX11_blurs yX11_blurs ∈ wl := tm_4 (List.mem_of_getElem? (i := 113) rfl) rfl
set_option maxRecDepth 20000 in
theorem w_693 : Cond.code yX12_blurs cX12_blurs 4 (some .int) ∈ wl := tm_8 (List.mem_of_getElem? (i := 43) rfl) rfl
set_option maxRecDepth 20000 in
theorem w_694 : Cond.methodLink RL 109 yX12_blurs ∈ wl := tm_8 (List.mem_of_getElem? (i := 40) rfl) rfl
set_option maxRecDepth 20000 in
theorem w_695 : Cond.instanceMethod yX12_blurs ∈ wl := tm_8 (List.mem_of_getElem? (i := 41) rfl) rfl
set_option maxRecDepth 20000 in
theorem w_696 : Cond.selects RX12 yX12_blurs yX12_blurs ∈ wl := tm_8 (List.mem_of_getElem? (i := 42) rfl) rfl
set_option maxRecDepth 20000 in
theorem w_697 : Cond.code yX11_stray cX11_stray 2 (some .int) ∈ wl := tm_4 (List.mem_of_getElem? (i := 125) rfl) rfl
set_option maxRecDepth 20000 in
theorem w_698 : Cond.methodLink RL 110 yX11_stray ∈ wl := tm_4 (List.mem_of_getElem? (i := 122) rfl) rfl
set_option maxRecDepth 20000 in
theorem w_699 : Cond.instanceMethod yX11_stray ∈ wl := tm_4 (List.mem_of_getElem? (i := 123) rfl) rfl
set_option maxRecDepth 20000 in
theorem w_700 : Cond.selects RX11 yX11_stray yX11_stray ∈ wl := tm_4 (List.mem_of_getElem? (i := 124) rfl) rfl
set_option maxRecDepth 20000 in
theorem w_701 : Cond.code yX12_stray cX12_stray 2 (some .int) ∈ wl := tm_8 (List.mem_of_getElem? (i := 51) rfl) rfl
set_option maxRecDepth 20000 in
theorem w_702 : Cond.methodLink RL 113 yX12_stray ∈ wl := tm_8 (List.mem_of_getElem? (i := 48) rfl) rfl
set_option maxRecDepth 20000 in
theorem w_703 : Cond.instanceMethod yX12_stray ∈ wl := tm_8 (List.mem_of_getElem? (i := 49) rfl) rfl
set_option maxRecDepth 20000 in
theorem w_704 : Cond.selects RX12 yX12_stray yX12_stray ∈ wl := tm_8 (List.mem_of_getElem? (i := 50) rfl) rfl
set_option maxRecDepth 20000 in
theorem w_705 : Cond.code yX11_strays cX11_strays 3 (some .int) ∈ wl := tm_4 (List.mem_of_getElem? (i := 129) rfl) rfl
set_option maxRecDepth 20000 in
theorem w_706 : Cond.methodLink RL 114 yX11_strays ∈ wl := tm_4 (List.mem_of_getElem? (i := 126) rfl) rfl
set_option maxRecDepth 20000 in
theorem w_707 : Cond.instanceMethod yX11_strays ∈ wl := tm_4 (List.mem_of_getElem? (i := 127) rfl) rfl
set_option maxRecDepth 20000 in
theorem w_708 : Cond.selects RX11 yX11_strays yX11_strays ∈ wl := tm_4 (List.mem_of_getElem? (i := 128) rfl) rfl
set_option maxRecDepth 20000 in
theorem w_709 : Cond.code yX12_strays cX12_strays 3 (some .int) ∈ wl := tm_8 (List.mem_of_getElem? (i := 55) rfl) rfl
set_option maxRecDepth 20000 in
theorem w_710 : Cond.methodLink RL 117 yX12_strays ∈ wl := tm_8 (List.mem_of_getElem? (i := 52) rfl) rfl
set_option maxRecDepth 20000 in
theorem w_711 : Cond.instanceMethod yX12_strays ∈ wl := tm_8 (List.mem_of_getElem? (i := 53) rfl) rfl
set_option maxRecDepth 20000 in
theorem w_712 : Cond.selects RX12 yX12_strays yX12_strays ∈ wl := tm_8 (List.mem_of_getElem? (i := 54) rfl) rfl
set_option maxRecDepth 20000 in
theorem w_713 : Cond.code yX11_home cX11_home 2 (some .int) ∈ wl := tm_4 (List.mem_of_getElem? (i := 133) rfl) rfl
set_option maxRecDepth 20000 in
theorem w_714 : Cond.methodLink RL 118 yX11_home ∈ wl := tm_4 (List.mem_of_getElem? (i := 130) rfl) rfl
set_option maxRecDepth 20000 in
theorem w_715 : Cond.instanceMethod yX11_home ∈ wl := tm_4 (List.mem_of_getElem? (i := 131) rfl) rfl
set_option maxRecDepth 20000 in
theorem w_716 : Cond.selects RX11 yX11_home yX11_home ∈ wl := tm_4 (List.mem_of_getElem? (i := 132) rfl) rfl
set_option maxRecDepth 20000 in
theorem w_717 : Cond.code yX12_home cX12_home 2 (some .int) ∈ wl := tm_8 (List.mem_of_getElem? (i := 59) rfl) rfl
set_option maxRecDepth 20000 in
theorem w_718 : Cond.methodLink RL 121 yX12_home ∈ wl := tm_8 (List.mem_of_getElem? (i := 56) rfl) rfl
set_option maxRecDepth 20000 in
theorem w_719 : Cond.instanceMethod yX12_home ∈ wl := tm_8 (List.mem_of_getElem? (i := 57) rfl) rfl
set_option maxRecDepth 20000 in
theorem w_720 : Cond.selects RX12 yX12_home yX12_home ∈ wl := tm_8 (List.mem_of_getElem? (i := 58) rfl) rfl
set_option maxRecDepth 20000 in
theorem w_721 : Cond.code yX11_homes cX11_homes 3 (some .int) ∈ wl := tm_4 (List.mem_of_getElem? (i := 137) rfl) rfl
set_option maxRecDepth 20000 in
theorem w_722 : Cond.methodLink RL 122 yX11_homes ∈ wl := tm_4 (List.mem_of_getElem? (i := 134) rfl) rfl
set_option maxRecDepth 20000 in
theorem w_723 : Cond.instanceMethod yX11_homes ∈ wl := tm_4 (List.mem_of_getElem? (i := 135) rfl) rfl
set_option maxRecDepth 20000 in
theorem w_724 : Cond.selects RX11 yX11_homes yX11_homes ∈ wl := tm_4 (List.mem_of_getElem? (i := 136) rfl) rfl
set_option maxRecDepth 20000 in
theorem w_725 : Cond.code yX12_homes cX12_homes 3 (some .int) ∈ wl := tm_8 (List.mem_of_getElem? (i := 63) rfl) rfl
set_option maxRecDepth 20000 in
theorem w_726 : Cond.methodLink RL 125 yX12_homes ∈ wl := tm_8 (List.mem_of_getElem? (i := 60) rfl) rfl
set_option maxRecDepth 20000 in
theorem w_727 : Cond.instanceMethod yX12_homes ∈ wl := tm_8 (List.mem_of_getElem? (i := 61) rfl) rfl
set_option maxRecDepth 20000 in
theorem w_728 : Cond.selects RX12 yX12_homes yX12_homes ∈ wl := tm_8 (List.mem_of_getElem? (i := 62) rfl) rfl
set_option maxRecDepth 20000 in
theorem w_729 : Cond.code yX11_states cX11_states 2 (some .int) ∈ wl := tm_4 (List.mem_of_getElem? (i := 141) rfl) rfl
set_option maxRecDepth 20000 in
theorem w_730 : Cond.methodLink RL 126 yX11_states ∈ wl := tm_4 (List.mem_of_getElem? (i := 138) rfl) rfl
set_option maxRecDepth 20000 in
theorem w_731 : Cond.instanceMethod yX11_states ∈ wl := tm_4 (List.mem_of_getElem? (i := 139) rfl) rfl
set_option maxRecDepth 20000 in
theorem w_732 : Cond.selects RX11 yX11_states yX11_states ∈ wl := tm_4 (List.mem_of_getElem? (i := 140) rfl) rfl
set_option maxRecDepth 20000 in
theorem w_733 : Cond.code yX12_states cX12_states 2 (some .int) ∈ wl := tm_8 (List.mem_of_getElem? (i := 67) rfl) rfl
set_option maxRecDepth 20000 in
theorem w_734 : Cond.methodLink RL 129 yX12_states ∈ wl := tm_8 (List.mem_of_getElem? (i := 64) rfl) rfl
set_option maxRecDepth 20000 in
theorem w_735 : Cond.instanceMethod yX12_states ∈ wl := tm_8 (List.mem_of_getElem? (i := 65) rfl) rfl
set_option maxRecDepth 20000 in
theorem w_736 : Cond.selects RX12 yX12_states yX12_states ∈ wl := tm_8 (List.mem_of_getElem? (i := 66) rfl) rfl
set_option maxRecDepth 20000 in
theorem w_737 : Cond.code yX11_plan cX11_plan 2 (some .int) ∈ wl := tm_4 (List.mem_of_getElem? (i := 145) rfl) rfl
set_option maxRecDepth 20000 in
theorem w_738 : Cond.methodLink RL 130 yX11_plan ∈ wl := tm_4 (List.mem_of_getElem? (i := 142) rfl) rfl
set_option maxRecDepth 20000 in
theorem w_739 : Cond.instanceMethod yX11_plan ∈ wl := tm_4 (List.mem_of_getElem? (i := 143) rfl) rfl
set_option maxRecDepth 20000 in
theorem w_740 : Cond.selects RX11 yX11_plan yX11_plan ∈ wl := tm_4 (List.mem_of_getElem? (i := 144) rfl) rfl
set_option maxRecDepth 20000 in
theorem w_741 : Cond.code yX12_plan cX12_plan 3 (some .int) ∈ wl := tm_8 (List.mem_of_getElem? (i := 71) rfl) rfl
set_option maxRecDepth 20000 in
theorem w_742 : Cond.methodLink RL 133 yX12_plan ∈ wl := tm_8 (List.mem_of_getElem? (i := 68) rfl) rfl
set_option maxRecDepth 20000 in
theorem w_743 : Cond.instanceMethod yX12_plan ∈ wl := tm_8 (List.mem_of_getElem? (i := 69) rfl) rfl
set_option maxRecDepth 20000 in
theorem w_744 : Cond.selects RX12 yX12_plan yX12_plan ∈ wl := tm_8 (List.mem_of_getElem? (i := 70) rfl) rfl
set_option maxRecDepth 20000 in
theorem w_745 : Cond.code yX11_first cX11_first 2 (some .int) ∈ wl := tm_4 (List.mem_of_getElem? (i := 184) rfl) rfl
set_option maxRecDepth 20000 in
theorem w_746 : Cond.methodLink RL 134 yX11_first ∈ wl := tm_4 (List.mem_of_getElem? (i := 181) rfl) rfl
set_option maxRecDepth 20000 in
theorem w_747 : Cond.instanceMethod yX11_first ∈ wl := tm_4 (List.mem_of_getElem? (i := 182) rfl) rfl
set_option maxRecDepth 20000 in
theorem w_748 : Cond.selects RX11 yX11_first yX11_first ∈ wl := tm_4 (List.mem_of_getElem? (i := 183) rfl) rfl
set_option maxRecDepth 20000 in
theorem w_749 : Cond.code yX12_first cX12_first 3 (some .int) ∈ wl := tm_8 (List.mem_of_getElem? (i := 84) rfl) rfl
set_option maxRecDepth 20000 in
theorem w_750 : Cond.methodLink RL 137 yX12_first ∈ wl := tm_8 (List.mem_of_getElem? (i := 81) rfl) rfl
set_option maxRecDepth 20000 in
theorem w_751 : Cond.instanceMethod yX12_first ∈ wl := tm_8 (List.mem_of_getElem? (i := 82) rfl) rfl
set_option maxRecDepth 20000 in
theorem w_752 : Cond.selects RX12 yX12_first yX12_first ∈ wl := tm_8 (List.mem_of_getElem? (i := 83) rfl) rfl
set_option maxRecDepth 20000 in
theorem w_753 : Cond.code yX11_hardest cX11_hardest 4 (some .int) ∈ wl := tm_4 (List.mem_of_getElem? (i := 192) rfl) rfl
set_option maxRecDepth 20000 in
theorem w_754 : Cond.methodLink RL 138 yX11_hardest ∈ wl := tm_4 (List.mem_of_getElem? (i := 189) rfl) rfl
set_option maxRecDepth 20000 in
theorem w_755 : Cond.instanceMethod yX11_hardest ∈ wl := tm_4 (List.mem_of_getElem? (i := 190) rfl) rfl
set_option maxRecDepth 20000 in
theorem w_756 : Cond.selects RX11 yX11_hardest yX11_hardest ∈ wl := tm_4 (List.mem_of_getElem? (i := 191) rfl) rfl
set_option maxRecDepth 20000 in
theorem w_757 : Cond.code yX12_hardest cX12_hardest 5 (some .int) ∈ wl := tm_8 (List.mem_of_getElem? (i := 92) rfl) rfl
set_option maxRecDepth 20000 in
theorem w_758 : Cond.methodLink RL 141 yX12_hardest ∈ wl := tm_8 (List.mem_of_getElem? (i := 89) rfl) rfl
set_option maxRecDepth 20000 in
theorem w_759 : Cond.instanceMethod yX12_hardest ∈ wl := tm_8 (List.mem_of_getElem? (i := 90) rfl) rfl
set_option maxRecDepth 20000 in
theorem w_760 : Cond.selects RX12 yX12_hardest yX12_hardest ∈ wl := tm_8 (List.mem_of_getElem? (i := 91) rfl) rfl
set_option maxRecDepth 20000 in
theorem w_761 : Cond.code yX11_alike cX11_alike 3 (some .int) ∈ wl := tm_4 (List.mem_of_getElem? (i := 196) rfl) rfl
set_option maxRecDepth 20000 in
theorem w_762 : Cond.methodLink RL 142 yX11_alike ∈ wl := tm_4 (List.mem_of_getElem? (i := 193) rfl) rfl
set_option maxRecDepth 20000 in
theorem w_763 : Cond.instanceMethod yX11_alike ∈ wl := tm_4 (List.mem_of_getElem? (i := 194) rfl) rfl
set_option maxRecDepth 20000 in
theorem w_764 : Cond.selects RX11 yX11_alike yX11_alike ∈ wl := tm_4 (List.mem_of_getElem? (i := 195) rfl) rfl
set_option maxRecDepth 20000 in
theorem w_765 : Cond.code yX12_alike cX12_alike 3 (some .int) ∈ wl := tm_8 (List.mem_of_getElem? (i := 96) rfl) rfl
set_option maxRecDepth 20000 in
theorem w_766 : Cond.methodLink RL 145 yX12_alike ∈ wl := tm_8 (List.mem_of_getElem? (i := 93) rfl) rfl
set_option maxRecDepth 20000 in
theorem w_767 : Cond.instanceMethod yX12_alike ∈ wl := tm_8 (List.mem_of_getElem? (i := 94) rfl) rfl
set_option maxRecDepth 20000 in
theorem w_768 : Cond.selects RX12 yX12_alike yX12_alike ∈ wl := tm_8 (List.mem_of_getElem? (i := 95) rfl) rfl
set_option maxRecDepth 20000 in
theorem w_769 : Cond.code yX11_kinds cX11_kinds 5 (some .int) ∈ wl := tm_4 (List.mem_of_getElem? (i := 215) rfl) rfl
set_option maxRecDepth 20000 in
theorem w_770 : Cond.methodLink RL 146 yX11_kinds ∈ wl := tm_4 (List.mem_of_getElem? (i := 212) rfl) rfl
set_option maxRecDepth 20000 in
theorem w_771 : Cond.instanceMethod yX11_kinds ∈ wl := tm_4 (List.mem_of_getElem? (i := 213) rfl) rfl
set_option maxRecDepth 20000 in
theorem w_772 : Cond.selects RX11 yX11_kinds yX11_kinds ∈ wl := tm_4 (List.mem_of_getElem? (i := 214) rfl) rfl
set_option maxRecDepth 20000 in
theorem w_773 : Cond.code yX12_kinds cX12_kinds 1 (some .int) ∈ wl := tm_8 (List.mem_of_getElem? (i := 112) rfl) rfl
set_option maxRecDepth 20000 in
theorem w_774 : Cond.methodLink RL 149 yX12_kinds ∈ wl := tm_8 (List.mem_of_getElem? (i := 109) rfl) rfl
set_option maxRecDepth 20000 in
theorem w_775 : Cond.instanceMethod yX12_kinds ∈ wl := tm_8 (List.mem_of_getElem? (i := 110) rfl) rfl
set_option maxRecDepth 20000 in
theorem w_776 : Cond.selects RX12 yX12_kinds yX12_kinds ∈ wl := tm_8 (List.mem_of_getElem? (i := 111) rfl) rfl
set_option maxRecDepth 20000 in
theorem w_777 : Cond.code yX11_tells cX11_tells 3 (some .int) ∈ wl := tm_4 (List.mem_of_getElem? (i := 219) rfl) rfl
set_option maxRecDepth 20000 in
theorem w_778 : Cond.methodLink RL 150 yX11_tells ∈ wl := tm_4 (List.mem_of_getElem? (i := 216) rfl) rfl
set_option maxRecDepth 20000 in
theorem w_779 : Cond.instanceMethod yX11_tells ∈ wl := tm_4 (List.mem_of_getElem? (i := 217) rfl) rfl
set_option maxRecDepth 20000 in
theorem w_780 : Cond.selects RX11 yX11_tells yX11_tells ∈ wl := tm_4 (List.mem_of_getElem? (i := 218) rfl) rfl
set_option maxRecDepth 20000 in
theorem w_781 : Cond.code yX12_tells cX12_tells 4 (some .int) ∈ wl := tm_8 (List.mem_of_getElem? (i := 116) rfl) rfl
set_option maxRecDepth 20000 in
theorem w_782 : Cond.methodLink RL 153 yX12_tells ∈ wl := tm_8 (List.mem_of_getElem? (i := 113) rfl) rfl
set_option maxRecDepth 20000 in
theorem w_783 : Cond.instanceMethod yX12_tells ∈ wl := tm_8 (List.mem_of_getElem? (i := 114) rfl) rfl
set_option maxRecDepth 20000 in
theorem w_784 : Cond.selects RX12 yX12_tells yX12_tells ∈ wl := tm_8 (List.mem_of_getElem? (i := 115) rfl) rfl
set_option maxRecDepth 20000 in
theorem w_785 : Cond.code yX11_told cX11_told 4 (some .int) ∈ wl := tm_4 (List.mem_of_getElem? (i := 226) rfl) rfl
set_option maxRecDepth 20000 in
theorem w_786 : Cond.methodLink RL 154 yX11_told ∈ wl := tm_4 (List.mem_of_getElem? (i := 223) rfl) rfl
set_option maxRecDepth 20000 in
theorem w_787 : Cond.instanceMethod yX11_told ∈ wl := tm_4 (List.mem_of_getElem? (i := 224) rfl) rfl
set_option maxRecDepth 20000 in
theorem w_788 : Cond.selects RX11 yX11_told yX11_told ∈ wl := tm_4 (List.mem_of_getElem? (i := 225) rfl) rfl
set_option maxRecDepth 20000 in
theorem w_789 : Cond.code yX12_told_ cX12_told_ 5 (some .int) ∈ wl := tm_8 (List.mem_of_getElem? (i := 124) rfl) rfl
set_option maxRecDepth 20000 in
theorem w_790 : Cond.methodLink RL 157 yX12_told_ ∈ wl := tm_8 (List.mem_of_getElem? (i := 121) rfl) rfl
set_option maxRecDepth 20000 in
theorem w_791 : Cond.instanceMethod yX12_told_ ∈ wl := tm_8 (List.mem_of_getElem? (i := 122) rfl) rfl
set_option maxRecDepth 20000 in
theorem w_792 : Cond.selects RX12 yX12_told_ yX12_told_ ∈ wl := tm_8 (List.mem_of_getElem? (i := 123) rfl) rfl
set_option maxRecDepth 20000 in
theorem w_793 : Cond.code yX11_bares cX11_bares 3 (some .int) ∈ wl := tm_4 (List.mem_of_getElem? (i := 233) rfl) rfl
set_option maxRecDepth 20000 in
theorem w_794 : Cond.methodLink RL 158 yX11_bares ∈ wl := tm_4 (List.mem_of_getElem? (i := 230) rfl) rfl
set_option maxRecDepth 20000 in
theorem w_795 : Cond.instanceMethod yX11_bares ∈ wl := tm_4 (List.mem_of_getElem? (i := 231) rfl) rfl
set_option maxRecDepth 20000 in
theorem w_796 : Cond.selects RX11 yX11_bares yX11_bares ∈ wl := tm_4 (List.mem_of_getElem? (i := 232) rfl) rfl
set_option maxRecDepth 20000 in
theorem w_797 : Cond.code yX12_bares cX12_bares 3 (some .int) ∈ wl := tm_8 (List.mem_of_getElem? (i := 128) rfl) rfl
set_option maxRecDepth 20000 in
theorem w_798 : Cond.methodLink RL 161 yX12_bares ∈ wl := tm_8 (List.mem_of_getElem? (i := 125) rfl) rfl
set_option maxRecDepth 20000 in
theorem w_799 : Cond.instanceMethod yX12_bares ∈ wl := tm_8 (List.mem_of_getElem? (i := 126) rfl) rfl
set_option maxRecDepth 20000 in
theorem w_800 : Cond.selects RX12 yX12_bares yX12_bares ∈ wl := tm_8 (List.mem_of_getElem? (i := 127) rfl) rfl
set_option maxRecDepth 20000 in
theorem w_801 : Cond.code yX11_bared cX11_bared 3 (some .int) ∈ wl := tm_5 (List.mem_of_getElem? (i := 11) rfl) rfl
set_option maxRecDepth 20000 in
theorem w_802 : Cond.methodLink RL 162 yX11_bared ∈ wl := tm_5 (List.mem_of_getElem? (i := 8) rfl) rfl
set_option maxRecDepth 20000 in
theorem w_803 : Cond.instanceMethod yX11_bared ∈ wl := tm_5 (List.mem_of_getElem? (i := 9) rfl) rfl
set_option maxRecDepth 20000 in
theorem w_804 : Cond.selects RX11 yX11_bared yX11_bared ∈ wl := tm_5 (List.mem_of_getElem? (i := 10) rfl) rfl
set_option maxRecDepth 20000 in
theorem w_805 : Cond.code yX12_bared cX12_bared 3 (some .int) ∈ wl := tm_8 (List.mem_of_getElem? (i := 136) rfl) rfl
set_option maxRecDepth 20000 in
theorem w_806 : Cond.methodLink RL 165 yX12_bared ∈ wl := tm_8 (List.mem_of_getElem? (i := 133) rfl) rfl
set_option maxRecDepth 20000 in
theorem w_807 : Cond.instanceMethod yX12_bared ∈ wl := tm_8 (List.mem_of_getElem? (i := 134) rfl) rfl
set_option maxRecDepth 20000 in
theorem w_808 : Cond.selects RX12 yX12_bared yX12_bared ∈ wl := tm_8 (List.mem_of_getElem? (i := 135) rfl) rfl
set_option maxRecDepth 20000 in
theorem w_809 : Cond.code yX11_gather cX11_gather 2 (some .int) ∈ wl := tm_5 (List.mem_of_getElem? (i := 15) rfl) rfl
set_option maxRecDepth 20000 in
theorem w_810 : Cond.methodLink RL 166 yX11_gather ∈ wl := tm_5 (List.mem_of_getElem? (i := 12) rfl) rfl
set_option maxRecDepth 20000 in
theorem w_811 : Cond.instanceMethod yX11_gather ∈ wl := tm_5 (List.mem_of_getElem? (i := 13) rfl) rfl
set_option maxRecDepth 20000 in
theorem w_812 : Cond.selects RX11 yX11_gather yX11_gather ∈ wl := tm_5 (List.mem_of_getElem? (i := 14) rfl) rfl
set_option maxRecDepth 20000 in
theorem w_813 : Cond.code yX12_gather cX12_gather 3 (some .int) ∈ wl := tm_8 (List.mem_of_getElem? (i := 140) rfl) rfl
set_option maxRecDepth 20000 in
theorem w_814 : Cond.methodLink RL 169 yX12_gather ∈ wl := tm_8 (List.mem_of_getElem? (i := 137) rfl) rfl
set_option maxRecDepth 20000 in
theorem w_815 : Cond.instanceMethod yX12_gather ∈ wl := tm_8 (List.mem_of_getElem? (i := 138) rfl) rfl
set_option maxRecDepth 20000 in
theorem w_816 : Cond.selects RX12 yX12_gather yX12_gather ∈ wl := tm_8 (List.mem_of_getElem? (i := 139) rfl) rfl
set_option maxRecDepth 20000 in
theorem w_817 : Cond.code yX11_gathers cX11_gathers 3 (some .int) ∈ wl := tm_5 (List.mem_of_getElem? (i := 19) rfl) rfl
set_option maxRecDepth 20000 in
theorem w_818 : Cond.methodLink RL 170 yX11_gathers ∈ wl := tm_5 (List.mem_of_getElem? (i := 16) rfl) rfl
set_option maxRecDepth 20000 in
theorem w_819 : Cond.instanceMethod yX11_gathers ∈ wl := tm_5 (List.mem_of_getElem? (i := 17) rfl) rfl
set_option maxRecDepth 20000 in
theorem w_820 : Cond.selects RX11 yX11_gathers yX11_gathers ∈ wl := tm_5 (List.mem_of_getElem? (i := 18) rfl) rfl
set_option maxRecDepth 20000 in
theorem w_821 : Cond.code yX12_gathers cX12_gathers 4 (some .int) ∈ wl := tm_8 (List.mem_of_getElem? (i := 148) rfl) rfl
set_option maxRecDepth 20000 in
theorem w_822 : Cond.methodLink RL 173 yX12_gathers ∈ wl := tm_8 (List.mem_of_getElem? (i := 145) rfl) rfl
set_option maxRecDepth 20000 in
theorem w_823 : Cond.instanceMethod yX12_gathers ∈ wl := tm_8 (List.mem_of_getElem? (i := 146) rfl) rfl
set_option maxRecDepth 20000 in
theorem w_824 : Cond.selects RX12 yX12_gathers yX12_gathers ∈ wl := tm_8 (List.mem_of_getElem? (i := 147) rfl) rfl
set_option maxRecDepth 20000 in
theorem w_825 : Cond.code yX11_roundabout cX11_roundabout 2 (some .int) ∈ wl := tm_5 (List.mem_of_getElem? (i := 23) rfl) rfl
set_option maxRecDepth 20000 in
theorem w_826 : Cond.methodLink RL 174 yX11_roundabout ∈ wl := tm_5 (List.mem_of_getElem? (i := 20) rfl) rfl
set_option maxRecDepth 20000 in
theorem w_827 : Cond.instanceMethod yX11_roundabout ∈ wl := tm_5 (List.mem_of_getElem? (i := 21) rfl) rfl
set_option maxRecDepth 20000 in
theorem w_828 : Cond.selects RX11 yX11_roundabout yX11_roundabout ∈ wl := tm_5 (List.mem_of_getElem? (i := 22) rfl) rfl
set_option maxRecDepth 20000 in
theorem w_829 : Cond.code yX12_roundabout cX12_roundabout 4 (some .int) ∈ wl := tm_8 (List.mem_of_getElem? (i := 152) rfl) rfl
set_option maxRecDepth 20000 in
theorem w_830 : Cond.methodLink RL 177 yX12_roundabout ∈ wl := tm_8 (List.mem_of_getElem? (i := 149) rfl) rfl
set_option maxRecDepth 20000 in
theorem w_831 : Cond.instanceMethod yX12_roundabout ∈ wl := tm_8 (List.mem_of_getElem? (i := 150) rfl) rfl
set_option maxRecDepth 20000 in
theorem w_832 : Cond.selects RX12 yX12_roundabout yX12_roundabout ∈ wl := tm_8 (List.mem_of_getElem? (i := 151) rfl) rfl
set_option maxRecDepth 20000 in
theorem w_833 : Cond.code yX11_meet cX11_meet 3 (some .int) ∈ wl := tm_5 (List.mem_of_getElem? (i := 39) rfl) rfl
set_option maxRecDepth 20000 in
theorem w_834 : Cond.methodLink RL 178 yX11_meet ∈ wl := tm_5 (List.mem_of_getElem? (i := 36) rfl) rfl
set_option maxRecDepth 20000 in
theorem w_835 : Cond.instanceMethod yX11_meet ∈ wl := tm_5 (List.mem_of_getElem? (i := 37) rfl) rfl
set_option maxRecDepth 20000 in
theorem w_836 : Cond.selects RX11 yX11_meet yX11_meet ∈ wl := tm_5 (List.mem_of_getElem? (i := 38) rfl) rfl
set_option maxRecDepth 20000 in
theorem w_837 : Cond.code yX12_meet cX12_meet 3 (some .int) ∈ wl := tm_8 (List.mem_of_getElem? (i := 156) rfl) rfl
set_option maxRecDepth 20000 in
theorem w_838 : Cond.methodLink RL 181 yX12_meet ∈ wl := tm_8 (List.mem_of_getElem? (i := 153) rfl) rfl
set_option maxRecDepth 20000 in
theorem w_839 : Cond.instanceMethod yX12_meet ∈ wl := tm_8 (List.mem_of_getElem? (i := 154) rfl) rfl
set_option maxRecDepth 20000 in
theorem w_840 : Cond.selects RX12 yX12_meet yX12_meet ∈ wl := tm_8 (List.mem_of_getElem? (i := 155) rfl) rfl
set_option maxRecDepth 20000 in
theorem w_841 : Cond.code yX11_met cX11_met 4 (some .int) ∈ wl := tm_5 (List.mem_of_getElem? (i := 52) rfl) rfl
set_option maxRecDepth 20000 in
theorem w_842 : Cond.methodLink RL 182 yX11_met ∈ wl := tm_5 (List.mem_of_getElem? (i := 49) rfl) rfl
set_option maxRecDepth 20000 in
theorem w_843 : Cond.instanceMethod yX11_met ∈ wl := tm_5 (List.mem_of_getElem? (i := 50) rfl) rfl
set_option maxRecDepth 20000 in
theorem w_844 : Cond.selects RX11 yX11_met yX11_met ∈ wl := tm_5 (List.mem_of_getElem? (i := 51) rfl) rfl
set_option maxRecDepth 20000 in
theorem w_845 : Cond.code yX12_met cX12_met 4 (some .int) ∈ wl := tm_8 (List.mem_of_getElem? (i := 168) rfl) rfl
set_option maxRecDepth 20000 in
theorem w_846 : Cond.methodLink RL 185 yX12_met ∈ wl := tm_8 (List.mem_of_getElem? (i := 165) rfl) rfl
set_option maxRecDepth 20000 in
theorem w_847 : Cond.instanceMethod yX12_met ∈ wl := tm_8 (List.mem_of_getElem? (i := 166) rfl) rfl
set_option maxRecDepth 20000 in
theorem w_848 : Cond.selects RX12 yX12_met yX12_met ∈ wl := tm_8 (List.mem_of_getElem? (i := 167) rfl) rfl
set_option maxRecDepth 20000 in
theorem w_849 : Cond.code yX11_read cX11_read 3 (some .int) ∈ wl := tm_5 (List.mem_of_getElem? (i := 61) rfl) rfl
set_option maxRecDepth 20000 in
theorem w_850 : Cond.methodLink RL 186 yX11_read ∈ wl := tm_5 (List.mem_of_getElem? (i := 58) rfl) rfl
set_option maxRecDepth 20000 in
theorem w_851 : Cond.instanceMethod yX11_read ∈ wl := tm_5 (List.mem_of_getElem? (i := 59) rfl) rfl
set_option maxRecDepth 20000 in
theorem w_852 : Cond.selects RX11 yX11_read yX11_read ∈ wl := tm_5 (List.mem_of_getElem? (i := 60) rfl) rfl
set_option maxRecDepth 20000 in
theorem w_853 : Cond.code yX12_read cX12_read 3 (some .int) ∈ wl := tm_8 (List.mem_of_getElem? (i := 172) rfl) rfl
set_option maxRecDepth 20000 in
theorem w_854 : Cond.methodLink RL 189 yX12_read ∈ wl := tm_8 (List.mem_of_getElem? (i := 169) rfl) rfl
set_option maxRecDepth 20000 in
theorem w_855 : Cond.instanceMethod yX12_read ∈ wl := tm_8 (List.mem_of_getElem? (i := 170) rfl) rfl
set_option maxRecDepth 20000 in
theorem w_856 : Cond.selects RX12 yX12_read yX12_read ∈ wl := tm_8 (List.mem_of_getElem? (i := 171) rfl) rfl
set_option maxRecDepth 20000 in
theorem w_857 : Cond.code yX11_began cX11_began 5 (some .int) ∈ wl := tm_5 (List.mem_of_getElem? (i := 74) rfl) rfl
set_option maxRecDepth 20000 in
theorem w_858 : Cond.methodLink RL 190 yX11_began ∈ wl := tm_5 (List.mem_of_getElem? (i := 71) rfl) rfl
set_option maxRecDepth 20000 in
theorem w_859 : Cond.instanceMethod yX11_began ∈ wl := tm_5 (List.mem_of_getElem? (i := 72) rfl) rfl
set_option maxRecDepth 20000 in
theorem w_860 : Cond.selects RX11 yX11_began yX11_began ∈ wl := tm_5 (List.mem_of_getElem? (i := 73) rfl) rfl
set_option maxRecDepth 20000 in
theorem w_861 : Cond.code yX12_began cX12_began 5 (some .int) ∈ wl := tm_8 (List.mem_of_getElem? (i := 185) rfl) rfl
set_option maxRecDepth 20000 in
theorem w_862 : Cond.methodLink RL 193 yX12_began ∈ wl := tm_8 (List.mem_of_getElem? (i := 182) rfl) rfl
set_option maxRecDepth 20000 in
theorem w_863 : Cond.instanceMethod yX12_began ∈ wl := tm_8 (List.mem_of_getElem? (i := 183) rfl) rfl
set_option maxRecDepth 20000 in
theorem w_864 : Cond.selects RX12 yX12_began yX12_began ∈ wl := tm_8 (List.mem_of_getElem? (i := 184) rfl) rfl
set_option maxRecDepth 20000 in
theorem w_865 : Cond.code yX11_ask cX11_ask 3 (some .int) ∈ wl := tm_5 (List.mem_of_getElem? (i := 78) rfl) rfl
set_option maxRecDepth 20000 in
theorem w_866 : Cond.methodLink RL 194 yX11_ask ∈ wl := tm_5 (List.mem_of_getElem? (i := 75) rfl) rfl
set_option maxRecDepth 20000 in
theorem w_867 : Cond.instanceMethod yX11_ask ∈ wl := tm_5 (List.mem_of_getElem? (i := 76) rfl) rfl
set_option maxRecDepth 20000 in
theorem w_868 : Cond.selects RX11 yX11_ask yX11_ask ∈ wl := tm_5 (List.mem_of_getElem? (i := 77) rfl) rfl
set_option maxRecDepth 20000 in
theorem w_869 : Cond.code yX12_ask cX12_ask 3 (some .int) ∈ wl := tm_8 (List.mem_of_getElem? (i := 189) rfl) rfl
set_option maxRecDepth 20000 in
theorem w_870 : Cond.methodLink RL 197 yX12_ask ∈ wl := tm_8 (List.mem_of_getElem? (i := 186) rfl) rfl
set_option maxRecDepth 20000 in
theorem w_871 : Cond.instanceMethod yX12_ask ∈ wl := tm_8 (List.mem_of_getElem? (i := 187) rfl) rfl
set_option maxRecDepth 20000 in
theorem w_872 : Cond.selects RX12 yX12_ask yX12_ask ∈ wl := tm_8 (List.mem_of_getElem? (i := 188) rfl) rfl
set_option maxRecDepth 20000 in
theorem w_873 : Cond.code yX11_leaves cX11_leaves 4 (some .int) ∈ wl := tm_5 (List.mem_of_getElem? (i := 90) rfl) rfl
set_option maxRecDepth 20000 in
theorem w_874 : Cond.methodLink RL 198 yX11_leaves ∈ wl := tm_5 (List.mem_of_getElem? (i := 87) rfl) rfl
set_option maxRecDepth 20000 in
theorem w_875 : Cond.instanceMethod yX11_leaves ∈ wl := tm_5 (List.mem_of_getElem? (i := 88) rfl) rfl
set_option maxRecDepth 20000 in
theorem w_876 : Cond.selects RX11 yX11_leaves yX11_leaves ∈ wl := tm_5 (List.mem_of_getElem? (i := 89) rfl) rfl
set_option maxRecDepth 20000 in
theorem w_877 : Cond.code yX12_leaves cX12_leaves 4 (some .int) ∈ wl := tm_8 (List.mem_of_getElem? (i := 201) rfl) rfl
set_option maxRecDepth 20000 in
theorem w_878 : Cond.methodLink RL 201 yX12_leaves ∈ wl := tm_8 (List.mem_of_getElem? (i := 198) rfl) rfl
set_option maxRecDepth 20000 in
theorem w_879 : Cond.instanceMethod yX12_leaves ∈ wl := tm_8 (List.mem_of_getElem? (i := 199) rfl) rfl
set_option maxRecDepth 20000 in
theorem w_880 : Cond.selects RX12 yX12_leaves yX12_leaves ∈ wl := tm_8 (List.mem_of_getElem? (i := 200) rfl) rfl
set_option maxRecDepth 20000 in
theorem w_881 : Cond.code yX11_course cX11_course 4 (some .int) ∈ wl := tm_5 (List.mem_of_getElem? (i := 94) rfl) rfl
set_option maxRecDepth 20000 in
theorem w_882 : Cond.methodLink RL 202 yX11_course ∈ wl := tm_5 (List.mem_of_getElem? (i := 91) rfl) rfl
set_option maxRecDepth 20000 in
theorem w_883 : Cond.instanceMethod yX11_course ∈ wl := tm_5 (List.mem_of_getElem? (i := 92) rfl) rfl
set_option maxRecDepth 20000 in
theorem w_884 : Cond.selects RX11 yX11_course yX11_course ∈ wl := tm_5 (List.mem_of_getElem? (i := 93) rfl) rfl
set_option maxRecDepth 20000 in
theorem w_885 : Cond.code yX12_course cX12_course 4 (some .int) ∈ wl := tm_8 (List.mem_of_getElem? (i := 205) rfl) rfl
set_option maxRecDepth 20000 in
theorem w_886 : Cond.methodLink RL 205 yX12_course ∈ wl := tm_8 (List.mem_of_getElem? (i := 202) rfl) rfl
set_option maxRecDepth 20000 in
theorem w_887 : Cond.instanceMethod yX12_course ∈ wl := tm_8 (List.mem_of_getElem? (i := 203) rfl) rfl
set_option maxRecDepth 20000 in
theorem w_888 : Cond.selects RX12 yX12_course yX12_course ∈ wl := tm_8 (List.mem_of_getElem? (i := 204) rfl) rfl
set_option maxRecDepth 20000 in
theorem w_889 : Cond.code yX11_lesson cX11_lesson 5 (some .int) ∈ wl := tm_5 (List.mem_of_getElem? (i := 128) rfl) rfl
set_option maxRecDepth 20000 in
theorem w_890 : Cond.methodLink RL 206 yX11_lesson ∈ wl := tm_5 (List.mem_of_getElem? (i := 125) rfl) rfl
set_option maxRecDepth 20000 in
theorem w_891 : Cond.instanceMethod yX11_lesson ∈ wl := tm_5 (List.mem_of_getElem? (i := 126) rfl) rfl
set_option maxRecDepth 20000 in
theorem w_892 : Cond.selects RX11 yX11_lesson yX11_lesson ∈ wl := tm_5 (List.mem_of_getElem? (i := 127) rfl) rfl
set_option maxRecDepth 20000 in
theorem w_893 : Cond.code yX12_lesson cX12_lesson 5 (some .int) ∈ wl := tm_8 (List.mem_of_getElem? (i := 229) rfl) rfl
set_option maxRecDepth 20000 in
theorem w_894 : Cond.methodLink RL 209 yX12_lesson ∈ wl := tm_8 (List.mem_of_getElem? (i := 226) rfl) rfl
set_option maxRecDepth 20000 in
theorem w_895 : Cond.instanceMethod yX12_lesson ∈ wl := tm_8 (List.mem_of_getElem? (i := 227) rfl) rfl
set_option maxRecDepth 20000 in
theorem w_896 : Cond.selects RX12 yX12_lesson yX12_lesson ∈ wl := tm_8 (List.mem_of_getElem? (i := 228) rfl) rfl
set_option maxRecDepth 20000 in
theorem w_897 : Cond.code yX11_spoilt cX11_spoilt 4 (some .int) ∈ wl := tm_5 (List.mem_of_getElem? (i := 132) rfl) rfl
set_option maxRecDepth 20000 in
theorem w_898 : Cond.methodLink RL 210 yX11_spoilt ∈ wl := tm_5 (List.mem_of_getElem? (i := 129) rfl) rfl
set_option maxRecDepth 20000 in
theorem w_899 : Cond.instanceMethod yX11_spoilt ∈ wl := tm_5 (List.mem_of_getElem? (i := 130) rfl) rfl
set_option maxRecDepth 20000 in
theorem w_900 : Cond.selects RX11 yX11_spoilt yX11_spoilt ∈ wl := tm_5 (List.mem_of_getElem? (i := 131) rfl) rfl
set_option maxRecDepth 20000 in
theorem w_901 : Cond.code yX12_spoilt cX12_spoilt 4 (some .int) ∈ wl := tm_8 (List.mem_of_getElem? (i := 233) rfl) rfl
set_option maxRecDepth 20000 in
theorem w_902 : Cond.methodLink RL 213 yX12_spoilt ∈ wl := tm_8 (List.mem_of_getElem? (i := 230) rfl) rfl
set_option maxRecDepth 20000 in
theorem w_903 : Cond.instanceMethod yX12_spoilt ∈ wl := tm_8 (List.mem_of_getElem? (i := 231) rfl) rfl
set_option maxRecDepth 20000 in
theorem w_904 : Cond.selects RX12 yX12_spoilt yX12_spoilt ∈ wl := tm_8 (List.mem_of_getElem? (i := 232) rfl) rfl
set_option maxRecDepth 20000 in
theorem w_905 : Cond.code yX11_route cX11_route 3 (some .int) ∈ wl := tm_5 (List.mem_of_getElem? (i := 136) rfl) rfl
set_option maxRecDepth 20000 in
theorem w_906 : Cond.methodLink RL 214 yX11_route ∈ wl := tm_5 (List.mem_of_getElem? (i := 133) rfl) rfl
set_option maxRecDepth 20000 in
theorem w_907 : Cond.instanceMethod yX11_route ∈ wl := tm_5 (List.mem_of_getElem? (i := 134) rfl) rfl
set_option maxRecDepth 20000 in
theorem w_908 : Cond.selects RX11 yX11_route yX11_route ∈ wl := tm_5 (List.mem_of_getElem? (i := 135) rfl) rfl
set_option maxRecDepth 20000 in
theorem w_909 : Cond.code yX12_route cX12_route 3 (some .int) ∈ wl := tm_8 (List.mem_of_getElem? (i := 237) rfl) rfl
set_option maxRecDepth 20000 in
theorem w_910 : Cond.methodLink RL 217 yX12_route ∈ wl := tm_8 (List.mem_of_getElem? (i := 234) rfl) rfl
set_option maxRecDepth 20000 in
theorem w_911 : Cond.instanceMethod yX12_route ∈ wl := tm_8 (List.mem_of_getElem? (i := 235) rfl) rfl
set_option maxRecDepth 20000 in
theorem w_912 : Cond.selects RX12 yX12_route yX12_route ∈ wl := tm_8 (List.mem_of_getElem? (i := 236) rfl) rfl
set_option maxRecDepth 20000 in
theorem w_913 : Cond.code yX11_dark cX11_dark 4 (some .int) ∈ wl := tm_5 (List.mem_of_getElem? (i := 154) rfl) rfl
set_option maxRecDepth 20000 in
theorem w_914 : Cond.methodLink RL 218 yX11_dark ∈ wl := tm_5 (List.mem_of_getElem? (i := 151) rfl) rfl
set_option maxRecDepth 20000 in
theorem w_915 : Cond.instanceMethod yX11_dark ∈ wl := tm_5 (List.mem_of_getElem? (i := 152) rfl) rfl
set_option maxRecDepth 20000 in
theorem w_916 : Cond.selects RX11 yX11_dark yX11_dark ∈ wl := tm_5 (List.mem_of_getElem? (i := 153) rfl) rfl
set_option maxRecDepth 20000 in
theorem w_917 : Cond.code yX12_dark cX12_dark 3 (some .int) ∈ wl := tm_9 (List.mem_of_getElem? (i := 5) rfl) rfl
set_option maxRecDepth 20000 in
theorem w_918 : Cond.methodLink RL 221 yX12_dark ∈ wl := tm_9 (List.mem_of_getElem? (i := 2) rfl) rfl
set_option maxRecDepth 20000 in
theorem w_919 : Cond.instanceMethod yX12_dark ∈ wl := tm_9 (List.mem_of_getElem? (i := 3) rfl) rfl
set_option maxRecDepth 20000 in
theorem w_920 : Cond.selects RX12 yX12_dark yX12_dark ∈ wl := tm_9 (List.mem_of_getElem? (i := 4) rfl) rfl
set_option maxRecDepth 20000 in
theorem w_921 : Cond.code yX11_detour cX11_detour 4 (some .int) ∈ wl := tm_5 (List.mem_of_getElem? (i := 158) rfl) rfl
set_option maxRecDepth 20000 in
theorem w_922 : Cond.methodLink RL 222 yX11_detour ∈ wl := tm_5 (List.mem_of_getElem? (i := 155) rfl) rfl
set_option maxRecDepth 20000 in
theorem w_923 : Cond.instanceMethod yX11_detour ∈ wl := tm_5 (List.mem_of_getElem? (i := 156) rfl) rfl
set_option maxRecDepth 20000 in
theorem w_924 : Cond.selects RX11 yX11_detour yX11_detour ∈ wl := tm_5 (List.mem_of_getElem? (i := 157) rfl) rfl
set_option maxRecDepth 20000 in
theorem w_925 : Cond.code yX12_detour cX12_detour 3 (some .int) ∈ wl := tm_9 (List.mem_of_getElem? (i := 9) rfl) rfl
set_option maxRecDepth 20000 in
theorem w_926 : Cond.methodLink RL 225 yX12_detour ∈ wl := tm_9 (List.mem_of_getElem? (i := 6) rfl) rfl
set_option maxRecDepth 20000 in
theorem w_927 : Cond.instanceMethod yX12_detour ∈ wl := tm_9 (List.mem_of_getElem? (i := 7) rfl) rfl
set_option maxRecDepth 20000 in
theorem w_928 : Cond.selects RX12 yX12_detour yX12_detour ∈ wl := tm_9 (List.mem_of_getElem? (i := 8) rfl) rfl
set_option maxRecDepth 20000 in
theorem w_929 : Cond.code yX11_fog cX11_fog 7 (some .int) ∈ wl := tm_5 (List.mem_of_getElem? (i := 162) rfl) rfl
set_option maxRecDepth 20000 in
theorem w_930 : Cond.methodLink RL 226 yX11_fog ∈ wl := tm_5 (List.mem_of_getElem? (i := 159) rfl) rfl
set_option maxRecDepth 20000 in
theorem w_931 : Cond.instanceMethod yX11_fog ∈ wl := tm_5 (List.mem_of_getElem? (i := 160) rfl) rfl
set_option maxRecDepth 20000 in
theorem w_932 : Cond.selects RX11 yX11_fog yX11_fog ∈ wl := tm_5 (List.mem_of_getElem? (i := 161) rfl) rfl
set_option maxRecDepth 20000 in
theorem w_933 : Cond.code yX12_fog cX12_fog 6 (some .int) ∈ wl := tm_9 (List.mem_of_getElem? (i := 13) rfl) rfl
set_option maxRecDepth 20000 in
theorem w_934 : Cond.methodLink RL 230 yX12_fog ∈ wl := tm_9 (List.mem_of_getElem? (i := 10) rfl) rfl
set_option maxRecDepth 20000 in
theorem w_935 : Cond.instanceMethod yX12_fog ∈ wl := tm_9 (List.mem_of_getElem? (i := 11) rfl) rfl
set_option maxRecDepth 20000 in
theorem w_936 : Cond.selects RX12 yX12_fog yX12_fog ∈ wl := tm_9 (List.mem_of_getElem? (i := 12) rfl) rfl
set_option maxRecDepth 20000 in
theorem w_937 : Cond.code yX11_likely cX11_likely 5 (some .int) ∈ wl := tm_5 (List.mem_of_getElem? (i := 178) rfl) rfl
set_option maxRecDepth 20000 in
theorem w_938 : Cond.methodLink RL 231 yX11_likely ∈ wl := tm_5 (List.mem_of_getElem? (i := 175) rfl) rfl
set_option maxRecDepth 20000 in
theorem w_939 : Cond.instanceMethod yX11_likely ∈ wl := tm_5 (List.mem_of_getElem? (i := 176) rfl) rfl
set_option maxRecDepth 20000 in
theorem w_940 : Cond.selects RX11 yX11_likely yX11_likely ∈ wl := tm_5 (List.mem_of_getElem? (i := 177) rfl) rfl
set_option maxRecDepth 20000 in
theorem w_941 : Cond.code yX12_likely cX12_likely 5 (some .int) ∈ wl := tm_9 (List.mem_of_getElem? (i := 25) rfl) rfl
set_option maxRecDepth 20000 in
theorem w_942 : Cond.methodLink RL 234 yX12_likely ∈ wl := tm_9 (List.mem_of_getElem? (i := 22) rfl) rfl
set_option maxRecDepth 20000 in
theorem w_943 : Cond.instanceMethod yX12_likely ∈ wl := tm_9 (List.mem_of_getElem? (i := 23) rfl) rfl
set_option maxRecDepth 20000 in
theorem w_944 : Cond.selects RX12 yX12_likely yX12_likely ∈ wl := tm_9 (List.mem_of_getElem? (i := 24) rfl) rfl
set_option maxRecDepth 20000 in
theorem w_945 : Cond.code yX11_can cX11_can 3 (some .int) ∈ wl := tm_5 (List.mem_of_getElem? (i := 182) rfl) rfl
set_option maxRecDepth 20000 in
theorem w_946 : Cond.methodLink RL 235 yX11_can ∈ wl := tm_5 (List.mem_of_getElem? (i := 179) rfl) rfl
set_option maxRecDepth 20000 in
theorem w_947 : Cond.instanceMethod yX11_can ∈ wl := tm_5 (List.mem_of_getElem? (i := 180) rfl) rfl
set_option maxRecDepth 20000 in
theorem w_948 : Cond.selects RX11 yX11_can yX11_can ∈ wl := tm_5 (List.mem_of_getElem? (i := 181) rfl) rfl
set_option maxRecDepth 20000 in
theorem w_949 : Cond.code yX12_can cX12_can 5 (some .int) ∈ wl := tm_9 (List.mem_of_getElem? (i := 29) rfl) rfl
set_option maxRecDepth 20000 in
theorem w_950 : Cond.methodLink RL 238 yX12_can ∈ wl := tm_9 (List.mem_of_getElem? (i := 26) rfl) rfl
set_option maxRecDepth 20000 in
theorem w_951 : Cond.instanceMethod yX12_can ∈ wl := tm_9 (List.mem_of_getElem? (i := 27) rfl) rfl
set_option maxRecDepth 20000 in
theorem w_952 : Cond.selects RX12 yX12_can yX12_can ∈ wl := tm_9 (List.mem_of_getElem? (i := 28) rfl) rfl
set_option maxRecDepth 20000 in
theorem w_953 : Cond.code yX11_lead cX11_lead 5 (some .int) ∈ wl := tm_5 (List.mem_of_getElem? (i := 186) rfl) rfl
set_option maxRecDepth 20000 in
theorem w_954 : Cond.methodLink RL 239 yX11_lead ∈ wl := tm_5 (List.mem_of_getElem? (i := 183) rfl) rfl
set_option maxRecDepth 20000 in
theorem w_955 : Cond.instanceMethod yX11_lead ∈ wl := tm_5 (List.mem_of_getElem? (i := 184) rfl) rfl
set_option maxRecDepth 20000 in
theorem w_956 : Cond.selects RX11 yX11_lead yX11_lead ∈ wl := tm_5 (List.mem_of_getElem? (i := 185) rfl) rfl
set_option maxRecDepth 20000 in
theorem w_957 : Cond.code yX12_lead cX12_lead 5 (some .int) ∈ wl := tm_9 (List.mem_of_getElem? (i := 33) rfl) rfl
set_option maxRecDepth 20000 in
theorem w_958 : Cond.methodLink RL 242 yX12_lead ∈ wl := tm_9 (List.mem_of_getElem? (i := 30) rfl) rfl
set_option maxRecDepth 20000 in
theorem w_959 : Cond.instanceMethod yX12_lead ∈ wl := tm_9 (List.mem_of_getElem? (i := 31) rfl) rfl
set_option maxRecDepth 20000 in
theorem w_960 : Cond.selects RX12 yX12_lead yX12_lead ∈ wl := tm_9 (List.mem_of_getElem? (i := 32) rfl) rfl
set_option maxRecDepth 20000 in
theorem w_961 : Cond.code yX11_marks cX11_marks 4 (some .int) ∈ wl := tm_5 (List.mem_of_getElem? (i := 191) rfl) rfl
set_option maxRecDepth 20000 in
theorem w_962 : Cond.methodLink RL 243 yX11_marks ∈ wl := tm_5 (List.mem_of_getElem? (i := 188) rfl) rfl
set_option maxRecDepth 20000 in
theorem w_963 : Cond.instanceMethod yX11_marks ∈ wl := tm_5 (List.mem_of_getElem? (i := 189) rfl) rfl
set_option maxRecDepth 20000 in
theorem w_964 : Cond.selects RX11 yX11_marks yX11_marks ∈ wl := tm_5 (List.mem_of_getElem? (i := 190) rfl) rfl
set_option maxRecDepth 20000 in
theorem w_965 : Cond.code yX12_marks cX12_marks 4 (some .int) ∈ wl := tm_9 (List.mem_of_getElem? (i := 37) rfl) rfl
set_option maxRecDepth 20000 in
theorem w_966 : Cond.methodLink RL 246 yX12_marks ∈ wl := tm_9 (List.mem_of_getElem? (i := 34) rfl) rfl
set_option maxRecDepth 20000 in
theorem w_967 : Cond.instanceMethod yX12_marks ∈ wl := tm_9 (List.mem_of_getElem? (i := 35) rfl) rfl
set_option maxRecDepth 20000 in
theorem w_968 : Cond.selects RX12 yX12_marks yX12_marks ∈ wl := tm_9 (List.mem_of_getElem? (i := 36) rfl) rfl
set_option maxRecDepth 20000 in
theorem w_969 : Cond.code yX11_drawn cX11_drawn 6 (some .int) ∈ wl := tm_5 (List.mem_of_getElem? (i := 196) rfl) rfl
set_option maxRecDepth 20000 in
theorem w_970 : Cond.methodLink RL 247 yX11_drawn ∈ wl := tm_5 (List.mem_of_getElem? (i := 193) rfl) rfl
set_option maxRecDepth 20000 in
theorem w_971 : Cond.instanceMethod yX11_drawn ∈ wl := tm_5 (List.mem_of_getElem? (i := 194) rfl) rfl
set_option maxRecDepth 20000 in
theorem w_972 : Cond.selects RX11 yX11_drawn yX11_drawn ∈ wl := tm_5 (List.mem_of_getElem? (i := 195) rfl) rfl
set_option maxRecDepth 20000 in
theorem w_973 : Cond.code yX12_drawn cX12_drawn 5 (some .int) ∈ wl := tm_9 (List.mem_of_getElem? (i := 41) rfl) rfl
set_option maxRecDepth 20000 in
theorem w_974 : Cond.methodLink RL 250 yX12_drawn ∈ wl := tm_9 (List.mem_of_getElem? (i := 38) rfl) rfl
set_option maxRecDepth 20000 in
theorem w_975 : Cond.instanceMethod yX12_drawn ∈ wl := tm_9 (List.mem_of_getElem? (i := 39) rfl) rfl
set_option maxRecDepth 20000 in
theorem w_976 : Cond.selects RX12 yX12_drawn yX12_drawn ∈ wl := tm_9 (List.mem_of_getElem? (i := 40) rfl) rfl
set_option maxRecDepth 20000 in
theorem w_977 : Cond.code yX11_luck cX11_luck 7 (some .int) ∈ wl := tm_5 (List.mem_of_getElem? (i := 211) rfl) rfl
set_option maxRecDepth 20000 in
theorem w_978 : Cond.methodLink RL 251 yX11_luck ∈ wl := tm_5 (List.mem_of_getElem? (i := 208) rfl) rfl
set_option maxRecDepth 20000 in
theorem w_979 : Cond.instanceMethod yX11_luck ∈ wl := tm_5 (List.mem_of_getElem? (i := 209) rfl) rfl
set_option maxRecDepth 20000 in
theorem w_980 : Cond.selects RX11 yX11_luck yX11_luck ∈ wl := tm_5 (List.mem_of_getElem? (i := 210) rfl) rfl
set_option maxRecDepth 20000 in
theorem w_981 : Cond.code yX12_luck cX12_luck 7 (some .int) ∈ wl := tm_9 (List.mem_of_getElem? (i := 59) rfl) rfl
set_option maxRecDepth 20000 in
theorem w_982 : Cond.methodLink RL 254 yX12_luck ∈ wl := tm_9 (List.mem_of_getElem? (i := 56) rfl) rfl
set_option maxRecDepth 20000 in
theorem w_983 : Cond.instanceMethod yX12_luck ∈ wl := tm_9 (List.mem_of_getElem? (i := 57) rfl) rfl
set_option maxRecDepth 20000 in
theorem w_984 : Cond.selects RX12 yX12_luck yX12_luck ∈ wl := tm_9 (List.mem_of_getElem? (i := 58) rfl) rfl
set_option maxRecDepth 20000 in
theorem w_985 : Cond.code yX11_count cX11_count 2 (some .int) ∈ wl := tm_5 (List.mem_of_getElem? (i := 215) rfl) rfl
set_option maxRecDepth 20000 in
theorem w_986 : Cond.methodLink RL 255 yX11_count ∈ wl := tm_5 (List.mem_of_getElem? (i := 212) rfl) rfl
set_option maxRecDepth 20000 in
theorem w_987 : Cond.instanceMethod yX11_count ∈ wl := tm_5 (List.mem_of_getElem? (i := 213) rfl) rfl
set_option maxRecDepth 20000 in
theorem w_988 : Cond.selects RX11 yX11_count yX11_count ∈ wl := tm_5 (List.mem_of_getElem? (i := 214) rfl) rfl
set_option maxRecDepth 20000 in
theorem w_989 : Cond.code yX12_count cX12_count 5 (some .int) ∈ wl := tm_9 (List.mem_of_getElem? (i := 64) rfl) rfl
set_option maxRecDepth 20000 in
theorem w_990 : Cond.methodLink RL 258 yX12_count ∈ wl := tm_9 (List.mem_of_getElem? (i := 61) rfl) rfl
set_option maxRecDepth 20000 in
theorem w_991 : Cond.instanceMethod yX12_count ∈ wl := tm_9 (List.mem_of_getElem? (i := 62) rfl) rfl
set_option maxRecDepth 20000 in
theorem w_992 : Cond.selects RX12 yX12_count yX12_count ∈ wl := tm_9 (List.mem_of_getElem? (i := 63) rfl) rfl
set_option maxRecDepth 20000 in
theorem w_993 : Cond.code yX11_image cX11_image 2 (some .int) ∈ wl := tm_5 (List.mem_of_getElem? (i := 228) rfl) rfl
set_option maxRecDepth 20000 in
theorem w_994 : Cond.methodLink RL 259 yX11_image ∈ wl := tm_5 (List.mem_of_getElem? (i := 225) rfl) rfl
set_option maxRecDepth 20000 in
theorem w_995 : Cond.instanceMethod yX11_image ∈ wl := tm_5 (List.mem_of_getElem? (i := 226) rfl) rfl
set_option maxRecDepth 20000 in
theorem w_996 : Cond.selects RX11 yX11_image yX11_image ∈ wl := tm_5 (List.mem_of_getElem? (i := 227) rfl) rfl
set_option maxRecDepth 20000 in
theorem w_997 : Cond.code yX12_image cX12_image 3 (some .int) ∈ wl := tm_6 (List.mem_of_getElem? (i := 211) rfl) rfl
set_option maxRecDepth 20000 in
theorem w_998 : Cond.methodLink RL 262 yX12_image ∈ wl := tm_6 (List.mem_of_getElem? (i := 208) rfl) rfl
set_option maxRecDepth 20000 in
theorem w_999 : Cond.instanceMethod yX12_image ∈ wl := tm_6 (List.mem_of_getElem? (i := 209) rfl) rfl
set_option maxRecDepth 20000 in
theorem w_1000 : Cond.selects RX12 yX12_image yX12_image ∈ wl := tm_6 (List.mem_of_getElem? (i := 210) rfl) rfl
set_option maxRecDepth 20000 in
theorem w_1001 : Cond.code yX11_back cX11_back 2 (some .int) ∈ wl := tm_5 (List.mem_of_getElem? (i := 237) rfl) rfl
set_option maxRecDepth 20000 in
theorem w_1002 : Cond.methodLink RL 263 yX11_back ∈ wl := tm_5 (List.mem_of_getElem? (i := 234) rfl) rfl
set_option maxRecDepth 20000 in
theorem w_1003 : Cond.instanceMethod yX11_back ∈ wl := tm_5 (List.mem_of_getElem? (i := 235) rfl) rfl
set_option maxRecDepth 20000 in
theorem w_1004 : Cond.selects RX11 yX11_back yX11_back ∈ wl := tm_5 (List.mem_of_getElem? (i := 236) rfl) rfl
set_option maxRecDepth 20000 in
theorem w_1005 : Cond.code yX12_back cX12_back 3 (some .int) ∈ wl := tm_6 (List.mem_of_getElem? (i := 219) rfl) rfl
set_option maxRecDepth 20000 in
theorem w_1006 : Cond.methodLink RL 266 yX12_back ∈ wl := tm_6 (List.mem_of_getElem? (i := 216) rfl) rfl
set_option maxRecDepth 20000 in
theorem w_1007 : Cond.instanceMethod yX12_back ∈ wl := tm_6 (List.mem_of_getElem? (i := 217) rfl) rfl
set_option maxRecDepth 20000 in
theorem w_1008 : Cond.selects RX12 yX12_back yX12_back ∈ wl := tm_6 (List.mem_of_getElem? (i := 218) rfl) rfl
set_option maxRecDepth 20000 in
theorem w_1009 : Cond.code yX11_row cX11_row 4 (some .int) ∈ wl := tm_6 (List.mem_of_getElem? (i := 1) rfl) rfl
set_option maxRecDepth 20000 in
theorem w_1010 : Cond.methodLink RL 267 yX11_row ∈ wl := tm_5 (List.mem_of_getElem? (i := 238) rfl) rfl
set_option maxRecDepth 20000 in
theorem w_1011 : Cond.instanceMethod yX11_row ∈ wl := tm_5 (List.mem_of_getElem? (i := 239) rfl) rfl
set_option maxRecDepth 20000 in
theorem w_1012 : Cond.selects RX11 yX11_row yX11_row ∈ wl := tm_6 (List.mem_of_getElem? (i := 0) rfl) rfl
set_option maxRecDepth 20000 in
theorem w_1013 : Cond.code yX12_row cX12_row 5 (some .int) ∈ wl := tm_9 (List.mem_of_getElem? (i := 68) rfl) rfl
set_option maxRecDepth 20000 in
theorem w_1014 : Cond.methodLink RL 270 yX12_row ∈ wl := tm_9 (List.mem_of_getElem? (i := 65) rfl) rfl
set_option maxRecDepth 20000 in
theorem w_1015 : Cond.instanceMethod yX12_row ∈ wl := tm_9 (List.mem_of_getElem? (i := 66) rfl) rfl
set_option maxRecDepth 20000 in
theorem w_1016 : Cond.selects RX12 yX12_row yX12_row ∈ wl := tm_9 (List.mem_of_getElem? (i := 67) rfl) rfl
set_option maxRecDepth 20000 in
theorem w_1017 : Cond.constantLong RL 271 (4294967295) ∈ wl := tm_9 (List.mem_of_getElem? (i := 80) rfl) rfl
set_option maxRecDepth 20000 in
theorem w_1018 : Cond.code yX11_write cX11_write 5 (some .int) ∈ wl := tm_6 (List.mem_of_getElem? (i := 15) rfl) rfl
set_option maxRecDepth 20000 in
theorem w_1019 : Cond.methodLink RL 273 yX11_write ∈ wl := tm_6 (List.mem_of_getElem? (i := 12) rfl) rfl
set_option maxRecDepth 20000 in
theorem w_1020 : Cond.instanceMethod yX11_write ∈ wl := tm_6 (List.mem_of_getElem? (i := 13) rfl) rfl
set_option maxRecDepth 20000 in
theorem w_1021 : Cond.selects RX11 yX11_write yX11_write ∈ wl := tm_6 (List.mem_of_getElem? (i := 14) rfl) rfl
set_option maxRecDepth 20000 in
theorem w_1022 : Cond.code yX12_write cX12_write 5 (some .int) ∈ wl := tm_9 (List.mem_of_getElem? (i := 72) rfl) rfl
set_option maxRecDepth 20000 in
theorem w_1023 : Cond.methodLink RL 277 yX12_write ∈ wl := tm_9 (List.mem_of_getElem? (i := 69) rfl) rfl
set_option maxRecDepth 20000 in
theorem w_1024 : Cond.instanceMethod yX12_write ∈ wl := tm_9 (List.mem_of_getElem? (i := 70) rfl) rfl
set_option maxRecDepth 20000 in
theorem w_1025 : Cond.selects RX12 yX12_write yX12_write ∈ wl := tm_9 (List.mem_of_getElem? (i := 71) rfl) rfl
set_option maxRecDepth 20000 in
theorem w_1026 : Cond.code yX11_paste cX11_paste 6 (some .int) ∈ wl := tm_6 (List.mem_of_getElem? (i := 30) rfl) rfl
set_option maxRecDepth 20000 in
theorem w_1027 : Cond.methodLink RL 278 yX11_paste ∈ wl := tm_6 (List.mem_of_getElem? (i := 27) rfl) rfl
set_option maxRecDepth 20000 in
theorem w_1028 : Cond.instanceMethod yX11_paste ∈ wl := tm_6 (List.mem_of_getElem? (i := 28) rfl) rfl
set_option maxRecDepth 20000 in
theorem w_1029 : Cond.selects RX11 yX11_paste yX11_paste ∈ wl := tm_6 (List.mem_of_getElem? (i := 29) rfl) rfl
set_option maxRecDepth 20000 in
theorem w_1030 : Cond.code yX12_paste cX12_paste 7 (some .int) ∈ wl := tm_9 (List.mem_of_getElem? (i := 79) rfl) rfl
set_option maxRecDepth 20000 in
theorem w_1031 : Cond.methodLink RL 281 yX12_paste ∈ wl := tm_9 (List.mem_of_getElem? (i := 76) rfl) rfl
set_option maxRecDepth 20000 in
theorem w_1032 : Cond.instanceMethod yX12_paste ∈ wl := tm_9 (List.mem_of_getElem? (i := 77) rfl) rfl
set_option maxRecDepth 20000 in
theorem w_1033 : Cond.selects RX12 yX12_paste yX12_paste ∈ wl := tm_9 (List.mem_of_getElem? (i := 78) rfl) rfl
set_option maxRecDepth 20000 in
theorem w_1034 : Cond.instantiable RX11 12 ∈ wl := tm_1 (List.mem_of_getElem? (i := 23) rfl) rfl
set_option maxRecDepth 20000 in
theorem w_1035 : Cond.instantiable RX12 53 ∈ wl := tm_6 (List.mem_of_getElem? (i := 43) rfl) rfl
set_option maxRecDepth 20000 in
theorem w_1036 : Cond.code yX11_init cX11_init 1 none ∈ wl := tm_1 (List.mem_of_getElem? (i := 26) rfl) rfl
set_option maxRecDepth 20000 in
theorem w_1037 : Cond.methodLink RL 9 yX11_init ∈ wl := tm_1 (List.mem_of_getElem? (i := 24) rfl) rfl
set_option maxRecDepth 20000 in
theorem w_1038 : Cond.instanceMethod yX11_init ∈ wl := tm_1 (List.mem_of_getElem? (i := 25) rfl) rfl
set_option maxRecDepth 20000 in
theorem w_1039 : Cond.code yX12_init cX12_init 1 none ∈ wl := tm_6 (List.mem_of_getElem? (i := 46) rfl) rfl
set_option maxRecDepth 20000 in
theorem w_1040 : Cond.methodLink RL 12 yX12_init ∈ wl := tm_6 (List.mem_of_getElem? (i := 44) rfl) rfl
set_option maxRecDepth 20000 in
theorem w_1041 : Cond.instanceMethod yX12_init ∈ wl := tm_6 (List.mem_of_getElem? (i := 45) rfl) rfl
set_option maxRecDepth 20000 in
theorem w_1042 : Cond.classLink RL 7 RX11 ∈ wl := tm_1 (List.mem_of_getElem? (i := 22) rfl) rfl
set_option maxRecDepth 20000 in
theorem w_1043 : Cond.classLink RL 10 RX12 ∈ wl := tm_6 (List.mem_of_getElem? (i := 42) rfl) rfl
set_option maxRecDepth 20000 in
theorem in_X10 : ∀ w ∈ wsX100, w ∈ wl := List.forall_mem_cons.mpr ⟨w_4, List.forall_mem_cons.mpr ⟨w_5, List.forall_mem_cons.mpr ⟨w_6, List.forall_mem_cons.mpr ⟨w_7, List.forall_mem_cons.mpr ⟨w_8, List.forall_mem_cons.mpr ⟨w_9, List.forall_mem_cons.mpr ⟨w_10, List.forall_mem_cons.mpr ⟨w_11, List.forall_mem_cons.mpr ⟨w_12, List.forall_mem_cons.mpr ⟨w_13, List.forall_mem_cons.mpr ⟨w_14, List.forall_mem_cons.mpr ⟨w_15, fun _ h => absurd h List.not_mem_nil⟩⟩⟩⟩⟩⟩⟩⟩⟩⟩⟩⟩
set_option maxRecDepth 20000 in
theorem in_X5 : ∀ w ∈ wsX50, w ∈ wl := List.forall_mem_cons.mpr ⟨w_31, List.forall_mem_cons.mpr ⟨w_32, List.forall_mem_cons.mpr ⟨w_33, fun _ h => absurd h List.not_mem_nil⟩⟩⟩
set_option maxRecDepth 20000 in
theorem in_X11 : ∀ w ∈ wsX110, w ∈ wl := List.forall_mem_cons.mpr ⟨w_40, List.forall_mem_cons.mpr ⟨w_41, List.forall_mem_cons.mpr ⟨w_42, List.forall_mem_cons.mpr ⟨w_43, List.forall_mem_cons.mpr ⟨w_44, List.forall_mem_cons.mpr ⟨w_45, List.forall_mem_cons.mpr ⟨w_46, List.forall_mem_cons.mpr ⟨w_47, List.forall_mem_cons.mpr ⟨w_48, List.forall_mem_cons.mpr ⟨w_49, List.forall_mem_cons.mpr ⟨w_50, List.forall_mem_cons.mpr ⟨w_51, fun _ h => absurd h List.not_mem_nil⟩⟩⟩⟩⟩⟩⟩⟩⟩⟩⟩⟩
set_option maxRecDepth 20000 in
theorem in_X4 : ∀ w ∈ wsX40, w ∈ wl := List.forall_mem_cons.mpr ⟨w_97, List.forall_mem_cons.mpr ⟨w_98, List.forall_mem_cons.mpr ⟨w_99, List.forall_mem_cons.mpr ⟨w_100, List.forall_mem_cons.mpr ⟨w_101, List.forall_mem_cons.mpr ⟨w_102, List.forall_mem_cons.mpr ⟨w_103, List.forall_mem_cons.mpr ⟨w_104, List.forall_mem_cons.mpr ⟨w_105, List.forall_mem_cons.mpr ⟨w_106, fun _ h => absurd h List.not_mem_nil⟩⟩⟩⟩⟩⟩⟩⟩⟩⟩
set_option maxRecDepth 20000 in
theorem in_X2 : ∀ w ∈ wsX20, w ∈ wl := List.forall_mem_cons.mpr ⟨w_127, List.forall_mem_cons.mpr ⟨w_128, List.forall_mem_cons.mpr ⟨w_129, List.forall_mem_cons.mpr ⟨w_130, List.forall_mem_cons.mpr ⟨w_131, List.forall_mem_cons.mpr ⟨w_132, fun _ h => absurd h List.not_mem_nil⟩⟩⟩⟩⟩⟩
set_option maxRecDepth 20000 in
theorem in_X12 : ∀ w ∈ wsX120, w ∈ wl := List.forall_mem_cons.mpr ⟨w_141, List.forall_mem_cons.mpr ⟨w_142, List.forall_mem_cons.mpr ⟨w_143, List.forall_mem_cons.mpr ⟨w_144, List.forall_mem_cons.mpr ⟨w_145, List.forall_mem_cons.mpr ⟨w_146, List.forall_mem_cons.mpr ⟨w_147, List.forall_mem_cons.mpr ⟨w_148, List.forall_mem_cons.mpr ⟨w_149, List.forall_mem_cons.mpr ⟨w_150, List.forall_mem_cons.mpr ⟨w_151, List.forall_mem_cons.mpr ⟨w_152, List.forall_mem_cons.mpr ⟨w_153, List.forall_mem_cons.mpr ⟨w_154, List.forall_mem_cons.mpr ⟨w_155, List.forall_mem_cons.mpr ⟨w_156, List.forall_mem_cons.mpr ⟨w_157, List.forall_mem_cons.mpr ⟨w_158, List.forall_mem_cons.mpr ⟨w_159, List.forall_mem_cons.mpr ⟨w_160, List.forall_mem_cons.mpr ⟨w_161, List.forall_mem_cons.mpr ⟨w_162, List.forall_mem_cons.mpr ⟨w_163, List.forall_mem_cons.mpr ⟨w_164, List.forall_mem_cons.mpr ⟨w_165, List.forall_mem_cons.mpr ⟨w_166, List.forall_mem_cons.mpr ⟨w_167, List.forall_mem_cons.mpr ⟨w_168, List.forall_mem_cons.mpr ⟨w_169, List.forall_mem_cons.mpr ⟨w_170, List.forall_mem_cons.mpr ⟨w_171, List.forall_mem_cons.mpr ⟨w_172, List.forall_mem_cons.mpr ⟨w_173, List.forall_mem_cons.mpr ⟨w_174, List.forall_mem_cons.mpr ⟨w_175, List.forall_mem_cons.mpr ⟨w_176, List.forall_mem_cons.mpr ⟨w_177, List.forall_mem_cons.mpr ⟨w_178, List.forall_mem_cons.mpr ⟨w_179, List.forall_mem_cons.mpr ⟨w_180, List.forall_mem_cons.mpr ⟨w_181, List.forall_mem_cons.mpr ⟨w_182, List.forall_mem_cons.mpr ⟨w_183, List.forall_mem_cons.mpr ⟨w_184, List.forall_mem_cons.mpr ⟨w_185, List.forall_mem_cons.mpr ⟨w_186, List.forall_mem_cons.mpr ⟨w_187, List.forall_mem_cons.mpr ⟨w_188, List.forall_mem_cons.mpr ⟨w_189, List.forall_mem_cons.mpr ⟨w_190, List.forall_mem_cons.mpr ⟨w_191, List.forall_mem_cons.mpr ⟨w_192, List.forall_mem_cons.mpr ⟨w_193, fun _ h => absurd h List.not_mem_nil⟩⟩⟩⟩⟩⟩⟩⟩⟩⟩⟩⟩⟩⟩⟩⟩⟩⟩⟩⟩⟩⟩⟩⟩⟩⟩⟩⟩⟩⟩⟩⟩⟩⟩⟩⟩⟩⟩⟩⟩⟩⟩⟩⟩⟩⟩⟩⟩⟩⟩⟩⟩⟩
set_option maxRecDepth 20000 in
theorem in_X1 : ∀ w ∈ wsX10, w ∈ wl := List.forall_mem_cons.mpr ⟨w_279, List.forall_mem_cons.mpr ⟨w_280, List.forall_mem_cons.mpr ⟨w_281, List.forall_mem_cons.mpr ⟨w_282, List.forall_mem_cons.mpr ⟨w_283, List.forall_mem_cons.mpr ⟨w_284, List.forall_mem_cons.mpr ⟨w_285, List.forall_mem_cons.mpr ⟨w_286, List.forall_mem_cons.mpr ⟨w_287, List.forall_mem_cons.mpr ⟨w_288, fun _ h => absurd h List.not_mem_nil⟩⟩⟩⟩⟩⟩⟩⟩⟩⟩
set_option maxRecDepth 20000 in
theorem in_X7 : ∀ w ∈ wsX70, w ∈ wl := List.forall_mem_cons.mpr ⟨w_297, List.forall_mem_cons.mpr ⟨w_298, List.forall_mem_cons.mpr ⟨w_299, List.forall_mem_cons.mpr ⟨w_300, List.forall_mem_cons.mpr ⟨w_301, List.forall_mem_cons.mpr ⟨w_302, List.forall_mem_cons.mpr ⟨w_303, fun _ h => absurd h List.not_mem_nil⟩⟩⟩⟩⟩⟩⟩
set_option maxRecDepth 20000 in
theorem in_X9 : ∀ w ∈ wsX90, w ∈ wl := List.forall_mem_cons.mpr ⟨w_308, List.forall_mem_cons.mpr ⟨w_309, List.forall_mem_cons.mpr ⟨w_310, fun _ h => absurd h List.not_mem_nil⟩⟩⟩
set_option maxRecDepth 20000 in
theorem in_X3 : ∀ w ∈ wsX30, w ∈ wl := List.forall_mem_cons.mpr ⟨w_319, List.forall_mem_cons.mpr ⟨w_320, List.forall_mem_cons.mpr ⟨w_321, List.forall_mem_cons.mpr ⟨w_322, List.forall_mem_cons.mpr ⟨w_323, fun _ h => absurd h List.not_mem_nil⟩⟩⟩⟩⟩
set_option maxRecDepth 20000 in
theorem in_X0 : ∀ w ∈ wsX00, w ∈ wl := List.forall_mem_cons.mpr ⟨w_329, List.forall_mem_cons.mpr ⟨w_330, List.forall_mem_cons.mpr ⟨w_331, List.forall_mem_cons.mpr ⟨w_332, List.forall_mem_cons.mpr ⟨w_333, List.forall_mem_cons.mpr ⟨w_334, fun _ h => absurd h List.not_mem_nil⟩⟩⟩⟩⟩⟩
set_option maxRecDepth 20000 in
theorem in_X8 : ∀ w ∈ wsX80, w ∈ wl := List.forall_mem_cons.mpr ⟨w_341, List.forall_mem_cons.mpr ⟨w_342, List.forall_mem_cons.mpr ⟨w_343, fun _ h => absurd h List.not_mem_nil⟩⟩⟩
set_option maxRecDepth 20000 in
theorem kd_X10_all : okD yX10_all 0 := by decide +kernel
set_option maxRecDepth 20000 in
theorem kd_X10_showing : okD yX10_showing 2 := by decide +kernel
set_option maxRecDepth 20000 in
theorem kd_X11_isSlot : okD yX11_isSlot 1 := by decide +kernel
set_option maxRecDepth 20000 in
theorem kd_X5_has : okD yX5_has 1 := by decide +kernel
set_option maxRecDepth 20000 in
theorem kd_X10_hasPlace : okD yX10_hasPlace 1 := by decide +kernel
set_option maxRecDepth 20000 in
theorem kd_X10_hasPupil : okD yX10_hasPupil 1 := by decide +kernel
set_option maxRecDepth 20000 in
theorem kd_X11_stand : okD yX11_stand 1 := by decide +kernel
set_option maxRecDepth 20000 in
theorem kd_X10_stands : okD yX10_stands 0 := by decide +kernel
set_option maxRecDepth 20000 in
theorem kd_X10_hasSet : okD yX10_hasSet 1 := by decide +kernel
set_option maxRecDepth 20000 in
theorem kd_X11_isWind : okD yX11_isWind 1 := by decide +kernel
set_option maxRecDepth 20000 in
theorem kd_X11_refuseWalk : okD yX11_refuseWalk 2 := by decide +kernel
set_option maxRecDepth 20000 in
theorem kd_X11_seek : okD yX11_seek 3 := by decide +kernel
set_option maxRecDepth 20000 in
theorem kd_X11_arePlaces : okD yX11_arePlaces 2 := by decide +kernel
set_option maxRecDepth 20000 in
theorem kd_X11_refuseReading : okD yX11_refuseReading 1 := by decide +kernel
set_option maxRecDepth 20000 in
theorem kd_X11_isDraw : okD yX11_isDraw 2 := by decide +kernel
set_option maxRecDepth 20000 in
theorem kd_X10_waysElsewhere : okD yX10_waysElsewhere 0 := by decide +kernel
set_option maxRecDepth 20000 in
theorem kd_X10_marked : okD yX10_marked 0 := by decide +kernel
set_option maxRecDepth 20000 in
theorem kd_J6_bitCount_0f7a4 : okD yJ6_bitCount_0f7a4 1 := by decide +kernel
set_option maxRecDepth 20000 in
theorem kd_X5_kept : okD yX5_kept 0 := by decide +kernel
set_option maxRecDepth 20000 in
theorem kd_X12_in : okD yX12_in 3 := by decide +kernel
set_option maxRecDepth 20000 in
theorem kd_X12_isPlace : okD yX12_isPlace 1 := by decide +kernel
set_option maxRecDepth 20000 in
theorem kd_X12_isWood : okD yX12_isWood 0 := by decide +kernel
set_option maxRecDepth 20000 in
theorem kd_X12_isSlot : okD yX12_isSlot 1 := by decide +kernel
set_option maxRecDepth 20000 in
theorem kd_X12_isPupil : okD yX12_isPupil 1 := by decide +kernel
set_option maxRecDepth 20000 in
theorem kd_X12_isSet : okD yX12_isSet 1 := by decide +kernel
set_option maxRecDepth 20000 in
theorem kd_X12_asksWalk : okD yX12_asksWalk 2 := by decide +kernel
set_option maxRecDepth 20000 in
theorem kd_X12_areTwo : okD yX12_areTwo 2 := by decide +kernel
set_option maxRecDepth 20000 in
theorem kd_X12_asksRead : okD yX12_asksRead 1 := by decide +kernel
set_option maxRecDepth 20000 in
theorem kd_X12_isDrawn : okD yX12_isDrawn 3 := by decide +kernel
set_option maxRecDepth 20000 in
theorem kd_X10_init : okD yX10_init 0 := by decide +kernel
set_option maxRecDepth 20000 in
theorem kd_J7_fill_53178 : okD yJ7_fill_53178 2 := by decide +kernel
set_option maxRecDepth 20000 in
theorem kd_X6_init : okD yX6_init 1 := by decide +kernel
set_option maxRecDepth 20000 in
theorem kd_X9_init : okD yX9_init 0 := by decide +kernel
set_option maxRecDepth 20000 in
theorem kd_X4_init : okD yX4_init 0 := by decide +kernel
set_option maxRecDepth 20000 in
theorem kd_X2_init : okD yX2_init 0 := by decide +kernel
set_option maxRecDepth 20000 in
theorem kd_X5_init : okD yX5_init 0 := by decide +kernel
set_option maxRecDepth 20000 in
theorem kd_X1_init : okD yX1_init 0 := by decide +kernel
set_option maxRecDepth 20000 in
theorem kd_X7_init : okD yX7_init 0 := by decide +kernel
set_option maxRecDepth 20000 in
theorem kd_X3_init : okD yX3_init 0 := by decide +kernel
set_option maxRecDepth 20000 in
theorem kd_X0_init : okD yX0_init 0 := by decide +kernel
set_option maxRecDepth 20000 in
theorem kd_X8_init : okD yX8_init 0 := by decide +kernel
set_option maxRecDepth 20000 in
theorem kd_X4_hasRoom : okD yX4_hasRoom 1 := by decide +kernel
set_option maxRecDepth 20000 in
theorem kd_X4_append : okD yX4_append 1 := by decide +kernel
set_option maxRecDepth 20000 in
theorem kd_X4_kindAt : okD yX4_kindAt 1 := by decide +kernel
set_option maxRecDepth 20000 in
theorem kd_X4_byteAt : okD yX4_byteAt 1 := by decide +kernel
set_option maxRecDepth 20000 in
theorem kd_X10_clear : okD yX10_clear 0 := by decide +kernel
set_option maxRecDepth 20000 in
theorem kd_X4_advance : okD yX4_advance 0 := by decide +kernel
set_option maxRecDepth 20000 in
theorem kd_X4_parse : okD yX4_parse 0 := by decide +kernel
set_option maxRecDepth 20000 in
theorem kd_X10_copyFrom : okD yX10_copyFrom 1 := by decide +kernel
set_option maxRecDepth 20000 in
theorem kd_X2_assemble : okD yX2_assemble 1 := by decide +kernel
set_option maxRecDepth 20000 in
theorem kd_X2_copyFrom : okD yX2_copyFrom 1 := by decide +kernel
set_option maxRecDepth 20000 in
theorem kd_J7_rangeCheck_23922 : okD yJ7_rangeCheck_23922 3 := by decide +kernel
set_option maxRecDepth 20000 in
theorem kd_J7_fill_bad5a : okD yJ7_fill_bad5a 4 := by decide +kernel
set_option maxRecDepth 20000 in
theorem kd_X5_make : okD yX5_make 3 := by decide +kernel
set_option maxRecDepth 20000 in
theorem kd_X12_see : okD yX12_see 1 := by decide +kernel
set_option maxRecDepth 20000 in
theorem kd_X12_advance : okD yX12_advance 0 := by decide +kernel
set_option maxRecDepth 20000 in
theorem kd_X12_good : okD yX12_good 0 := by decide +kernel
set_option maxRecDepth 20000 in
theorem kd_X11_feed : okD yX11_feed 5 := by decide +kernel
set_option maxRecDepth 20000 in
theorem kd_X12_feed : okD yX12_feed 5 := by decide +kernel
set_option maxRecDepth 20000 in
theorem kd_X11_end : okD yX11_end 1 := by decide +kernel
set_option maxRecDepth 20000 in
theorem kd_X12_end : okD yX12_end 1 := by decide +kernel
set_option maxRecDepth 20000 in
theorem kd_X11_wood : okD yX11_wood 0 := by decide +kernel
set_option maxRecDepth 20000 in
theorem kd_X12_wood : okD yX12_wood 0 := by decide +kernel
set_option maxRecDepth 20000 in
theorem kd_X11_fault : okD yX11_fault 1 := by decide +kernel
set_option maxRecDepth 20000 in
theorem kd_X12_fault : okD yX12_fault 1 := by decide +kernel
set_option maxRecDepth 20000 in
theorem kd_X11_leads : okD yX11_leads 2 := by decide +kernel
set_option maxRecDepth 20000 in
theorem kd_X12_leads : okD yX12_leads 2 := by decide +kernel
set_option maxRecDepth 20000 in
theorem kd_X11_mark : okD yX11_mark 1 := by decide +kernel
set_option maxRecDepth 20000 in
theorem kd_X12_mark : okD yX12_mark 1 := by decide +kernel
set_option maxRecDepth 20000 in
theorem kd_X11_becomes : okD yX11_becomes 2 := by decide +kernel
set_option maxRecDepth 20000 in
theorem kd_X12_becomes : okD yX12_becomes 2 := by decide +kernel
set_option maxRecDepth 20000 in
theorem kd_X11_seen : okD yX11_seen 2 := by decide +kernel
set_option maxRecDepth 20000 in
theorem kd_X12_seen : okD yX12_seen 2 := by decide +kernel
set_option maxRecDepth 20000 in
theorem kd_X11_where : okD yX11_where 1 := by decide +kernel
set_option maxRecDepth 20000 in
theorem kd_X12_where : okD yX12_where 1 := by decide +kernel
set_option maxRecDepth 20000 in
theorem kd_X11_thinks : okD yX11_thinks 1 := by decide +kernel
set_option maxRecDepth 20000 in
theorem kd_X12_thinks : okD yX12_thinks 1 := by decide +kernel
set_option maxRecDepth 20000 in
theorem kd_X11_pupil : okD yX11_pupil 2 := by decide +kernel
set_option maxRecDepth 20000 in
theorem kd_X12_pupil : okD yX12_pupil 2 := by decide +kernel
set_option maxRecDepth 20000 in
theorem kd_X11_goes : okD yX11_goes 2 := by decide +kernel
set_option maxRecDepth 20000 in
theorem kd_X12_goes : okD yX12_goes 2 := by decide +kernel
set_option maxRecDepth 20000 in
theorem kd_X11_most : okD yX11_most 0 := by decide +kernel
set_option maxRecDepth 20000 in
theorem kd_X12_most : okD yX12_most 0 := by decide +kernel
set_option maxRecDepth 20000 in
theorem kd_X11_who : okD yX11_who 1 := by decide +kernel
set_option maxRecDepth 20000 in
theorem kd_X12_who : okD yX12_who 1 := by decide +kernel
set_option maxRecDepth 20000 in
theorem kd_X11_undo : okD yX11_undo 0 := by decide +kernel
set_option maxRecDepth 20000 in
theorem kd_X12_undo : okD yX12_undo 0 := by decide +kernel
set_option maxRecDepth 20000 in
theorem kd_X11_anew : okD yX11_anew 0 := by decide +kernel
set_option maxRecDepth 20000 in
theorem kd_X12_anew : okD yX12_anew 0 := by decide +kernel
set_option maxRecDepth 20000 in
theorem kd_X11_would : okD yX11_would 2 := by decide +kernel
set_option maxRecDepth 20000 in
theorem kd_X12_would : okD yX12_would 2 := by decide +kernel
set_option maxRecDepth 20000 in
theorem kd_X11_think : okD yX11_think 2 := by decide +kernel
set_option maxRecDepth 20000 in
theorem kd_X12_think : okD yX12_think 2 := by decide +kernel
set_option maxRecDepth 20000 in
theorem kd_X11_knows : okD yX11_knows 2 := by decide +kernel
set_option maxRecDepth 20000 in
theorem kd_X12_knows : okD yX12_knows 2 := by decide +kernel
set_option maxRecDepth 20000 in
theorem kd_X11_loses : okD yX11_loses 2 := by decide +kernel
set_option maxRecDepth 20000 in
theorem kd_X12_loses : okD yX12_loses 2 := by decide +kernel
set_option maxRecDepth 20000 in
theorem kd_X11_doubts : okD yX11_doubts 2 := by decide +kernel
set_option maxRecDepth 20000 in
theorem kd_X12_doubts : okD yX12_doubts 2 := by decide +kernel
set_option maxRecDepth 20000 in
theorem kd_X11_blur : okD yX11_blur 2 := by decide +kernel
set_option maxRecDepth 20000 in
theorem kd_X12_blur : okD yX12_blur 2 := by decide +kernel
set_option maxRecDepth 20000 in
theorem kd_X11_blurs : okD yX11_blurs 3 := by decide +kernel
set_option maxRecDepth 20000 in
theorem kd_X12_blurs : okD yX12_blurs 3 := by decide +kernel
set_option maxRecDepth 20000 in
theorem kd_X11_stray : okD yX11_stray 1 := by decide +kernel
set_option maxRecDepth 20000 in
theorem kd_X12_stray : okD yX12_stray 1 := by decide +kernel
set_option maxRecDepth 20000 in
theorem kd_X11_strays : okD yX11_strays 2 := by decide +kernel
set_option maxRecDepth 20000 in
theorem kd_X12_strays : okD yX12_strays 2 := by decide +kernel
set_option maxRecDepth 20000 in
theorem kd_X11_home : okD yX11_home 1 := by decide +kernel
set_option maxRecDepth 20000 in
theorem kd_X12_home : okD yX12_home 1 := by decide +kernel
set_option maxRecDepth 20000 in
theorem kd_X11_homes : okD yX11_homes 2 := by decide +kernel
set_option maxRecDepth 20000 in
theorem kd_X12_homes : okD yX12_homes 2 := by decide +kernel
set_option maxRecDepth 20000 in
theorem kd_X11_states : okD yX11_states 1 := by decide +kernel
set_option maxRecDepth 20000 in
theorem kd_X12_states : okD yX12_states 1 := by decide +kernel
set_option maxRecDepth 20000 in
theorem kd_X11_plan : okD yX11_plan 1 := by decide +kernel
set_option maxRecDepth 20000 in
theorem kd_X12_plan : okD yX12_plan 1 := by decide +kernel
set_option maxRecDepth 20000 in
theorem kd_X11_first : okD yX11_first 1 := by decide +kernel
set_option maxRecDepth 20000 in
theorem kd_X12_first : okD yX12_first 1 := by decide +kernel
set_option maxRecDepth 20000 in
theorem kd_X11_hardest : okD yX11_hardest 0 := by decide +kernel
set_option maxRecDepth 20000 in
theorem kd_X12_hardest : okD yX12_hardest 0 := by decide +kernel
set_option maxRecDepth 20000 in
theorem kd_X11_alike : okD yX11_alike 2 := by decide +kernel
set_option maxRecDepth 20000 in
theorem kd_X12_alike : okD yX12_alike 2 := by decide +kernel
set_option maxRecDepth 20000 in
theorem kd_X11_kinds : okD yX11_kinds 0 := by decide +kernel
set_option maxRecDepth 20000 in
theorem kd_X12_kinds : okD yX12_kinds 0 := by decide +kernel
set_option maxRecDepth 20000 in
theorem kd_X11_tells : okD yX11_tells 2 := by decide +kernel
set_option maxRecDepth 20000 in
theorem kd_X12_tells : okD yX12_tells 2 := by decide +kernel
set_option maxRecDepth 20000 in
theorem kd_X11_told : okD yX11_told 3 := by decide +kernel
set_option maxRecDepth 20000 in
theorem kd_X12_told_ : okD yX12_told_ 3 := by decide +kernel
set_option maxRecDepth 20000 in
theorem kd_X11_bares : okD yX11_bares 2 := by decide +kernel
set_option maxRecDepth 20000 in
theorem kd_X12_bares : okD yX12_bares 2 := by decide +kernel
set_option maxRecDepth 20000 in
theorem kd_X11_bared : okD yX11_bared 2 := by decide +kernel
set_option maxRecDepth 20000 in
theorem kd_X12_bared : okD yX12_bared 2 := by decide +kernel
set_option maxRecDepth 20000 in
theorem kd_X11_gather : okD yX11_gather 1 := by decide +kernel
set_option maxRecDepth 20000 in
theorem kd_X12_gather : okD yX12_gather 1 := by decide +kernel
set_option maxRecDepth 20000 in
theorem kd_X11_gathers : okD yX11_gathers 2 := by decide +kernel
set_option maxRecDepth 20000 in
theorem kd_X12_gathers : okD yX12_gathers 2 := by decide +kernel
set_option maxRecDepth 20000 in
theorem kd_X11_roundabout : okD yX11_roundabout 1 := by decide +kernel
set_option maxRecDepth 20000 in
theorem kd_X12_roundabout : okD yX12_roundabout 1 := by decide +kernel
set_option maxRecDepth 20000 in
theorem kd_X11_meet : okD yX11_meet 2 := by decide +kernel
set_option maxRecDepth 20000 in
theorem kd_X12_meet : okD yX12_meet 2 := by decide +kernel
set_option maxRecDepth 20000 in
theorem kd_X11_met : okD yX11_met 2 := by decide +kernel
set_option maxRecDepth 20000 in
theorem kd_X12_met : okD yX12_met 2 := by decide +kernel
set_option maxRecDepth 20000 in
theorem kd_X11_read : okD yX11_read 1 := by decide +kernel
set_option maxRecDepth 20000 in
theorem kd_X12_read : okD yX12_read 1 := by decide +kernel
set_option maxRecDepth 20000 in
theorem kd_X11_began : okD yX11_began 1 := by decide +kernel
set_option maxRecDepth 20000 in
theorem kd_X12_began : okD yX12_began 1 := by decide +kernel
set_option maxRecDepth 20000 in
theorem kd_X11_ask : okD yX11_ask 1 := by decide +kernel
set_option maxRecDepth 20000 in
theorem kd_X12_ask : okD yX12_ask 1 := by decide +kernel
set_option maxRecDepth 20000 in
theorem kd_X11_leaves : okD yX11_leaves 1 := by decide +kernel
set_option maxRecDepth 20000 in
theorem kd_X12_leaves : okD yX12_leaves 1 := by decide +kernel
set_option maxRecDepth 20000 in
theorem kd_X11_course : okD yX11_course 2 := by decide +kernel
set_option maxRecDepth 20000 in
theorem kd_X12_course : okD yX12_course 2 := by decide +kernel
set_option maxRecDepth 20000 in
theorem kd_X11_lesson : okD yX11_lesson 3 := by decide +kernel
set_option maxRecDepth 20000 in
theorem kd_X12_lesson : okD yX12_lesson 3 := by decide +kernel
set_option maxRecDepth 20000 in
theorem kd_X11_spoilt : okD yX11_spoilt 2 := by decide +kernel
set_option maxRecDepth 20000 in
theorem kd_X12_spoilt : okD yX12_spoilt 2 := by decide +kernel
set_option maxRecDepth 20000 in
theorem kd_X11_route : okD yX11_route 2 := by decide +kernel
set_option maxRecDepth 20000 in
theorem kd_X12_route : okD yX12_route 2 := by decide +kernel
set_option maxRecDepth 20000 in
theorem kd_X11_dark : okD yX11_dark 2 := by decide +kernel
set_option maxRecDepth 20000 in
theorem kd_X12_dark : okD yX12_dark 2 := by decide +kernel
set_option maxRecDepth 20000 in
theorem kd_X11_detour : okD yX11_detour 2 := by decide +kernel
set_option maxRecDepth 20000 in
theorem kd_X12_detour : okD yX12_detour 2 := by decide +kernel
set_option maxRecDepth 20000 in
theorem kd_X11_fog : okD yX11_fog 4 := by decide +kernel
set_option maxRecDepth 20000 in
theorem kd_X12_fog : okD yX12_fog 4 := by decide +kernel
set_option maxRecDepth 20000 in
theorem kd_X11_likely : okD yX11_likely 2 := by decide +kernel
set_option maxRecDepth 20000 in
theorem kd_X12_likely : okD yX12_likely 2 := by decide +kernel
set_option maxRecDepth 20000 in
theorem kd_X11_can : okD yX11_can 2 := by decide +kernel
set_option maxRecDepth 20000 in
theorem kd_X12_can : okD yX12_can 2 := by decide +kernel
set_option maxRecDepth 20000 in
theorem kd_X11_lead : okD yX11_lead 3 := by decide +kernel
set_option maxRecDepth 20000 in
theorem kd_X12_lead : okD yX12_lead 3 := by decide +kernel
set_option maxRecDepth 20000 in
theorem kd_X11_marks : okD yX11_marks 2 := by decide +kernel
set_option maxRecDepth 20000 in
theorem kd_X12_marks : okD yX12_marks 2 := by decide +kernel
set_option maxRecDepth 20000 in
theorem kd_X11_drawn : okD yX11_drawn 4 := by decide +kernel
set_option maxRecDepth 20000 in
theorem kd_X12_drawn : okD yX12_drawn 4 := by decide +kernel
set_option maxRecDepth 20000 in
theorem kd_X11_luck : okD yX11_luck 4 := by decide +kernel
set_option maxRecDepth 20000 in
theorem kd_X12_luck : okD yX12_luck 4 := by decide +kernel
set_option maxRecDepth 20000 in
theorem kd_X11_count : okD yX11_count 1 := by decide +kernel
set_option maxRecDepth 20000 in
theorem kd_X12_count : okD yX12_count 1 := by decide +kernel
set_option maxRecDepth 20000 in
theorem kd_X11_image : okD yX11_image 1 := by decide +kernel
set_option maxRecDepth 20000 in
theorem kd_X12_image : okD yX12_image 1 := by decide +kernel
set_option maxRecDepth 20000 in
theorem kd_X11_back : okD yX11_back 1 := by decide +kernel
set_option maxRecDepth 20000 in
theorem kd_X12_back : okD yX12_back 1 := by decide +kernel
set_option maxRecDepth 20000 in
theorem kd_X11_row : okD yX11_row 3 := by decide +kernel
set_option maxRecDepth 20000 in
theorem kd_X12_row : okD yX12_row 3 := by decide +kernel
set_option maxRecDepth 20000 in
theorem kd_X11_write : okD yX11_write 3 := by decide +kernel
set_option maxRecDepth 20000 in
theorem kd_X12_write : okD yX12_write 3 := by decide +kernel
set_option maxRecDepth 20000 in
theorem kd_X11_paste : okD yX11_paste 5 := by decide +kernel
set_option maxRecDepth 20000 in
theorem kd_X12_paste : okD yX12_paste 5 := by decide +kernel
set_option maxRecDepth 20000 in
theorem kd_X11_init : okD yX11_init 0 := by decide +kernel
set_option maxRecDepth 20000 in
theorem kd_X12_init : okD yX12_init 0 := by decide +kernel
set_option maxRecDepth 20000 in
theorem kV_X10_61 : okV RX10 61 yX10_all cX10_all 1 (some .int) 0 := ⟨⟨w_21, w_19, w_20, kd_X10_all⟩, w_22, w_23⟩
set_option maxRecDepth 20000 in
theorem kV_X10_76 : okV RX10 76 yX10_showing cX10_showing 5 (some .int) 2 := ⟨⟨w_25, w_24, w_20, kd_X10_showing⟩, w_26, w_27⟩
set_option maxRecDepth 20000 in
theorem kSN_X5_28 : okSN RX5 28 yX11_isSlot RX11 cX11_isSlot 1 (some .boolean) 1 := ⟨⟨List.mem_of_getElem? (i := 12) rfl, w_28, w_29, kd_X11_isSlot⟩, w_30⟩
set_option maxRecDepth 20000 in
theorem kV_X5_35 : okV RX5 35 yX5_has cX5_has 2 (some .boolean) 1 := ⟨⟨w_37, w_35, w_36, kd_X5_has⟩, w_38, w_39⟩
set_option maxRecDepth 20000 in
theorem kV_X11_126 : okV RX11 126 yX10_hasPlace cX10_hasPlace 2 (some .boolean) 1 := ⟨⟨w_54, w_53, w_20, kd_X10_hasPlace⟩, w_55, w_56⟩
set_option maxRecDepth 20000 in
theorem kV_X11_334 : okV RX11 334 yX10_hasPupil cX10_hasPupil 2 (some .boolean) 1 := ⟨⟨w_58, w_57, w_20, kd_X10_hasPupil⟩, w_59, w_60⟩
set_option maxRecDepth 20000 in
theorem kS_X11_352 : okS RX11 352 yX11_isSlot cX11_isSlot 1 (some .boolean) 1 := ⟨⟨w_61, w_28, w_29, kd_X11_isSlot⟩, w_30⟩
set_option maxRecDepth 20000 in
theorem kV_X11_152 : okV RX11 152 yX11_stand cX11_stand 2 (some .boolean) 1 := ⟨⟨w_63, w_62, w_29, kd_X11_stand⟩, w_64, w_65⟩
set_option maxRecDepth 20000 in
theorem kV_X11_185 : okV RX11 185 yX10_stands cX10_stands 1 (some .boolean) 0 := ⟨⟨w_67, w_66, w_20, kd_X10_stands⟩, w_68, w_69⟩
set_option maxRecDepth 20000 in
theorem kV_X11_140 : okV RX11 140 yX10_hasSet cX10_hasSet 2 (some .boolean) 1 := ⟨⟨w_71, w_70, w_20, kd_X10_hasSet⟩, w_72, w_73⟩
set_option maxRecDepth 20000 in
theorem kS_X11_129 : okS RX11 129 yX11_isWind cX11_isWind 1 (some .boolean) 1 := ⟨⟨w_75, w_74, w_29, kd_X11_isWind⟩, w_76⟩
set_option maxRecDepth 20000 in
theorem kV_X11_191 : okV RX11 191 yX11_refuseWalk cX11_refuseWalk 4 (some .int) 2 := ⟨⟨w_78, w_77, w_29, kd_X11_refuseWalk⟩, w_79, w_80⟩
set_option maxRecDepth 20000 in
theorem kV_X11_212 : okV RX11 212 yX11_seek cX11_seek 4 (some .boolean) 3 := ⟨⟨w_82, w_81, w_29, kd_X11_seek⟩, w_83, w_84⟩
set_option maxRecDepth 20000 in
theorem kV_X11_236 : okV RX11 236 yX11_arePlaces cX11_arePlaces 3 (some .boolean) 2 := ⟨⟨w_86, w_85, w_29, kd_X11_arePlaces⟩, w_87, w_88⟩
set_option maxRecDepth 20000 in
theorem kV_X11_269 : okV RX11 269 yX11_refuseReading cX11_refuseReading 3 (some .int) 1 := ⟨⟨w_90, w_89, w_29, kd_X11_refuseReading⟩, w_91, w_92⟩
set_option maxRecDepth 20000 in
theorem kS_X11_328 : okS RX11 328 yX11_isDraw cX11_isDraw 2 (some .boolean) 2 := ⟨⟨w_94, w_93, w_29, kd_X11_isDraw⟩, w_95⟩
set_option maxRecDepth 20000 in
theorem kV_X11_337 : okV RX11 337 yX10_waysElsewhere cX10_waysElsewhere 4 (some .int) 0 := ⟨⟨w_111, w_110, w_20, kd_X10_waysElsewhere⟩, w_112, w_113⟩
set_option maxRecDepth 20000 in
theorem kV_X11_340 : okV RX11 340 yX10_marked cX10_marked 1 (some .int) 0 := ⟨⟨w_115, w_114, w_20, kd_X10_marked⟩, w_116, w_117⟩
set_option maxRecDepth 20000 in
theorem kS_X11_251 : okS RX11 251 yJ6_bitCount_0f7a4 cJ6_bitCount_0f7a4 1 (some .int) 1 := ⟨⟨w_120, w_118, w_119, kd_J6_bitCount_0f7a4⟩, w_121⟩
set_option maxRecDepth 20000 in
theorem kV_X11_346 : okV RX11 346 yX5_kept cX5_kept 3 (some .int) 0 := ⟨⟨w_136, w_135, w_36, kd_X5_kept⟩, w_137, w_138⟩
set_option maxRecDepth 20000 in
theorem kV_X11_358 : okV RX11 358 yX5_has cX5_has 2 (some .boolean) 1 := ⟨⟨w_140, w_35, w_36, kd_X5_has⟩, w_38, w_39⟩
set_option maxRecDepth 20000 in
theorem kS_X12_115 : okS RX12 115 yX12_in cX12_in 6 (some .boolean) 3 := ⟨⟨w_197, w_195, w_196, kd_X12_in⟩, w_198⟩
set_option maxRecDepth 20000 in
theorem kV_X12_119 : okV RX12 119 yX12_isPlace cX12_isPlace 3 (some .boolean) 1 := ⟨⟨w_200, w_199, w_196, kd_X12_isPlace⟩, w_201, w_202⟩
set_option maxRecDepth 20000 in
theorem kV_X12_125 : okV RX12 125 yX12_isWood cX12_isWood 1 (some .boolean) 0 := ⟨⟨w_205, w_204, w_196, kd_X12_isWood⟩, w_206, w_207⟩
set_option maxRecDepth 20000 in
theorem kS_X12_334 : okS RX12 334 yX12_isSlot cX12_isSlot 1 (some .boolean) 1 := ⟨⟨w_209, w_208, w_196, kd_X12_isSlot⟩, w_210⟩
set_option maxRecDepth 20000 in
theorem kV_X12_310 : okV RX12 310 yX12_isPupil cX12_isPupil 2 (some .boolean) 1 := ⟨⟨w_212, w_211, w_196, kd_X12_isPupil⟩, w_213, w_214⟩
set_option maxRecDepth 20000 in
theorem kV_X12_282 : okV RX12 282 yX12_isSet cX12_isSet 2 (some .boolean) 1 := ⟨⟨w_217, w_216, w_196, kd_X12_isSet⟩, w_218, w_219⟩
set_option maxRecDepth 20000 in
theorem kV_X12_353 : okV RX12 353 yX12_asksWalk cX12_asksWalk 4 (some .int) 2 := ⟨⟨w_221, w_220, w_196, kd_X12_asksWalk⟩, w_222, w_223⟩
set_option maxRecDepth 20000 in
theorem kV_X12_394 : okV RX12 394 yX12_areTwo cX12_areTwo 3 (some .boolean) 2 := ⟨⟨w_225, w_224, w_196, kd_X12_areTwo⟩, w_226, w_227⟩
set_option maxRecDepth 20000 in
theorem kV_X12_426 : okV RX12 426 yX12_asksRead cX12_asksRead 3 (some .int) 1 := ⟨⟨w_229, w_228, w_196, kd_X12_asksRead⟩, w_230, w_231⟩
set_option maxRecDepth 20000 in
theorem kV_X12_485 : okV RX12 485 yX12_isDrawn cX12_isDrawn 4 (some .boolean) 3 := ⟨⟨w_233, w_232, w_196, kd_X12_isDrawn⟩, w_234, w_235⟩
set_option maxRecDepth 20000 in
theorem kIN_X4_21 : okIN RX4 21 yX10_init RX11 cX10_init 1 0 := ⟨⟨List.mem_of_getElem? (i := 1) rfl, w_260, w_20, kd_X10_init⟩, rfl, w_261⟩
set_option maxRecDepth 20000 in
theorem kS_X5_22 : okS RX5 22 yJ7_fill_53178 cJ7_fill_53178 4 none 2 := ⟨⟨w_276, w_274, w_275, kd_J7_fill_53178⟩, w_277⟩
set_option maxRecDepth 20000 in
theorem kI_X1_3 : okI RX1 3 yX6_init cX6_init 3 1 := ⟨⟨w_306, w_304, w_305, kd_X6_init⟩, rfl, w_307⟩
set_option maxRecDepth 20000 in
theorem kIN_X1_11 : okIN RX1 11 yX9_init RX11 cX9_init 1 0 := ⟨⟨List.mem_of_getElem? (i := 5) rfl, w_314, w_313, kd_X9_init⟩, rfl, w_315⟩
set_option maxRecDepth 20000 in
theorem kI_X7_3 : okI RX7 3 yX6_init cX6_init 3 1 := ⟨⟨w_317, w_304, w_305, kd_X6_init⟩, rfl, w_307⟩
set_option maxRecDepth 20000 in
theorem kIN_X0_11 : okIN RX0 11 yX10_init RX11 cX10_init 1 0 := ⟨⟨List.mem_of_getElem? (i := 8) rfl, w_260, w_20, kd_X10_init⟩, rfl, w_261⟩
set_option maxRecDepth 20000 in
theorem kIN_X0_20 : okIN RX0 20 yX9_init RX11 cX9_init 1 0 := ⟨⟨List.mem_of_getElem? (i := 9) rfl, w_314, w_313, kd_X9_init⟩, rfl, w_315⟩
set_option maxRecDepth 20000 in
theorem kIN_X11_11 : okIN RX11 11 yX4_init RX11 cX4_init 1 0 := ⟨⟨List.mem_of_getElem? (i := 0) rfl, w_351, w_350, kd_X4_init⟩, rfl, w_352⟩
set_option maxRecDepth 20000 in
theorem kIN_X11_18 : okIN RX11 18 yX10_init RX11 cX10_init 1 0 := ⟨⟨List.mem_of_getElem? (i := 2) rfl, w_260, w_20, kd_X10_init⟩, rfl, w_261⟩
set_option maxRecDepth 20000 in
theorem kIN_X11_25 : okIN RX11 25 yX2_init RX11 cX2_init 1 0 := ⟨⟨List.mem_of_getElem? (i := 3) rfl, w_357, w_356, kd_X2_init⟩, rfl, w_358⟩
set_option maxRecDepth 20000 in
theorem kIN_X11_32 : okIN RX11 32 yX9_init RX11 cX9_init 1 0 := ⟨⟨List.mem_of_getElem? (i := 4) rfl, w_314, w_313, kd_X9_init⟩, rfl, w_315⟩
set_option maxRecDepth 20000 in
theorem kI_X11_39 : okI RX11 39 yX5_init cX5_init 1 0 := ⟨⟨w_364, w_363, w_36, kd_X5_init⟩, rfl, w_365⟩
set_option maxRecDepth 20000 in
theorem kI_X11_46 : okI RX11 46 yX1_init cX1_init 1 0 := ⟨⟨w_370, w_369, w_368, kd_X1_init⟩, rfl, w_371⟩
set_option maxRecDepth 20000 in
theorem kI_X11_53 : okI RX11 53 yX7_init cX7_init 1 0 := ⟨⟨w_377, w_376, w_375, kd_X7_init⟩, rfl, w_378⟩
set_option maxRecDepth 20000 in
theorem kIN_X11_60 : okIN RX11 60 yX3_init RX11 cX3_init 1 0 := ⟨⟨List.mem_of_getElem? (i := 6) rfl, w_383, w_382, kd_X3_init⟩, rfl, w_384⟩
set_option maxRecDepth 20000 in
theorem kIN_X11_67 : okIN RX11 67 yX0_init RX11 cX0_init 1 0 := ⟨⟨List.mem_of_getElem? (i := 7) rfl, w_389, w_388, kd_X0_init⟩, rfl, w_390⟩
set_option maxRecDepth 20000 in
theorem kIN_X11_74 : okIN RX11 74 yX8_init RX11 cX8_init 1 0 := ⟨⟨List.mem_of_getElem? (i := 10) rfl, w_395, w_394, kd_X8_init⟩, rfl, w_396⟩
set_option maxRecDepth 20000 in
theorem kV_X11_87 : okV RX11 87 yX4_hasRoom cX4_hasRoom 2 (some .boolean) 1 := ⟨⟨w_431, w_430, w_350, kd_X4_hasRoom⟩, w_432, w_433⟩
set_option maxRecDepth 20000 in
theorem kV_X11_91 : okV RX11 91 yX4_append cX4_append 3 none 1 := ⟨⟨w_435, w_434, w_350, kd_X4_append⟩, w_436, w_437⟩
set_option maxRecDepth 20000 in
theorem kV_X4_57 : okV RX4 57 yX4_kindAt cX4_kindAt 3 (some .int) 1 := ⟨⟨w_441, w_440, w_350, kd_X4_kindAt⟩, w_442, w_443⟩
set_option maxRecDepth 20000 in
theorem kV_X4_61 : okV RX4 61 yX4_byteAt cX4_byteAt 2 (some .int) 1 := ⟨⟨w_446, w_445, w_350, kd_X4_byteAt⟩, w_447, w_448⟩
set_option maxRecDepth 20000 in
theorem kS_X10_36 : okS RX10 36 yJ7_fill_53178 cJ7_fill_53178 4 none 2 := ⟨⟨w_450, w_274, w_275, kd_J7_fill_53178⟩, w_277⟩
set_option maxRecDepth 20000 in
theorem kV_X4_29 : okV RX4 29 yX10_clear cX10_clear 2 none 0 := ⟨⟨w_453, w_452, w_20, kd_X10_clear⟩, w_454, w_455⟩
set_option maxRecDepth 20000 in
theorem kV_X4_38 : okV RX4 38 yX4_advance cX4_advance 3 none 0 := ⟨⟨w_458, w_457, w_350, kd_X4_advance⟩, w_459, w_460⟩
set_option maxRecDepth 20000 in
theorem kV_X11_99 : okV RX11 99 yX4_parse cX4_parse 2 (some .boolean) 0 := ⟨⟨w_470, w_469, w_350, kd_X4_parse⟩, w_471, w_472⟩
set_option maxRecDepth 20000 in
theorem kV_X11_106 : okV RX11 106 yX10_copyFrom cX10_copyFrom 2 none 1 := ⟨⟨w_475, w_474, w_20, kd_X10_copyFrom⟩, w_476, w_477⟩
set_option maxRecDepth 20000 in
theorem kV_X11_110 : okV RX11 110 yX2_assemble cX2_assemble 3 none 1 := ⟨⟨w_479, w_478, w_356, kd_X2_assemble⟩, w_480, w_481⟩
set_option maxRecDepth 20000 in
theorem kV_X11_349 : okV RX11 349 yX2_copyFrom cX2_copyFrom 2 none 1 := ⟨⟨w_484, w_483, w_356, kd_X2_copyFrom⟩, w_485, w_486⟩
set_option maxRecDepth 20000 in
theorem kS_J7_13 : okS RJ7 13 yJ7_rangeCheck_23922 cJ7_rangeCheck_23922 3 none 3 := ⟨⟨w_488, w_487, w_275, kd_J7_rangeCheck_23922⟩, w_489⟩
set_option maxRecDepth 20000 in
theorem kS_X5_32 : okS RX5 32 yJ7_fill_bad5a cJ7_fill_bad5a 6 none 4 := ⟨⟨w_491, w_490, w_275, kd_J7_fill_bad5a⟩, w_492⟩
set_option maxRecDepth 20000 in
theorem kV_X11_355 : okV RX11 355 yX5_make cX5_make 5 none 3 := ⟨⟨w_494, w_493, w_36, kd_X5_make⟩, w_495, w_496⟩
set_option maxRecDepth 20000 in
theorem kV_X12_142 : okV RX12 142 yX12_see cX12_see 2 (some .int) 1 := ⟨⟨w_500, w_499, w_196, kd_X12_see⟩, w_501, w_502⟩
set_option maxRecDepth 20000 in
theorem kV_X12_189 : okV RX12 189 yX12_advance cX12_advance 2 none 0 := ⟨⟨w_506, w_505, w_196, kd_X12_advance⟩, w_507, w_508⟩
set_option maxRecDepth 20000 in
theorem kV_X12_173 : okV RX12 173 yX12_good cX12_good 1 (some .boolean) 0 := ⟨⟨w_510, w_509, w_196, kd_X12_good⟩, w_511, w_512⟩
set_option maxRecDepth 20000 in
theorem kV_L_13 : okV RL 13 yX11_feed cX11_feed 6 (some .int) 5 := ⟨⟨w_514, w_513, w_29, kd_X11_feed⟩, w_515, w_516⟩
set_option maxRecDepth 20000 in
theorem kV_L_17 : okV RL 17 yX12_feed cX12_feed 7 (some .int) 5 := ⟨⟨w_518, w_517, w_196, kd_X12_feed⟩, w_519, w_520⟩
set_option maxRecDepth 20000 in
theorem kV_L_18 : okV RL 18 yX11_end cX11_end 2 (some .int) 1 := ⟨⟨w_522, w_521, w_29, kd_X11_end⟩, w_523, w_524⟩
set_option maxRecDepth 20000 in
theorem kV_L_22 : okV RL 22 yX12_end cX12_end 2 (some .int) 1 := ⟨⟨w_526, w_525, w_196, kd_X12_end⟩, w_527, w_528⟩
set_option maxRecDepth 20000 in
theorem kV_L_23 : okV RL 23 yX11_wood cX11_wood 1 (some .int) 0 := ⟨⟨w_530, w_529, w_29, kd_X11_wood⟩, w_531, w_532⟩
set_option maxRecDepth 20000 in
theorem kV_L_27 : okV RL 27 yX12_wood cX12_wood 2 (some .int) 0 := ⟨⟨w_534, w_533, w_196, kd_X12_wood⟩, w_535, w_536⟩
set_option maxRecDepth 20000 in
theorem kV_L_28 : okV RL 28 yX11_fault cX11_fault 2 (some .int) 1 := ⟨⟨w_538, w_537, w_29, kd_X11_fault⟩, w_539, w_540⟩
set_option maxRecDepth 20000 in
theorem kV_L_31 : okV RL 31 yX12_fault cX12_fault 2 (some .int) 1 := ⟨⟨w_542, w_541, w_196, kd_X12_fault⟩, w_543, w_544⟩
set_option maxRecDepth 20000 in
theorem kV_L_32 : okV RL 32 yX11_leads cX11_leads 3 (some .int) 2 := ⟨⟨w_546, w_545, w_29, kd_X11_leads⟩, w_547, w_548⟩
set_option maxRecDepth 20000 in
theorem kV_L_36 : okV RL 36 yX12_leads cX12_leads 3 (some .int) 2 := ⟨⟨w_550, w_549, w_196, kd_X12_leads⟩, w_551, w_552⟩
set_option maxRecDepth 20000 in
theorem kV_L_37 : okV RL 37 yX11_mark cX11_mark 2 (some .int) 1 := ⟨⟨w_554, w_553, w_29, kd_X11_mark⟩, w_555, w_556⟩
set_option maxRecDepth 20000 in
theorem kV_L_40 : okV RL 40 yX12_mark cX12_mark 2 (some .int) 1 := ⟨⟨w_558, w_557, w_196, kd_X12_mark⟩, w_559, w_560⟩
set_option maxRecDepth 20000 in
theorem kV_L_41 : okV RL 41 yX11_becomes cX11_becomes 3 (some .int) 2 := ⟨⟨w_562, w_561, w_29, kd_X11_becomes⟩, w_563, w_564⟩
set_option maxRecDepth 20000 in
theorem kV_L_44 : okV RL 44 yX12_becomes cX12_becomes 3 (some .int) 2 := ⟨⟨w_566, w_565, w_196, kd_X12_becomes⟩, w_567, w_568⟩
set_option maxRecDepth 20000 in
theorem kV_L_45 : okV RL 45 yX11_seen cX11_seen 3 (some .int) 2 := ⟨⟨w_570, w_569, w_29, kd_X11_seen⟩, w_571, w_572⟩
set_option maxRecDepth 20000 in
theorem kV_L_48 : okV RL 48 yX12_seen cX12_seen 3 (some .int) 2 := ⟨⟨w_574, w_573, w_196, kd_X12_seen⟩, w_575, w_576⟩
set_option maxRecDepth 20000 in
theorem kV_L_49 : okV RL 49 yX11_where cX11_where 2 (some .int) 1 := ⟨⟨w_578, w_577, w_29, kd_X11_where⟩, w_579, w_580⟩
set_option maxRecDepth 20000 in
theorem kV_L_52 : okV RL 52 yX12_where cX12_where 2 (some .int) 1 := ⟨⟨w_582, w_581, w_196, kd_X12_where⟩, w_583, w_584⟩
set_option maxRecDepth 20000 in
theorem kV_L_53 : okV RL 53 yX11_thinks cX11_thinks 2 (some .int) 1 := ⟨⟨w_586, w_585, w_29, kd_X11_thinks⟩, w_587, w_588⟩
set_option maxRecDepth 20000 in
theorem kV_L_56 : okV RL 56 yX12_thinks cX12_thinks 2 (some .int) 1 := ⟨⟨w_590, w_589, w_196, kd_X12_thinks⟩, w_591, w_592⟩
set_option maxRecDepth 20000 in
theorem kV_L_57 : okV RL 57 yX11_pupil cX11_pupil 3 (some .int) 2 := ⟨⟨w_594, w_593, w_29, kd_X11_pupil⟩, w_595, w_596⟩
set_option maxRecDepth 20000 in
theorem kV_L_60 : okV RL 60 yX12_pupil cX12_pupil 3 (some .int) 2 := ⟨⟨w_598, w_597, w_196, kd_X12_pupil⟩, w_599, w_600⟩
set_option maxRecDepth 20000 in
theorem kV_L_61 : okV RL 61 yX11_goes cX11_goes 3 (some .int) 2 := ⟨⟨w_602, w_601, w_29, kd_X11_goes⟩, w_603, w_604⟩
set_option maxRecDepth 20000 in
theorem kV_L_64 : okV RL 64 yX12_goes cX12_goes 4 (some .int) 2 := ⟨⟨w_606, w_605, w_196, kd_X12_goes⟩, w_607, w_608⟩
set_option maxRecDepth 20000 in
theorem kV_L_65 : okV RL 65 yX11_most cX11_most 5 (some .int) 0 := ⟨⟨w_610, w_609, w_29, kd_X11_most⟩, w_611, w_612⟩
set_option maxRecDepth 20000 in
theorem kV_L_68 : okV RL 68 yX12_most cX12_most 5 (some .int) 0 := ⟨⟨w_614, w_613, w_196, kd_X12_most⟩, w_615, w_616⟩
set_option maxRecDepth 20000 in
theorem kV_L_69 : okV RL 69 yX11_who cX11_who 4 (some .int) 1 := ⟨⟨w_618, w_617, w_29, kd_X11_who⟩, w_619, w_620⟩
set_option maxRecDepth 20000 in
theorem kV_L_72 : okV RL 72 yX12_who cX12_who 4 (some .int) 1 := ⟨⟨w_622, w_621, w_196, kd_X12_who⟩, w_623, w_624⟩
set_option maxRecDepth 20000 in
theorem kV_L_73 : okV RL 73 yX11_undo cX11_undo 1 (some .int) 0 := ⟨⟨w_626, w_625, w_29, kd_X11_undo⟩, w_627, w_628⟩
set_option maxRecDepth 20000 in
theorem kV_L_76 : okV RL 76 yX12_undo cX12_undo 1 (some .int) 0 := ⟨⟨w_630, w_629, w_196, kd_X12_undo⟩, w_631, w_632⟩
set_option maxRecDepth 20000 in
theorem kV_L_77 : okV RL 77 yX11_anew cX11_anew 2 (some .int) 0 := ⟨⟨w_634, w_633, w_29, kd_X11_anew⟩, w_635, w_636⟩
set_option maxRecDepth 20000 in
theorem kV_L_80 : okV RL 80 yX12_anew cX12_anew 2 (some .int) 0 := ⟨⟨w_638, w_637, w_196, kd_X12_anew⟩, w_639, w_640⟩
set_option maxRecDepth 20000 in
theorem kV_L_81 : okV RL 81 yX11_would cX11_would 4 (some .int) 2 := ⟨⟨w_642, w_641, w_29, kd_X11_would⟩, w_643, w_644⟩
set_option maxRecDepth 20000 in
theorem kV_L_84 : okV RL 84 yX12_would cX12_would 4 (some .int) 2 := ⟨⟨w_646, w_645, w_196, kd_X12_would⟩, w_647, w_648⟩
set_option maxRecDepth 20000 in
theorem kV_L_85 : okV RL 85 yX11_think cX11_think 4 (some .int) 2 := ⟨⟨w_650, w_649, w_29, kd_X11_think⟩, w_651, w_652⟩
set_option maxRecDepth 20000 in
theorem kV_L_88 : okV RL 88 yX12_think cX12_think 4 (some .int) 2 := ⟨⟨w_654, w_653, w_196, kd_X12_think⟩, w_655, w_656⟩
set_option maxRecDepth 20000 in
theorem kV_L_89 : okV RL 89 yX11_knows cX11_knows 4 (some .int) 2 := ⟨⟨w_658, w_657, w_29, kd_X11_knows⟩, w_659, w_660⟩
set_option maxRecDepth 20000 in
theorem kV_L_92 : okV RL 92 yX12_knows cX12_knows 4 (some .int) 2 := ⟨⟨w_662, w_661, w_196, kd_X12_knows⟩, w_663, w_664⟩
set_option maxRecDepth 20000 in
theorem kV_L_93 : okV RL 93 yX11_loses cX11_loses 4 (some .int) 2 := ⟨⟨w_666, w_665, w_29, kd_X11_loses⟩, w_667, w_668⟩
set_option maxRecDepth 20000 in
theorem kV_L_96 : okV RL 96 yX12_loses cX12_loses 4 (some .int) 2 := ⟨⟨w_670, w_669, w_196, kd_X12_loses⟩, w_671, w_672⟩
set_option maxRecDepth 20000 in
theorem kV_L_97 : okV RL 97 yX11_doubts cX11_doubts 6 (some .int) 2 := ⟨⟨w_674, w_673, w_29, kd_X11_doubts⟩, w_675, w_676⟩
set_option maxRecDepth 20000 in
theorem kV_L_100 : okV RL 100 yX12_doubts cX12_doubts 4 (some .int) 2 := ⟨⟨w_678, w_677, w_196, kd_X12_doubts⟩, w_679, w_680⟩
set_option maxRecDepth 20000 in
theorem kV_L_101 : okV RL 101 yX11_blur cX11_blur 3 (some .int) 2 := ⟨⟨w_682, w_681, w_29, kd_X11_blur⟩, w_683, w_684⟩
set_option maxRecDepth 20000 in
theorem kV_L_104 : okV RL 104 yX12_blur cX12_blur 3 (some .int) 2 := ⟨⟨w_686, w_685, w_196, kd_X12_blur⟩, w_687, w_688⟩
set_option maxRecDepth 20000 in
theorem kV_L_105 : okV RL 105 yX11_blurs cX11_blurs 4 (some .int) 3 := ⟨⟨w_690, w_689, w_29, kd_X11_blurs⟩, w_691, w_692⟩
set_option maxRecDepth 20000 in
theorem kV_L_109 : okV RL 109 yX12_blurs cX12_blurs 4 (some .int) 3 := ⟨⟨w_694, w_693, w_196, kd_X12_blurs⟩, w_695, w_696⟩
set_option maxRecDepth 20000 in
theorem kV_L_110 : okV RL 110 yX11_stray cX11_stray 2 (some .int) 1 := ⟨⟨w_698, w_697, w_29, kd_X11_stray⟩, w_699, w_700⟩
set_option maxRecDepth 20000 in
theorem kV_L_113 : okV RL 113 yX12_stray cX12_stray 2 (some .int) 1 := ⟨⟨w_702, w_701, w_196, kd_X12_stray⟩, w_703, w_704⟩
set_option maxRecDepth 20000 in
theorem kV_L_114 : okV RL 114 yX11_strays cX11_strays 3 (some .int) 2 := ⟨⟨w_706, w_705, w_29, kd_X11_strays⟩, w_707, w_708⟩
set_option maxRecDepth 20000 in
theorem kV_L_117 : okV RL 117 yX12_strays cX12_strays 3 (some .int) 2 := ⟨⟨w_710, w_709, w_196, kd_X12_strays⟩, w_711, w_712⟩
set_option maxRecDepth 20000 in
theorem kV_L_118 : okV RL 118 yX11_home cX11_home 2 (some .int) 1 := ⟨⟨w_714, w_713, w_29, kd_X11_home⟩, w_715, w_716⟩
set_option maxRecDepth 20000 in
theorem kV_L_121 : okV RL 121 yX12_home cX12_home 2 (some .int) 1 := ⟨⟨w_718, w_717, w_196, kd_X12_home⟩, w_719, w_720⟩
set_option maxRecDepth 20000 in
theorem kV_L_122 : okV RL 122 yX11_homes cX11_homes 3 (some .int) 2 := ⟨⟨w_722, w_721, w_29, kd_X11_homes⟩, w_723, w_724⟩
set_option maxRecDepth 20000 in
theorem kV_L_125 : okV RL 125 yX12_homes cX12_homes 3 (some .int) 2 := ⟨⟨w_726, w_725, w_196, kd_X12_homes⟩, w_727, w_728⟩
set_option maxRecDepth 20000 in
theorem kV_L_126 : okV RL 126 yX11_states cX11_states 2 (some .int) 1 := ⟨⟨w_730, w_729, w_29, kd_X11_states⟩, w_731, w_732⟩
set_option maxRecDepth 20000 in
theorem kV_L_129 : okV RL 129 yX12_states cX12_states 2 (some .int) 1 := ⟨⟨w_734, w_733, w_196, kd_X12_states⟩, w_735, w_736⟩
set_option maxRecDepth 20000 in
theorem kV_L_130 : okV RL 130 yX11_plan cX11_plan 2 (some .int) 1 := ⟨⟨w_738, w_737, w_29, kd_X11_plan⟩, w_739, w_740⟩
set_option maxRecDepth 20000 in
theorem kV_L_133 : okV RL 133 yX12_plan cX12_plan 3 (some .int) 1 := ⟨⟨w_742, w_741, w_196, kd_X12_plan⟩, w_743, w_744⟩
set_option maxRecDepth 20000 in
theorem kV_L_134 : okV RL 134 yX11_first cX11_first 2 (some .int) 1 := ⟨⟨w_746, w_745, w_29, kd_X11_first⟩, w_747, w_748⟩
set_option maxRecDepth 20000 in
theorem kV_L_137 : okV RL 137 yX12_first cX12_first 3 (some .int) 1 := ⟨⟨w_750, w_749, w_196, kd_X12_first⟩, w_751, w_752⟩
set_option maxRecDepth 20000 in
theorem kV_L_138 : okV RL 138 yX11_hardest cX11_hardest 4 (some .int) 0 := ⟨⟨w_754, w_753, w_29, kd_X11_hardest⟩, w_755, w_756⟩
set_option maxRecDepth 20000 in
theorem kV_L_141 : okV RL 141 yX12_hardest cX12_hardest 5 (some .int) 0 := ⟨⟨w_758, w_757, w_196, kd_X12_hardest⟩, w_759, w_760⟩
set_option maxRecDepth 20000 in
theorem kV_L_142 : okV RL 142 yX11_alike cX11_alike 3 (some .int) 2 := ⟨⟨w_762, w_761, w_29, kd_X11_alike⟩, w_763, w_764⟩
set_option maxRecDepth 20000 in
theorem kV_L_145 : okV RL 145 yX12_alike cX12_alike 3 (some .int) 2 := ⟨⟨w_766, w_765, w_196, kd_X12_alike⟩, w_767, w_768⟩
set_option maxRecDepth 20000 in
theorem kV_L_146 : okV RL 146 yX11_kinds cX11_kinds 5 (some .int) 0 := ⟨⟨w_770, w_769, w_29, kd_X11_kinds⟩, w_771, w_772⟩
set_option maxRecDepth 20000 in
theorem kV_L_149 : okV RL 149 yX12_kinds cX12_kinds 1 (some .int) 0 := ⟨⟨w_774, w_773, w_196, kd_X12_kinds⟩, w_775, w_776⟩
set_option maxRecDepth 20000 in
theorem kV_L_150 : okV RL 150 yX11_tells cX11_tells 3 (some .int) 2 := ⟨⟨w_778, w_777, w_29, kd_X11_tells⟩, w_779, w_780⟩
set_option maxRecDepth 20000 in
theorem kV_L_153 : okV RL 153 yX12_tells cX12_tells 4 (some .int) 2 := ⟨⟨w_782, w_781, w_196, kd_X12_tells⟩, w_783, w_784⟩
set_option maxRecDepth 20000 in
theorem kV_L_154 : okV RL 154 yX11_told cX11_told 4 (some .int) 3 := ⟨⟨w_786, w_785, w_29, kd_X11_told⟩, w_787, w_788⟩
set_option maxRecDepth 20000 in
theorem kV_L_157 : okV RL 157 yX12_told_ cX12_told_ 5 (some .int) 3 := ⟨⟨w_790, w_789, w_196, kd_X12_told_⟩, w_791, w_792⟩
set_option maxRecDepth 20000 in
theorem kV_L_158 : okV RL 158 yX11_bares cX11_bares 3 (some .int) 2 := ⟨⟨w_794, w_793, w_29, kd_X11_bares⟩, w_795, w_796⟩
set_option maxRecDepth 20000 in
theorem kV_L_161 : okV RL 161 yX12_bares cX12_bares 3 (some .int) 2 := ⟨⟨w_798, w_797, w_196, kd_X12_bares⟩, w_799, w_800⟩
set_option maxRecDepth 20000 in
theorem kV_L_162 : okV RL 162 yX11_bared cX11_bared 3 (some .int) 2 := ⟨⟨w_802, w_801, w_29, kd_X11_bared⟩, w_803, w_804⟩
set_option maxRecDepth 20000 in
theorem kV_L_165 : okV RL 165 yX12_bared cX12_bared 3 (some .int) 2 := ⟨⟨w_806, w_805, w_196, kd_X12_bared⟩, w_807, w_808⟩
set_option maxRecDepth 20000 in
theorem kV_L_166 : okV RL 166 yX11_gather cX11_gather 2 (some .int) 1 := ⟨⟨w_810, w_809, w_29, kd_X11_gather⟩, w_811, w_812⟩
set_option maxRecDepth 20000 in
theorem kV_L_169 : okV RL 169 yX12_gather cX12_gather 3 (some .int) 1 := ⟨⟨w_814, w_813, w_196, kd_X12_gather⟩, w_815, w_816⟩
set_option maxRecDepth 20000 in
theorem kV_L_170 : okV RL 170 yX11_gathers cX11_gathers 3 (some .int) 2 := ⟨⟨w_818, w_817, w_29, kd_X11_gathers⟩, w_819, w_820⟩
set_option maxRecDepth 20000 in
theorem kV_L_173 : okV RL 173 yX12_gathers cX12_gathers 4 (some .int) 2 := ⟨⟨w_822, w_821, w_196, kd_X12_gathers⟩, w_823, w_824⟩
set_option maxRecDepth 20000 in
theorem kV_L_174 : okV RL 174 yX11_roundabout cX11_roundabout 2 (some .int) 1 := ⟨⟨w_826, w_825, w_29, kd_X11_roundabout⟩, w_827, w_828⟩
set_option maxRecDepth 20000 in
theorem kV_L_177 : okV RL 177 yX12_roundabout cX12_roundabout 4 (some .int) 1 := ⟨⟨w_830, w_829, w_196, kd_X12_roundabout⟩, w_831, w_832⟩
set_option maxRecDepth 20000 in
theorem kV_L_178 : okV RL 178 yX11_meet cX11_meet 3 (some .int) 2 := ⟨⟨w_834, w_833, w_29, kd_X11_meet⟩, w_835, w_836⟩
set_option maxRecDepth 20000 in
theorem kV_L_181 : okV RL 181 yX12_meet cX12_meet 3 (some .int) 2 := ⟨⟨w_838, w_837, w_196, kd_X12_meet⟩, w_839, w_840⟩
set_option maxRecDepth 20000 in
theorem kV_L_182 : okV RL 182 yX11_met cX11_met 4 (some .int) 2 := ⟨⟨w_842, w_841, w_29, kd_X11_met⟩, w_843, w_844⟩
set_option maxRecDepth 20000 in
theorem kV_L_185 : okV RL 185 yX12_met cX12_met 4 (some .int) 2 := ⟨⟨w_846, w_845, w_196, kd_X12_met⟩, w_847, w_848⟩
set_option maxRecDepth 20000 in
theorem kV_L_186 : okV RL 186 yX11_read cX11_read 3 (some .int) 1 := ⟨⟨w_850, w_849, w_29, kd_X11_read⟩, w_851, w_852⟩
set_option maxRecDepth 20000 in
theorem kV_L_189 : okV RL 189 yX12_read cX12_read 3 (some .int) 1 := ⟨⟨w_854, w_853, w_196, kd_X12_read⟩, w_855, w_856⟩
set_option maxRecDepth 20000 in
theorem kV_L_190 : okV RL 190 yX11_began cX11_began 5 (some .int) 1 := ⟨⟨w_858, w_857, w_29, kd_X11_began⟩, w_859, w_860⟩
set_option maxRecDepth 20000 in
theorem kV_L_193 : okV RL 193 yX12_began cX12_began 5 (some .int) 1 := ⟨⟨w_862, w_861, w_196, kd_X12_began⟩, w_863, w_864⟩
set_option maxRecDepth 20000 in
theorem kV_L_194 : okV RL 194 yX11_ask cX11_ask 3 (some .int) 1 := ⟨⟨w_866, w_865, w_29, kd_X11_ask⟩, w_867, w_868⟩
set_option maxRecDepth 20000 in
theorem kV_L_197 : okV RL 197 yX12_ask cX12_ask 3 (some .int) 1 := ⟨⟨w_870, w_869, w_196, kd_X12_ask⟩, w_871, w_872⟩
set_option maxRecDepth 20000 in
theorem kV_L_198 : okV RL 198 yX11_leaves cX11_leaves 4 (some .int) 1 := ⟨⟨w_874, w_873, w_29, kd_X11_leaves⟩, w_875, w_876⟩
set_option maxRecDepth 20000 in
theorem kV_L_201 : okV RL 201 yX12_leaves cX12_leaves 4 (some .int) 1 := ⟨⟨w_878, w_877, w_196, kd_X12_leaves⟩, w_879, w_880⟩
set_option maxRecDepth 20000 in
theorem kV_L_202 : okV RL 202 yX11_course cX11_course 4 (some .int) 2 := ⟨⟨w_882, w_881, w_29, kd_X11_course⟩, w_883, w_884⟩
set_option maxRecDepth 20000 in
theorem kV_L_205 : okV RL 205 yX12_course cX12_course 4 (some .int) 2 := ⟨⟨w_886, w_885, w_196, kd_X12_course⟩, w_887, w_888⟩
set_option maxRecDepth 20000 in
theorem kV_L_206 : okV RL 206 yX11_lesson cX11_lesson 5 (some .int) 3 := ⟨⟨w_890, w_889, w_29, kd_X11_lesson⟩, w_891, w_892⟩
set_option maxRecDepth 20000 in
theorem kV_L_209 : okV RL 209 yX12_lesson cX12_lesson 5 (some .int) 3 := ⟨⟨w_894, w_893, w_196, kd_X12_lesson⟩, w_895, w_896⟩
set_option maxRecDepth 20000 in
theorem kV_L_210 : okV RL 210 yX11_spoilt cX11_spoilt 4 (some .int) 2 := ⟨⟨w_898, w_897, w_29, kd_X11_spoilt⟩, w_899, w_900⟩
set_option maxRecDepth 20000 in
theorem kV_L_213 : okV RL 213 yX12_spoilt cX12_spoilt 4 (some .int) 2 := ⟨⟨w_902, w_901, w_196, kd_X12_spoilt⟩, w_903, w_904⟩
set_option maxRecDepth 20000 in
theorem kV_L_214 : okV RL 214 yX11_route cX11_route 3 (some .int) 2 := ⟨⟨w_906, w_905, w_29, kd_X11_route⟩, w_907, w_908⟩
set_option maxRecDepth 20000 in
theorem kV_L_217 : okV RL 217 yX12_route cX12_route 3 (some .int) 2 := ⟨⟨w_910, w_909, w_196, kd_X12_route⟩, w_911, w_912⟩
set_option maxRecDepth 20000 in
theorem kV_L_218 : okV RL 218 yX11_dark cX11_dark 4 (some .int) 2 := ⟨⟨w_914, w_913, w_29, kd_X11_dark⟩, w_915, w_916⟩
set_option maxRecDepth 20000 in
theorem kV_L_221 : okV RL 221 yX12_dark cX12_dark 3 (some .int) 2 := ⟨⟨w_918, w_917, w_196, kd_X12_dark⟩, w_919, w_920⟩
set_option maxRecDepth 20000 in
theorem kV_L_222 : okV RL 222 yX11_detour cX11_detour 4 (some .int) 2 := ⟨⟨w_922, w_921, w_29, kd_X11_detour⟩, w_923, w_924⟩
set_option maxRecDepth 20000 in
theorem kV_L_225 : okV RL 225 yX12_detour cX12_detour 3 (some .int) 2 := ⟨⟨w_926, w_925, w_196, kd_X12_detour⟩, w_927, w_928⟩
set_option maxRecDepth 20000 in
theorem kV_L_226 : okV RL 226 yX11_fog cX11_fog 7 (some .int) 4 := ⟨⟨w_930, w_929, w_29, kd_X11_fog⟩, w_931, w_932⟩
set_option maxRecDepth 20000 in
theorem kV_L_230 : okV RL 230 yX12_fog cX12_fog 6 (some .int) 4 := ⟨⟨w_934, w_933, w_196, kd_X12_fog⟩, w_935, w_936⟩
set_option maxRecDepth 20000 in
theorem kV_L_231 : okV RL 231 yX11_likely cX11_likely 5 (some .int) 2 := ⟨⟨w_938, w_937, w_29, kd_X11_likely⟩, w_939, w_940⟩
set_option maxRecDepth 20000 in
theorem kV_L_234 : okV RL 234 yX12_likely cX12_likely 5 (some .int) 2 := ⟨⟨w_942, w_941, w_196, kd_X12_likely⟩, w_943, w_944⟩
set_option maxRecDepth 20000 in
theorem kV_L_235 : okV RL 235 yX11_can cX11_can 3 (some .int) 2 := ⟨⟨w_946, w_945, w_29, kd_X11_can⟩, w_947, w_948⟩
set_option maxRecDepth 20000 in
theorem kV_L_238 : okV RL 238 yX12_can cX12_can 5 (some .int) 2 := ⟨⟨w_950, w_949, w_196, kd_X12_can⟩, w_951, w_952⟩
set_option maxRecDepth 20000 in
theorem kV_L_239 : okV RL 239 yX11_lead cX11_lead 5 (some .int) 3 := ⟨⟨w_954, w_953, w_29, kd_X11_lead⟩, w_955, w_956⟩
set_option maxRecDepth 20000 in
theorem kV_L_242 : okV RL 242 yX12_lead cX12_lead 5 (some .int) 3 := ⟨⟨w_958, w_957, w_196, kd_X12_lead⟩, w_959, w_960⟩
set_option maxRecDepth 20000 in
theorem kV_L_243 : okV RL 243 yX11_marks cX11_marks 4 (some .int) 2 := ⟨⟨w_962, w_961, w_29, kd_X11_marks⟩, w_963, w_964⟩
set_option maxRecDepth 20000 in
theorem kV_L_246 : okV RL 246 yX12_marks cX12_marks 4 (some .int) 2 := ⟨⟨w_966, w_965, w_196, kd_X12_marks⟩, w_967, w_968⟩
set_option maxRecDepth 20000 in
theorem kV_L_247 : okV RL 247 yX11_drawn cX11_drawn 6 (some .int) 4 := ⟨⟨w_970, w_969, w_29, kd_X11_drawn⟩, w_971, w_972⟩
set_option maxRecDepth 20000 in
theorem kV_L_250 : okV RL 250 yX12_drawn cX12_drawn 5 (some .int) 4 := ⟨⟨w_974, w_973, w_196, kd_X12_drawn⟩, w_975, w_976⟩
set_option maxRecDepth 20000 in
theorem kV_L_251 : okV RL 251 yX11_luck cX11_luck 7 (some .int) 4 := ⟨⟨w_978, w_977, w_29, kd_X11_luck⟩, w_979, w_980⟩
set_option maxRecDepth 20000 in
theorem kV_L_254 : okV RL 254 yX12_luck cX12_luck 7 (some .int) 4 := ⟨⟨w_982, w_981, w_196, kd_X12_luck⟩, w_983, w_984⟩
set_option maxRecDepth 20000 in
theorem kV_L_255 : okV RL 255 yX11_count cX11_count 2 (some .int) 1 := ⟨⟨w_986, w_985, w_29, kd_X11_count⟩, w_987, w_988⟩
set_option maxRecDepth 20000 in
theorem kV_L_258 : okV RL 258 yX12_count cX12_count 5 (some .int) 1 := ⟨⟨w_990, w_989, w_196, kd_X12_count⟩, w_991, w_992⟩
set_option maxRecDepth 20000 in
theorem kV_L_259 : okV RL 259 yX11_image cX11_image 2 (some .int) 1 := ⟨⟨w_994, w_993, w_29, kd_X11_image⟩, w_995, w_996⟩
set_option maxRecDepth 20000 in
theorem kV_L_262 : okV RL 262 yX12_image cX12_image 3 (some .int) 1 := ⟨⟨w_998, w_997, w_196, kd_X12_image⟩, w_999, w_1000⟩
set_option maxRecDepth 20000 in
theorem kV_L_263 : okV RL 263 yX11_back cX11_back 2 (some .int) 1 := ⟨⟨w_1002, w_1001, w_29, kd_X11_back⟩, w_1003, w_1004⟩
set_option maxRecDepth 20000 in
theorem kV_L_266 : okV RL 266 yX12_back cX12_back 3 (some .int) 1 := ⟨⟨w_1006, w_1005, w_196, kd_X12_back⟩, w_1007, w_1008⟩
set_option maxRecDepth 20000 in
theorem kV_L_267 : okV RL 267 yX11_row cX11_row 4 (some .int) 3 := ⟨⟨w_1010, w_1009, w_29, kd_X11_row⟩, w_1011, w_1012⟩
set_option maxRecDepth 20000 in
theorem kV_L_270 : okV RL 270 yX12_row cX12_row 5 (some .int) 3 := ⟨⟨w_1014, w_1013, w_196, kd_X12_row⟩, w_1015, w_1016⟩
set_option maxRecDepth 20000 in
theorem kV_L_273 : okV RL 273 yX11_write cX11_write 5 (some .int) 3 := ⟨⟨w_1019, w_1018, w_29, kd_X11_write⟩, w_1020, w_1021⟩
set_option maxRecDepth 20000 in
theorem kV_L_277 : okV RL 277 yX12_write cX12_write 5 (some .int) 3 := ⟨⟨w_1023, w_1022, w_196, kd_X12_write⟩, w_1024, w_1025⟩
set_option maxRecDepth 20000 in
theorem kV_L_278 : okV RL 278 yX11_paste cX11_paste 6 (some .int) 5 := ⟨⟨w_1027, w_1026, w_29, kd_X11_paste⟩, w_1028, w_1029⟩
set_option maxRecDepth 20000 in
theorem kV_L_281 : okV RL 281 yX12_paste cX12_paste 7 (some .int) 5 := ⟨⟨w_1031, w_1030, w_196, kd_X12_paste⟩, w_1032, w_1033⟩
set_option maxRecDepth 20000 in
theorem kI_L_9 : okI RL 9 yX11_init cX11_init 1 0 := ⟨⟨w_1037, w_1036, w_29, kd_X11_init⟩, rfl, w_1038⟩
set_option maxRecDepth 20000 in
theorem kI_L_12 : okI RL 12 yX12_init cX12_init 1 0 := ⟨⟨w_1040, w_1039, w_196, kd_X12_init⟩, rfl, w_1041⟩
theorem bd_X0 : ∀ j, j < 6 → defaultValue (tyX0 j) = vp_V [.null, .null, .null, .null, .int 0, .int 0] j := fun j hj => by rcases (show j = 0 ∨ j = 1 ∨ j = 2 ∨ j = 3 ∨ j = 4 ∨ j = 5 by omega) with rfl | rfl | rfl | rfl | rfl | rfl <;> rfl
theorem bd_X1 : ∀ j, j < 10 → defaultValue (tyX1 j) = vp_V [.null, .null, .null, .int 0, .int 0, .int 0, .null, .int 0, .int 0, .int 0] j := fun j hj => by rcases (show j = 0 ∨ j = 1 ∨ j = 2 ∨ j = 3 ∨ j = 4 ∨ j = 5 ∨ j = 6 ∨ j = 7 ∨ j = 8 ∨ j = 9 by omega) with rfl | rfl | rfl | rfl | rfl | rfl | rfl | rfl | rfl | rfl <;> rfl
theorem bd_X10 : ∀ j, j < 12 → defaultValue (tyX10 j) = vp_V [.null, .null, .null, .null, .null, .null, .null, .null, .int 0, .int 0, .int 0, .int 0] j := fun j hj => by rcases (show j = 0 ∨ j = 1 ∨ j = 2 ∨ j = 3 ∨ j = 4 ∨ j = 5 ∨ j = 6 ∨ j = 7 ∨ j = 8 ∨ j = 9 ∨ j = 10 ∨ j = 11 by omega) with rfl | rfl | rfl | rfl | rfl | rfl | rfl | rfl | rfl | rfl | rfl | rfl <;> rfl
theorem bd_X11 : ∀ j, j < 12 → defaultValue (tyX11 j) = vp_V [.null, .null, .null, .null, .null, .null, .null, .null, .null, .null, .null, .null] j := fun j hj => by rcases (show j = 0 ∨ j = 1 ∨ j = 2 ∨ j = 3 ∨ j = 4 ∨ j = 5 ∨ j = 6 ∨ j = 7 ∨ j = 8 ∨ j = 9 ∨ j = 10 ∨ j = 11 by omega) with rfl | rfl | rfl | rfl | rfl | rfl | rfl | rfl | rfl | rfl | rfl | rfl <;> rfl
theorem bd_X12 : ∀ j, j < 53 → defaultValue (tyX12 j) = vp_V [.int 0, .null, .null, .null, .null, .int 0, .null, .int 0, .int 0, .int 0, .int 0, .int 0, .int 0, .int 0, .null, .int 0, .int 0, .int 0, .int 0, .int 0, .int 0, .null, .null, .null, .null, .int 0, .null, .null, .null, .null, .null, .null, .null, .null, .null, .null, .null, .int 0, .int 0, .int 0, .null, .null, .null, .int 0, .int 0, .null, .null, .null, .int 0, .null, .null, .null, .null] j := fun j hj => by rcases (show j = 0 ∨ j = 1 ∨ j = 2 ∨ j = 3 ∨ j = 4 ∨ j = 5 ∨ j = 6 ∨ j = 7 ∨ j = 8 ∨ j = 9 ∨ j = 10 ∨ j = 11 ∨ j = 12 ∨ j = 13 ∨ j = 14 ∨ j = 15 ∨ j = 16 ∨ j = 17 ∨ j = 18 ∨ j = 19 ∨ j = 20 ∨ j = 21 ∨ j = 22 ∨ j = 23 ∨ j = 24 ∨ j = 25 ∨ j = 26 ∨ j = 27 ∨ j = 28 ∨ j = 29 ∨ j = 30 ∨ j = 31 ∨ j = 32 ∨ j = 33 ∨ j = 34 ∨ j = 35 ∨ j = 36 ∨ j = 37 ∨ j = 38 ∨ j = 39 ∨ j = 40 ∨ j = 41 ∨ j = 42 ∨ j = 43 ∨ j = 44 ∨ j = 45 ∨ j = 46 ∨ j = 47 ∨ j = 48 ∨ j = 49 ∨ j = 50 ∨ j = 51 ∨ j = 52 by omega) with rfl | rfl | rfl | rfl | rfl | rfl | rfl | rfl | rfl | rfl | rfl | rfl | rfl | rfl | rfl | rfl | rfl | rfl | rfl | rfl | rfl | rfl | rfl | rfl | rfl | rfl | rfl | rfl | rfl | rfl | rfl | rfl | rfl | rfl | rfl | rfl | rfl | rfl | rfl | rfl | rfl | rfl | rfl | rfl | rfl | rfl | rfl | rfl | rfl | rfl | rfl | rfl | rfl <;> rfl
theorem bd_X2 : ∀ j, j < 6 → defaultValue (tyX2 j) = vp_V [.null, .null, .null, .null, .null, .int 0] j := fun j hj => by rcases (show j = 0 ∨ j = 1 ∨ j = 2 ∨ j = 3 ∨ j = 4 ∨ j = 5 by omega) with rfl | rfl | rfl | rfl | rfl | rfl <;> rfl
theorem bd_X3 : ∀ j, j < 5 → defaultValue (tyX3 j) = vp_V [.null, .null, .null, .int 0, .int 0] j := fun j hj => by rcases (show j = 0 ∨ j = 1 ∨ j = 2 ∨ j = 3 ∨ j = 4 by omega) with rfl | rfl | rfl | rfl | rfl <;> rfl
theorem bd_X4 : ∀ j, j < 10 → defaultValue (tyX4 j) = vp_V [.null, .int 0, .int 0, .int 0, .null, .int 0, .int 0, .int 0, .int 0, .int 0] j := fun j hj => by rcases (show j = 0 ∨ j = 1 ∨ j = 2 ∨ j = 3 ∨ j = 4 ∨ j = 5 ∨ j = 6 ∨ j = 7 ∨ j = 8 ∨ j = 9 by omega) with rfl | rfl | rfl | rfl | rfl | rfl | rfl | rfl | rfl | rfl <;> rfl
theorem bd_X5 : ∀ j, j < 3 → defaultValue (tyX5 j) = vp_V [.null, .null, .null] j := fun j hj => by rcases (show j = 0 ∨ j = 1 ∨ j = 2 by omega) with rfl | rfl | rfl <;> rfl
theorem bd_X7 : ∀ j, j < 7 → defaultValue (tyX7 j) = vp_V [.null, .null, .null, .int 0, .int 0, .int 0, .int 0] j := fun j hj => by rcases (show j = 0 ∨ j = 1 ∨ j = 2 ∨ j = 3 ∨ j = 4 ∨ j = 5 ∨ j = 6 by omega) with rfl | rfl | rfl | rfl | rfl | rfl | rfl <;> rfl
theorem bd_X8 : ∀ j, j < 3 → defaultValue (tyX8 j) = vp_V [.null, .null, .null] j := fun j hj => by rcases (show j = 0 ∨ j = 1 ∨ j = 2 by omega) with rfl | rfl | rfl <;> rfl
theorem bd_X9 : ∀ j, j < 3 → defaultValue (tyX9 j) = vp_V [.int 0, .int 0, .int 0] j := fun j hj => by rcases (show j = 0 ∨ j = 1 ∨ j = 2 by omega) with rfl | rfl | rfl <;> rfl
