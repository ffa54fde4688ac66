set_option maxRecDepth 20000 in
theorem w_0 : Cond.constant RX11 375 (2000000000) ∈ wl := tm_5 (List.mem_of_getElem? (i := 200) rfl) rfl
set_option maxRecDepth 20000 in
theorem w_1 : Cond.constant RJ6 265 (1431655765) ∈ wl := tm_3 (List.mem_of_getElem? (i := 180) rfl) rfl
set_option maxRecDepth 20000 in
theorem w_2 : Cond.constant RJ6 266 (858993459) ∈ wl := tm_3 (List.mem_of_getElem? (i := 181) rfl) rfl
set_option maxRecDepth 20000 in
theorem w_3 : Cond.constant RJ6 267 (252645135) ∈ wl := tm_3 (List.mem_of_getElem? (i := 182) rfl) rfl
set_option maxRecDepth 20000 in
theorem w_4 : Cond.laysFinal "LostWood$Wood" "LostWood$Wood" "ways" "[I" ∈ wl := tm_1 (List.mem_of_getElem? (i := 71) rfl) rfl
set_option maxRecDepth 20000 in
theorem w_5 : Cond.laysFinal "LostWood$Wood" "LostWood$Wood" "signs" "[I" ∈ wl := tm_1 (List.mem_of_getElem? (i := 73) rfl) rfl
set_option maxRecDepth 20000 in
theorem w_6 : Cond.laysFinal "LostWood$Wood" "LostWood$Wood" "starts" "[I" ∈ wl := tm_1 (List.mem_of_getElem? (i := 75) rfl) rfl
set_option maxRecDepth 20000 in
theorem w_7 : Cond.laysFinal "LostWood$Wood" "LostWood$Wood" "turns" "[I" ∈ wl := tm_1 (List.mem_of_getElem? (i := 77) rfl) rfl
set_option maxRecDepth 20000 in
theorem w_8 : Cond.laysFinal "LostWood$Wood" "LostWood$Wood" "thoughts" "[I" ∈ wl := tm_1 (List.mem_of_getElem? (i := 79) rfl) rfl
set_option maxRecDepth 20000 in
theorem w_9 : Cond.laysFinal "LostWood$Wood" "LostWood$Wood" "lessonKinds" "[I" ∈ wl := tm_1 (List.mem_of_getElem? (i := 81) rfl) rfl
set_option maxRecDepth 20000 in
theorem w_10 : Cond.laysFinal "LostWood$Wood" "LostWood$Wood" "lessonNumbers" "[I" ∈ wl := tm_1 (List.mem_of_getElem? (i := 83) rfl) rfl
set_option maxRecDepth 20000 in
theorem w_11 : Cond.laysFinal "LostWood$Wood" "LostWood$Wood" "lessonWinds" "[I" ∈ wl := tm_1 (List.mem_of_getElem? (i := 85) rfl) rfl
set_option maxRecDepth 20000 in
theorem w_12 : Cond.lays "LostWood$Wood" "LostWood$Wood" "places" "I" ∈ wl := tm_1 (List.mem_of_getElem? (i := 87) rfl) rfl
set_option maxRecDepth 20000 in
theorem w_13 : Cond.lays "LostWood$Wood" "LostWood$Wood" "pupils" "I" ∈ wl := tm_1 (List.mem_of_getElem? (i := 89) rfl) rfl
set_option maxRecDepth 20000 in
theorem w_14 : Cond.lays "LostWood$Wood" "LostWood$Wood" "lessons" "I" ∈ wl := tm_1 (List.mem_of_getElem? (i := 91) rfl) rfl
set_option maxRecDepth 20000 in
theorem w_15 : Cond.lays "LostWood$Wood" "LostWood$Wood" "lines" "I" ∈ wl := tm_1 (List.mem_of_getElem? (i := 93) rfl) rfl
set_option maxRecDepth 20000 in
theorem w_16 : Cond.fieldLink RX10 42 "LostWood$Wood" "places" "I" ∈ wl := tm_1 (List.mem_of_getElem? (i := 56) rfl) rfl
set_option maxRecDepth 20000 in
theorem w_17 : Cond.fieldLink RX10 46 "LostWood$Wood" "pupils" "I" ∈ wl := tm_1 (List.mem_of_getElem? (i := 61) rfl) rfl
set_option maxRecDepth 20000 in
theorem w_18 : Cond.fieldLink RX10 52 "LostWood$Wood" "lines" "I" ∈ wl := tm_1 (List.mem_of_getElem? (i := 68) rfl) rfl
set_option maxRecDepth 20000 in
theorem w_19 : Cond.code yX10_all cX10_all 1 (some .int) ∈ wl := tm_3 (List.mem_of_getElem? (i := 133) rfl) rfl
set_option maxRecDepth 20000 in
theorem w_20 : Cond.initialized RX10 ∈ wl := tm_1 (List.mem_of_getElem? (i := 3) rfl) rfl
set_option maxRecDepth 20000 in
theorem w_21 : Cond.methodLink RX10 61 yX10_all ∈ wl := tm_3 (List.mem_of_getElem? (i := 130) rfl) rfl
set_option maxRecDepth 20000 in
theorem w_22 : Cond.instanceMethod yX10_all ∈ wl := tm_3 (List.mem_of_getElem? (i := 131) rfl) rfl
set_option maxRecDepth 20000 in
theorem w_23 : Cond.selects RX10 yX10_all yX10_all ∈ wl := tm_3 (List.mem_of_getElem? (i := 132) rfl) rfl
set_option maxRecDepth 20000 in
theorem w_24 : Cond.code yX10_showing cX10_showing 5 (some .int) ∈ wl := tm_3 (List.mem_of_getElem? (i := 148) rfl) rfl
set_option maxRecDepth 20000 in
theorem w_25 : Cond.methodLink RX10 76 yX10_showing ∈ wl := tm_5 (List.mem_of_getElem? (i := 2) rfl) rfl
set_option maxRecDepth 20000 in
theorem w_26 : Cond.instanceMethod yX10_showing ∈ wl := tm_3 (List.mem_of_getElem? (i := 146) rfl) rfl
set_option maxRecDepth 20000 in
theorem w_27 : Cond.selects RX10 yX10_showing yX10_showing ∈ wl := tm_3 (List.mem_of_getElem? (i := 147) rfl) rfl
set_option maxRecDepth 20000 in
theorem w_28 : Cond.code yX11_isSlot cX11_isSlot 1 (some .boolean) ∈ wl := tm_4 (List.mem_of_getElem? (i := 2) rfl) rfl
set_option maxRecDepth 20000 in
theorem w_29 : Cond.initialized RX11 ∈ wl := tm_1 (List.mem_of_getElem? (i := 1) rfl) rfl
set_option maxRecDepth 20000 in
theorem w_30 : Cond.static yX11_isSlot ∈ wl := tm_4 (List.mem_of_getElem? (i := 1) rfl) rfl
set_option maxRecDepth 20000 in
theorem w_31 : Cond.laysFinal "LostWood$Rows" "LostWood$Rows" "numbers" "[J" ∈ wl := tm_1 (List.mem_of_getElem? (i := 201) rfl) rfl
set_option maxRecDepth 20000 in
theorem w_32 : Cond.laysFinal "LostWood$Rows" "LostWood$Rows" "widths" "[I" ∈ wl := tm_1 (List.mem_of_getElem? (i := 203) rfl) rfl
set_option maxRecDepth 20000 in
theorem w_33 : Cond.laysFinal "LostWood$Rows" "LostWood$Rows" "sizes" "[I" ∈ wl := tm_1 (List.mem_of_getElem? (i := 205) rfl) rfl
set_option maxRecDepth 20000 in
theorem w_34 : Cond.fieldLink RX5 19 "LostWood$Rows" "sizes" "[I" ∈ wl := tm_1 (List.mem_of_getElem? (i := 200) rfl) rfl
set_option maxRecDepth 20000 in
theorem w_35 : Cond.code yX5_has cX5_has 2 (some .boolean) ∈ wl := tm_4 (List.mem_of_getElem? (i := 6) rfl) rfl
set_option maxRecDepth 20000 in
theorem w_36 : Cond.initialized RX5 ∈ wl := tm_1 (List.mem_of_getElem? (i := 6) rfl) rfl
set_option maxRecDepth 20000 in
theorem w_37 : Cond.methodLink RX5 35 yX5_has ∈ wl := tm_4 (List.mem_of_getElem? (i := 12) rfl) rfl
set_option maxRecDepth 20000 in
theorem w_38 : Cond.instanceMethod yX5_has ∈ wl := tm_4 (List.mem_of_getElem? (i := 4) rfl) rfl
set_option maxRecDepth 20000 in
theorem w_39 : Cond.selects RX5 yX5_has yX5_has ∈ wl := tm_4 (List.mem_of_getElem? (i := 5) rfl) rfl
set_option maxRecDepth 20000 in
theorem w_40 : Cond.laysFinal "LostWood" "LostWood" "reader" "LLostWood$Reader;" ∈ wl := tm_2 (List.mem_of_getElem? (i := 123) rfl) rfl
set_option maxRecDepth 20000 in
theorem w_41 : Cond.laysFinal "LostWood" "LostWood" "here" "LLostWood$Wood;" ∈ wl := tm_2 (List.mem_of_getElem? (i := 125) rfl) rfl
set_option maxRecDepth 20000 in
theorem w_42 : Cond.laysFinal "LostWood" "LostWood" "party" "LLostWood$Party;" ∈ wl := tm_2 (List.mem_of_getElem? (i := 127) rfl) rfl
set_option maxRecDepth 20000 in
theorem w_43 : Cond.laysFinal "LostWood" "LostWood" "walker" "LLostWood$Walker;" ∈ wl := tm_2 (List.mem_of_getElem? (i := 129) rfl) rfl
set_option maxRecDepth 20000 in
theorem w_44 : Cond.laysFinal "LostWood" "LostWood" "rows" "LLostWood$Rows;" ∈ wl := tm_2 (List.mem_of_getElem? (i := 131) rfl) rfl
set_option maxRecDepth 20000 in
theorem w_45 : Cond.laysFinal "LostWood" "LostWood" "minds" "LLostWood$Minds;" ∈ wl := tm_2 (List.mem_of_getElem? (i := 133) rfl) rfl
set_option maxRecDepth 20000 in
theorem w_46 : Cond.laysFinal "LostWood" "LostWood" "sets" "LLostWood$Sets;" ∈ wl := tm_2 (List.mem_of_getElem? (i := 135) rfl) rfl
set_option maxRecDepth 20000 in
theorem w_47 : Cond.laysFinal "LostWood" "LostWood" "plans" "LLostWood$Plans;" ∈ wl := tm_2 (List.mem_of_getElem? (i := 137) rfl) rfl
set_option maxRecDepth 20000 in
theorem w_48 : Cond.laysFinal "LostWood" "LostWood" "courses" "LLostWood$Courses;" ∈ wl := tm_2 (List.mem_of_getElem? (i := 139) rfl) rfl
set_option maxRecDepth 20000 in
theorem w_49 : Cond.laysFinal "LostWood" "LostWood" "travel" "LLostWood$Travel;" ∈ wl := tm_2 (List.mem_of_getElem? (i := 141) rfl) rfl
set_option maxRecDepth 20000 in
theorem w_50 : Cond.laysFinal "LostWood" "LostWood" "imageWoods" "[LLostWood$Wood;" ∈ wl := tm_2 (List.mem_of_getElem? (i := 143) rfl) rfl
set_option maxRecDepth 20000 in
theorem w_51 : Cond.laysFinal "LostWood" "LostWood" "imageParties" "[LLostWood$Party;" ∈ wl := tm_2 (List.mem_of_getElem? (i := 145) rfl) rfl
set_option maxRecDepth 20000 in
theorem w_52 : Cond.fieldLink RX11 19 "LostWood" "here" "LLostWood$Wood;" ∈ wl := tm_2 (List.mem_of_getElem? (i := 112) rfl) rfl
set_option maxRecDepth 20000 in
theorem w_53 : Cond.code yX10_hasPlace cX10_hasPlace 2 (some .boolean) ∈ wl := tm_3 (List.mem_of_getElem? (i := 48) rfl) rfl
set_option maxRecDepth 20000 in
theorem w_54 : Cond.methodLink RX11 126 yX10_hasPlace ∈ wl := tm_3 (List.mem_of_getElem? (i := 108) rfl) rfl
set_option maxRecDepth 20000 in
theorem w_55 : Cond.instanceMethod yX10_hasPlace ∈ wl := tm_3 (List.mem_of_getElem? (i := 46) rfl) rfl
set_option maxRecDepth 20000 in
theorem w_56 : Cond.selects RX10 yX10_hasPlace yX10_hasPlace ∈ wl := tm_3 (List.mem_of_getElem? (i := 47) rfl) rfl
set_option maxRecDepth 20000 in
theorem w_57 : Cond.code yX10_hasPupil cX10_hasPupil 2 (some .boolean) ∈ wl := tm_3 (List.mem_of_getElem? (i := 160) rfl) rfl
set_option maxRecDepth 20000 in
theorem w_58 : Cond.methodLink RX11 334 yX10_hasPupil ∈ wl := tm_3 (List.mem_of_getElem? (i := 157) rfl) rfl
set_option maxRecDepth 20000 in
theorem w_59 : Cond.instanceMethod yX10_hasPupil ∈ wl := tm_3 (List.mem_of_getElem? (i := 158) rfl) rfl
set_option maxRecDepth 20000 in
theorem w_60 : Cond.selects RX10 yX10_hasPupil yX10_hasPupil ∈ wl := tm_3 (List.mem_of_getElem? (i := 159) rfl) rfl
set_option maxRecDepth 20000 in
theorem w_61 : Cond.methodLink RX11 352 yX11_isSlot ∈ wl := tm_4 (List.mem_of_getElem? (i := 0) rfl) rfl
set_option maxRecDepth 20000 in
theorem w_62 : Cond.code yX11_stand cX11_stand 2 (some .boolean) ∈ wl := tm_3 (List.mem_of_getElem? (i := 156) rfl) rfl
set_option maxRecDepth 20000 in
theorem w_63 : Cond.methodLink RX11 152 yX11_stand ∈ wl := tm_3 (List.mem_of_getElem? (i := 153) rfl) rfl
set_option maxRecDepth 20000 in
theorem w_64 : Cond.instanceMethod yX11_stand ∈ wl := tm_3 (List.mem_of_getElem? (i := 155) rfl) rfl
set_option maxRecDepth 20000 in
theorem w_65 : Cond.selects RX11 yX11_stand yX11_stand ∈ wl := tp_1 (q := (yX11_stand, 12)) (List.mem_of_getElem? (i := 15) rfl)
set_option maxRecDepth 20000 in
theorem w_66 : Cond.code yX10_stands cX10_stands 1 (some .boolean) ∈ wl := tm_3 (List.mem_of_getElem? (i := 215) rfl) rfl
set_option maxRecDepth 20000 in
theorem w_67 : Cond.methodLink RX11 185 yX10_stands ∈ wl := tm_3 (List.mem_of_getElem? (i := 212) rfl) rfl
set_option maxRecDepth 20000 in
theorem w_68 : Cond.instanceMethod yX10_stands ∈ wl := tm_3 (List.mem_of_getElem? (i := 213) rfl) rfl
set_option maxRecDepth 20000 in
theorem w_69 : Cond.selects RX10 yX10_stands yX10_stands ∈ wl := tm_3 (List.mem_of_getElem? (i := 214) rfl) rfl
set_option maxRecDepth 20000 in
theorem w_70 : Cond.code yX10_hasSet cX10_hasSet 2 (some .boolean) ∈ wl := tm_3 (List.mem_of_getElem? (i := 129) rfl) rfl
set_option maxRecDepth 20000 in
theorem w_71 : Cond.methodLink RX11 140 yX10_hasSet ∈ wl := tm_3 (List.mem_of_getElem? (i := 126) rfl) rfl
set_option maxRecDepth 20000 in
theorem w_72 : Cond.instanceMethod yX10_hasSet ∈ wl := tm_3 (List.mem_of_getElem? (i := 127) rfl) rfl
set_option maxRecDepth 20000 in
theorem w_73 : Cond.selects RX10 yX10_hasSet yX10_hasSet ∈ wl := tm_3 (List.mem_of_getElem? (i := 128) rfl) rfl
set_option maxRecDepth 20000 in
theorem w_74 : Cond.code yX11_isWind cX11_isWind 1 (some .boolean) ∈ wl := tm_3 (List.mem_of_getElem? (i := 51) rfl) rfl
set_option maxRecDepth 20000 in
theorem w_75 : Cond.methodLink RX11 129 yX11_isWind ∈ wl := tm_3 (List.mem_of_getElem? (i := 109) rfl) rfl
set_option maxRecDepth 20000 in
theorem w_76 : Cond.static yX11_isWind ∈ wl := tm_3 (List.mem_of_getElem? (i := 50) rfl) rfl
set_option maxRecDepth 20000 in
theorem w_77 : Cond.code yX11_refuseWalk cX11_refuseWalk 4 (some .int) ∈ wl := tm_3 (List.mem_of_getElem? (i := 239) rfl) rfl
set_option maxRecDepth 20000 in
theorem w_78 : Cond.methodLink RX11 191 yX11_refuseWalk ∈ wl := tm_3 (List.mem_of_getElem? (i := 236) rfl) rfl
set_option maxRecDepth 20000 in
theorem w_79 : Cond.instanceMethod yX11_refuseWalk ∈ wl := tm_3 (List.mem_of_getElem? (i := 238) rfl) rfl
set_option maxRecDepth 20000 in
theorem w_80 : Cond.selects RX11 yX11_refuseWalk yX11_refuseWalk ∈ wl := tp_2 (q := (yX11_refuseWalk, 12)) (List.mem_of_getElem? (i := 0) rfl)
set_option maxRecDepth 20000 in
theorem w_81 : Cond.code yX11_seek cX11_seek 4 (some .boolean) ∈ wl := tm_4 (List.mem_of_getElem? (i := 55) rfl) rfl
set_option maxRecDepth 20000 in
theorem w_82 : Cond.methodLink RX11 212 yX11_seek ∈ wl := tm_4 (List.mem_of_getElem? (i := 52) rfl) rfl
set_option maxRecDepth 20000 in
theorem w_83 : Cond.instanceMethod yX11_seek ∈ wl := tm_4 (List.mem_of_getElem? (i := 54) rfl) rfl
set_option maxRecDepth 20000 in
theorem w_84 : Cond.selects RX11 yX11_seek yX11_seek ∈ wl := tp_2 (q := (yX11_seek, 12)) (List.mem_of_getElem? (i := 3) rfl)
set_option maxRecDepth 20000 in
theorem w_85 : Cond.code yX11_arePlaces cX11_arePlaces 3 (some .boolean) ∈ wl := tm_4 (List.mem_of_getElem? (i := 200) rfl) rfl
set_option maxRecDepth 20000 in
theorem w_86 : Cond.methodLink RX11 236 yX11_arePlaces ∈ wl := tm_4 (List.mem_of_getElem? (i := 197) rfl) rfl
set_option maxRecDepth 20000 in
theorem w_87 : Cond.instanceMethod yX11_arePlaces ∈ wl := tm_4 (List.mem_of_getElem? (i := 199) rfl) rfl
set_option maxRecDepth 20000 in
theorem w_88 : Cond.selects RX11 yX11_arePlaces yX11_arePlaces ∈ wl := tp_2 (q := (yX11_arePlaces, 12)) (List.mem_of_getElem? (i := 7) rfl)
set_option maxRecDepth 20000 in
theorem w_89 : Cond.code yX11_refuseReading cX11_refuseReading 3 (some .int) ∈ wl := tm_5 (List.mem_of_getElem? (i := 65) rfl) rfl
set_option maxRecDepth 20000 in
theorem w_90 : Cond.methodLink RX11 269 yX11_refuseReading ∈ wl := tm_5 (List.mem_of_getElem? (i := 62) rfl) rfl
set_option maxRecDepth 20000 in
theorem w_91 : Cond.instanceMethod yX11_refuseReading ∈ wl := tm_5 (List.mem_of_getElem? (i := 64) rfl) rfl
set_option maxRecDepth 20000 in
theorem w_92 : Cond.selects RX11 yX11_refuseReading yX11_refuseReading ∈ wl := tp_2 (q := (yX11_refuseReading, 12)) (List.mem_of_getElem? (i := 12) rfl)
set_option maxRecDepth 20000 in
theorem w_93 : Cond.code yX11_isDraw cX11_isDraw 2 (some .boolean) ∈ wl := tm_5 (List.mem_of_getElem? (i := 199) rfl) rfl
set_option maxRecDepth 20000 in
theorem w_94 : Cond.methodLink RX11 328 yX11_isDraw ∈ wl := tm_5 (List.mem_of_getElem? (i := 197) rfl) rfl
set_option maxRecDepth 20000 in
theorem w_95 : Cond.static yX11_isDraw ∈ wl := tm_5 (List.mem_of_getElem? (i := 198) rfl) rfl
set_option maxRecDepth 20000 in
theorem w_96 : Cond.fieldLink RX11 12 "LostWood" "reader" "LLostWood$Reader;" ∈ wl := tm_2 (List.mem_of_getElem? (i := 111) rfl) rfl
set_option maxRecDepth 20000 in
theorem w_97 : Cond.laysFinal "LostWood$Reader" "LostWood$Reader" "tape" "[B" ∈ wl := tm_1 (List.mem_of_getElem? (i := 112) rfl) rfl
set_option maxRecDepth 20000 in
theorem w_98 : Cond.lays "LostWood$Reader" "LostWood$Reader" "length" "I" ∈ wl := tm_1 (List.mem_of_getElem? (i := 114) rfl) rfl
set_option maxRecDepth 20000 in
theorem w_99 : Cond.lays "LostWood$Reader" "LostWood$Reader" "faultKind" "I" ∈ wl := tm_1 (List.mem_of_getElem? (i := 116) rfl) rfl
set_option maxRecDepth 20000 in
theorem w_100 : Cond.lays "LostWood$Reader" "LostWood$Reader" "faultPlace" "I" ∈ wl := tm_1 (List.mem_of_getElem? (i := 118) rfl) rfl
set_option maxRecDepth 20000 in
theorem w_101 : Cond.laysFinal "LostWood$Reader" "LostWood$Reader" "draft" "LLostWood$Wood;" ∈ wl := tm_1 (List.mem_of_getElem? (i := 120) rfl) rfl
set_option maxRecDepth 20000 in
theorem w_102 : Cond.lays "LostWood$Reader" "LostWood$Reader" "kind" "I" ∈ wl := tm_1 (List.mem_of_getElem? (i := 122) rfl) rfl
set_option maxRecDepth 20000 in
theorem w_103 : Cond.lays "LostWood$Reader" "LostWood$Reader" "from" "I" ∈ wl := tm_1 (List.mem_of_getElem? (i := 124) rfl) rfl
set_option maxRecDepth 20000 in
theorem w_104 : Cond.lays "LostWood$Reader" "LostWood$Reader" "behind" "I" ∈ wl := tm_1 (List.mem_of_getElem? (i := 126) rfl) rfl
set_option maxRecDepth 20000 in
theorem w_105 : Cond.lays "LostWood$Reader" "LostWood$Reader" "number" "I" ∈ wl := tm_1 (List.mem_of_getElem? (i := 128) rfl) rfl
set_option maxRecDepth 20000 in
theorem w_106 : Cond.lays "LostWood$Reader" "LostWood$Reader" "taken" "I" ∈ wl := tm_1 (List.mem_of_getElem? (i := 130) rfl) rfl
set_option maxRecDepth 20000 in
theorem w_107 : Cond.fieldLink RX11 123 "LostWood$Reader" "faultPlace" "I" ∈ wl := tm_1 (List.mem_of_getElem? (i := 104) rfl) rfl
set_option maxRecDepth 20000 in
theorem w_108 : Cond.fieldLink RX11 120 "LostWood$Reader" "faultKind" "I" ∈ wl := tm_1 (List.mem_of_getElem? (i := 102) rfl) rfl
set_option maxRecDepth 20000 in
theorem w_109 : Cond.fieldLink RX11 233 "LostWood$Wood" "places" "I" ∈ wl := tm_1 (List.mem_of_getElem? (i := 60) rfl) rfl
set_option maxRecDepth 20000 in
theorem w_110 : Cond.code yX10_waysElsewhere cX10_waysElsewhere 4 (some .int) ∈ wl := tm_5 (List.mem_of_getElem? (i := 219) rfl) rfl
set_option maxRecDepth 20000 in
theorem w_111 : Cond.methodLink RX11 337 yX10_waysElsewhere ∈ wl := tm_5 (List.mem_of_getElem? (i := 216) rfl) rfl
set_option maxRecDepth 20000 in
theorem w_112 : Cond.instanceMethod yX10_waysElsewhere ∈ wl := tm_5 (List.mem_of_getElem? (i := 217) rfl) rfl
set_option maxRecDepth 20000 in
theorem w_113 : Cond.selects RX10 yX10_waysElsewhere yX10_waysElsewhere ∈ wl := tm_5 (List.mem_of_getElem? (i := 218) rfl) rfl
set_option maxRecDepth 20000 in
theorem w_114 : Cond.code yX10_marked cX10_marked 1 (some .int) ∈ wl := tm_5 (List.mem_of_getElem? (i := 1) rfl) rfl
set_option maxRecDepth 20000 in
theorem w_115 : Cond.methodLink RX11 340 yX10_marked ∈ wl := tm_4 (List.mem_of_getElem? (i := 238) rfl) rfl
set_option maxRecDepth 20000 in
theorem w_116 : Cond.instanceMethod yX10_marked ∈ wl := tm_4 (List.mem_of_getElem? (i := 239) rfl) rfl
set_option maxRecDepth 20000 in
theorem w_117 : Cond.selects RX10 yX10_marked yX10_marked ∈ wl := tm_5 (List.mem_of_getElem? (i := 0) rfl) rfl
set_option maxRecDepth 20000 in
theorem w_118 : Cond.code yJ6_bitCount_0f7a4 cJ6_bitCount_0f7a4 1 (some .int) ∈ wl := tm_3 (List.mem_of_getElem? (i := 179) rfl) rfl
set_option maxRecDepth 20000 in
theorem w_119 : Cond.initialized "java/lang/Integer" ∈ wl := tm_1 (List.mem_of_getElem? (i := 21) rfl) rfl
set_option maxRecDepth 20000 in
theorem w_120 : Cond.methodLink RX11 251 yJ6_bitCount_0f7a4 ∈ wl := tm_5 (List.mem_of_getElem? (i := 3) rfl) rfl
set_option maxRecDepth 20000 in
theorem w_121 : Cond.static yJ6_bitCount_0f7a4 ∈ wl := tm_3 (List.mem_of_getElem? (i := 178) rfl) rfl
set_option maxRecDepth 20000 in
theorem w_122 : Cond.fieldLink RX11 343 "LostWood$Wood" "pupils" "I" ∈ wl := tm_1 (List.mem_of_getElem? (i := 63) rfl) rfl
set_option maxRecDepth 20000 in
theorem w_123 : Cond.fieldLink RX11 291 "LostWood$Wood" "lessons" "I" ∈ wl := tm_1 (List.mem_of_getElem? (i := 67) rfl) rfl
set_option maxRecDepth 20000 in
theorem w_124 : Cond.fieldLink RX11 117 "LostWood$Wood" "lines" "I" ∈ wl := tm_1 (List.mem_of_getElem? (i := 69) rfl) rfl
set_option maxRecDepth 20000 in
theorem w_125 : Cond.fieldLink RX11 95 "LostWood$Reader" "length" "I" ∈ wl := tm_1 (List.mem_of_getElem? (i := 100) rfl) rfl
set_option maxRecDepth 20000 in
theorem w_126 : Cond.fieldLink RX11 26 "LostWood" "party" "LLostWood$Party;" ∈ wl := tm_2 (List.mem_of_getElem? (i := 113) rfl) rfl
set_option maxRecDepth 20000 in
theorem w_127 : Cond.laysFinal "LostWood$Party" "LostWood$Party" "at" "[I" ∈ wl := tm_1 (List.mem_of_getElem? (i := 150) rfl) rfl
set_option maxRecDepth 20000 in
theorem w_128 : Cond.laysFinal "LostWood$Party" "LostWood$Party" "thought" "[I" ∈ wl := tm_1 (List.mem_of_getElem? (i := 152) rfl) rfl
set_option maxRecDepth 20000 in
theorem w_129 : Cond.laysFinal "LostWood$Party" "LostWood$Party" "whose" "[I" ∈ wl := tm_1 (List.mem_of_getElem? (i := 154) rfl) rfl
set_option maxRecDepth 20000 in
theorem w_130 : Cond.laysFinal "LostWood$Party" "LostWood$Party" "wasAt" "[I" ∈ wl := tm_1 (List.mem_of_getElem? (i := 156) rfl) rfl
set_option maxRecDepth 20000 in
theorem w_131 : Cond.laysFinal "LostWood$Party" "LostWood$Party" "wasThought" "[I" ∈ wl := tm_1 (List.mem_of_getElem? (i := 158) rfl) rfl
set_option maxRecDepth 20000 in
theorem w_132 : Cond.lays "LostWood$Party" "LostWood$Party" "steps" "I" ∈ wl := tm_1 (List.mem_of_getElem? (i := 160) rfl) rfl
set_option maxRecDepth 20000 in
theorem w_133 : Cond.fieldLink RX11 174 "LostWood$Party" "steps" "I" ∈ wl := tm_1 (List.mem_of_getElem? (i := 149) rfl) rfl
set_option maxRecDepth 20000 in
theorem w_134 : Cond.fieldLink RX11 40 "LostWood" "rows" "LLostWood$Rows;" ∈ wl := tm_2 (List.mem_of_getElem? (i := 115) rfl) rfl
set_option maxRecDepth 20000 in
theorem w_135 : Cond.code yX5_kept cX5_kept 3 (some .int) ∈ wl := tm_5 (List.mem_of_getElem? (i := 224) rfl) rfl
set_option maxRecDepth 20000 in
theorem w_136 : Cond.methodLink RX11 346 yX5_kept ∈ wl := tm_5 (List.mem_of_getElem? (i := 221) rfl) rfl
set_option maxRecDepth 20000 in
theorem w_137 : Cond.instanceMethod yX5_kept ∈ wl := tm_5 (List.mem_of_getElem? (i := 222) rfl) rfl
set_option maxRecDepth 20000 in
theorem w_138 : Cond.selects RX5 yX5_kept yX5_kept ∈ wl := tm_5 (List.mem_of_getElem? (i := 223) rfl) rfl
set_option maxRecDepth 20000 in
theorem w_139 : Cond.fieldLink RX11 79 "LostWood" "imageWoods" "[LLostWood$Wood;" ∈ wl := tm_2 (List.mem_of_getElem? (i := 121) rfl) rfl
set_option maxRecDepth 20000 in
theorem w_140 : Cond.methodLink RX11 358 yX5_has ∈ wl := tm_4 (List.mem_of_getElem? (i := 3) rfl) rfl
set_option maxRecDepth 20000 in
theorem w_141 : Cond.lays "LostWoodModel" "LostWoodModel" "thrown" "I" ∈ wl := tm_6 (List.mem_of_getElem? (i := 100) rfl) rfl
set_option maxRecDepth 20000 in
theorem w_142 : Cond.laysFinal "LostWoodModel" "LostWoodModel" "world" "[I" ∈ wl := tm_6 (List.mem_of_getElem? (i := 102) rfl) rfl
set_option maxRecDepth 20000 in
theorem w_143 : Cond.laysFinal "LostWoodModel" "LostWoodModel" "images" "[I" ∈ wl := tm_6 (List.mem_of_getElem? (i := 104) rfl) rfl
set_option maxRecDepth 20000 in
theorem w_144 : Cond.laysFinal "LostWoodModel" "LostWoodModel" "hasImage" "[Z" ∈ wl := tm_6 (List.mem_of_getElem? (i := 106) rfl) rfl
set_option maxRecDepth 20000 in
theorem w_145 : Cond.laysFinal "LostWoodModel" "LostWoodModel" "tape" "[B" ∈ wl := tm_6 (List.mem_of_getElem? (i := 108) rfl) rfl
set_option maxRecDepth 20000 in
theorem w_146 : Cond.lays "LostWoodModel" "LostWoodModel" "taped" "I" ∈ wl := tm_6 (List.mem_of_getElem? (i := 110) rfl) rfl
set_option maxRecDepth 20000 in
theorem w_147 : Cond.laysFinal "LostWoodModel" "LostWoodModel" "five" "[I" ∈ wl := tm_6 (List.mem_of_getElem? (i := 112) rfl) rfl
set_option maxRecDepth 20000 in
theorem w_148 : Cond.lays "LostWoodModel" "LostWoodModel" "size" "I" ∈ wl := tm_6 (List.mem_of_getElem? (i := 114) rfl) rfl
set_option maxRecDepth 20000 in
theorem w_149 : Cond.lays "LostWoodModel" "LostWoodModel" "at" "I" ∈ wl := tm_6 (List.mem_of_getElem? (i := 116) rfl) rfl
set_option maxRecDepth 20000 in
theorem w_150 : Cond.lays "LostWoodModel" "LostWoodModel" "from" "I" ∈ wl := tm_6 (List.mem_of_getElem? (i := 118) rfl) rfl
set_option maxRecDepth 20000 in
theorem w_151 : Cond.lays "LostWoodModel" "LostWoodModel" "token" "I" ∈ wl := tm_6 (List.mem_of_getElem? (i := 120) rfl) rfl
set_option maxRecDepth 20000 in
theorem w_152 : Cond.lays "LostWoodModel" "LostWoodModel" "value" "I" ∈ wl := tm_6 (List.mem_of_getElem? (i := 122) rfl) rfl
set_option maxRecDepth 20000 in
theorem w_153 : Cond.lays "LostWoodModel" "LostWoodModel" "faultKind" "I" ∈ wl := tm_6 (List.mem_of_getElem? (i := 124) rfl) rfl
set_option maxRecDepth 20000 in
theorem w_154 : Cond.lays "LostWoodModel" "LostWoodModel" "faultPlace" "I" ∈ wl := tm_6 (List.mem_of_getElem? (i := 126) rfl) rfl
set_option maxRecDepth 20000 in
theorem w_155 : Cond.laysFinal "LostWoodModel" "LostWoodModel" "fresh" "[I" ∈ wl := tm_6 (List.mem_of_getElem? (i := 128) rfl) rfl
set_option maxRecDepth 20000 in
theorem w_156 : Cond.lays "LostWoodModel" "LostWoodModel" "where" "I" ∈ wl := tm_6 (List.mem_of_getElem? (i := 130) rfl) rfl
set_option maxRecDepth 20000 in
theorem w_157 : Cond.lays "LostWoodModel" "LostWoodModel" "thinks" "I" ∈ wl := tm_6 (List.mem_of_getElem? (i := 132) rfl) rfl
set_option maxRecDepth 20000 in
theorem w_158 : Cond.lays "LostWoodModel" "LostWoodModel" "lies" "I" ∈ wl := tm_6 (List.mem_of_getElem? (i := 134) rfl) rfl
set_option maxRecDepth 20000 in
theorem w_159 : Cond.lays "LostWoodModel" "LostWoodModel" "firstKnows" "I" ∈ wl := tm_6 (List.mem_of_getElem? (i := 136) rfl) rfl
set_option maxRecDepth 20000 in
theorem w_160 : Cond.lays "LostWoodModel" "LostWoodModel" "firstLost" "I" ∈ wl := tm_6 (List.mem_of_getElem? (i := 138) rfl) rfl
set_option maxRecDepth 20000 in
theorem w_161 : Cond.lays "LostWoodModel" "LostWoodModel" "mostDoubt" "I" ∈ wl := tm_6 (List.mem_of_getElem? (i := 140) rfl) rfl
set_option maxRecDepth 20000 in
theorem w_162 : Cond.laysFinal "LostWoodModel" "LostWoodModel" "queue" "[I" ∈ wl := tm_6 (List.mem_of_getElem? (i := 142) rfl) rfl
set_option maxRecDepth 20000 in
theorem w_163 : Cond.laysFinal "LostWoodModel" "LostWoodModel" "farOf" "[I" ∈ wl := tm_6 (List.mem_of_getElem? (i := 144) rfl) rfl
set_option maxRecDepth 20000 in
theorem w_164 : Cond.laysFinal "LostWoodModel" "LostWoodModel" "cameBy" "[I" ∈ wl := tm_6 (List.mem_of_getElem? (i := 146) rfl) rfl
set_option maxRecDepth 20000 in
theorem w_165 : Cond.laysFinal "LostWoodModel" "LostWoodModel" "cameFrom" "[I" ∈ wl := tm_6 (List.mem_of_getElem? (i := 148) rfl) rfl
set_option maxRecDepth 20000 in
theorem w_166 : Cond.lays "LostWoodModel" "LostWoodModel" "queued" "I" ∈ wl := tm_6 (List.mem_of_getElem? (i := 150) rfl) rfl
set_option maxRecDepth 20000 in
theorem w_167 : Cond.laysFinal "LostWoodModel" "LostWoodModel" "depth" "[I" ∈ wl := tm_6 (List.mem_of_getElem? (i := 152) rfl) rfl
set_option maxRecDepth 20000 in
theorem w_168 : Cond.laysFinal "LostWoodModel" "LostWoodModel" "kind" "[I" ∈ wl := tm_6 (List.mem_of_getElem? (i := 154) rfl) rfl
set_option maxRecDepth 20000 in
theorem w_169 : Cond.laysFinal "LostWoodModel" "LostWoodModel" "kindThen" "[I" ∈ wl := tm_6 (List.mem_of_getElem? (i := 156) rfl) rfl
set_option maxRecDepth 20000 in
theorem w_170 : Cond.laysFinal "LostWoodModel" "LostWoodModel" "twos" "[I" ∈ wl := tm_6 (List.mem_of_getElem? (i := 158) rfl) rfl
set_option maxRecDepth 20000 in
theorem w_171 : Cond.laysFinal "LostWoodModel" "LostWoodModel" "twoFar" "[I" ∈ wl := tm_6 (List.mem_of_getElem? (i := 160) rfl) rfl
set_option maxRecDepth 20000 in
theorem w_172 : Cond.laysFinal "LostWoodModel" "LostWoodModel" "twoBy" "[I" ∈ wl := tm_6 (List.mem_of_getElem? (i := 162) rfl) rfl
set_option maxRecDepth 20000 in
theorem w_173 : Cond.laysFinal "LostWoodModel" "LostWoodModel" "twoFrom" "[I" ∈ wl := tm_6 (List.mem_of_getElem? (i := 164) rfl) rfl
set_option maxRecDepth 20000 in
theorem w_174 : Cond.laysFinal "LostWoodModel" "LostWoodModel" "setQueue" "[I" ∈ wl := tm_6 (List.mem_of_getElem? (i := 166) rfl) rfl
set_option maxRecDepth 20000 in
theorem w_175 : Cond.laysFinal "LostWoodModel" "LostWoodModel" "setFar" "[I" ∈ wl := tm_6 (List.mem_of_getElem? (i := 168) rfl) rfl
set_option maxRecDepth 20000 in
theorem w_176 : Cond.laysFinal "LostWoodModel" "LostWoodModel" "setBy" "[I" ∈ wl := tm_6 (List.mem_of_getElem? (i := 170) rfl) rfl
set_option maxRecDepth 20000 in
theorem w_177 : Cond.laysFinal "LostWoodModel" "LostWoodModel" "setFrom" "[I" ∈ wl := tm_6 (List.mem_of_getElem? (i := 172) rfl) rfl
set_option maxRecDepth 20000 in
theorem w_178 : Cond.lays "LostWoodModel" "LostWoodModel" "setQueued" "I" ∈ wl := tm_6 (List.mem_of_getElem? (i := 174) rfl) rfl
set_option maxRecDepth 20000 in
theorem w_179 : Cond.lays "LostWoodModel" "LostWoodModel" "meetSteps" "I" ∈ wl := tm_6 (List.mem_of_getElem? (i := 176) rfl) rfl
set_option maxRecDepth 20000 in
theorem w_180 : Cond.lays "LostWoodModel" "LostWoodModel" "meetSet" "I" ∈ wl := tm_6 (List.mem_of_getElem? (i := 178) rfl) rfl
set_option maxRecDepth 20000 in
theorem w_181 : Cond.laysFinal "LostWoodModel" "LostWoodModel" "order" "[I" ∈ wl := tm_6 (List.mem_of_getElem? (i := 180) rfl) rfl
set_option maxRecDepth 20000 in
theorem w_182 : Cond.laysFinal "LostWoodModel" "LostWoodModel" "bestOrder" "[I" ∈ wl := tm_6 (List.mem_of_getElem? (i := 182) rfl) rfl
set_option maxRecDepth 20000 in
theorem w_183 : Cond.laysFinal "LostWoodModel" "LostWoodModel" "kept" "[I" ∈ wl := tm_6 (List.mem_of_getElem? (i := 184) rfl) rfl
set_option maxRecDepth 20000 in
theorem w_184 : Cond.lays "LostWoodModel" "LostWoodModel" "courseMost" "I" ∈ wl := tm_6 (List.mem_of_getElem? (i := 186) rfl) rfl
set_option maxRecDepth 20000 in
theorem w_185 : Cond.lays "LostWoodModel" "LostWoodModel" "courseLeast" "I" ∈ wl := tm_6 (List.mem_of_getElem? (i := 188) rfl) rfl
set_option maxRecDepth 20000 in
theorem w_186 : Cond.laysFinal "LostWoodModel" "LostWoodModel" "cost" "[I" ∈ wl := tm_6 (List.mem_of_getElem? (i := 190) rfl) rfl
set_option maxRecDepth 20000 in
theorem w_187 : Cond.laysFinal "LostWoodModel" "LostWoodModel" "rows" "[I" ∈ wl := tm_6 (List.mem_of_getElem? (i := 192) rfl) rfl
set_option maxRecDepth 20000 in
theorem w_188 : Cond.laysFinal "LostWoodModel" "LostWoodModel" "rowsThen" "[I" ∈ wl := tm_6 (List.mem_of_getElem? (i := 194) rfl) rfl
set_option maxRecDepth 20000 in
theorem w_189 : Cond.lays "LostWoodModel" "LostWoodModel" "knewOften" "I" ∈ wl := tm_6 (List.mem_of_getElem? (i := 196) rfl) rfl
set_option maxRecDepth 20000 in
theorem w_190 : Cond.laysFinal "LostWoodModel" "LostWoodModel" "many" "[I" ∈ wl := tm_6 (List.mem_of_getElem? (i := 198) rfl) rfl
set_option maxRecDepth 20000 in
theorem w_191 : Cond.laysFinal "LostWoodModel" "LostWoodModel" "width" "[I" ∈ wl := tm_6 (List.mem_of_getElem? (i := 200) rfl) rfl
set_option maxRecDepth 20000 in
theorem w_192 : Cond.laysFinal "LostWoodModel" "LostWoodModel" "numbers" "[J" ∈ wl := tm_6 (List.mem_of_getElem? (i := 202) rfl) rfl
set_option maxRecDepth 20000 in
theorem w_193 : Cond.laysFinal "LostWoodModel" "LostWoodModel" "moving" "[J" ∈ wl := tm_6 (List.mem_of_getElem? (i := 204) rfl) rfl
set_option maxRecDepth 20000 in
theorem w_194 : Cond.fieldLink RX12 9 "LostWoodModel" "world" "[I" ∈ wl := tm_6 (List.mem_of_getElem? (i := 48) rfl) rfl
set_option maxRecDepth 20000 in
theorem w_195 : Cond.code yX12_in cX12_in 6 (some .boolean) ∈ wl := tm_6 (List.mem_of_getElem? (i := 215) rfl) rfl
set_option maxRecDepth 20000 in
theorem w_196 : Cond.initialized RX12 ∈ wl := tm_1 (List.mem_of_getElem? (i := 15) rfl) rfl
set_option maxRecDepth 20000 in
theorem w_197 : Cond.methodLink RX12 115 yX12_in ∈ wl := tm_6 (List.mem_of_getElem? (i := 213) rfl) rfl
set_option maxRecDepth 20000 in
theorem w_198 : Cond.static yX12_in ∈ wl := tm_6 (List.mem_of_getElem? (i := 214) rfl) rfl
set_option maxRecDepth 20000 in
theorem w_199 : Cond.code yX12_isPlace cX12_isPlace 3 (some .boolean) ∈ wl := tm_7 (List.mem_of_getElem? (i := 100) rfl) rfl
set_option maxRecDepth 20000 in
theorem w_200 : Cond.methodLink RX12 119 yX12_isPlace ∈ wl := tm_7 (List.mem_of_getElem? (i := 97) rfl) rfl
set_option maxRecDepth 20000 in
theorem w_201 : Cond.instanceMethod yX12_isPlace ∈ wl := tm_7 (List.mem_of_getElem? (i := 99) rfl) rfl
set_option maxRecDepth 20000 in
theorem w_202 : Cond.selects RX12 yX12_isPlace yX12_isPlace ∈ wl := tp_4 (q := (yX12_isPlace, 53)) (List.mem_of_getElem? (i := 8) rfl)
set_option maxRecDepth 20000 in
theorem w_203 : Cond.constantLong RX12 123 (3) ∈ wl := tm_7 (List.mem_of_getElem? (i := 104) rfl) rfl
set_option maxRecDepth 20000 in
theorem w_204 : Cond.code yX12_isWood cX12_isWood 1 (some .boolean) ∈ wl := tm_7 (List.mem_of_getElem? (i := 128) rfl) rfl
set_option maxRecDepth 20000 in
theorem w_205 : Cond.methodLink RX12 125 yX12_isWood ∈ wl := tm_7 (List.mem_of_getElem? (i := 125) rfl) rfl
set_option maxRecDepth 20000 in
theorem w_206 : Cond.instanceMethod yX12_isWood ∈ wl := tm_7 (List.mem_of_getElem? (i := 127) rfl) rfl
set_option maxRecDepth 20000 in
theorem w_207 : Cond.selects RX12 yX12_isWood yX12_isWood ∈ wl := tp_4 (q := (yX12_isWood, 53)) (List.mem_of_getElem? (i := 12) rfl)
set_option maxRecDepth 20000 in
theorem w_208 : Cond.code yX12_isSlot cX12_isSlot 1 (some .boolean) ∈ wl := tm_7 (List.mem_of_getElem? (i := 231) rfl) rfl
set_option maxRecDepth 20000 in
theorem w_209 : Cond.methodLink RX12 334 yX12_isSlot ∈ wl := tm_7 (List.mem_of_getElem? (i := 229) rfl) rfl
set_option maxRecDepth 20000 in
theorem w_210 : Cond.static yX12_isSlot ∈ wl := tm_7 (List.mem_of_getElem? (i := 230) rfl) rfl
set_option maxRecDepth 20000 in
theorem w_211 : Cond.code yX12_isPupil cX12_isPupil 2 (some .boolean) ∈ wl := tm_7 (List.mem_of_getElem? (i := 156) rfl) rfl
set_option maxRecDepth 20000 in
theorem w_212 : Cond.methodLink RX12 310 yX12_isPupil ∈ wl := tm_7 (List.mem_of_getElem? (i := 153) rfl) rfl
set_option maxRecDepth 20000 in
theorem w_213 : Cond.instanceMethod yX12_isPupil ∈ wl := tm_7 (List.mem_of_getElem? (i := 155) rfl) rfl
set_option maxRecDepth 20000 in
theorem w_214 : Cond.selects RX12 yX12_isPupil yX12_isPupil ∈ wl := tp_5 (q := (yX12_isPupil, 53)) (List.mem_of_getElem? (i := 0) rfl)
set_option maxRecDepth 20000 in
theorem w_215 : Cond.constantLong RX12 481 (2000000000) ∈ wl := tm_9 (List.mem_of_getElem? (i := 46) rfl) rfl
set_option maxRecDepth 20000 in
theorem w_216 : Cond.code yX12_isSet cX12_isSet 2 (some .boolean) ∈ wl := tm_7 (List.mem_of_getElem? (i := 124) rfl) rfl
set_option maxRecDepth 20000 in
theorem w_217 : Cond.methodLink RX12 282 yX12_isSet ∈ wl := tm_7 (List.mem_of_getElem? (i := 121) rfl) rfl
set_option maxRecDepth 20000 in
theorem w_218 : Cond.instanceMethod yX12_isSet ∈ wl := tm_7 (List.mem_of_getElem? (i := 123) rfl) rfl
set_option maxRecDepth 20000 in
theorem w_219 : Cond.selects RX12 yX12_isSet yX12_isSet ∈ wl := tp_4 (q := (yX12_isSet, 53)) (List.mem_of_getElem? (i := 11) rfl)
set_option maxRecDepth 20000 in
theorem w_220 : Cond.code yX12_asksWalk cX12_asksWalk 4 (some .int) ∈ wl := tm_7 (List.mem_of_getElem? (i := 228) rfl) rfl
set_option maxRecDepth 20000 in
theorem w_221 : Cond.methodLink RX12 353 yX12_asksWalk ∈ wl := tm_7 (List.mem_of_getElem? (i := 225) rfl) rfl
set_option maxRecDepth 20000 in
theorem w_222 : Cond.instanceMethod yX12_asksWalk ∈ wl := tm_7 (List.mem_of_getElem? (i := 227) rfl) rfl
set_option maxRecDepth 20000 in
theorem w_223 : Cond.selects RX12 yX12_asksWalk yX12_asksWalk ∈ wl := tp_5 (q := (yX12_asksWalk, 53)) (List.mem_of_getElem? (i := 9) rfl)
set_option maxRecDepth 20000 in
theorem w_224 : Cond.code yX12_areTwo cX12_areTwo 3 (some .boolean) ∈ wl := tm_8 (List.mem_of_getElem? (i := 100) rfl) rfl
set_option maxRecDepth 20000 in
theorem w_225 : Cond.methodLink RX12 394 yX12_areTwo ∈ wl := tm_8 (List.mem_of_getElem? (i := 97) rfl) rfl
set_option maxRecDepth 20000 in
theorem w_226 : Cond.instanceMethod yX12_areTwo ∈ wl := tm_8 (List.mem_of_getElem? (i := 99) rfl) rfl
set_option maxRecDepth 20000 in
theorem w_227 : Cond.selects RX12 yX12_areTwo yX12_areTwo ∈ wl := tp_6 (q := (yX12_areTwo, 53)) (List.mem_of_getElem? (i := 5) rfl)
set_option maxRecDepth 20000 in
theorem w_228 : Cond.code yX12_asksRead cX12_asksRead 3 (some .int) ∈ wl := tm_8 (List.mem_of_getElem? (i := 176) rfl) rfl
set_option maxRecDepth 20000 in
theorem w_229 : Cond.methodLink RX12 426 yX12_asksRead ∈ wl := tm_8 (List.mem_of_getElem? (i := 173) rfl) rfl
set_option maxRecDepth 20000 in
theorem w_230 : Cond.instanceMethod yX12_asksRead ∈ wl := tm_8 (List.mem_of_getElem? (i := 175) rfl) rfl
set_option maxRecDepth 20000 in
theorem w_231 : Cond.selects RX12 yX12_asksRead yX12_asksRead ∈ wl := tp_6 (q := (yX12_asksRead, 53)) (List.mem_of_getElem? (i := 13) rfl)
set_option maxRecDepth 20000 in
theorem w_232 : Cond.code yX12_isDrawn cX12_isDrawn 4 (some .boolean) ∈ wl := tm_9 (List.mem_of_getElem? (i := 45) rfl) rfl
set_option maxRecDepth 20000 in
theorem w_233 : Cond.methodLink RX12 485 yX12_isDrawn ∈ wl := tm_9 (List.mem_of_getElem? (i := 42) rfl) rfl
set_option maxRecDepth 20000 in
theorem w_234 : Cond.instanceMethod yX12_isDrawn ∈ wl := tm_9 (List.mem_of_getElem? (i := 44) rfl) rfl
set_option maxRecDepth 20000 in
theorem w_235 : Cond.selects RX12 yX12_isDrawn yX12_isDrawn ∈ wl := tp_7 (q := (yX12_isDrawn, 53)) (List.mem_of_getElem? (i := 8) rfl)
set_option maxRecDepth 20000 in
theorem w_236 : Cond.fieldLink RX12 27 "LostWoodModel" "faultPlace" "I" ∈ wl := tm_6 (List.mem_of_getElem? (i := 60) rfl) rfl
set_option maxRecDepth 20000 in
theorem w_237 : Cond.fieldLink RX12 170 "LostWoodModel" "faultKind" "I" ∈ wl := tm_6 (List.mem_of_getElem? (i := 59) rfl) rfl
set_option maxRecDepth 20000 in
theorem w_238 : Cond.fieldLink RX12 133 "LostWoodModel" "taped" "I" ∈ wl := tm_6 (List.mem_of_getElem? (i := 52) rfl) rfl
set_option maxRecDepth 20000 in
theorem w_239 : Cond.fieldLink RX12 97 "LostWoodModel" "many" "[I" ∈ wl := tm_6 (List.mem_of_getElem? (i := 96) rfl) rfl
set_option maxRecDepth 20000 in
theorem w_240 : Cond.constantLong RX12 113 (2) ∈ wl := tm_6 (List.mem_of_getElem? (i := 212) rfl) rfl
set_option maxRecDepth 20000 in
theorem w_241 : Cond.fieldLink RX12 16 "LostWoodModel" "hasImage" "[Z" ∈ wl := tm_6 (List.mem_of_getElem? (i := 50) rfl) rfl
set_option maxRecDepth 20000 in
theorem in_X10 : ∀ w ∈ wsX100, w ∈ wl := List.forall_mem_cons.mpr ⟨w_4, List.forall_mem_cons.mpr ⟨w_5, List.forall_mem_cons.mpr ⟨w_6, List.forall_mem_cons.mpr ⟨w_7, List.forall_mem_cons.mpr ⟨w_8, List.forall_mem_cons.mpr ⟨w_9, List.forall_mem_cons.mpr ⟨w_10, List.forall_mem_cons.mpr ⟨w_11, List.forall_mem_cons.mpr ⟨w_12, List.forall_mem_cons.mpr ⟨w_13, List.forall_mem_cons.mpr ⟨w_14, List.forall_mem_cons.mpr ⟨w_15, fun _ h => absurd h List.not_mem_nil⟩⟩⟩⟩⟩⟩⟩⟩⟩⟩⟩⟩
set_option maxRecDepth 20000 in
theorem in_X5 : ∀ w ∈ wsX50, w ∈ wl := List.forall_mem_cons.mpr ⟨w_31, List.forall_mem_cons.mpr ⟨w_32, List.forall_mem_cons.mpr ⟨w_33, fun _ h => absurd h List.not_mem_nil⟩⟩⟩
set_option maxRecDepth 20000 in
theorem in_X11 : ∀ w ∈ wsX110, w ∈ wl := List.forall_mem_cons.mpr ⟨w_40, List.forall_mem_cons.mpr ⟨w_41, List.forall_mem_cons.mpr ⟨w_42, List.forall_mem_cons.mpr ⟨w_43, List.forall_mem_cons.mpr ⟨w_44, List.forall_mem_cons.mpr ⟨w_45, List.forall_mem_cons.mpr ⟨w_46, List.forall_mem_cons.mpr ⟨w_47, List.forall_mem_cons.mpr ⟨w_48, List.forall_mem_cons.mpr ⟨w_49, List.forall_mem_cons.mpr ⟨w_50, List.forall_mem_cons.mpr ⟨w_51, fun _ h => absurd h List.not_mem_nil⟩⟩⟩⟩⟩⟩⟩⟩⟩⟩⟩⟩
set_option maxRecDepth 20000 in
theorem in_X4 : ∀ w ∈ wsX40, w ∈ wl := List.forall_mem_cons.mpr ⟨w_97, List.forall_mem_cons.mpr ⟨w_98, List.forall_mem_cons.mpr ⟨w_99, List.forall_mem_cons.mpr ⟨w_100, List.forall_mem_cons.mpr ⟨w_101, List.forall_mem_cons.mpr ⟨w_102, List.forall_mem_cons.mpr ⟨w_103, List.forall_mem_cons.mpr ⟨w_104, List.forall_mem_cons.mpr ⟨w_105, List.forall_mem_cons.mpr ⟨w_106, fun _ h => absurd h List.not_mem_nil⟩⟩⟩⟩⟩⟩⟩⟩⟩⟩
set_option maxRecDepth 20000 in
theorem in_X2 : ∀ w ∈ wsX20, w ∈ wl := List.forall_mem_cons.mpr ⟨w_127, List.forall_mem_cons.mpr ⟨w_128, List.forall_mem_cons.mpr ⟨w_129, List.forall_mem_cons.mpr ⟨w_130, List.forall_mem_cons.mpr ⟨w_131, List.forall_mem_cons.mpr ⟨w_132, fun _ h => absurd h List.not_mem_nil⟩⟩⟩⟩⟩⟩
set_option maxRecDepth 20000 in
theorem in_X12 : ∀ w ∈ wsX120, w ∈ wl := List.forall_mem_cons.mpr ⟨w_141, List.forall_mem_cons.mpr ⟨w_142, List.forall_mem_cons.mpr ⟨w_143, List.forall_mem_cons.mpr ⟨w_144, List.forall_mem_cons.mpr ⟨w_145, List.forall_mem_cons.mpr ⟨w_146, List.forall_mem_cons.mpr ⟨w_147, List.forall_mem_cons.mpr ⟨w_148, List.forall_mem_cons.mpr ⟨w_149, List.forall_mem_cons.mpr ⟨w_150, List.forall_mem_cons.mpr ⟨w_151, List.forall_mem_cons.mpr ⟨w_152, List.forall_mem_cons.mpr ⟨w_153, List.forall_mem_cons.mpr ⟨w_154, List.forall_mem_cons.mpr ⟨w_155, List.forall_mem_cons.mpr ⟨w_156, List.forall_mem_cons.mpr ⟨w_157, List.forall_mem_cons.mpr ⟨w_158, List.forall_mem_cons.mpr ⟨w_159, List.forall_mem_cons.mpr ⟨w_160, List.forall_mem_cons.mpr ⟨w_161, List.forall_mem_cons.mpr ⟨w_162, List.forall_mem_cons.mpr ⟨w_163, List.forall_mem_cons.mpr ⟨w_164, List.forall_mem_cons.mpr ⟨w_165, List.forall_mem_cons.mpr ⟨w_166, List.forall_mem_cons.mpr ⟨w_167, List.forall_mem_cons.mpr ⟨w_168, List.forall_mem_cons.mpr ⟨w_169, List.forall_mem_cons.mpr ⟨w_170, List.forall_mem_cons.mpr ⟨w_171, List.forall_mem_cons.mpr ⟨w_172, List.forall_mem_cons.mpr ⟨w_173, List.forall_mem_cons.mpr ⟨w_174, List.forall_mem_cons.mpr ⟨w_175, List.forall_mem_cons.mpr ⟨w_176, List.forall_mem_cons.mpr ⟨w_177, List.forall_mem_cons.mpr ⟨w_178, List.forall_mem_cons.mpr ⟨w_179, List.forall_mem_cons.mpr ⟨w_180, List.forall_mem_cons.mpr ⟨w_181, List.forall_mem_cons.mpr ⟨w_182, List.forall_mem_cons.mpr ⟨w_183, List.forall_mem_cons.mpr ⟨w_184, List.forall_mem_cons.mpr ⟨w_185, List.forall_mem_cons.mpr ⟨w_186, List.forall_mem_cons.mpr ⟨w_187, List.forall_mem_cons.mpr ⟨w_188, List.forall_mem_cons.mpr ⟨w_189, List.forall_mem_cons.mpr ⟨w_190, List.forall_mem_cons.mpr ⟨w_191, List.forall_mem_cons.mpr ⟨w_192, List.forall_mem_cons.mpr ⟨w_193, fun _ h => absurd h List.not_mem_nil⟩⟩⟩⟩⟩⟩⟩⟩⟩⟩⟩⟩⟩⟩⟩⟩⟩⟩⟩⟩⟩⟩⟩⟩⟩⟩⟩⟩⟩⟩⟩⟩⟩⟩⟩⟩⟩⟩⟩⟩⟩⟩⟩⟩⟩⟩⟩⟩⟩⟩⟩⟩⟩
set_option maxRecDepth 20000 in
theorem kd_X10_all : okD yX10_all 0 := by decide +kernel
set_option maxRecDepth 20000 in
theorem kd_X10_showing : okD yX10_showing 2 := by decide +kernel
set_option maxRecDepth 20000 in
theorem kd_X11_isSlot : okD yX11_isSlot 1 := by decide +kernel
set_option maxRecDepth 20000 in
theorem kd_X5_has : okD yX5_has 1 := by decide +kernel
set_option maxRecDepth 20000 in
theorem kd_X10_hasPlace : okD yX10_hasPlace 1 := by decide +kernel
set_option maxRecDepth 20000 in
theorem kd_X10_hasPupil : okD yX10_hasPupil 1 := by decide +kernel
set_option maxRecDepth 20000 in
theorem kd_X11_stand : okD yX11_stand 1 := by decide +kernel
set_option maxRecDepth 20000 in
theorem kd_X10_stands : okD yX10_stands 0 := by decide +kernel
set_option maxRecDepth 20000 in
theorem kd_X10_hasSet : okD yX10_hasSet 1 := by decide +kernel
set_option maxRecDepth 20000 in
theorem kd_X11_isWind : okD yX11_isWind 1 := by decide +kernel
set_option maxRecDepth 20000 in
theorem kd_X11_refuseWalk : okD yX11_refuseWalk 2 := by decide +kernel
set_option maxRecDepth 20000 in
theorem kd_X11_seek : okD yX11_seek 3 := by decide +kernel
set_option maxRecDepth 20000 in
theorem kd_X11_arePlaces : okD yX11_arePlaces 2 := by decide +kernel
set_option maxRecDepth 20000 in
theorem kd_X11_refuseReading : okD yX11_refuseReading 1 := by decide +kernel
set_option maxRecDepth 20000 in
theorem kd_X11_isDraw : okD yX11_isDraw 2 := by decide +kernel
set_option maxRecDepth 20000 in
theorem kd_X10_waysElsewhere : okD yX10_waysElsewhere 0 := by decide +kernel
set_option maxRecDepth 20000 in
theorem kd_X10_marked : okD yX10_marked 0 := by decide +kernel
set_option maxRecDepth 20000 in
theorem kd_J6_bitCount_0f7a4 : okD yJ6_bitCount_0f7a4 1 := by decide +kernel
set_option maxRecDepth 20000 in
theorem kd_X5_kept : okD yX5_kept 0 := by decide +kernel
set_option maxRecDepth 20000 in
theorem kd_X12_in : okD yX12_in 3 := by decide +kernel
set_option maxRecDepth 20000 in
theorem kd_X12_isPlace : okD yX12_isPlace 1 := by decide +kernel
set_option maxRecDepth 20000 in
theorem kd_X12_isWood : okD yX12_isWood 0 := by decide +kernel
set_option maxRecDepth 20000 in
theorem kd_X12_isSlot : okD yX12_isSlot 1 := by decide +kernel
set_option maxRecDepth 20000 in
theorem kd_X12_isPupil : okD yX12_isPupil 1 := by decide +kernel
set_option maxRecDepth 20000 in
theorem kd_X12_isSet : okD yX12_isSet 1 := by decide +kernel
set_option maxRecDepth 20000 in
theorem kd_X12_asksWalk : okD yX12_asksWalk 2 := by decide +kernel
set_option maxRecDepth 20000 in
theorem kd_X12_areTwo : okD yX12_areTwo 2 := by decide +kernel
set_option maxRecDepth 20000 in
theorem kd_X12_asksRead : okD yX12_asksRead 1 := by decide +kernel
set_option maxRecDepth 20000 in
theorem kd_X12_isDrawn : okD yX12_isDrawn 3 := by decide +kernel
set_option maxRecDepth 20000 in
theorem kV_X10_61 : okV RX10 61 yX10_all cX10_all 1 (some .int) 0 := ⟨⟨w_21, w_19, w_20, kd_X10_all⟩, w_22, w_23⟩
set_option maxRecDepth 20000 in
theorem kV_X10_76 : okV RX10 76 yX10_showing cX10_showing 5 (some .int) 2 := ⟨⟨w_25, w_24, w_20, kd_X10_showing⟩, w_26, w_27⟩
set_option maxRecDepth 20000 in
theorem kSN_X5_28 : okSN RX5 28 yX11_isSlot RX11 cX11_isSlot 1 (some .boolean) 1 := ⟨⟨List.mem_of_getElem? (i := 12) rfl, w_28, w_29, kd_X11_isSlot⟩, w_30⟩
set_option maxRecDepth 20000 in
theorem kV_X5_35 : okV RX5 35 yX5_has cX5_has 2 (some .boolean) 1 := ⟨⟨w_37, w_35, w_36, kd_X5_has⟩, w_38, w_39⟩
set_option maxRecDepth 20000 in
theorem kV_X11_126 : okV RX11 126 yX10_hasPlace cX10_hasPlace 2 (some .boolean) 1 := ⟨⟨w_54, w_53, w_20, kd_X10_hasPlace⟩, w_55, w_56⟩
set_option maxRecDepth 20000 in
theorem kV_X11_334 : okV RX11 334 yX10_hasPupil cX10_hasPupil 2 (some .boolean) 1 := ⟨⟨w_58, w_57, w_20, kd_X10_hasPupil⟩, w_59, w_60⟩
set_option maxRecDepth 20000 in
theorem kS_X11_352 : okS RX11 352 yX11_isSlot cX11_isSlot 1 (some .boolean) 1 := ⟨⟨w_61, w_28, w_29, kd_X11_isSlot⟩, w_30⟩
set_option maxRecDepth 20000 in
theorem kV_X11_152 : okV RX11 152 yX11_stand cX11_stand 2 (some .boolean) 1 := ⟨⟨w_63, w_62, w_29, kd_X11_stand⟩, w_64, w_65⟩
set_option maxRecDepth 20000 in
theorem kV_X11_185 : okV RX11 185 yX10_stands cX10_stands 1 (some .boolean) 0 := ⟨⟨w_67, w_66, w_20, kd_X10_stands⟩, w_68, w_69⟩
set_option maxRecDepth 20000 in
theorem kV_X11_140 : okV RX11 140 yX10_hasSet cX10_hasSet 2 (some .boolean) 1 := ⟨⟨w_71, w_70, w_20, kd_X10_hasSet⟩, w_72, w_73⟩
set_option maxRecDepth 20000 in
theorem kS_X11_129 : okS RX11 129 yX11_isWind cX11_isWind 1 (some .boolean) 1 := ⟨⟨w_75, w_74, w_29, kd_X11_isWind⟩, w_76⟩
set_option maxRecDepth 20000 in
theorem kV_X11_191 : okV RX11 191 yX11_refuseWalk cX11_refuseWalk 4 (some .int) 2 := ⟨⟨w_78, w_77, w_29, kd_X11_refuseWalk⟩, w_79, w_80⟩
set_option maxRecDepth 20000 in
theorem kV_X11_212 : okV RX11 212 yX11_seek cX11_seek 4 (some .boolean) 3 := ⟨⟨w_82, w_81, w_29, kd_X11_seek⟩, w_83, w_84⟩
set_option maxRecDepth 20000 in
theorem kV_X11_236 : okV RX11 236 yX11_arePlaces cX11_arePlaces 3 (some .boolean) 2 := ⟨⟨w_86, w_85, w_29, kd_X11_arePlaces⟩, w_87, w_88⟩
set_option maxRecDepth 20000 in
theorem kV_X11_269 : okV RX11 269 yX11_refuseReading cX11_refuseReading 3 (some .int) 1 := ⟨⟨w_90, w_89, w_29, kd_X11_refuseReading⟩, w_91, w_92⟩
set_option maxRecDepth 20000 in
theorem kS_X11_328 : okS RX11 328 yX11_isDraw cX11_isDraw 2 (some .boolean) 2 := ⟨⟨w_94, w_93, w_29, kd_X11_isDraw⟩, w_95⟩
set_option maxRecDepth 20000 in
theorem kV_X11_337 : okV RX11 337 yX10_waysElsewhere cX10_waysElsewhere 4 (some .int) 0 := ⟨⟨w_111, w_110, w_20, kd_X10_waysElsewhere⟩, w_112, w_113⟩
set_option maxRecDepth 20000 in
theorem kV_X11_340 : okV RX11 340 yX10_marked cX10_marked 1 (some .int) 0 := ⟨⟨w_115, w_114, w_20, kd_X10_marked⟩, w_116, w_117⟩
set_option maxRecDepth 20000 in
theorem kS_X11_251 : okS RX11 251 yJ6_bitCount_0f7a4 cJ6_bitCount_0f7a4 1 (some .int) 1 := ⟨⟨w_120, w_118, w_119, kd_J6_bitCount_0f7a4⟩, w_121⟩
set_option maxRecDepth 20000 in
theorem kV_X11_346 : okV RX11 346 yX5_kept cX5_kept 3 (some .int) 0 := ⟨⟨w_136, w_135, w_36, kd_X5_kept⟩, w_137, w_138⟩
set_option maxRecDepth 20000 in
theorem kV_X11_358 : okV RX11 358 yX5_has cX5_has 2 (some .boolean) 1 := ⟨⟨w_140, w_35, w_36, kd_X5_has⟩, w_38, w_39⟩
set_option maxRecDepth 20000 in
theorem kS_X12_115 : okS RX12 115 yX12_in cX12_in 6 (some .boolean) 3 := ⟨⟨w_197, w_195, w_196, kd_X12_in⟩, w_198⟩
set_option maxRecDepth 20000 in
theorem kV_X12_119 : okV RX12 119 yX12_isPlace cX12_isPlace 3 (some .boolean) 1 := ⟨⟨w_200, w_199, w_196, kd_X12_isPlace⟩, w_201, w_202⟩
set_option maxRecDepth 20000 in
theorem kV_X12_125 : okV RX12 125 yX12_isWood cX12_isWood 1 (some .boolean) 0 := ⟨⟨w_205, w_204, w_196, kd_X12_isWood⟩, w_206, w_207⟩
set_option maxRecDepth 20000 in
theorem kS_X12_334 : okS RX12 334 yX12_isSlot cX12_isSlot 1 (some .boolean) 1 := ⟨⟨w_209, w_208, w_196, kd_X12_isSlot⟩, w_210⟩
set_option maxRecDepth 20000 in
theorem kV_X12_310 : okV RX12 310 yX12_isPupil cX12_isPupil 2 (some .boolean) 1 := ⟨⟨w_212, w_211, w_196, kd_X12_isPupil⟩, w_213, w_214⟩
set_option maxRecDepth 20000 in
theorem kV_X12_282 : okV RX12 282 yX12_isSet cX12_isSet 2 (some .boolean) 1 := ⟨⟨w_217, w_216, w_196, kd_X12_isSet⟩, w_218, w_219⟩
set_option maxRecDepth 20000 in
theorem kV_X12_353 : okV RX12 353 yX12_asksWalk cX12_asksWalk 4 (some .int) 2 := ⟨⟨w_221, w_220, w_196, kd_X12_asksWalk⟩, w_222, w_223⟩
set_option maxRecDepth 20000 in
theorem kV_X12_394 : okV RX12 394 yX12_areTwo cX12_areTwo 3 (some .boolean) 2 := ⟨⟨w_225, w_224, w_196, kd_X12_areTwo⟩, w_226, w_227⟩
set_option maxRecDepth 20000 in
theorem kV_X12_426 : okV RX12 426 yX12_asksRead cX12_asksRead 3 (some .int) 1 := ⟨⟨w_229, w_228, w_196, kd_X12_asksRead⟩, w_230, w_231⟩
set_option maxRecDepth 20000 in
theorem kV_X12_485 : okV RX12 485 yX12_isDrawn cX12_isDrawn 4 (some .boolean) 3 := ⟨⟨w_233, w_232, w_196, kd_X12_isDrawn⟩, w_234, w_235⟩
