set_option maxRecDepth 20000 in
theorem w_0 : Cond.constant RX11 375 (2000000000) ∈ wl := tm_5 (List.mem_of_getElem? (i := 200) rfl) rfl
set_option maxRecDepth 20000 in
theorem w_1 : Cond.constant RJ6 265 (1431655765) ∈ wl := tm_3 (List.mem_of_getElem? (i := 180) rfl) rfl
set_option maxRecDepth 20000 in
theorem w_2 : Cond.constant RJ6 266 (858993459) ∈ wl := tm_3 (List.mem_of_getElem? (i := 181) rfl) rfl
set_option maxRecDepth 20000 in
theorem w_3 : Cond.constant RJ6 267 (252645135) ∈ wl := tm_3 (List.mem_of_getElem? (i := 182) rfl) rfl
set_option maxRecDepth 20000 in
theorem w_4 : Cond.constant RJ6 264 (65536) ∈ wl := tm_4 (List.mem_of_getElem? (i := 170) rfl) rfl
set_option maxRecDepth 20000 in
theorem w_5 : Cond.code yJ6_numberOfTrailingZeros_0f7a4 cJ6_numberOfTrailingZeros_0f7a4 2 (some .int) ∈ wl := tm_4 (List.mem_of_getElem? (i := 169) rfl) rfl
set_option maxRecDepth 20000 in
theorem w_6 : Cond.initialized "java/lang/Integer" ∈ wl := tm_1 (List.mem_of_getElem? (i := 21) rfl) rfl
set_option maxRecDepth 20000 in
theorem w_7 : Cond.methodLink RX11 314 yJ6_numberOfTrailingZeros_0f7a4 ∈ wl := tm_4 (List.mem_of_getElem? (i := 167) rfl) rfl
set_option maxRecDepth 20000 in
theorem w_8 : Cond.static yJ6_numberOfTrailingZeros_0f7a4 ∈ wl := tm_4 (List.mem_of_getElem? (i := 168) rfl) rfl
set_option maxRecDepth 20000 in
theorem w_9 : Cond.laysFinal "LostWood$Wood" "LostWood$Wood" "ways" "[I" ∈ wl := tm_1 (List.mem_of_getElem? (i := 71) rfl) rfl
set_option maxRecDepth 20000 in
theorem w_10 : Cond.laysFinal "LostWood$Wood" "LostWood$Wood" "signs" "[I" ∈ wl := tm_1 (List.mem_of_getElem? (i := 73) rfl) rfl
set_option maxRecDepth 20000 in
theorem w_11 : Cond.laysFinal "LostWood$Wood" "LostWood$Wood" "starts" "[I" ∈ wl := tm_1 (List.mem_of_getElem? (i := 75) rfl) rfl
set_option maxRecDepth 20000 in
theorem w_12 : Cond.laysFinal "LostWood$Wood" "LostWood$Wood" "turns" "[I" ∈ wl := tm_1 (List.mem_of_getElem? (i := 77) rfl) rfl
set_option maxRecDepth 20000 in
theorem w_13 : Cond.laysFinal "LostWood$Wood" "LostWood$Wood" "thoughts" "[I" ∈ wl := tm_1 (List.mem_of_getElem? (i := 79) rfl) rfl
set_option maxRecDepth 20000 in
theorem w_14 : Cond.laysFinal "LostWood$Wood" "LostWood$Wood" "lessonKinds" "[I" ∈ wl := tm_1 (List.mem_of_getElem? (i := 81) rfl) rfl
set_option maxRecDepth 20000 in
theorem w_15 : Cond.laysFinal "LostWood$Wood" "LostWood$Wood" "lessonNumbers" "[I" ∈ wl := tm_1 (List.mem_of_getElem? (i := 83) rfl) rfl
set_option maxRecDepth 20000 in
theorem w_16 : Cond.laysFinal "LostWood$Wood" "LostWood$Wood" "lessonWinds" "[I" ∈ wl := tm_1 (List.mem_of_getElem? (i := 85) rfl) rfl
set_option maxRecDepth 20000 in
theorem w_17 : Cond.lays "LostWood$Wood" "LostWood$Wood" "places" "I" ∈ wl := tm_1 (List.mem_of_getElem? (i := 87) rfl) rfl
set_option maxRecDepth 20000 in
theorem w_18 : Cond.lays "LostWood$Wood" "LostWood$Wood" "pupils" "I" ∈ wl := tm_1 (List.mem_of_getElem? (i := 89) rfl) rfl
set_option maxRecDepth 20000 in
theorem w_19 : Cond.lays "LostWood$Wood" "LostWood$Wood" "lessons" "I" ∈ wl := tm_1 (List.mem_of_getElem? (i := 91) rfl) rfl
set_option maxRecDepth 20000 in
theorem w_20 : Cond.lays "LostWood$Wood" "LostWood$Wood" "lines" "I" ∈ wl := tm_1 (List.mem_of_getElem? (i := 93) rfl) rfl
set_option maxRecDepth 20000 in
theorem w_21 : Cond.fieldLink RX10 42 "LostWood$Wood" "places" "I" ∈ wl := tm_1 (List.mem_of_getElem? (i := 56) rfl) rfl
set_option maxRecDepth 20000 in
theorem w_22 : Cond.fieldLink RX10 46 "LostWood$Wood" "pupils" "I" ∈ wl := tm_1 (List.mem_of_getElem? (i := 61) rfl) rfl
set_option maxRecDepth 20000 in
theorem w_23 : Cond.fieldLink RX10 52 "LostWood$Wood" "lines" "I" ∈ wl := tm_1 (List.mem_of_getElem? (i := 68) rfl) rfl
set_option maxRecDepth 20000 in
theorem w_24 : Cond.code yX10_all cX10_all 1 (some .int) ∈ wl := tm_3 (List.mem_of_getElem? (i := 133) rfl) rfl
set_option maxRecDepth 20000 in
theorem w_25 : Cond.initialized RX10 ∈ wl := tm_1 (List.mem_of_getElem? (i := 3) rfl) rfl
set_option maxRecDepth 20000 in
theorem w_26 : Cond.methodLink RX10 61 yX10_all ∈ wl := tm_3 (List.mem_of_getElem? (i := 130) rfl) rfl
set_option maxRecDepth 20000 in
theorem w_27 : Cond.instanceMethod yX10_all ∈ wl := tm_3 (List.mem_of_getElem? (i := 131) rfl) rfl
set_option maxRecDepth 20000 in
theorem w_28 : Cond.selects RX10 yX10_all yX10_all ∈ wl := tm_3 (List.mem_of_getElem? (i := 132) rfl) rfl
set_option maxRecDepth 20000 in
theorem w_29 : Cond.code yX10_hasPlace cX10_hasPlace 2 (some .boolean) ∈ wl := tm_3 (List.mem_of_getElem? (i := 48) rfl) rfl
set_option maxRecDepth 20000 in
theorem w_30 : Cond.methodLink RX10 65 yX10_hasPlace ∈ wl := tm_3 (List.mem_of_getElem? (i := 45) rfl) rfl
set_option maxRecDepth 20000 in
theorem w_31 : Cond.instanceMethod yX10_hasPlace ∈ wl := tm_3 (List.mem_of_getElem? (i := 46) rfl) rfl
set_option maxRecDepth 20000 in
theorem w_32 : Cond.selects RX10 yX10_hasPlace yX10_hasPlace ∈ wl := tm_3 (List.mem_of_getElem? (i := 47) rfl) rfl
set_option maxRecDepth 20000 in
theorem w_33 : Cond.code yX11_isWind cX11_isWind 1 (some .boolean) ∈ wl := tm_3 (List.mem_of_getElem? (i := 51) rfl) rfl
set_option maxRecDepth 20000 in
theorem w_34 : Cond.initialized RX11 ∈ wl := tm_1 (List.mem_of_getElem? (i := 1) rfl) rfl
set_option maxRecDepth 20000 in
theorem w_35 : Cond.static yX11_isWind ∈ wl := tm_3 (List.mem_of_getElem? (i := 50) rfl) rfl
set_option maxRecDepth 20000 in
theorem w_36 : Cond.fieldLink RX10 9 "LostWood$Wood" "ways" "[I" ∈ wl := tm_1 (List.mem_of_getElem? (i := 42) rfl) rfl
set_option maxRecDepth 20000 in
theorem w_37 : Cond.fieldLink RX10 15 "LostWood$Wood" "signs" "[I" ∈ wl := tm_1 (List.mem_of_getElem? (i := 43) rfl) rfl
set_option maxRecDepth 20000 in
theorem w_38 : Cond.code yX10_spread cX10_spread 5 (some .int) ∈ wl := tm_3 (List.mem_of_getElem? (i := 137) rfl) rfl
set_option maxRecDepth 20000 in
theorem w_39 : Cond.methodLink RX10 72 yX10_spread ∈ wl := tm_5 (List.mem_of_getElem? (i := 48) rfl) rfl
set_option maxRecDepth 20000 in
theorem w_40 : Cond.instanceMethod yX10_spread ∈ wl := tm_3 (List.mem_of_getElem? (i := 135) rfl) rfl
set_option maxRecDepth 20000 in
theorem w_41 : Cond.selects RX10 yX10_spread yX10_spread ∈ wl := tm_3 (List.mem_of_getElem? (i := 136) rfl) rfl
set_option maxRecDepth 20000 in
theorem w_42 : Cond.code yX10_showing cX10_showing 5 (some .int) ∈ wl := tm_3 (List.mem_of_getElem? (i := 148) rfl) rfl
set_option maxRecDepth 20000 in
theorem w_43 : Cond.methodLink RX10 76 yX10_showing ∈ wl := tm_5 (List.mem_of_getElem? (i := 2) rfl) rfl
set_option maxRecDepth 20000 in
theorem w_44 : Cond.instanceMethod yX10_showing ∈ wl := tm_3 (List.mem_of_getElem? (i := 146) rfl) rfl
set_option maxRecDepth 20000 in
theorem w_45 : Cond.selects RX10 yX10_showing yX10_showing ∈ wl := tm_3 (List.mem_of_getElem? (i := 147) rfl) rfl
set_option maxRecDepth 20000 in
theorem w_46 : Cond.code yX10_after cX10_after 3 (some .int) ∈ wl := tm_3 (List.mem_of_getElem? (i := 113) rfl) rfl
set_option maxRecDepth 20000 in
theorem w_47 : Cond.methodLink RX10 79 yX10_after ∈ wl := tm_5 (List.mem_of_getElem? (i := 220) rfl) rfl
set_option maxRecDepth 20000 in
theorem w_48 : Cond.instanceMethod yX10_after ∈ wl := tm_3 (List.mem_of_getElem? (i := 111) rfl) rfl
set_option maxRecDepth 20000 in
theorem w_49 : Cond.selects RX10 yX10_after yX10_after ∈ wl := tm_3 (List.mem_of_getElem? (i := 112) rfl) rfl
set_option maxRecDepth 20000 in
theorem w_50 : Cond.lays "LostWood$Walker" "LostWood$Walker" "at" "I" ∈ wl := tm_1 (List.mem_of_getElem? (i := 182) rfl) rfl
set_option maxRecDepth 20000 in
theorem w_51 : Cond.lays "LostWood$Walker" "LostWood$Walker" "thought" "I" ∈ wl := tm_1 (List.mem_of_getElem? (i := 184) rfl) rfl
set_option maxRecDepth 20000 in
theorem w_52 : Cond.lays "LostWood$Walker" "LostWood$Walker" "turn" "I" ∈ wl := tm_1 (List.mem_of_getElem? (i := 186) rfl) rfl
set_option maxRecDepth 20000 in
theorem w_53 : Cond.fieldLink RX9 15 "LostWood$Walker" "thought" "I" ∈ wl := tm_1 (List.mem_of_getElem? (i := 174) rfl) rfl
set_option maxRecDepth 20000 in
theorem w_54 : Cond.code yJ6_bitCount_0f7a4 cJ6_bitCount_0f7a4 1 (some .int) ∈ wl := tm_3 (List.mem_of_getElem? (i := 179) rfl) rfl
set_option maxRecDepth 20000 in
theorem w_55 : Cond.methodLink RX9 41 yJ6_bitCount_0f7a4 ∈ wl := tm_3 (List.mem_of_getElem? (i := 177) rfl) rfl
set_option maxRecDepth 20000 in
theorem w_56 : Cond.static yJ6_bitCount_0f7a4 ∈ wl := tm_3 (List.mem_of_getElem? (i := 178) rfl) rfl
set_option maxRecDepth 20000 in
theorem w_57 : Cond.fieldLink RX9 9 "LostWood$Walker" "at" "I" ∈ wl := tm_1 (List.mem_of_getElem? (i := 169) rfl) rfl
set_option maxRecDepth 20000 in
theorem w_58 : Cond.fieldLink RX9 18 "LostWood$Walker" "turn" "I" ∈ wl := tm_1 (List.mem_of_getElem? (i := 179) rfl) rfl
set_option maxRecDepth 20000 in
theorem w_59 : Cond.methodLink RX9 21 yX10_after ∈ wl := tm_3 (List.mem_of_getElem? (i := 199) rfl) rfl
set_option maxRecDepth 20000 in
theorem w_60 : Cond.code yX10_sign cX10_sign 2 (some .int) ∈ wl := tm_3 (List.mem_of_getElem? (i := 121) rfl) rfl
set_option maxRecDepth 20000 in
theorem w_61 : Cond.methodLink RX9 27 yX10_sign ∈ wl := tm_3 (List.mem_of_getElem? (i := 200) rfl) rfl
set_option maxRecDepth 20000 in
theorem w_62 : Cond.instanceMethod yX10_sign ∈ wl := tm_3 (List.mem_of_getElem? (i := 119) rfl) rfl
set_option maxRecDepth 20000 in
theorem w_63 : Cond.selects RX10 yX10_sign yX10_sign ∈ wl := tm_3 (List.mem_of_getElem? (i := 120) rfl) rfl
set_option maxRecDepth 20000 in
theorem w_64 : Cond.methodLink RX9 31 yX10_spread ∈ wl := tm_3 (List.mem_of_getElem? (i := 201) rfl) rfl
set_option maxRecDepth 20000 in
theorem w_65 : Cond.methodLink RX9 34 yX10_showing ∈ wl := tm_3 (List.mem_of_getElem? (i := 202) rfl) rfl
set_option maxRecDepth 20000 in
theorem w_66 : Cond.methodLink RX9 37 yX10_all ∈ wl := tm_3 (List.mem_of_getElem? (i := 203) rfl) rfl
set_option maxRecDepth 20000 in
theorem w_67 : Cond.fieldLink RX7 35 "LostWood$Wood" "places" "I" ∈ wl := tm_1 (List.mem_of_getElem? (i := 58) rfl) rfl
set_option maxRecDepth 20000 in
theorem w_68 : Cond.methodLink RX7 38 yX10_sign ∈ wl := tm_4 (List.mem_of_getElem? (i := 87) rfl) rfl
set_option maxRecDepth 20000 in
theorem w_69 : Cond.laysFinal "LostWood$Party" "LostWood$Party" "at" "[I" ∈ wl := tm_1 (List.mem_of_getElem? (i := 150) rfl) rfl
set_option maxRecDepth 20000 in
theorem w_70 : Cond.laysFinal "LostWood$Party" "LostWood$Party" "thought" "[I" ∈ wl := tm_1 (List.mem_of_getElem? (i := 152) rfl) rfl
set_option maxRecDepth 20000 in
theorem w_71 : Cond.laysFinal "LostWood$Party" "LostWood$Party" "whose" "[I" ∈ wl := tm_1 (List.mem_of_getElem? (i := 154) rfl) rfl
set_option maxRecDepth 20000 in
theorem w_72 : Cond.laysFinal "LostWood$Party" "LostWood$Party" "wasAt" "[I" ∈ wl := tm_1 (List.mem_of_getElem? (i := 156) rfl) rfl
set_option maxRecDepth 20000 in
theorem w_73 : Cond.laysFinal "LostWood$Party" "LostWood$Party" "wasThought" "[I" ∈ wl := tm_1 (List.mem_of_getElem? (i := 158) rfl) rfl
set_option maxRecDepth 20000 in
theorem w_74 : Cond.lays "LostWood$Party" "LostWood$Party" "steps" "I" ∈ wl := tm_1 (List.mem_of_getElem? (i := 160) rfl) rfl
set_option maxRecDepth 20000 in
theorem w_75 : Cond.fieldLink RX2 35 "LostWood$Party" "steps" "I" ∈ wl := tm_1 (List.mem_of_getElem? (i := 148) rfl) rfl
set_option maxRecDepth 20000 in
theorem w_76 : Cond.fieldLink RX2 9 "LostWood$Party" "at" "[I" ∈ wl := tm_1 (List.mem_of_getElem? (i := 141) rfl) rfl
set_option maxRecDepth 20000 in
theorem w_77 : Cond.fieldLink RX2 27 "LostWood$Wood" "starts" "[I" ∈ wl := tm_1 (List.mem_of_getElem? (i := 45) rfl) rfl
set_option maxRecDepth 20000 in
theorem w_78 : Cond.fieldLink RX2 15 "LostWood$Party" "thought" "[I" ∈ wl := tm_1 (List.mem_of_getElem? (i := 143) rfl) rfl
set_option maxRecDepth 20000 in
theorem w_79 : Cond.fieldLink RX2 32 "LostWood$Wood" "thoughts" "[I" ∈ wl := tm_1 (List.mem_of_getElem? (i := 49) rfl) rfl
set_option maxRecDepth 20000 in
theorem w_80 : Cond.methodLink RX2 39 arraycopyName ∈ wl := tm_5 (List.mem_of_getElem? (i := 233) rfl) rfl
set_option maxRecDepth 20000 in
theorem w_81 : Cond.native arraycopyName ∈ wl := tm_3 (List.mem_of_getElem? (i := 95) rfl) rfl
set_option maxRecDepth 20000 in
theorem w_82 : Cond.static arraycopyName ∈ wl := tm_3 (List.mem_of_getElem? (i := 94) rfl) rfl
set_option maxRecDepth 20000 in
theorem w_83 : Cond.initialized "java/lang/System" ∈ wl := tm_1 (List.mem_of_getElem? (i := 20) rfl) rfl
set_option maxRecDepth 20000 in
theorem w_84 : Cond.fieldLink RX2 18 "LostWood$Party" "whose" "[I" ∈ wl := tm_1 (List.mem_of_getElem? (i := 145) rfl) rfl
set_option maxRecDepth 20000 in
theorem w_85 : Cond.fieldLink RX2 21 "LostWood$Party" "wasAt" "[I" ∈ wl := tm_1 (List.mem_of_getElem? (i := 146) rfl) rfl
set_option maxRecDepth 20000 in
theorem w_86 : Cond.fieldLink RX2 24 "LostWood$Party" "wasThought" "[I" ∈ wl := tm_1 (List.mem_of_getElem? (i := 147) rfl) rfl
set_option maxRecDepth 20000 in
theorem w_87 : Cond.fieldLink RX2 45 "LostWood$Walker" "at" "I" ∈ wl := tm_1 (List.mem_of_getElem? (i := 172) rfl) rfl
set_option maxRecDepth 20000 in
theorem w_88 : Cond.fieldLink RX2 49 "LostWood$Walker" "thought" "I" ∈ wl := tm_1 (List.mem_of_getElem? (i := 177) rfl) rfl
set_option maxRecDepth 20000 in
theorem w_89 : Cond.methodLink RX10 55 arraycopyName ∈ wl := tm_3 (List.mem_of_getElem? (i := 93) rfl) rfl
set_option maxRecDepth 20000 in
theorem w_90 : Cond.fieldLink RX10 18 "LostWood$Wood" "starts" "[I" ∈ wl := tm_1 (List.mem_of_getElem? (i := 44) rfl) rfl
set_option maxRecDepth 20000 in
theorem w_91 : Cond.fieldLink RX10 21 "LostWood$Wood" "turns" "[I" ∈ wl := tm_1 (List.mem_of_getElem? (i := 46) rfl) rfl
set_option maxRecDepth 20000 in
theorem w_92 : Cond.fieldLink RX10 24 "LostWood$Wood" "thoughts" "[I" ∈ wl := tm_1 (List.mem_of_getElem? (i := 48) rfl) rfl
set_option maxRecDepth 20000 in
theorem w_93 : Cond.fieldLink RX10 27 "LostWood$Wood" "lessonKinds" "[I" ∈ wl := tm_1 (List.mem_of_getElem? (i := 50) rfl) rfl
set_option maxRecDepth 20000 in
theorem w_94 : Cond.fieldLink RX10 30 "LostWood$Wood" "lessonNumbers" "[I" ∈ wl := tm_1 (List.mem_of_getElem? (i := 52) rfl) rfl
set_option maxRecDepth 20000 in
theorem w_95 : Cond.fieldLink RX10 33 "LostWood$Wood" "lessonWinds" "[I" ∈ wl := tm_1 (List.mem_of_getElem? (i := 54) rfl) rfl
set_option maxRecDepth 20000 in
theorem w_96 : Cond.fieldLink RX10 49 "LostWood$Wood" "lessons" "I" ∈ wl := tm_1 (List.mem_of_getElem? (i := 65) rfl) rfl
set_option maxRecDepth 20000 in
theorem w_97 : Cond.code yX11_isSlot cX11_isSlot 1 (some .boolean) ∈ wl := tm_4 (List.mem_of_getElem? (i := 2) rfl) rfl
set_option maxRecDepth 20000 in
theorem w_98 : Cond.static yX11_isSlot ∈ wl := tm_4 (List.mem_of_getElem? (i := 1) rfl) rfl
set_option maxRecDepth 20000 in
theorem w_99 : Cond.laysFinal "LostWood$Rows" "LostWood$Rows" "numbers" "[J" ∈ wl := tm_1 (List.mem_of_getElem? (i := 201) rfl) rfl
set_option maxRecDepth 20000 in
theorem w_100 : Cond.laysFinal "LostWood$Rows" "LostWood$Rows" "widths" "[I" ∈ wl := tm_1 (List.mem_of_getElem? (i := 203) rfl) rfl
set_option maxRecDepth 20000 in
theorem w_101 : Cond.laysFinal "LostWood$Rows" "LostWood$Rows" "sizes" "[I" ∈ wl := tm_1 (List.mem_of_getElem? (i := 205) rfl) rfl
set_option maxRecDepth 20000 in
theorem w_102 : Cond.fieldLink RX5 19 "LostWood$Rows" "sizes" "[I" ∈ wl := tm_1 (List.mem_of_getElem? (i := 200) rfl) rfl
set_option maxRecDepth 20000 in
theorem w_103 : Cond.fieldLink RX5 15 "LostWood$Rows" "widths" "[I" ∈ wl := tm_1 (List.mem_of_getElem? (i := 199) rfl) rfl
set_option maxRecDepth 20000 in
theorem w_104 : Cond.code yX5_has cX5_has 2 (some .boolean) ∈ wl := tm_4 (List.mem_of_getElem? (i := 6) rfl) rfl
set_option maxRecDepth 20000 in
theorem w_105 : Cond.initialized RX5 ∈ wl := tm_1 (List.mem_of_getElem? (i := 6) rfl) rfl
set_option maxRecDepth 20000 in
theorem w_106 : Cond.methodLink RX5 35 yX5_has ∈ wl := tm_4 (List.mem_of_getElem? (i := 12) rfl) rfl
set_option maxRecDepth 20000 in
theorem w_107 : Cond.instanceMethod yX5_has ∈ wl := tm_4 (List.mem_of_getElem? (i := 4) rfl) rfl
set_option maxRecDepth 20000 in
theorem w_108 : Cond.selects RX5 yX5_has yX5_has ∈ wl := tm_4 (List.mem_of_getElem? (i := 5) rfl) rfl
set_option maxRecDepth 20000 in
theorem w_109 : Cond.code yX5_size cX5_size 2 (some .int) ∈ wl := tm_4 (List.mem_of_getElem? (i := 11) rfl) rfl
set_option maxRecDepth 20000 in
theorem w_110 : Cond.methodLink RX5 38 yX5_size ∈ wl := tm_4 (List.mem_of_getElem? (i := 17) rfl) rfl
set_option maxRecDepth 20000 in
theorem w_111 : Cond.instanceMethod yX5_size ∈ wl := tm_4 (List.mem_of_getElem? (i := 9) rfl) rfl
set_option maxRecDepth 20000 in
theorem w_112 : Cond.selects RX5 yX5_size yX5_size ∈ wl := tm_4 (List.mem_of_getElem? (i := 10) rfl) rfl
set_option maxRecDepth 20000 in
theorem w_113 : Cond.fieldLink RX5 9 "LostWood$Rows" "numbers" "[J" ∈ wl := tm_1 (List.mem_of_getElem? (i := 198) rfl) rfl
set_option maxRecDepth 20000 in
theorem w_114 : Cond.code yX5_width cX5_width 2 (some .int) ∈ wl := tm_6 (List.mem_of_getElem? (i := 23) rfl) rfl
set_option maxRecDepth 20000 in
theorem w_115 : Cond.methodLink RX5 42 yX5_width ∈ wl := tm_6 (List.mem_of_getElem? (i := 20) rfl) rfl
set_option maxRecDepth 20000 in
theorem w_116 : Cond.instanceMethod yX5_width ∈ wl := tm_6 (List.mem_of_getElem? (i := 21) rfl) rfl
set_option maxRecDepth 20000 in
theorem w_117 : Cond.selects RX5 yX5_width yX5_width ∈ wl := tm_6 (List.mem_of_getElem? (i := 22) rfl) rfl
set_option maxRecDepth 20000 in
theorem w_118 : Cond.code yX5_cut cX5_cut 3 (some .long) ∈ wl := tm_6 (List.mem_of_getElem? (i := 26) rfl) rfl
set_option maxRecDepth 20000 in
theorem w_119 : Cond.methodLink RX5 45 yX5_cut ∈ wl := tm_6 (List.mem_of_getElem? (i := 24) rfl) rfl
set_option maxRecDepth 20000 in
theorem w_120 : Cond.static yX5_cut ∈ wl := tm_6 (List.mem_of_getElem? (i := 25) rfl) rfl
set_option maxRecDepth 20000 in
theorem w_121 : Cond.methodLink RX5 53 arraycopyName ∈ wl := tm_6 (List.mem_of_getElem? (i := 41) rfl) rfl
set_option maxRecDepth 20000 in
theorem w_122 : Cond.code yX5_covers cX5_covers 4 (some .boolean) ∈ wl := tm_6 (List.mem_of_getElem? (i := 35) rfl) rfl
set_option maxRecDepth 20000 in
theorem w_123 : Cond.methodLink RX5 49 yX5_covers ∈ wl := tm_6 (List.mem_of_getElem? (i := 40) rfl) rfl
set_option maxRecDepth 20000 in
theorem w_124 : Cond.instanceMethod yX5_covers ∈ wl := tm_6 (List.mem_of_getElem? (i := 33) rfl) rfl
set_option maxRecDepth 20000 in
theorem w_125 : Cond.selects RX5 yX5_covers yX5_covers ∈ wl := tm_6 (List.mem_of_getElem? (i := 34) rfl) rfl
set_option maxRecDepth 20000 in
theorem w_126 : Cond.code yJ7_rangeCheck_23922 cJ7_rangeCheck_23922 3 none ∈ wl := tm_6 (List.mem_of_getElem? (i := 11) rfl) rfl
set_option maxRecDepth 20000 in
theorem w_127 : Cond.initialized RJ7 ∈ wl := tm_1 (List.mem_of_getElem? (i := 7) rfl) rfl
set_option maxRecDepth 20000 in
theorem w_128 : Cond.methodLink RJ7 13 yJ7_rangeCheck_23922 ∈ wl := tm_6 (List.mem_of_getElem? (i := 9) rfl) rfl
set_option maxRecDepth 20000 in
theorem w_129 : Cond.static yJ7_rangeCheck_23922 ∈ wl := tm_6 (List.mem_of_getElem? (i := 10) rfl) rfl
set_option maxRecDepth 20000 in
theorem w_130 : Cond.code yJ7_fill_53178 cJ7_fill_53178 4 none ∈ wl := tm_1 (List.mem_of_getElem? (i := 197) rfl) rfl
set_option maxRecDepth 20000 in
theorem w_131 : Cond.methodLink RX10 36 yJ7_fill_53178 ∈ wl := tm_2 (List.mem_of_getElem? (i := 176) rfl) rfl
set_option maxRecDepth 20000 in
theorem w_132 : Cond.static yJ7_fill_53178 ∈ wl := tm_1 (List.mem_of_getElem? (i := 196) rfl) rfl
set_option maxRecDepth 20000 in
theorem w_133 : Cond.code yJ7_fill_bad5a cJ7_fill_bad5a 6 none ∈ wl := tm_6 (List.mem_of_getElem? (i := 8) rfl) rfl
set_option maxRecDepth 20000 in
theorem w_134 : Cond.methodLink RX5 32 yJ7_fill_bad5a ∈ wl := tm_6 (List.mem_of_getElem? (i := 6) rfl) rfl
set_option maxRecDepth 20000 in
theorem w_135 : Cond.static yJ7_fill_bad5a ∈ wl := tm_6 (List.mem_of_getElem? (i := 7) rfl) rfl
set_option maxRecDepth 20000 in
theorem w_136 : Cond.laysFinal "LostWood$Travel" "LostWood$Travel" "costs" "[I" ∈ wl := tm_2 (List.mem_of_getElem? (i := 102) rfl) rfl
set_option maxRecDepth 20000 in
theorem w_137 : Cond.laysFinal "LostWood$Travel" "LostWood$Travel" "chances" "[I" ∈ wl := tm_2 (List.mem_of_getElem? (i := 104) rfl) rfl
set_option maxRecDepth 20000 in
theorem w_138 : Cond.laysFinal "LostWood$Travel" "LostWood$Travel" "later" "[I" ∈ wl := tm_2 (List.mem_of_getElem? (i := 106) rfl) rfl
set_option maxRecDepth 20000 in
theorem w_139 : Cond.fieldLink RX8 15 "LostWood$Travel" "chances" "[I" ∈ wl := tm_2 (List.mem_of_getElem? (i := 100) rfl) rfl
set_option maxRecDepth 20000 in
theorem w_140 : Cond.fieldLink RX8 9 "LostWood$Travel" "costs" "[I" ∈ wl := tm_2 (List.mem_of_getElem? (i := 99) rfl) rfl
set_option maxRecDepth 20000 in
theorem w_141 : Cond.methodLink RX8 50 Lib.Math.min.name ∈ wl := tm_5 (List.mem_of_getElem? (i := 150) rfl) rfl
set_option maxRecDepth 20000 in
theorem w_142 : Cond.static Lib.Math.min.name ∈ wl := tm_2 (List.mem_of_getElem? (i := 191) rfl) rfl
set_option maxRecDepth 20000 in
theorem w_143 : Cond.initialized "java/lang/Math" ∈ wl := tm_1 (List.mem_of_getElem? (i := 10) rfl) rfl
set_option maxRecDepth 20000 in
theorem w_144 : Cond.code Lib.Math.min.name Lib.Math.min.code 2 (some .int) ∈ wl := tm_2 (List.mem_of_getElem? (i := 192) rfl) rfl
set_option maxRecDepth 20000 in
theorem w_145 : Cond.constant RX8 27 (1000000000) ∈ wl := tm_5 (List.mem_of_getElem? (i := 142) rfl) rfl
set_option maxRecDepth 20000 in
theorem w_146 : Cond.methodLink RX8 42 yX10_after ∈ wl := tm_5 (List.mem_of_getElem? (i := 148) rfl) rfl
set_option maxRecDepth 20000 in
theorem w_147 : Cond.methodLink RX8 21 yX10_hasPlace ∈ wl := tm_5 (List.mem_of_getElem? (i := 141) rfl) rfl
set_option maxRecDepth 20000 in
theorem w_148 : Cond.methodLink RX8 46 yX10_sign ∈ wl := tm_5 (List.mem_of_getElem? (i := 149) rfl) rfl
set_option maxRecDepth 20000 in
theorem w_149 : Cond.fieldLink RX8 34 "LostWood$Wood" "places" "I" ∈ wl := tm_1 (List.mem_of_getElem? (i := 57) rfl) rfl
set_option maxRecDepth 20000 in
theorem w_150 : Cond.methodLink RX8 28 yJ7_fill_53178 ∈ wl := tm_5 (List.mem_of_getElem? (i := 143) rfl) rfl
set_option maxRecDepth 20000 in
theorem w_151 : Cond.code yX8_relax cX8_relax 7 none ∈ wl := tm_5 (List.mem_of_getElem? (i := 147) rfl) rfl
set_option maxRecDepth 20000 in
theorem w_152 : Cond.initialized RX8 ∈ wl := tm_1 (List.mem_of_getElem? (i := 14) rfl) rfl
set_option maxRecDepth 20000 in
theorem w_153 : Cond.methodLink RX8 38 yX8_relax ∈ wl := tm_5 (List.mem_of_getElem? (i := 144) rfl) rfl
set_option maxRecDepth 20000 in
theorem w_154 : Cond.instanceMethod yX8_relax ∈ wl := tm_5 (List.mem_of_getElem? (i := 146) rfl) rfl
set_option maxRecDepth 20000 in
theorem w_155 : Cond.selects RX8 yX8_relax yX8_relax ∈ wl := tp_3 (q := (yX8_relax, 3)) (List.mem_of_getElem? (i := 4) rfl)
set_option maxRecDepth 20000 in
theorem w_156 : Cond.fieldLink RX8 18 "LostWood$Travel" "later" "[I" ∈ wl := tm_2 (List.mem_of_getElem? (i := 101) rfl) rfl
set_option maxRecDepth 20000 in
theorem w_157 : Cond.methodLink RX8 55 arraycopyName ∈ wl := tm_5 (List.mem_of_getElem? (i := 170) rfl) rfl
set_option maxRecDepth 20000 in
theorem w_158 : Cond.code yX11_lowest cX11_lowest 1 (some .int) ∈ wl := tm_4 (List.mem_of_getElem? (i := 166) rfl) rfl
set_option maxRecDepth 20000 in
theorem w_159 : Cond.static yX11_lowest ∈ wl := tm_4 (List.mem_of_getElem? (i := 165) rfl) rfl
set_option maxRecDepth 20000 in
theorem w_160 : Cond.laysFinal "LostWood$Plans" "LostWood$Plans" "depths" "[I" ∈ wl := tm_2 (List.mem_of_getElem? (i := 50) rfl) rfl
set_option maxRecDepth 20000 in
theorem w_161 : Cond.laysFinal "LostWood$Plans" "LostWood$Plans" "nexts" "[I" ∈ wl := tm_2 (List.mem_of_getElem? (i := 52) rfl) rfl
set_option maxRecDepth 20000 in
theorem w_162 : Cond.laysFinal "LostWood$Plans" "LostWood$Plans" "peers" "[I" ∈ wl := tm_2 (List.mem_of_getElem? (i := 54) rfl) rfl
set_option maxRecDepth 20000 in
theorem w_163 : Cond.lays "LostWood$Plans" "LostWood$Plans" "all" "I" ∈ wl := tm_2 (List.mem_of_getElem? (i := 56) rfl) rfl
set_option maxRecDepth 20000 in
theorem w_164 : Cond.lays "LostWood$Plans" "LostWood$Plans" "ready" "Z" ∈ wl := tm_2 (List.mem_of_getElem? (i := 58) rfl) rfl
set_option maxRecDepth 20000 in
theorem w_165 : Cond.fieldLink RX3 18 "LostWood$Plans" "peers" "[I" ∈ wl := tm_2 (List.mem_of_getElem? (i := 46) rfl) rfl
set_option maxRecDepth 20000 in
theorem w_166 : Cond.fieldLink RX3 37 "LostWood$Plans" "all" "I" ∈ wl := tm_2 (List.mem_of_getElem? (i := 47) rfl) rfl
set_option maxRecDepth 20000 in
theorem w_167 : Cond.fieldLink RX3 9 "LostWood$Plans" "depths" "[I" ∈ wl := tm_2 (List.mem_of_getElem? (i := 44) rfl) rfl
set_option maxRecDepth 20000 in
theorem w_168 : Cond.methodLink RX3 71 Lib.Math.max.name ∈ wl := tm_4 (List.mem_of_getElem? (i := 179) rfl) rfl
set_option maxRecDepth 20000 in
theorem w_169 : Cond.static Lib.Math.max.name ∈ wl := tm_1 (List.mem_of_getElem? (i := 219) rfl) rfl
set_option maxRecDepth 20000 in
theorem w_170 : Cond.code Lib.Math.max.name Lib.Math.max.code 2 (some .int) ∈ wl := tm_1 (List.mem_of_getElem? (i := 220) rfl) rfl
set_option maxRecDepth 20000 in
theorem w_171 : Cond.fieldLink RX3 15 "LostWood$Plans" "nexts" "[I" ∈ wl := tm_2 (List.mem_of_getElem? (i := 45) rfl) rfl
set_option maxRecDepth 20000 in
theorem w_172 : Cond.code yX3_deepest cX3_deepest 6 (some .int) ∈ wl := tm_4 (List.mem_of_getElem? (i := 178) rfl) rfl
set_option maxRecDepth 20000 in
theorem w_173 : Cond.initialized RX3 ∈ wl := tm_1 (List.mem_of_getElem? (i := 12) rfl) rfl
set_option maxRecDepth 20000 in
theorem w_174 : Cond.methodLink RX3 68 yX3_deepest ∈ wl := tm_4 (List.mem_of_getElem? (i := 175) rfl) rfl
set_option maxRecDepth 20000 in
theorem w_175 : Cond.instanceMethod yX3_deepest ∈ wl := tm_4 (List.mem_of_getElem? (i := 176) rfl) rfl
set_option maxRecDepth 20000 in
theorem w_176 : Cond.selects RX3 yX3_deepest yX3_deepest ∈ wl := tm_4 (List.mem_of_getElem? (i := 177) rfl) rfl
set_option maxRecDepth 20000 in
theorem w_177 : Cond.code yX3_isEven cX3_isEven 3 (some .boolean) ∈ wl := tm_4 (List.mem_of_getElem? (i := 163) rfl) rfl
set_option maxRecDepth 20000 in
theorem w_178 : Cond.methodLink RX3 59 yX3_isEven ∈ wl := tm_4 (List.mem_of_getElem? (i := 160) rfl) rfl
set_option maxRecDepth 20000 in
theorem w_179 : Cond.instanceMethod yX3_isEven ∈ wl := tm_4 (List.mem_of_getElem? (i := 162) rfl) rfl
set_option maxRecDepth 20000 in
theorem w_180 : Cond.selects RX3 yX3_isEven yX3_isEven ∈ wl := tp_2 (q := (yX3_isEven, 5)) (List.mem_of_getElem? (i := 5) rfl)
set_option maxRecDepth 20000 in
theorem w_181 : Cond.code yX3_windTo cX3_windTo 5 (some .int) ∈ wl := tm_4 (List.mem_of_getElem? (i := 174) rfl) rfl
set_option maxRecDepth 20000 in
theorem w_182 : Cond.methodLink RX3 62 yX3_windTo ∈ wl := tm_4 (List.mem_of_getElem? (i := 171) rfl) rfl
set_option maxRecDepth 20000 in
theorem w_183 : Cond.instanceMethod yX3_windTo ∈ wl := tm_4 (List.mem_of_getElem? (i := 173) rfl) rfl
set_option maxRecDepth 20000 in
theorem w_184 : Cond.selects RX3 yX3_windTo yX3_windTo ∈ wl := tp_2 (q := (yX3_windTo, 5)) (List.mem_of_getElem? (i := 6) rfl)
set_option maxRecDepth 20000 in
theorem w_185 : Cond.fieldLink RX3 21 "LostWood$Plans" "ready" "Z" ∈ wl := tm_2 (List.mem_of_getElem? (i := 48) rfl) rfl
set_option maxRecDepth 20000 in
theorem w_186 : Cond.methodLink RX3 31 Lib.Math.min.name ∈ wl := tm_4 (List.mem_of_getElem? (i := 151) rfl) rfl
set_option maxRecDepth 20000 in
theorem w_187 : Cond.methodLink RX3 25 yX10_all ∈ wl := tm_4 (List.mem_of_getElem? (i := 150) rfl) rfl
set_option maxRecDepth 20000 in
theorem w_188 : Cond.code yX3_settle cX3_settle 4 (some .boolean) ∈ wl := tm_4 (List.mem_of_getElem? (i := 159) rfl) rfl
set_option maxRecDepth 20000 in
theorem w_189 : Cond.methodLink RX3 55 yX3_settle ∈ wl := tm_4 (List.mem_of_getElem? (i := 156) rfl) rfl
set_option maxRecDepth 20000 in
theorem w_190 : Cond.instanceMethod yX3_settle ∈ wl := tm_4 (List.mem_of_getElem? (i := 158) rfl) rfl
set_option maxRecDepth 20000 in
theorem w_191 : Cond.selects RX3 yX3_settle yX3_settle ∈ wl := tp_2 (q := (yX3_settle, 5)) (List.mem_of_getElem? (i := 4) rfl)
set_option maxRecDepth 20000 in
theorem w_192 : Cond.methodLink RX3 47 yJ6_bitCount_0f7a4 ∈ wl := tm_4 (List.mem_of_getElem? (i := 154) rfl) rfl
set_option maxRecDepth 20000 in
theorem w_193 : Cond.methodLink RX3 52 yX10_spread ∈ wl := tm_4 (List.mem_of_getElem? (i := 155) rfl) rfl
set_option maxRecDepth 20000 in
theorem w_194 : Cond.methodLink RX3 40 yX10_sign ∈ wl := tm_4 (List.mem_of_getElem? (i := 152) rfl) rfl
set_option maxRecDepth 20000 in
theorem w_195 : Cond.methodLink RX3 44 yX10_showing ∈ wl := tm_4 (List.mem_of_getElem? (i := 153) rfl) rfl
set_option maxRecDepth 20000 in
theorem w_196 : Cond.laysFinal "LostWood$Courses" "LostWood$Courses" "ground" "LLostWood$Wood;" ∈ wl := tm_2 (List.mem_of_getElem? (i := 80) rfl) rfl
set_option maxRecDepth 20000 in
theorem w_197 : Cond.laysFinal "LostWood$Courses" "LostWood$Courses" "taught" "LLostWood$Walker;" ∈ wl := tm_2 (List.mem_of_getElem? (i := 82) rfl) rfl
set_option maxRecDepth 20000 in
theorem w_198 : Cond.laysFinal "LostWood$Courses" "LostWood$Courses" "order" "[I" ∈ wl := tm_2 (List.mem_of_getElem? (i := 84) rfl) rfl
set_option maxRecDepth 20000 in
theorem w_199 : Cond.laysFinal "LostWood$Courses" "LostWood$Courses" "worst" "[I" ∈ wl := tm_2 (List.mem_of_getElem? (i := 86) rfl) rfl
set_option maxRecDepth 20000 in
theorem w_200 : Cond.lays "LostWood$Courses" "LostWood$Courses" "greatest" "I" ∈ wl := tm_2 (List.mem_of_getElem? (i := 88) rfl) rfl
set_option maxRecDepth 20000 in
theorem w_201 : Cond.lays "LostWood$Courses" "LostWood$Courses" "least" "I" ∈ wl := tm_2 (List.mem_of_getElem? (i := 90) rfl) rfl
set_option maxRecDepth 20000 in
theorem w_202 : Cond.fieldLink RX0 25 "LostWood$Courses" "order" "[I" ∈ wl := tm_2 (List.mem_of_getElem? (i := 73) rfl) rfl
set_option maxRecDepth 20000 in
theorem w_203 : Cond.code yX0_swap cX0_swap 4 none ∈ wl := tm_5 (List.mem_of_getElem? (i := 124) rfl) rfl
set_option maxRecDepth 20000 in
theorem w_204 : Cond.initialized RX0 ∈ wl := tm_1 (List.mem_of_getElem? (i := 13) rfl) rfl
set_option maxRecDepth 20000 in
theorem w_205 : Cond.methodLink RX0 116 yX0_swap ∈ wl := tm_5 (List.mem_of_getElem? (i := 121) rfl) rfl
set_option maxRecDepth 20000 in
theorem w_206 : Cond.instanceMethod yX0_swap ∈ wl := tm_5 (List.mem_of_getElem? (i := 123) rfl) rfl
set_option maxRecDepth 20000 in
theorem w_207 : Cond.selects RX0 yX0_swap yX0_swap ∈ wl := tp_3 (q := (yX0_swap, 6)) (List.mem_of_getElem? (i := 3) rfl)
set_option maxRecDepth 20000 in
theorem w_208 : Cond.fieldLink RX0 12 "LostWood$Courses" "ground" "LLostWood$Wood;" ∈ wl := tm_2 (List.mem_of_getElem? (i := 71) rfl) rfl
set_option maxRecDepth 20000 in
theorem w_209 : Cond.fieldLink RX0 100 "LostWood$Wood" "lessonNumbers" "[I" ∈ wl := tm_1 (List.mem_of_getElem? (i := 53) rfl) rfl
set_option maxRecDepth 20000 in
theorem w_210 : Cond.fieldLink RX0 103 "LostWood$Wood" "lessonKinds" "[I" ∈ wl := tm_1 (List.mem_of_getElem? (i := 51) rfl) rfl
set_option maxRecDepth 20000 in
theorem w_211 : Cond.fieldLink RX0 21 "LostWood$Courses" "taught" "LLostWood$Walker;" ∈ wl := tm_2 (List.mem_of_getElem? (i := 72) rfl) rfl
set_option maxRecDepth 20000 in
theorem w_212 : Cond.fieldLink RX0 72 "LostWood$Walker" "turn" "I" ∈ wl := tm_1 (List.mem_of_getElem? (i := 180) rfl) rfl
set_option maxRecDepth 20000 in
theorem w_213 : Cond.fieldLink RX0 110 "LostWood$Wood" "lessonWinds" "[I" ∈ wl := tm_1 (List.mem_of_getElem? (i := 55) rfl) rfl
set_option maxRecDepth 20000 in
theorem w_214 : Cond.code yX10_setSign cX10_setSign 3 none ∈ wl := tm_3 (List.mem_of_getElem? (i := 61) rfl) rfl
set_option maxRecDepth 20000 in
theorem w_215 : Cond.methodLink RX0 106 yX10_setSign ∈ wl := tm_5 (List.mem_of_getElem? (i := 110) rfl) rfl
set_option maxRecDepth 20000 in
theorem w_216 : Cond.instanceMethod yX10_setSign ∈ wl := tm_3 (List.mem_of_getElem? (i := 59) rfl) rfl
set_option maxRecDepth 20000 in
theorem w_217 : Cond.selects RX10 yX10_setSign yX10_setSign ∈ wl := tm_3 (List.mem_of_getElem? (i := 60) rfl) rfl
set_option maxRecDepth 20000 in
theorem w_218 : Cond.code yX10_setWay cX10_setWay 4 none ∈ wl := tm_3 (List.mem_of_getElem? (i := 44) rfl) rfl
set_option maxRecDepth 20000 in
theorem w_219 : Cond.methodLink RX0 113 yX10_setWay ∈ wl := tm_5 (List.mem_of_getElem? (i := 111) rfl) rfl
set_option maxRecDepth 20000 in
theorem w_220 : Cond.instanceMethod yX10_setWay ∈ wl := tm_3 (List.mem_of_getElem? (i := 42) rfl) rfl
set_option maxRecDepth 20000 in
theorem w_221 : Cond.selects RX10 yX10_setWay yX10_setWay ∈ wl := tm_3 (List.mem_of_getElem? (i := 43) rfl) rfl
set_option maxRecDepth 20000 in
theorem w_222 : Cond.fieldLink RX0 66 "LostWood$Walker" "at" "I" ∈ wl := tm_1 (List.mem_of_getElem? (i := 170) rfl) rfl
set_option maxRecDepth 20000 in
theorem w_223 : Cond.fieldLink RX0 69 "LostWood$Walker" "thought" "I" ∈ wl := tm_1 (List.mem_of_getElem? (i := 175) rfl) rfl
set_option maxRecDepth 20000 in
theorem w_224 : Cond.fieldLink RX0 32 "LostWood$Wood" "lessons" "I" ∈ wl := tm_1 (List.mem_of_getElem? (i := 64) rfl) rfl
set_option maxRecDepth 20000 in
theorem w_225 : Cond.code yX10_copyFrom cX10_copyFrom 2 none ∈ wl := tm_3 (List.mem_of_getElem? (i := 92) rfl) rfl
set_option maxRecDepth 20000 in
theorem w_226 : Cond.methodLink RX0 62 yX10_copyFrom ∈ wl := tm_5 (List.mem_of_getElem? (i := 104) rfl) rfl
set_option maxRecDepth 20000 in
theorem w_227 : Cond.instanceMethod yX10_copyFrom ∈ wl := tm_3 (List.mem_of_getElem? (i := 90) rfl) rfl
set_option maxRecDepth 20000 in
theorem w_228 : Cond.selects RX10 yX10_copyFrom yX10_copyFrom ∈ wl := tm_3 (List.mem_of_getElem? (i := 91) rfl) rfl
set_option maxRecDepth 20000 in
theorem w_229 : Cond.code yX9_place cX9_place 4 none ∈ wl := tm_3 (List.mem_of_getElem? (i := 164) rfl) rfl
set_option maxRecDepth 20000 in
theorem w_230 : Cond.initialized RX9 ∈ wl := tm_1 (List.mem_of_getElem? (i := 5) rfl) rfl
set_option maxRecDepth 20000 in
theorem w_231 : Cond.methodLink RX0 75 yX9_place ∈ wl := tm_5 (List.mem_of_getElem? (i := 105) rfl) rfl
set_option maxRecDepth 20000 in
theorem w_232 : Cond.instanceMethod yX9_place ∈ wl := tm_3 (List.mem_of_getElem? (i := 162) rfl) rfl
set_option maxRecDepth 20000 in
theorem w_233 : Cond.selects RX9 yX9_place yX9_place ∈ wl := tm_3 (List.mem_of_getElem? (i := 163) rfl) rfl
set_option maxRecDepth 20000 in
theorem w_234 : Cond.code yX9_doubt cX9_doubt 1 (some .int) ∈ wl := tm_3 (List.mem_of_getElem? (i := 176) rfl) rfl
set_option maxRecDepth 20000 in
theorem w_235 : Cond.methodLink RX0 96 yX9_doubt ∈ wl := tm_5 (List.mem_of_getElem? (i := 115) rfl) rfl
set_option maxRecDepth 20000 in
theorem w_236 : Cond.instanceMethod yX9_doubt ∈ wl := tm_3 (List.mem_of_getElem? (i := 174) rfl) rfl
set_option maxRecDepth 20000 in
theorem w_237 : Cond.selects RX9 yX9_doubt yX9_doubt ∈ wl := tm_3 (List.mem_of_getElem? (i := 175) rfl) rfl
set_option maxRecDepth 20000 in
theorem w_238 : Cond.code yX0_teach cX0_teach 3 none ∈ wl := tm_5 (List.mem_of_getElem? (i := 109) rfl) rfl
set_option maxRecDepth 20000 in
theorem w_239 : Cond.methodLink RX0 79 yX0_teach ∈ wl := tm_5 (List.mem_of_getElem? (i := 106) rfl) rfl
set_option maxRecDepth 20000 in
theorem w_240 : Cond.instanceMethod yX0_teach ∈ wl := tm_5 (List.mem_of_getElem? (i := 108) rfl) rfl
set_option maxRecDepth 20000 in
theorem w_241 : Cond.selects RX0 yX0_teach yX0_teach ∈ wl := tp_3 (q := (yX0_teach, 6)) (List.mem_of_getElem? (i := 1) rfl)
set_option maxRecDepth 20000 in
theorem w_242 : Cond.methodLink RX0 83 yX5_size ∈ wl := tm_5 (List.mem_of_getElem? (i := 112) rfl) rfl
set_option maxRecDepth 20000 in
theorem w_243 : Cond.code yX5_small cX5_small 3 (some .int) ∈ wl := tm_4 (List.mem_of_getElem? (i := 25) rfl) rfl
set_option maxRecDepth 20000 in
theorem w_244 : Cond.methodLink RX0 89 yX5_small ∈ wl := tm_5 (List.mem_of_getElem? (i := 113) rfl) rfl
set_option maxRecDepth 20000 in
theorem w_245 : Cond.instanceMethod yX5_small ∈ wl := tm_4 (List.mem_of_getElem? (i := 23) rfl) rfl
set_option maxRecDepth 20000 in
theorem w_246 : Cond.selects RX5 yX5_small yX5_small ∈ wl := tm_4 (List.mem_of_getElem? (i := 24) rfl) rfl
set_option maxRecDepth 20000 in
theorem w_247 : Cond.code yX9_step cX9_step 5 none ∈ wl := tm_3 (List.mem_of_getElem? (i := 198) rfl) rfl
set_option maxRecDepth 20000 in
theorem w_248 : Cond.methodLink RX0 92 yX9_step ∈ wl := tm_5 (List.mem_of_getElem? (i := 114) rfl) rfl
set_option maxRecDepth 20000 in
theorem w_249 : Cond.instanceMethod yX9_step ∈ wl := tm_3 (List.mem_of_getElem? (i := 196) rfl) rfl
set_option maxRecDepth 20000 in
theorem w_250 : Cond.selects RX9 yX9_step yX9_step ∈ wl := tm_3 (List.mem_of_getElem? (i := 197) rfl) rfl
set_option maxRecDepth 20000 in
theorem w_251 : Cond.methodLink RX0 36 Lib.Math.min.name ∈ wl := tm_5 (List.mem_of_getElem? (i := 99) rfl) rfl
set_option maxRecDepth 20000 in
theorem w_252 : Cond.fieldLink RX0 42 "LostWood$Courses" "greatest" "I" ∈ wl := tm_2 (List.mem_of_getElem? (i := 76) rfl) rfl
set_option maxRecDepth 20000 in
theorem w_253 : Cond.fieldLink RX0 45 "LostWood$Courses" "least" "I" ∈ wl := tm_2 (List.mem_of_getElem? (i := 78) rfl) rfl
set_option maxRecDepth 20000 in
theorem w_254 : Cond.fieldLink RX0 29 "LostWood$Courses" "worst" "[I" ∈ wl := tm_2 (List.mem_of_getElem? (i := 74) rfl) rfl
set_option maxRecDepth 20000 in
theorem w_255 : Cond.methodLink RX0 52 arraycopyName ∈ wl := tm_5 (List.mem_of_getElem? (i := 116) rfl) rfl
set_option maxRecDepth 20000 in
theorem w_256 : Cond.code yX0_tryOrder cX0_tryOrder 7 (some .int) ∈ wl := tm_5 (List.mem_of_getElem? (i := 103) rfl) rfl
set_option maxRecDepth 20000 in
theorem w_257 : Cond.methodLink RX0 48 yX0_tryOrder ∈ wl := tm_5 (List.mem_of_getElem? (i := 100) rfl) rfl
set_option maxRecDepth 20000 in
theorem w_258 : Cond.instanceMethod yX0_tryOrder ∈ wl := tm_5 (List.mem_of_getElem? (i := 102) rfl) rfl
set_option maxRecDepth 20000 in
theorem w_259 : Cond.selects RX0 yX0_tryOrder yX0_tryOrder ∈ wl := tp_3 (q := (yX0_tryOrder, 6)) (List.mem_of_getElem? (i := 0) rfl)
set_option maxRecDepth 20000 in
theorem w_260 : Cond.code yX0_nextOrder cX0_nextOrder 6 (some .boolean) ∈ wl := tm_5 (List.mem_of_getElem? (i := 120) rfl) rfl
set_option maxRecDepth 20000 in
theorem w_261 : Cond.methodLink RX0 58 yX0_nextOrder ∈ wl := tm_5 (List.mem_of_getElem? (i := 117) rfl) rfl
set_option maxRecDepth 20000 in
theorem w_262 : Cond.instanceMethod yX0_nextOrder ∈ wl := tm_5 (List.mem_of_getElem? (i := 119) rfl) rfl
set_option maxRecDepth 20000 in
theorem w_263 : Cond.selects RX0 yX0_nextOrder yX0_nextOrder ∈ wl := tp_3 (q := (yX0_nextOrder, 6)) (List.mem_of_getElem? (i := 2) rfl)
set_option maxRecDepth 20000 in
theorem w_264 : Cond.laysFinal "LostWood$Minds" "LostWood$Search" "stamps" "[I" ∈ wl := tm_2 (List.mem_of_getElem? (i := 9) rfl) rfl
set_option maxRecDepth 20000 in
theorem w_265 : Cond.laysFinal "LostWood$Minds" "LostWood$Search" "found" "[I" ∈ wl := tm_2 (List.mem_of_getElem? (i := 11) rfl) rfl
set_option maxRecDepth 20000 in
theorem w_266 : Cond.laysFinal "LostWood$Minds" "LostWood$Search" "links" "[I" ∈ wl := tm_2 (List.mem_of_getElem? (i := 13) rfl) rfl
set_option maxRecDepth 20000 in
theorem w_267 : Cond.lays "LostWood$Minds" "LostWood$Search" "round" "I" ∈ wl := tm_2 (List.mem_of_getElem? (i := 15) rfl) rfl
set_option maxRecDepth 20000 in
theorem w_268 : Cond.lays "LostWood$Minds" "LostWood$Search" "size" "I" ∈ wl := tm_2 (List.mem_of_getElem? (i := 17) rfl) rfl
set_option maxRecDepth 20000 in
theorem w_269 : Cond.lays "LostWood$Minds" "LostWood$Search" "goal" "I" ∈ wl := tm_2 (List.mem_of_getElem? (i := 19) rfl) rfl
set_option maxRecDepth 20000 in
theorem w_270 : Cond.laysFinal "LostWood$Minds" "LostWood$Minds" "walker" "LLostWood$Walker;" ∈ wl := tm_2 (List.mem_of_getElem? (i := 1) rfl) rfl
set_option maxRecDepth 20000 in
theorem w_271 : Cond.lays "LostWood$Minds" "LostWood$Minds" "turn" "I" ∈ wl := tm_2 (List.mem_of_getElem? (i := 3) rfl) rfl
set_option maxRecDepth 20000 in
theorem w_272 : Cond.lays "LostWood$Minds" "LostWood$Minds" "aim" "I" ∈ wl := tm_2 (List.mem_of_getElem? (i := 5) rfl) rfl
set_option maxRecDepth 20000 in
theorem w_273 : Cond.lays "LostWood$Minds" "LostWood$Minds" "least" "I" ∈ wl := tm_2 (List.mem_of_getElem? (i := 7) rfl) rfl
set_option maxRecDepth 20000 in
theorem w_274 : Cond.fieldLink RX6 21 "LostWood$Search" "stamps" "[I" ∈ wl := tm_1 (List.mem_of_getElem? (i := 227) rfl) rfl
set_option maxRecDepth 20000 in
theorem w_275 : Cond.fieldLink RX6 31 "LostWood$Search" "round" "I" ∈ wl := tm_1 (List.mem_of_getElem? (i := 232) rfl) rfl
set_option maxRecDepth 20000 in
theorem w_276 : Cond.fieldLink RX6 34 "LostWood$Search" "size" "I" ∈ wl := tm_1 (List.mem_of_getElem? (i := 233) rfl) rfl
set_option maxRecDepth 20000 in
theorem w_277 : Cond.fieldLink RX6 25 "LostWood$Search" "found" "[I" ∈ wl := tm_1 (List.mem_of_getElem? (i := 228) rfl) rfl
set_option maxRecDepth 20000 in
theorem w_278 : Cond.fieldLink RX6 28 "LostWood$Search" "links" "[I" ∈ wl := tm_1 (List.mem_of_getElem? (i := 231) rfl) rfl
set_option maxRecDepth 20000 in
theorem w_279 : Cond.fieldLink RX6 9 "LostWood$Search" "goal" "I" ∈ wl := tm_1 (List.mem_of_getElem? (i := 238) rfl) rfl
set_option maxRecDepth 20000 in
theorem w_280 : Cond.methodLink RX6 49 yX6_lengthTo ∈ wl := tm_4 (List.mem_of_getElem? (i := 105) rfl) rfl
set_option maxRecDepth 20000 in
theorem w_281 : Cond.sameMethod "LostWood$Search" "LostWood$Search" "lengthTo" "(I)I" ∈ wl := tm_4 (List.mem_of_getElem? (i := 107) rfl) rfl
set_option maxRecDepth 20000 in
theorem w_282 : Cond.instanceMethod yX6_lengthTo ∈ wl := tm_4 (List.mem_of_getElem? (i := 106) rfl) rfl
set_option maxRecDepth 20000 in
theorem w_283 : Cond.initialized RX6 ∈ wl := tm_1 (List.mem_of_getElem? (i := 8) rfl) rfl
set_option maxRecDepth 20000 in
theorem w_284 : Cond.code yX6_lengthTo cX6_lengthTo 5 (some .int) ∈ wl := tm_4 (List.mem_of_getElem? (i := 110) rfl) rfl
set_option maxRecDepth 20000 in
theorem w_285 : Cond.selects RX1 yX6_lengthTo yX6_lengthTo ∈ wl := tm_4 (List.mem_of_getElem? (i := 108) rfl) rfl
set_option maxRecDepth 20000 in
theorem w_286 : Cond.methodLink RX6 53 yX6_goalLength ∈ wl := tm_4 (List.mem_of_getElem? (i := 121) rfl) rfl
set_option maxRecDepth 20000 in
theorem w_287 : Cond.sameMethod "LostWood$Search" "LostWood$Search" "goalLength" "()I" ∈ wl := tm_9 (List.mem_of_getElem? (i := 82) rfl) rfl
set_option maxRecDepth 20000 in
theorem w_288 : Cond.instanceMethod yX6_goalLength ∈ wl := tm_4 (List.mem_of_getElem? (i := 103) rfl) rfl
set_option maxRecDepth 20000 in
theorem w_289 : Cond.code yX6_goalLength cX6_goalLength 1 (some .int) ∈ wl := tm_4 (List.mem_of_getElem? (i := 104) rfl) rfl
set_option maxRecDepth 20000 in
theorem w_290 : Cond.selects RX1 yX6_goalLength yX6_goalLength ∈ wl := tm_9 (List.mem_of_getElem? (i := 83) rfl) rfl
set_option maxRecDepth 20000 in
theorem w_291 : Cond.laysFinal "LostWood$Sets" "LostWood$Search" "stamps" "[I" ∈ wl := tm_2 (List.mem_of_getElem? (i := 31) rfl) rfl
set_option maxRecDepth 20000 in
theorem w_292 : Cond.laysFinal "LostWood$Sets" "LostWood$Search" "found" "[I" ∈ wl := tm_2 (List.mem_of_getElem? (i := 32) rfl) rfl
set_option maxRecDepth 20000 in
theorem w_293 : Cond.laysFinal "LostWood$Sets" "LostWood$Search" "links" "[I" ∈ wl := tm_2 (List.mem_of_getElem? (i := 33) rfl) rfl
set_option maxRecDepth 20000 in
theorem w_294 : Cond.lays "LostWood$Sets" "LostWood$Search" "round" "I" ∈ wl := tm_2 (List.mem_of_getElem? (i := 34) rfl) rfl
set_option maxRecDepth 20000 in
theorem w_295 : Cond.lays "LostWood$Sets" "LostWood$Search" "size" "I" ∈ wl := tm_2 (List.mem_of_getElem? (i := 35) rfl) rfl
set_option maxRecDepth 20000 in
theorem w_296 : Cond.lays "LostWood$Sets" "LostWood$Search" "goal" "I" ∈ wl := tm_2 (List.mem_of_getElem? (i := 36) rfl) rfl
set_option maxRecDepth 20000 in
theorem w_297 : Cond.lays "LostWood$Sets" "LostWood$Sets" "aim" "I" ∈ wl := tm_2 (List.mem_of_getElem? (i := 29) rfl) rfl
set_option maxRecDepth 20000 in
theorem w_298 : Cond.selects RX7 yX6_lengthTo yX6_lengthTo ∈ wl := tm_4 (List.mem_of_getElem? (i := 109) rfl) rfl
set_option maxRecDepth 20000 in
theorem w_299 : Cond.selects RX7 yX6_goalLength yX6_goalLength ∈ wl := tm_9 (List.mem_of_getElem? (i := 84) rfl) rfl
set_option maxRecDepth 20000 in
theorem w_300 : Cond.fieldLink RX1 20 "LostWood$Minds" "turn" "I" ∈ wl := tm_1 (List.mem_of_getElem? (i := 224) rfl) rfl
set_option maxRecDepth 20000 in
theorem w_301 : Cond.fieldLink RX1 24 "LostWood$Minds" "aim" "I" ∈ wl := tm_1 (List.mem_of_getElem? (i := 225) rfl) rfl
set_option maxRecDepth 20000 in
theorem w_302 : Cond.fieldLink RX1 27 "LostWood$Minds" "least" "I" ∈ wl := tm_1 (List.mem_of_getElem? (i := 226) rfl) rfl
set_option maxRecDepth 20000 in
theorem w_303 : Cond.fieldLink RX1 14 "LostWood$Minds" "walker" "LLostWood$Walker;" ∈ wl := tm_1 (List.mem_of_getElem? (i := 223) rfl) rfl
set_option maxRecDepth 20000 in
theorem w_304 : Cond.fieldLink RX1 38 "LostWood$Walker" "at" "I" ∈ wl := tm_1 (List.mem_of_getElem? (i := 171) rfl) rfl
set_option maxRecDepth 20000 in
theorem w_305 : Cond.fieldLink RX1 41 "LostWood$Walker" "thought" "I" ∈ wl := tm_1 (List.mem_of_getElem? (i := 176) rfl) rfl
set_option maxRecDepth 20000 in
theorem w_306 : Cond.methodLink RX1 30 yX9_place ∈ wl := tm_4 (List.mem_of_getElem? (i := 76) rfl) rfl
set_option maxRecDepth 20000 in
theorem w_307 : Cond.methodLink RX1 34 yX9_step ∈ wl := tm_4 (List.mem_of_getElem? (i := 94) rfl) rfl
set_option maxRecDepth 20000 in
theorem w_308 : Cond.methodLink RX1 44 yX9_doubt ∈ wl := tm_4 (List.mem_of_getElem? (i := 77) rfl) rfl
set_option maxRecDepth 20000 in
theorem w_309 : Cond.code yX9_isAstray cX9_isAstray 1 (some .boolean) ∈ wl := tm_3 (List.mem_of_getElem? (i := 190) rfl) rfl
set_option maxRecDepth 20000 in
theorem w_310 : Cond.methodLink RX1 48 yX9_isAstray ∈ wl := tm_4 (List.mem_of_getElem? (i := 78) rfl) rfl
set_option maxRecDepth 20000 in
theorem w_311 : Cond.instanceMethod yX9_isAstray ∈ wl := tm_3 (List.mem_of_getElem? (i := 188) rfl) rfl
set_option maxRecDepth 20000 in
theorem w_312 : Cond.selects RX9 yX9_isAstray yX9_isAstray ∈ wl := tm_3 (List.mem_of_getElem? (i := 189) rfl) rfl
set_option maxRecDepth 20000 in
theorem w_313 : Cond.code yX9_isSure cX9_isSure 1 (some .boolean) ∈ wl := tm_3 (List.mem_of_getElem? (i := 186) rfl) rfl
set_option maxRecDepth 20000 in
theorem w_314 : Cond.methodLink RX1 52 yX9_isSure ∈ wl := tm_4 (List.mem_of_getElem? (i := 79) rfl) rfl
set_option maxRecDepth 20000 in
theorem w_315 : Cond.instanceMethod yX9_isSure ∈ wl := tm_3 (List.mem_of_getElem? (i := 184) rfl) rfl
set_option maxRecDepth 20000 in
theorem w_316 : Cond.selects RX9 yX9_isSure yX9_isSure ∈ wl := tm_3 (List.mem_of_getElem? (i := 185) rfl) rfl
set_option maxRecDepth 20000 in
theorem w_317 : Cond.methodLink RX7 19 yX10_spread ∈ wl := tm_4 (List.mem_of_getElem? (i := 98) rfl) rfl
set_option maxRecDepth 20000 in
theorem w_318 : Cond.fieldLink RX7 9 "LostWood$Sets" "aim" "I" ∈ wl := tm_2 (List.mem_of_getElem? (i := 28) rfl) rfl
set_option maxRecDepth 20000 in
theorem w_319 : Cond.methodLink RX7 25 yJ6_bitCount_0f7a4 ∈ wl := tm_4 (List.mem_of_getElem? (i := 83) rfl) rfl
set_option maxRecDepth 20000 in
theorem w_320 : Cond.code yX7_showsOne cX7_showsOne 6 (some .boolean) ∈ wl := tm_4 (List.mem_of_getElem? (i := 86) rfl) rfl
set_option maxRecDepth 20000 in
theorem w_321 : Cond.initialized RX7 ∈ wl := tm_1 (List.mem_of_getElem? (i := 11) rfl) rfl
set_option maxRecDepth 20000 in
theorem w_322 : Cond.methodLink RX7 31 yX7_showsOne ∈ wl := tm_4 (List.mem_of_getElem? (i := 84) rfl) rfl
set_option maxRecDepth 20000 in
theorem w_323 : Cond.static yX7_showsOne ∈ wl := tm_4 (List.mem_of_getElem? (i := 85) rfl) rfl
set_option maxRecDepth 20000 in
theorem w_324 : Cond.methodLink RX6 37 yX6_meetState ∈ wl := tm_4 (List.mem_of_getElem? (i := 66) rfl) rfl
set_option maxRecDepth 20000 in
theorem w_325 : Cond.sameMethod "LostWood$Search" "LostWood$Search" "meetState" "(II)V" ∈ wl := tm_9 (List.mem_of_getElem? (i := 81) rfl) rfl
set_option maxRecDepth 20000 in
theorem w_326 : Cond.instanceMethod yX6_meetState ∈ wl := tm_4 (List.mem_of_getElem? (i := 68) rfl) rfl
set_option maxRecDepth 20000 in
theorem w_327 : Cond.code yX6_meetState cX6_meetState 3 none ∈ wl := tm_4 (List.mem_of_getElem? (i := 69) rfl) rfl
set_option maxRecDepth 20000 in
theorem w_328 : Cond.methodLink RX6 41 ⟨"LostWood$Search", "ends", "(LLostWood$Wood;I)Z"⟩ ∈ wl := tm_4 (List.mem_of_getElem? (i := 70) rfl) rfl
set_option maxRecDepth 20000 in
theorem w_329 : Cond.sameMethod "LostWood$Search" "LostWood$Search" "ends" "(LLostWood$Wood;I)Z" ∈ wl := tm_4 (List.mem_of_getElem? (i := 72) rfl) rfl
set_option maxRecDepth 20000 in
theorem w_330 : Cond.instanceMethod yX1_ends ∈ wl := tm_4 (List.mem_of_getElem? (i := 74) rfl) rfl
set_option maxRecDepth 20000 in
theorem w_331 : Cond.initialized RX1 ∈ wl := tm_1 (List.mem_of_getElem? (i := 9) rfl) rfl
set_option maxRecDepth 20000 in
theorem w_332 : Cond.code yX1_ends cX1_ends 3 (some .boolean) ∈ wl := tm_4 (List.mem_of_getElem? (i := 75) rfl) rfl
set_option maxRecDepth 20000 in
theorem w_333 : Cond.selects RX1 ⟨"LostWood$Search", "ends", "(LLostWood$Wood;I)Z"⟩ yX1_ends ∈ wl := tm_4 (List.mem_of_getElem? (i := 73) rfl) rfl
set_option maxRecDepth 20000 in
theorem w_334 : Cond.methodLink RX6 45 ⟨"LostWood$Search", "next", "(LLostWood$Wood;II)I"⟩ ∈ wl := tm_4 (List.mem_of_getElem? (i := 88) rfl) rfl
set_option maxRecDepth 20000 in
theorem w_335 : Cond.sameMethod "LostWood$Search" "LostWood$Search" "next" "(LLostWood$Wood;II)I" ∈ wl := tm_4 (List.mem_of_getElem? (i := 90) rfl) rfl
set_option maxRecDepth 20000 in
theorem w_336 : Cond.instanceMethod yX1_next ∈ wl := tm_4 (List.mem_of_getElem? (i := 92) rfl) rfl
set_option maxRecDepth 20000 in
theorem w_337 : Cond.code yX1_next cX1_next 4 (some .int) ∈ wl := tm_4 (List.mem_of_getElem? (i := 93) rfl) rfl
set_option maxRecDepth 20000 in
theorem w_338 : Cond.selects RX1 ⟨"LostWood$Search", "next", "(LLostWood$Wood;II)I"⟩ yX1_next ∈ wl := tm_4 (List.mem_of_getElem? (i := 91) rfl) rfl
set_option maxRecDepth 20000 in
theorem w_339 : Cond.instanceMethod yX7_ends ∈ wl := tm_4 (List.mem_of_getElem? (i := 81) rfl) rfl
set_option maxRecDepth 20000 in
theorem w_340 : Cond.code yX7_ends cX7_ends 3 (some .boolean) ∈ wl := tm_4 (List.mem_of_getElem? (i := 82) rfl) rfl
set_option maxRecDepth 20000 in
theorem w_341 : Cond.selects RX7 ⟨"LostWood$Search", "ends", "(LLostWood$Wood;I)Z"⟩ yX7_ends ∈ wl := tm_4 (List.mem_of_getElem? (i := 80) rfl) rfl
set_option maxRecDepth 20000 in
theorem w_342 : Cond.instanceMethod yX7_next ∈ wl := tm_4 (List.mem_of_getElem? (i := 96) rfl) rfl
set_option maxRecDepth 20000 in
theorem w_343 : Cond.code yX7_next cX7_next 4 (some .int) ∈ wl := tm_4 (List.mem_of_getElem? (i := 97) rfl) rfl
set_option maxRecDepth 20000 in
theorem w_344 : Cond.selects RX7 ⟨"LostWood$Search", "next", "(LLostWood$Wood;II)I"⟩ yX7_next ∈ wl := tm_4 (List.mem_of_getElem? (i := 95) rfl) rfl
set_option maxRecDepth 20000 in
theorem w_345 : Cond.methodLink RX7 15 ⟨"LostWood$Sets", "explore", "(LLostWood$Wood;I)V"⟩ ∈ wl := tm_4 (List.mem_of_getElem? (i := 209) rfl) rfl
set_option maxRecDepth 20000 in
theorem w_346 : Cond.sameMethod "LostWood$Sets" "LostWood$Search" "explore" "(LLostWood$Wood;I)V" ∈ wl := tm_4 (List.mem_of_getElem? (i := 210) rfl) rfl
set_option maxRecDepth 20000 in
theorem w_347 : Cond.instanceMethod yX6_explore ∈ wl := tm_4 (List.mem_of_getElem? (i := 64) rfl) rfl
set_option maxRecDepth 20000 in
theorem w_348 : Cond.code yX6_explore cX6_explore 5 none ∈ wl := tm_4 (List.mem_of_getElem? (i := 65) rfl) rfl
set_option maxRecDepth 20000 in
theorem w_349 : Cond.selects RX7 ⟨"LostWood$Sets", "explore", "(LLostWood$Wood;I)V"⟩ yX6_explore ∈ wl := tm_4 (List.mem_of_getElem? (i := 211) rfl) rfl
set_option maxRecDepth 20000 in
theorem w_350 : Cond.fieldLink RX7 41 "LostWood$Sets" "size" "I" ∈ wl := tm_1 (List.mem_of_getElem? (i := 234) rfl) rfl
set_option maxRecDepth 20000 in
theorem w_351 : Cond.fieldLink RX7 44 "LostWood$Sets" "found" "[I" ∈ wl := tm_1 (List.mem_of_getElem? (i := 229) rfl) rfl
set_option maxRecDepth 20000 in
theorem w_352 : Cond.sameField "LostWood$Sets" "LostWood$Search" "size" "I" ∈ wl := tm_1 (List.mem_of_getElem? (i := 235) rfl) rfl
set_option maxRecDepth 20000 in
theorem w_353 : Cond.sameField "LostWood$Sets" "LostWood$Search" "found" "[I" ∈ wl := tm_1 (List.mem_of_getElem? (i := 230) rfl) rfl
set_option maxRecDepth 20000 in
theorem w_354 : Cond.methodLink RX7 62 Lib.Math.min.name ∈ wl := tm_5 (List.mem_of_getElem? (i := 35) rfl) rfl
set_option maxRecDepth 20000 in
theorem w_355 : Cond.code yX7_seek cX7_seek 4 none ∈ wl := tm_4 (List.mem_of_getElem? (i := 208) rfl) rfl
set_option maxRecDepth 20000 in
theorem w_356 : Cond.methodLink RX7 48 yX7_seek ∈ wl := tm_5 (List.mem_of_getElem? (i := 28) rfl) rfl
set_option maxRecDepth 20000 in
theorem w_357 : Cond.instanceMethod yX7_seek ∈ wl := tm_4 (List.mem_of_getElem? (i := 206) rfl) rfl
set_option maxRecDepth 20000 in
theorem w_358 : Cond.selects RX7 yX7_seek yX7_seek ∈ wl := tm_4 (List.mem_of_getElem? (i := 207) rfl) rfl
set_option maxRecDepth 20000 in
theorem w_359 : Cond.methodLink RX7 52 ⟨"LostWood$Sets", "goalLength", "()I"⟩ ∈ wl := tm_5 (List.mem_of_getElem? (i := 29) rfl) rfl
set_option maxRecDepth 20000 in
theorem w_360 : Cond.sameMethod "LostWood$Sets" "LostWood$Search" "goalLength" "()I" ∈ wl := tm_4 (List.mem_of_getElem? (i := 221) rfl) rfl
set_option maxRecDepth 20000 in
theorem w_361 : Cond.selects RX7 ⟨"LostWood$Sets", "goalLength", "()I"⟩ yX6_goalLength ∈ wl := tm_4 (List.mem_of_getElem? (i := 222) rfl) rfl
set_option maxRecDepth 20000 in
theorem w_362 : Cond.methodLink RX7 56 ⟨"LostWood$Sets", "lengthTo", "(I)I"⟩ ∈ wl := tm_5 (List.mem_of_getElem? (i := 30) rfl) rfl
set_option maxRecDepth 20000 in
theorem w_363 : Cond.sameMethod "LostWood$Sets" "LostWood$Search" "lengthTo" "(I)I" ∈ wl := tm_5 (List.mem_of_getElem? (i := 31) rfl) rfl
set_option maxRecDepth 20000 in
theorem w_364 : Cond.selects RX7 ⟨"LostWood$Sets", "lengthTo", "(I)I"⟩ yX6_lengthTo ∈ wl := tm_5 (List.mem_of_getElem? (i := 33) rfl) rfl
set_option maxRecDepth 20000 in
theorem w_365 : Cond.methodLink RX7 59 yJ6_numberOfTrailingZeros_0f7a4 ∈ wl := tm_5 (List.mem_of_getElem? (i := 34) rfl) rfl
set_option maxRecDepth 20000 in
theorem in_X10 : ∀ w ∈ wsX100, w ∈ wl := List.forall_mem_cons.mpr ⟨w_9, List.forall_mem_cons.mpr ⟨w_10, List.forall_mem_cons.mpr ⟨w_11, List.forall_mem_cons.mpr ⟨w_12, List.forall_mem_cons.mpr ⟨w_13, List.forall_mem_cons.mpr ⟨w_14, List.forall_mem_cons.mpr ⟨w_15, List.forall_mem_cons.mpr ⟨w_16, List.forall_mem_cons.mpr ⟨w_17, List.forall_mem_cons.mpr ⟨w_18, List.forall_mem_cons.mpr ⟨w_19, List.forall_mem_cons.mpr ⟨w_20, fun _ h => absurd h List.not_mem_nil⟩⟩⟩⟩⟩⟩⟩⟩⟩⟩⟩⟩
set_option maxRecDepth 20000 in
theorem in_X9 : ∀ w ∈ wsX90, w ∈ wl := List.forall_mem_cons.mpr ⟨w_50, List.forall_mem_cons.mpr ⟨w_51, List.forall_mem_cons.mpr ⟨w_52, fun _ h => absurd h List.not_mem_nil⟩⟩⟩
set_option maxRecDepth 20000 in
theorem in_X2 : ∀ w ∈ wsX20, w ∈ wl := List.forall_mem_cons.mpr ⟨w_69, List.forall_mem_cons.mpr ⟨w_70, List.forall_mem_cons.mpr ⟨w_71, List.forall_mem_cons.mpr ⟨w_72, List.forall_mem_cons.mpr ⟨w_73, List.forall_mem_cons.mpr ⟨w_74, fun _ h => absurd h List.not_mem_nil⟩⟩⟩⟩⟩⟩
set_option maxRecDepth 20000 in
theorem in_X5 : ∀ w ∈ wsX50, w ∈ wl := List.forall_mem_cons.mpr ⟨w_99, List.forall_mem_cons.mpr ⟨w_100, List.forall_mem_cons.mpr ⟨w_101, fun _ h => absurd h List.not_mem_nil⟩⟩⟩
set_option maxRecDepth 20000 in
theorem in_X8 : ∀ w ∈ wsX80, w ∈ wl := List.forall_mem_cons.mpr ⟨w_136, List.forall_mem_cons.mpr ⟨w_137, List.forall_mem_cons.mpr ⟨w_138, fun _ h => absurd h List.not_mem_nil⟩⟩⟩
set_option maxRecDepth 20000 in
theorem in_X3 : ∀ w ∈ wsX30, w ∈ wl := List.forall_mem_cons.mpr ⟨w_160, List.forall_mem_cons.mpr ⟨w_161, List.forall_mem_cons.mpr ⟨w_162, List.forall_mem_cons.mpr ⟨w_163, List.forall_mem_cons.mpr ⟨w_164, fun _ h => absurd h List.not_mem_nil⟩⟩⟩⟩⟩
set_option maxRecDepth 20000 in
theorem in_X0 : ∀ w ∈ wsX00, w ∈ wl := List.forall_mem_cons.mpr ⟨w_196, List.forall_mem_cons.mpr ⟨w_197, List.forall_mem_cons.mpr ⟨w_198, List.forall_mem_cons.mpr ⟨w_199, List.forall_mem_cons.mpr ⟨w_200, List.forall_mem_cons.mpr ⟨w_201, fun _ h => absurd h List.not_mem_nil⟩⟩⟩⟩⟩⟩
set_option maxRecDepth 20000 in
theorem in_X1 : ∀ w ∈ wsX10, w ∈ wl := List.forall_mem_cons.mpr ⟨w_264, List.forall_mem_cons.mpr ⟨w_265, List.forall_mem_cons.mpr ⟨w_266, List.forall_mem_cons.mpr ⟨w_267, List.forall_mem_cons.mpr ⟨w_268, List.forall_mem_cons.mpr ⟨w_269, List.forall_mem_cons.mpr ⟨w_270, List.forall_mem_cons.mpr ⟨w_271, List.forall_mem_cons.mpr ⟨w_272, List.forall_mem_cons.mpr ⟨w_273, fun _ h => absurd h List.not_mem_nil⟩⟩⟩⟩⟩⟩⟩⟩⟩⟩
set_option maxRecDepth 20000 in
theorem in_X7 : ∀ w ∈ wsX70, w ∈ wl := List.forall_mem_cons.mpr ⟨w_291, List.forall_mem_cons.mpr ⟨w_292, List.forall_mem_cons.mpr ⟨w_293, List.forall_mem_cons.mpr ⟨w_294, List.forall_mem_cons.mpr ⟨w_295, List.forall_mem_cons.mpr ⟨w_296, List.forall_mem_cons.mpr ⟨w_297, fun _ h => absurd h List.not_mem_nil⟩⟩⟩⟩⟩⟩⟩
theorem kd_J6_numberOfTrailingZeros_0f7a4 : okD yJ6_numberOfTrailingZeros_0f7a4 1 := by decide +kernel
theorem kd_X10_all : okD yX10_all 0 := by decide +kernel
theorem kd_X10_hasPlace : okD yX10_hasPlace 1 := by decide +kernel
theorem kd_X11_isWind : okD yX11_isWind 1 := by decide +kernel
theorem kd_X10_spread : okD yX10_spread 2 := by decide +kernel
theorem kd_X10_showing : okD yX10_showing 2 := by decide +kernel
theorem kd_X10_after : okD yX10_after 2 := by decide +kernel
theorem kd_J6_bitCount_0f7a4 : okD yJ6_bitCount_0f7a4 1 := by decide +kernel
theorem kd_X10_sign : okD yX10_sign 1 := by decide +kernel
theorem kd_X11_isSlot : okD yX11_isSlot 1 := by decide +kernel
theorem kd_X5_has : okD yX5_has 1 := by decide +kernel
theorem kd_X5_size : okD yX5_size 1 := by decide +kernel
theorem kd_X5_width : okD yX5_width 1 := by decide +kernel
theorem kd_X5_cut : okD yX5_cut 2 := by decide +kernel
theorem kd_X5_covers : okD yX5_covers 3 := by decide +kernel
theorem kd_J7_rangeCheck_23922 : okD yJ7_rangeCheck_23922 3 := by decide +kernel
theorem kd_J7_fill_53178 : okD yJ7_fill_53178 2 := by decide +kernel
theorem kd_J7_fill_bad5a : okD yJ7_fill_bad5a 4 := by decide +kernel
theorem kd_X8_relax : okD yX8_relax 3 := by decide +kernel
theorem kd_X11_lowest : okD yX11_lowest 1 := by decide +kernel
theorem kd_X3_deepest : okD yX3_deepest 1 := by decide +kernel
theorem kd_X3_isEven : okD yX3_isEven 1 := by decide +kernel
theorem kd_X3_windTo : okD yX3_windTo 2 := by decide +kernel
theorem kd_X3_settle : okD yX3_settle 1 := by decide +kernel
theorem kd_X0_swap : okD yX0_swap 2 := by decide +kernel
theorem kd_X10_setSign : okD yX10_setSign 2 := by decide +kernel
theorem kd_X10_setWay : okD yX10_setWay 3 := by decide +kernel
theorem kd_X10_copyFrom : okD yX10_copyFrom 1 := by decide +kernel
theorem kd_X9_place : okD yX9_place 3 := by decide +kernel
theorem kd_X9_doubt : okD yX9_doubt 0 := by decide +kernel
theorem kd_X0_teach : okD yX0_teach 1 := by decide +kernel
theorem kd_X5_small : okD yX5_small 2 := by decide +kernel
theorem kd_X9_step : okD yX9_step 2 := by decide +kernel
theorem kd_X0_tryOrder : okD yX0_tryOrder 4 := by decide +kernel
theorem kd_X0_nextOrder : okD yX0_nextOrder 1 := by decide +kernel
theorem kd_X9_isAstray : okD yX9_isAstray 0 := by decide +kernel
theorem kd_X9_isSure : okD yX9_isSure 0 := by decide +kernel
theorem kd_X7_showsOne : okD yX7_showsOne 3 := by decide +kernel
theorem kd_X7_seek : okD yX7_seek 3 := by decide +kernel
set_option maxRecDepth 20000 in
theorem kS_X11_314 : okS RX11 314 yJ6_numberOfTrailingZeros_0f7a4 cJ6_numberOfTrailingZeros_0f7a4 2 (some .int) 1 := ⟨⟨w_7, w_5, w_6, kd_J6_numberOfTrailingZeros_0f7a4⟩, w_8⟩
set_option maxRecDepth 20000 in
theorem kV_X10_61 : okV RX10 61 yX10_all cX10_all 1 (some .int) 0 := ⟨⟨w_26, w_24, w_25, kd_X10_all⟩, w_27, w_28⟩
set_option maxRecDepth 20000 in
theorem kV_X10_65 : okV RX10 65 yX10_hasPlace cX10_hasPlace 2 (some .boolean) 1 := ⟨⟨w_30, w_29, w_25, kd_X10_hasPlace⟩, w_31, w_32⟩
set_option maxRecDepth 20000 in
theorem kSN_X10_69 : okSN RX10 69 yX11_isWind RX11 cX11_isWind 1 (some .boolean) 1 := ⟨⟨List.mem_of_getElem? (i := 11) rfl, w_33, w_34, kd_X11_isWind⟩, w_35⟩
set_option maxRecDepth 20000 in
theorem kV_X10_72 : okV RX10 72 yX10_spread cX10_spread 5 (some .int) 2 := ⟨⟨w_39, w_38, w_25, kd_X10_spread⟩, w_40, w_41⟩
set_option maxRecDepth 20000 in
theorem kV_X10_76 : okV RX10 76 yX10_showing cX10_showing 5 (some .int) 2 := ⟨⟨w_43, w_42, w_25, kd_X10_showing⟩, w_44, w_45⟩
set_option maxRecDepth 20000 in
theorem kV_X10_79 : okV RX10 79 yX10_after cX10_after 3 (some .int) 2 := ⟨⟨w_47, w_46, w_25, kd_X10_after⟩, w_48, w_49⟩
set_option maxRecDepth 20000 in
theorem kS_X9_41 : okS RX9 41 yJ6_bitCount_0f7a4 cJ6_bitCount_0f7a4 1 (some .int) 1 := ⟨⟨w_55, w_54, w_6, kd_J6_bitCount_0f7a4⟩, w_56⟩
set_option maxRecDepth 20000 in
theorem kV_X9_21 : okV RX9 21 yX10_after cX10_after 3 (some .int) 2 := ⟨⟨w_59, w_46, w_25, kd_X10_after⟩, w_48, w_49⟩
set_option maxRecDepth 20000 in
theorem kV_X9_27 : okV RX9 27 yX10_sign cX10_sign 2 (some .int) 1 := ⟨⟨w_61, w_60, w_25, kd_X10_sign⟩, w_62, w_63⟩
set_option maxRecDepth 20000 in
theorem kV_X9_31 : okV RX9 31 yX10_spread cX10_spread 5 (some .int) 2 := ⟨⟨w_64, w_38, w_25, kd_X10_spread⟩, w_40, w_41⟩
set_option maxRecDepth 20000 in
theorem kV_X9_34 : okV RX9 34 yX10_showing cX10_showing 5 (some .int) 2 := ⟨⟨w_65, w_42, w_25, kd_X10_showing⟩, w_44, w_45⟩
set_option maxRecDepth 20000 in
theorem kV_X9_37 : okV RX9 37 yX10_all cX10_all 1 (some .int) 0 := ⟨⟨w_66, w_24, w_25, kd_X10_all⟩, w_27, w_28⟩
set_option maxRecDepth 20000 in
theorem kV_X7_38 : okV RX7 38 yX10_sign cX10_sign 2 (some .int) 1 := ⟨⟨w_68, w_60, w_25, kd_X10_sign⟩, w_62, w_63⟩
set_option maxRecDepth 20000 in
theorem kSN_X5_28 : okSN RX5 28 yX11_isSlot RX11 cX11_isSlot 1 (some .boolean) 1 := ⟨⟨List.mem_of_getElem? (i := 12) rfl, w_97, w_34, kd_X11_isSlot⟩, w_98⟩
set_option maxRecDepth 20000 in
theorem kV_X5_35 : okV RX5 35 yX5_has cX5_has 2 (some .boolean) 1 := ⟨⟨w_106, w_104, w_105, kd_X5_has⟩, w_107, w_108⟩
set_option maxRecDepth 20000 in
theorem kV_X5_38 : okV RX5 38 yX5_size cX5_size 2 (some .int) 1 := ⟨⟨w_110, w_109, w_105, kd_X5_size⟩, w_111, w_112⟩
set_option maxRecDepth 20000 in
theorem kV_X5_42 : okV RX5 42 yX5_width cX5_width 2 (some .int) 1 := ⟨⟨w_115, w_114, w_105, kd_X5_width⟩, w_116, w_117⟩
set_option maxRecDepth 20000 in
theorem kS_X5_45 : okS RX5 45 yX5_cut cX5_cut 3 (some .long) 2 := ⟨⟨w_119, w_118, w_105, kd_X5_cut⟩, w_120⟩
set_option maxRecDepth 20000 in
theorem kV_X5_49 : okV RX5 49 yX5_covers cX5_covers 4 (some .boolean) 3 := ⟨⟨w_123, w_122, w_105, kd_X5_covers⟩, w_124, w_125⟩
set_option maxRecDepth 20000 in
theorem kS_J7_13 : okS RJ7 13 yJ7_rangeCheck_23922 cJ7_rangeCheck_23922 3 none 3 := ⟨⟨w_128, w_126, w_127, kd_J7_rangeCheck_23922⟩, w_129⟩
set_option maxRecDepth 20000 in
theorem kS_X10_36 : okS RX10 36 yJ7_fill_53178 cJ7_fill_53178 4 none 2 := ⟨⟨w_131, w_130, w_127, kd_J7_fill_53178⟩, w_132⟩
set_option maxRecDepth 20000 in
theorem kS_X5_32 : okS RX5 32 yJ7_fill_bad5a cJ7_fill_bad5a 6 none 4 := ⟨⟨w_134, w_133, w_127, kd_J7_fill_bad5a⟩, w_135⟩
set_option maxRecDepth 20000 in
theorem kV_X8_42 : okV RX8 42 yX10_after cX10_after 3 (some .int) 2 := ⟨⟨w_146, w_46, w_25, kd_X10_after⟩, w_48, w_49⟩
set_option maxRecDepth 20000 in
theorem kV_X8_21 : okV RX8 21 yX10_hasPlace cX10_hasPlace 2 (some .boolean) 1 := ⟨⟨w_147, w_29, w_25, kd_X10_hasPlace⟩, w_31, w_32⟩
set_option maxRecDepth 20000 in
theorem kV_X8_46 : okV RX8 46 yX10_sign cX10_sign 2 (some .int) 1 := ⟨⟨w_148, w_60, w_25, kd_X10_sign⟩, w_62, w_63⟩
set_option maxRecDepth 20000 in
theorem kS_X8_28 : okS RX8 28 yJ7_fill_53178 cJ7_fill_53178 4 none 2 := ⟨⟨w_150, w_130, w_127, kd_J7_fill_53178⟩, w_132⟩
set_option maxRecDepth 20000 in
theorem kV_X8_38 : okV RX8 38 yX8_relax cX8_relax 7 none 3 := ⟨⟨w_153, w_151, w_152, kd_X8_relax⟩, w_154, w_155⟩
set_option maxRecDepth 20000 in
theorem kSN_X3_65 : okSN RX3 65 yX11_lowest RX11 cX11_lowest 1 (some .int) 1 := ⟨⟨List.mem_of_getElem? (i := 13) rfl, w_158, w_34, kd_X11_lowest⟩, w_159⟩
set_option maxRecDepth 20000 in
theorem kV_X3_68 : okV RX3 68 yX3_deepest cX3_deepest 6 (some .int) 1 := ⟨⟨w_174, w_172, w_173, kd_X3_deepest⟩, w_175, w_176⟩
set_option maxRecDepth 20000 in
theorem kV_X3_59 : okV RX3 59 yX3_isEven cX3_isEven 3 (some .boolean) 1 := ⟨⟨w_178, w_177, w_173, kd_X3_isEven⟩, w_179, w_180⟩
set_option maxRecDepth 20000 in
theorem kV_X3_62 : okV RX3 62 yX3_windTo cX3_windTo 5 (some .int) 2 := ⟨⟨w_182, w_181, w_173, kd_X3_windTo⟩, w_183, w_184⟩
set_option maxRecDepth 20000 in
theorem kV_X3_25 : okV RX3 25 yX10_all cX10_all 1 (some .int) 0 := ⟨⟨w_187, w_24, w_25, kd_X10_all⟩, w_27, w_28⟩
set_option maxRecDepth 20000 in
theorem kV_X3_55 : okV RX3 55 yX3_settle cX3_settle 4 (some .boolean) 1 := ⟨⟨w_189, w_188, w_173, kd_X3_settle⟩, w_190, w_191⟩
set_option maxRecDepth 20000 in
theorem kS_X3_47 : okS RX3 47 yJ6_bitCount_0f7a4 cJ6_bitCount_0f7a4 1 (some .int) 1 := ⟨⟨w_192, w_54, w_6, kd_J6_bitCount_0f7a4⟩, w_56⟩
set_option maxRecDepth 20000 in
theorem kV_X3_52 : okV RX3 52 yX10_spread cX10_spread 5 (some .int) 2 := ⟨⟨w_193, w_38, w_25, kd_X10_spread⟩, w_40, w_41⟩
set_option maxRecDepth 20000 in
theorem kV_X3_40 : okV RX3 40 yX10_sign cX10_sign 2 (some .int) 1 := ⟨⟨w_194, w_60, w_25, kd_X10_sign⟩, w_62, w_63⟩
set_option maxRecDepth 20000 in
theorem kV_X3_44 : okV RX3 44 yX10_showing cX10_showing 5 (some .int) 2 := ⟨⟨w_195, w_42, w_25, kd_X10_showing⟩, w_44, w_45⟩
set_option maxRecDepth 20000 in
theorem kV_X0_116 : okV RX0 116 yX0_swap cX0_swap 4 none 2 := ⟨⟨w_205, w_203, w_204, kd_X0_swap⟩, w_206, w_207⟩
set_option maxRecDepth 20000 in
theorem kV_X0_106 : okV RX0 106 yX10_setSign cX10_setSign 3 none 2 := ⟨⟨w_215, w_214, w_25, kd_X10_setSign⟩, w_216, w_217⟩
set_option maxRecDepth 20000 in
theorem kV_X0_113 : okV RX0 113 yX10_setWay cX10_setWay 4 none 3 := ⟨⟨w_219, w_218, w_25, kd_X10_setWay⟩, w_220, w_221⟩
set_option maxRecDepth 20000 in
theorem kV_X0_62 : okV RX0 62 yX10_copyFrom cX10_copyFrom 2 none 1 := ⟨⟨w_226, w_225, w_25, kd_X10_copyFrom⟩, w_227, w_228⟩
set_option maxRecDepth 20000 in
theorem kV_X0_75 : okV RX0 75 yX9_place cX9_place 4 none 3 := ⟨⟨w_231, w_229, w_230, kd_X9_place⟩, w_232, w_233⟩
set_option maxRecDepth 20000 in
theorem kV_X0_96 : okV RX0 96 yX9_doubt cX9_doubt 1 (some .int) 0 := ⟨⟨w_235, w_234, w_230, kd_X9_doubt⟩, w_236, w_237⟩
set_option maxRecDepth 20000 in
theorem kV_X0_79 : okV RX0 79 yX0_teach cX0_teach 3 none 1 := ⟨⟨w_239, w_238, w_204, kd_X0_teach⟩, w_240, w_241⟩
set_option maxRecDepth 20000 in
theorem kV_X0_83 : okV RX0 83 yX5_size cX5_size 2 (some .int) 1 := ⟨⟨w_242, w_109, w_105, kd_X5_size⟩, w_111, w_112⟩
set_option maxRecDepth 20000 in
theorem kV_X0_89 : okV RX0 89 yX5_small cX5_small 3 (some .int) 2 := ⟨⟨w_244, w_243, w_105, kd_X5_small⟩, w_245, w_246⟩
set_option maxRecDepth 20000 in
theorem kV_X0_92 : okV RX0 92 yX9_step cX9_step 5 none 2 := ⟨⟨w_248, w_247, w_230, kd_X9_step⟩, w_249, w_250⟩
set_option maxRecDepth 20000 in
theorem kV_X0_48 : okV RX0 48 yX0_tryOrder cX0_tryOrder 7 (some .int) 4 := ⟨⟨w_257, w_256, w_204, kd_X0_tryOrder⟩, w_258, w_259⟩
set_option maxRecDepth 20000 in
theorem kV_X0_58 : okV RX0 58 yX0_nextOrder cX0_nextOrder 6 (some .boolean) 1 := ⟨⟨w_261, w_260, w_204, kd_X0_nextOrder⟩, w_262, w_263⟩
set_option maxRecDepth 20000 in
theorem kU_X6_49_X6_lengthTo : okU RX6 49 RX6 yX6_lengthTo yX6_lengthTo cX6_lengthTo 5 (some .int) 1 := ⟨w_280, w_281, w_282, w_283, w_284, by decide +kernel⟩
set_option maxRecDepth 20000 in
theorem kU_X6_53_X6_goalLength : okU RX6 53 RX6 yX6_goalLength yX6_goalLength cX6_goalLength 1 (some .int) 0 := ⟨w_286, w_287, w_288, w_283, w_289, by decide +kernel⟩
set_option maxRecDepth 20000 in
theorem kV_X1_30 : okV RX1 30 yX9_place cX9_place 4 none 3 := ⟨⟨w_306, w_229, w_230, kd_X9_place⟩, w_232, w_233⟩
set_option maxRecDepth 20000 in
theorem kV_X1_34 : okV RX1 34 yX9_step cX9_step 5 none 2 := ⟨⟨w_307, w_247, w_230, kd_X9_step⟩, w_249, w_250⟩
set_option maxRecDepth 20000 in
theorem kV_X1_44 : okV RX1 44 yX9_doubt cX9_doubt 1 (some .int) 0 := ⟨⟨w_308, w_234, w_230, kd_X9_doubt⟩, w_236, w_237⟩
set_option maxRecDepth 20000 in
theorem kV_X1_48 : okV RX1 48 yX9_isAstray cX9_isAstray 1 (some .boolean) 0 := ⟨⟨w_310, w_309, w_230, kd_X9_isAstray⟩, w_311, w_312⟩
set_option maxRecDepth 20000 in
theorem kV_X1_52 : okV RX1 52 yX9_isSure cX9_isSure 1 (some .boolean) 0 := ⟨⟨w_314, w_313, w_230, kd_X9_isSure⟩, w_315, w_316⟩
set_option maxRecDepth 20000 in
theorem kV_X7_19 : okV RX7 19 yX10_spread cX10_spread 5 (some .int) 2 := ⟨⟨w_317, w_38, w_25, kd_X10_spread⟩, w_40, w_41⟩
set_option maxRecDepth 20000 in
theorem kS_X7_25 : okS RX7 25 yJ6_bitCount_0f7a4 cJ6_bitCount_0f7a4 1 (some .int) 1 := ⟨⟨w_319, w_54, w_6, kd_J6_bitCount_0f7a4⟩, w_56⟩
set_option maxRecDepth 20000 in
theorem kS_X7_31 : okS RX7 31 yX7_showsOne cX7_showsOne 6 (some .boolean) 3 := ⟨⟨w_322, w_320, w_321, kd_X7_showsOne⟩, w_323⟩
set_option maxRecDepth 20000 in
theorem kU_X6_37_X6_meetState : okU RX6 37 RX6 yX6_meetState yX6_meetState cX6_meetState 3 none 2 := ⟨w_324, w_325, w_326, w_283, w_327, by decide +kernel⟩
set_option maxRecDepth 20000 in
theorem kU_X6_41_X1_ends : okU RX6 41 RX6 ⟨"LostWood$Search", "ends", "(LLostWood$Wood;I)Z"⟩ yX1_ends cX1_ends 3 (some .boolean) 2 := ⟨w_328, w_329, w_330, w_331, w_332, by decide +kernel⟩
set_option maxRecDepth 20000 in
theorem kU_X6_45_X1_next : okU RX6 45 RX6 ⟨"LostWood$Search", "next", "(LLostWood$Wood;II)I"⟩ yX1_next cX1_next 4 (some .int) 3 := ⟨w_334, w_335, w_336, w_331, w_337, by decide +kernel⟩
set_option maxRecDepth 20000 in
theorem kU_X6_41_X7_ends : okU RX6 41 RX6 ⟨"LostWood$Search", "ends", "(LLostWood$Wood;I)Z"⟩ yX7_ends cX7_ends 3 (some .boolean) 2 := ⟨w_328, w_329, w_339, w_321, w_340, by decide +kernel⟩
set_option maxRecDepth 20000 in
theorem kU_X6_45_X7_next : okU RX6 45 RX6 ⟨"LostWood$Search", "next", "(LLostWood$Wood;II)I"⟩ yX7_next cX7_next 4 (some .int) 3 := ⟨w_334, w_335, w_342, w_321, w_343, by decide +kernel⟩
set_option maxRecDepth 20000 in
theorem kU_X7_15_X6_explore : okU RX7 15 RX6 ⟨"LostWood$Sets", "explore", "(LLostWood$Wood;I)V"⟩ yX6_explore cX6_explore 5 none 2 := ⟨w_345, w_346, w_347, w_283, w_348, by decide +kernel⟩
set_option maxRecDepth 20000 in
theorem kV_X7_48 : okV RX7 48 yX7_seek cX7_seek 4 none 3 := ⟨⟨w_356, w_355, w_321, kd_X7_seek⟩, w_357, w_358⟩
set_option maxRecDepth 20000 in
theorem kU_X7_52_X6_goalLength : okU RX7 52 RX6 ⟨"LostWood$Sets", "goalLength", "()I"⟩ yX6_goalLength cX6_goalLength 1 (some .int) 0 := ⟨w_359, w_360, w_288, w_283, w_289, by decide +kernel⟩
set_option maxRecDepth 20000 in
theorem kU_X7_56_X6_lengthTo : okU RX7 56 RX6 ⟨"LostWood$Sets", "lengthTo", "(I)I"⟩ yX6_lengthTo cX6_lengthTo 5 (some .int) 1 := ⟨w_362, w_363, w_282, w_283, w_284, by decide +kernel⟩
set_option maxRecDepth 20000 in
theorem kS_X7_59 : okS RX7 59 yJ6_numberOfTrailingZeros_0f7a4 cJ6_numberOfTrailingZeros_0f7a4 2 (some .int) 1 := ⟨⟨w_365, w_5, w_6, kd_J6_numberOfTrailingZeros_0f7a4⟩, w_8⟩
