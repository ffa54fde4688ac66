set_option maxRecDepth 20000 in
theorem w_0 : Cond.constant RX11 375 (2000000000) ∈ wl := tm_5 (List.mem_of_getElem? (i := 200) rfl) rfl
set_option maxRecDepth 20000 in
theorem w_1 : Cond.constant RJ6 265 (1431655765) ∈ wl := tm_3 (List.mem_of_getElem? (i := 180) rfl) rfl
set_option maxRecDepth 20000 in
theorem w_2 : Cond.constant RJ6 266 (858993459) ∈ wl := tm_3 (List.mem_of_getElem? (i := 181) rfl) rfl
set_option maxRecDepth 20000 in
theorem w_3 : Cond.constant RJ6 267 (252645135) ∈ wl := tm_3 (List.mem_of_getElem? (i := 182) rfl) rfl
set_option maxRecDepth 20000 in
theorem w_4 : Cond.constant RJ6 264 (65536) ∈ wl := tm_4 (List.mem_of_getElem? (i := 170) rfl) rfl
set_option maxRecDepth 20000 in
theorem w_5 : Cond.code yJ6_numberOfTrailingZeros_0f7a4 cJ6_numberOfTrailingZeros_0f7a4 2 (some .int) ∈ wl := tm_4 (List.mem_of_getElem? (i := 169) rfl) rfl
set_option maxRecDepth 20000 in
theorem w_6 : Cond.initialized "java/lang/Integer" ∈ wl := tm_1 (List.mem_of_getElem? (i := 21) rfl) rfl
set_option maxRecDepth 20000 in
theorem w_7 : Cond.methodLink RX11 314 yJ6_numberOfTrailingZeros_0f7a4 ∈ wl := tm_4 (List.mem_of_getElem? (i := 167) rfl) rfl
set_option maxRecDepth 20000 in
theorem w_8 : Cond.static yJ6_numberOfTrailingZeros_0f7a4 ∈ wl := tm_4 (List.mem_of_getElem? (i := 168) rfl) rfl
set_option maxRecDepth 20000 in
theorem w_9 : Cond.laysFinal "LostWood$Wood" "LostWood$Wood" "ways" "[I" ∈ wl := tm_1 (List.mem_of_getElem? (i := 71) rfl) rfl
set_option maxRecDepth 20000 in
theorem w_10 : Cond.laysFinal "LostWood$Wood" "LostWood$Wood" "signs" "[I" ∈ wl := tm_1 (List.mem_of_getElem? (i := 73) rfl) rfl
set_option maxRecDepth 20000 in
theorem w_11 : Cond.laysFinal "LostWood$Wood" "LostWood$Wood" "starts" "[I" ∈ wl := tm_1 (List.mem_of_getElem? (i := 75) rfl) rfl
set_option maxRecDepth 20000 in
theorem w_12 : Cond.laysFinal "LostWood$Wood" "LostWood$Wood" "turns" "[I" ∈ wl := tm_1 (List.mem_of_getElem? (i := 77) rfl) rfl
set_option maxRecDepth 20000 in
theorem w_13 : Cond.laysFinal "LostWood$Wood" "LostWood$Wood" "thoughts" "[I" ∈ wl := tm_1 (List.mem_of_getElem? (i := 79) rfl) rfl
set_option maxRecDepth 20000 in
theorem w_14 : Cond.laysFinal "LostWood$Wood" "LostWood$Wood" "lessonKinds" "[I" ∈ wl := tm_1 (List.mem_of_getElem? (i := 81) rfl) rfl
set_option maxRecDepth 20000 in
theorem w_15 : Cond.laysFinal "LostWood$Wood" "LostWood$Wood" "lessonNumbers" "[I" ∈ wl := tm_1 (List.mem_of_getElem? (i := 83) rfl) rfl
set_option maxRecDepth 20000 in
theorem w_16 : Cond.laysFinal "LostWood$Wood" "LostWood$Wood" "lessonWinds" "[I" ∈ wl := tm_1 (List.mem_of_getElem? (i := 85) rfl) rfl
set_option maxRecDepth 20000 in
theorem w_17 : Cond.lays "LostWood$Wood" "LostWood$Wood" "places" "I" ∈ wl := tm_1 (List.mem_of_getElem? (i := 87) rfl) rfl
set_option maxRecDepth 20000 in
theorem w_18 : Cond.lays "LostWood$Wood" "LostWood$Wood" "pupils" "I" ∈ wl := tm_1 (List.mem_of_getElem? (i := 89) rfl) rfl
set_option maxRecDepth 20000 in
theorem w_19 : Cond.lays "LostWood$Wood" "LostWood$Wood" "lessons" "I" ∈ wl := tm_1 (List.mem_of_getElem? (i := 91) rfl) rfl
set_option maxRecDepth 20000 in
theorem w_20 : Cond.lays "LostWood$Wood" "LostWood$Wood" "lines" "I" ∈ wl := tm_1 (List.mem_of_getElem? (i := 93) rfl) rfl
set_option maxRecDepth 20000 in
theorem w_21 : Cond.fieldLink RX10 42 "LostWood$Wood" "places" "I" ∈ wl := tm_1 (List.mem_of_getElem? (i := 56) rfl) rfl
set_option maxRecDepth 20000 in
theorem w_22 : Cond.fieldLink RX10 46 "LostWood$Wood" "pupils" "I" ∈ wl := tm_1 (List.mem_of_getElem? (i := 61) rfl) rfl
set_option maxRecDepth 20000 in
theorem w_23 : Cond.fieldLink RX10 52 "LostWood$Wood" "lines" "I" ∈ wl := tm_1 (List.mem_of_getElem? (i := 68) rfl) rfl
set_option maxRecDepth 20000 in
theorem w_24 : Cond.code yX10_all cX10_all 1 (some .int) ∈ wl := tm_3 (List.mem_of_getElem? (i := 133) rfl) rfl
set_option maxRecDepth 20000 in
theorem w_25 : Cond.initialized RX10 ∈ wl := tm_1 (List.mem_of_getElem? (i := 3) rfl) rfl
set_option maxRecDepth 20000 in
theorem w_26 : Cond.methodLink RX10 61 yX10_all ∈ wl := tm_3 (List.mem_of_getElem? (i := 130) rfl) rfl
set_option maxRecDepth 20000 in
theorem w_27 : Cond.instanceMethod yX10_all ∈ wl := tm_3 (List.mem_of_getElem? (i := 131) rfl) rfl
set_option maxRecDepth 20000 in
theorem w_28 : Cond.selects RX10 yX10_all yX10_all ∈ wl := tm_3 (List.mem_of_getElem? (i := 132) rfl) rfl
set_option maxRecDepth 20000 in
theorem w_29 : Cond.code yX10_hasPlace cX10_hasPlace 2 (some .boolean) ∈ wl := tm_3 (List.mem_of_getElem? (i := 48) rfl) rfl
set_option maxRecDepth 20000 in
theorem w_30 : Cond.methodLink RX10 65 yX10_hasPlace ∈ wl := tm_3 (List.mem_of_getElem? (i := 45) rfl) rfl
set_option maxRecDepth 20000 in
theorem w_31 : Cond.instanceMethod yX10_hasPlace ∈ wl := tm_3 (List.mem_of_getElem? (i := 46) rfl) rfl
set_option maxRecDepth 20000 in
theorem w_32 : Cond.selects RX10 yX10_hasPlace yX10_hasPlace ∈ wl := tm_3 (List.mem_of_getElem? (i := 47) rfl) rfl
set_option maxRecDepth 20000 in
theorem w_33 : Cond.code yX11_isWind cX11_isWind 1 (some .boolean) ∈ wl := tm_3 (List.mem_of_getElem? (i := 51) rfl) rfl
set_option maxRecDepth 20000 in
theorem w_34 : Cond.initialized RX11 ∈ wl := tm_1 (List.mem_of_getElem? (i := 1) rfl) rfl
set_option maxRecDepth 20000 in
theorem w_35 : Cond.static yX11_isWind ∈ wl := tm_3 (List.mem_of_getElem? (i := 50) rfl) rfl
set_option maxRecDepth 20000 in
theorem w_36 : Cond.fieldLink RX10 9 "LostWood$Wood" "ways" "[I" ∈ wl := tm_1 (List.mem_of_getElem? (i := 42) rfl) rfl
set_option maxRecDepth 20000 in
theorem w_37 : Cond.fieldLink RX10 15 "LostWood$Wood" "signs" "[I" ∈ wl := tm_1 (List.mem_of_getElem? (i := 43) rfl) rfl
set_option maxRecDepth 20000 in
theorem w_38 : Cond.code yX10_spread cX10_spread 5 (some .int) ∈ wl := tm_3 (List.mem_of_getElem? (i := 137) rfl) rfl
set_option maxRecDepth 20000 in
theorem w_39 : Cond.methodLink RX10 72 yX10_spread ∈ wl := tm_5 (List.mem_of_getElem? (i := 48) rfl) rfl
set_option maxRecDepth 20000 in
theorem w_40 : Cond.instanceMethod yX10_spread ∈ wl := tm_3 (List.mem_of_getElem? (i := 135) rfl) rfl
set_option maxRecDepth 20000 in
theorem w_41 : Cond.selects RX10 yX10_spread yX10_spread ∈ wl := tm_3 (List.mem_of_getElem? (i := 136) rfl) rfl
set_option maxRecDepth 20000 in
theorem w_42 : Cond.code yX10_showing cX10_showing 5 (some .int) ∈ wl := tm_3 (List.mem_of_getElem? (i := 148) rfl) rfl
set_option maxRecDepth 20000 in
theorem w_43 : Cond.methodLink RX10 76 yX10_showing ∈ wl := tm_5 (List.mem_of_getElem? (i := 2) rfl) rfl
set_option maxRecDepth 20000 in
theorem w_44 : Cond.instanceMethod yX10_showing ∈ wl := tm_3 (List.mem_of_getElem? (i := 146) rfl) rfl
set_option maxRecDepth 20000 in
theorem w_45 : Cond.selects RX10 yX10_showing yX10_showing ∈ wl := tm_3 (List.mem_of_getElem? (i := 147) rfl) rfl
set_option maxRecDepth 20000 in
theorem w_46 : Cond.code yX10_after cX10_after 3 (some .int) ∈ wl := tm_3 (List.mem_of_getElem? (i := 113) rfl) rfl
set_option maxRecDepth 20000 in
theorem w_47 : Cond.methodLink RX10 79 yX10_after ∈ wl := tm_5 (List.mem_of_getElem? (i := 220) rfl) rfl
set_option maxRecDepth 20000 in
theorem w_48 : Cond.instanceMethod yX10_after ∈ wl := tm_3 (List.mem_of_getElem? (i := 111) rfl) rfl
set_option maxRecDepth 20000 in
theorem w_49 : Cond.selects RX10 yX10_after yX10_after ∈ wl := tm_3 (List.mem_of_getElem? (i := 112) rfl) rfl
set_option maxRecDepth 20000 in
theorem w_50 : Cond.lays "LostWood$Walker" "LostWood$Walker" "at" "I" ∈ wl := tm_1 (List.mem_of_getElem? (i := 182) rfl) rfl
set_option maxRecDepth 20000 in
theorem w_51 : Cond.lays "LostWood$Walker" "LostWood$Walker" "thought" "I" ∈ wl := tm_1 (List.mem_of_getElem? (i := 184) rfl) rfl
set_option maxRecDepth 20000 in
theorem w_52 : Cond.lays "LostWood$Walker" "LostWood$Walker" "turn" "I" ∈ wl := tm_1 (List.mem_of_getElem? (i := 186) rfl) rfl
set_option maxRecDepth 20000 in
theorem w_53 : Cond.fieldLink RX9 15 "LostWood$Walker" "thought" "I" ∈ wl := tm_1 (List.mem_of_getElem? (i := 174) rfl) rfl
set_option maxRecDepth 20000 in
theorem w_54 : Cond.code yJ6_bitCount_0f7a4 cJ6_bitCount_0f7a4 1 (some .int) ∈ wl := tm_3 (List.mem_of_getElem? (i := 179) rfl) rfl
set_option maxRecDepth 20000 in
theorem w_55 : Cond.methodLink RX9 41 yJ6_bitCount_0f7a4 ∈ wl := tm_3 (List.mem_of_getElem? (i := 177) rfl) rfl
set_option maxRecDepth 20000 in
theorem w_56 : Cond.static yJ6_bitCount_0f7a4 ∈ wl := tm_3 (List.mem_of_getElem? (i := 178) rfl) rfl
set_option maxRecDepth 20000 in
theorem w_57 : Cond.fieldLink RX9 9 "LostWood$Walker" "at" "I" ∈ wl := tm_1 (List.mem_of_getElem? (i := 169) rfl) rfl
set_option maxRecDepth 20000 in
theorem w_58 : Cond.fieldLink RX9 18 "LostWood$Walker" "turn" "I" ∈ wl := tm_1 (List.mem_of_getElem? (i := 179) rfl) rfl
set_option maxRecDepth 20000 in
theorem w_59 : Cond.methodLink RX9 21 yX10_after ∈ wl := tm_3 (List.mem_of_getElem? (i := 199) rfl) rfl
set_option maxRecDepth 20000 in
theorem w_60 : Cond.code yX10_sign cX10_sign 2 (some .int) ∈ wl := tm_3 (List.mem_of_getElem? (i := 121) rfl) rfl
set_option maxRecDepth 20000 in
theorem w_61 : Cond.methodLink RX9 27 yX10_sign ∈ wl := tm_3 (List.mem_of_getElem? (i := 200) rfl) rfl
set_option maxRecDepth 20000 in
theorem w_62 : Cond.instanceMethod yX10_sign ∈ wl := tm_3 (List.mem_of_getElem? (i := 119) rfl) rfl
set_option maxRecDepth 20000 in
theorem w_63 : Cond.selects RX10 yX10_sign yX10_sign ∈ wl := tm_3 (List.mem_of_getElem? (i := 120) rfl) rfl
set_option maxRecDepth 20000 in
theorem w_64 : Cond.methodLink RX9 31 yX10_spread ∈ wl := tm_3 (List.mem_of_getElem? (i := 201) rfl) rfl
set_option maxRecDepth 20000 in
theorem w_65 : Cond.methodLink RX9 34 yX10_showing ∈ wl := tm_3 (List.mem_of_getElem? (i := 202) rfl) rfl
set_option maxRecDepth 20000 in
theorem w_66 : Cond.methodLink RX9 37 yX10_all ∈ wl := tm_3 (List.mem_of_getElem? (i := 203) rfl) rfl
set_option maxRecDepth 20000 in
theorem w_67 : Cond.fieldLink RX7 35 "LostWood$Wood" "places" "I" ∈ wl := tm_1 (List.mem_of_getElem? (i := 58) rfl) rfl
set_option maxRecDepth 20000 in
theorem w_68 : Cond.methodLink RX7 38 yX10_sign ∈ wl := tm_4 (List.mem_of_getElem? (i := 87) rfl) rfl
set_option maxRecDepth 20000 in
theorem w_69 : Cond.laysFinal "LostWood$Party" "LostWood$Party" "at" "[I" ∈ wl := tm_1 (List.mem_of_getElem? (i := 150) rfl) rfl
set_option maxRecDepth 20000 in
theorem w_70 : Cond.laysFinal "LostWood$Party" "LostWood$Party" "thought" "[I" ∈ wl := tm_1 (List.mem_of_getElem? (i := 152) rfl) rfl
set_option maxRecDepth 20000 in
theorem w_71 : Cond.laysFinal "LostWood$Party" "LostWood$Party" "whose" "[I" ∈ wl := tm_1 (List.mem_of_getElem? (i := 154) rfl) rfl
set_option maxRecDepth 20000 in
theorem w_72 : Cond.laysFinal "LostWood$Party" "LostWood$Party" "wasAt" "[I" ∈ wl := tm_1 (List.mem_of_getElem? (i := 156) rfl) rfl
set_option maxRecDepth 20000 in
theorem w_73 : Cond.laysFinal "LostWood$Party" "LostWood$Party" "wasThought" "[I" ∈ wl := tm_1 (List.mem_of_getElem? (i := 158) rfl) rfl
set_option maxRecDepth 20000 in
theorem w_74 : Cond.lays "LostWood$Party" "LostWood$Party" "steps" "I" ∈ wl := tm_1 (List.mem_of_getElem? (i := 160) rfl) rfl
set_option maxRecDepth 20000 in
theorem w_75 : Cond.fieldLink RX2 35 "LostWood$Party" "steps" "I" ∈ wl := tm_1 (List.mem_of_getElem? (i := 148) rfl) rfl
set_option maxRecDepth 20000 in
theorem w_76 : Cond.fieldLink RX2 9 "LostWood$Party" "at" "[I" ∈ wl := tm_1 (List.mem_of_getElem? (i := 141) rfl) rfl
set_option maxRecDepth 20000 in
theorem w_77 : Cond.fieldLink RX2 27 "LostWood$Wood" "starts" "[I" ∈ wl := tm_1 (List.mem_of_getElem? (i := 45) rfl) rfl
set_option maxRecDepth 20000 in
theorem w_78 : Cond.fieldLink RX2 15 "LostWood$Party" "thought" "[I" ∈ wl := tm_1 (List.mem_of_getElem? (i := 143) rfl) rfl
set_option maxRecDepth 20000 in
theorem w_79 : Cond.fieldLink RX2 32 "LostWood$Wood" "thoughts" "[I" ∈ wl := tm_1 (List.mem_of_getElem? (i := 49) rfl) rfl
set_option maxRecDepth 20000 in
theorem w_80 : Cond.methodLink RX2 39 arraycopyName ∈ wl := tm_5 (List.mem_of_getElem? (i := 233) rfl) rfl
set_option maxRecDepth 20000 in
theorem w_81 : Cond.native arraycopyName ∈ wl := tm_3 (List.mem_of_getElem? (i := 95) rfl) rfl
set_option maxRecDepth 20000 in
theorem w_82 : Cond.static arraycopyName ∈ wl := tm_3 (List.mem_of_getElem? (i := 94) rfl) rfl
set_option maxRecDepth 20000 in
theorem w_83 : Cond.initialized "java/lang/System" ∈ wl := tm_1 (List.mem_of_getElem? (i := 20) rfl) rfl
set_option maxRecDepth 20000 in
theorem w_84 : Cond.fieldLink RX2 18 "LostWood$Party" "whose" "[I" ∈ wl := tm_1 (List.mem_of_getElem? (i := 145) rfl) rfl
set_option maxRecDepth 20000 in
theorem w_85 : Cond.fieldLink RX2 21 "LostWood$Party" "wasAt" "[I" ∈ wl := tm_1 (List.mem_of_getElem? (i := 146) rfl) rfl
set_option maxRecDepth 20000 in
theorem w_86 : Cond.fieldLink RX2 24 "LostWood$Party" "wasThought" "[I" ∈ wl := tm_1 (List.mem_of_getElem? (i := 147) rfl) rfl
set_option maxRecDepth 20000 in
theorem w_87 : Cond.fieldLink RX2 45 "LostWood$Walker" "at" "I" ∈ wl := tm_1 (List.mem_of_getElem? (i := 172) rfl) rfl
set_option maxRecDepth 20000 in
theorem w_88 : Cond.fieldLink RX2 49 "LostWood$Walker" "thought" "I" ∈ wl := tm_1 (List.mem_of_getElem? (i := 177) rfl) rfl
set_option maxRecDepth 20000 in
theorem w_89 : Cond.methodLink RX10 55 arraycopyName ∈ wl := tm_3 (List.mem_of_getElem? (i := 93) rfl) rfl
set_option maxRecDepth 20000 in
theorem w_90 : Cond.fieldLink RX10 18 "LostWood$Wood" "starts" "[I" ∈ wl := tm_1 (List.mem_of_getElem? (i := 44) rfl) rfl
set_option maxRecDepth 20000 in
theorem w_91 : Cond.fieldLink RX10 21 "LostWood$Wood" "turns" "[I" ∈ wl := tm_1 (List.mem_of_getElem? (i := 46) rfl) rfl
set_option maxRecDepth 20000 in
theorem w_92 : Cond.fieldLink RX10 24 "LostWood$Wood" "thoughts" "[I" ∈ wl := tm_1 (List.mem_of_getElem? (i := 48) rfl) rfl
set_option maxRecDepth 20000 in
theorem w_93 : Cond.fieldLink RX10 27 "LostWood$Wood" "lessonKinds" "[I" ∈ wl := tm_1 (List.mem_of_getElem? (i := 50) rfl) rfl
set_option maxRecDepth 20000 in
theorem w_94 : Cond.fieldLink RX10 30 "LostWood$Wood" "lessonNumbers" "[I" ∈ wl := tm_1 (List.mem_of_getElem? (i := 52) rfl) rfl
set_option maxRecDepth 20000 in
theorem w_95 : Cond.fieldLink RX10 33 "LostWood$Wood" "lessonWinds" "[I" ∈ wl := tm_1 (List.mem_of_getElem? (i := 54) rfl) rfl
set_option maxRecDepth 20000 in
theorem w_96 : Cond.fieldLink RX10 49 "LostWood$Wood" "lessons" "I" ∈ wl := tm_1 (List.mem_of_getElem? (i := 65) rfl) rfl
set_option maxRecDepth 20000 in
theorem w_97 : Cond.code yX11_isSlot cX11_isSlot 1 (some .boolean) ∈ wl := tm_4 (List.mem_of_getElem? (i := 2) rfl) rfl
set_option maxRecDepth 20000 in
theorem w_98 : Cond.static yX11_isSlot ∈ wl := tm_4 (List.mem_of_getElem? (i := 1) rfl) rfl
set_option maxRecDepth 20000 in
theorem w_99 : Cond.laysFinal "LostWood$Rows" "LostWood$Rows" "numbers" "[J" ∈ wl := tm_1 (List.mem_of_getElem? (i := 201) rfl) rfl
set_option maxRecDepth 20000 in
theorem w_100 : Cond.laysFinal "LostWood$Rows" "LostWood$Rows" "widths" "[I" ∈ wl := tm_1 (List.mem_of_getElem? (i := 203) rfl) rfl
set_option maxRecDepth 20000 in
theorem w_101 : Cond.laysFinal "LostWood$Rows" "LostWood$Rows" "sizes" "[I" ∈ wl := tm_1 (List.mem_of_getElem? (i := 205) rfl) rfl
set_option maxRecDepth 20000 in
theorem w_102 : Cond.fieldLink RX5 19 "LostWood$Rows" "sizes" "[I" ∈ wl := tm_1 (List.mem_of_getElem? (i := 200) rfl) rfl
set_option maxRecDepth 20000 in
theorem w_103 : Cond.fieldLink RX5 15 "LostWood$Rows" "widths" "[I" ∈ wl := tm_1 (List.mem_of_getElem? (i := 199) rfl) rfl
set_option maxRecDepth 20000 in
theorem w_104 : Cond.code yX5_has cX5_has 2 (some .boolean) ∈ wl := tm_4 (List.mem_of_getElem? (i := 6) rfl) rfl
set_option maxRecDepth 20000 in
theorem w_105 : Cond.initialized RX5 ∈ wl := tm_1 (List.mem_of_getElem? (i := 6) rfl) rfl
set_option maxRecDepth 20000 in
theorem w_106 : Cond.methodLink RX5 35 yX5_has ∈ wl := tm_4 (List.mem_of_getElem? (i := 12) rfl) rfl
set_option maxRecDepth 20000 in
theorem w_107 : Cond.instanceMethod yX5_has ∈ wl := tm_4 (List.mem_of_getElem? (i := 4) rfl) rfl
set_option maxRecDepth 20000 in
theorem w_108 : Cond.selects RX5 yX5_has yX5_has ∈ wl := tm_4 (List.mem_of_getElem? (i := 5) rfl) rfl
set_option maxRecDepth 20000 in
theorem w_109 : Cond.code yX5_size cX5_size 2 (some .int) ∈ wl := tm_4 (List.mem_of_getElem? (i := 11) rfl) rfl
set_option maxRecDepth 20000 in
theorem w_110 : Cond.methodLink RX5 38 yX5_size ∈ wl := tm_4 (List.mem_of_getElem? (i := 17) rfl) rfl
set_option maxRecDepth 20000 in
theorem w_111 : Cond.instanceMethod yX5_size ∈ wl := tm_4 (List.mem_of_getElem? (i := 9) rfl) rfl
set_option maxRecDepth 20000 in
theorem w_112 : Cond.selects RX5 yX5_size yX5_size ∈ wl := tm_4 (List.mem_of_getElem? (i := 10) rfl) rfl
set_option maxRecDepth 20000 in
theorem w_113 : Cond.fieldLink RX5 9 "LostWood$Rows" "numbers" "[J" ∈ wl := tm_1 (List.mem_of_getElem? (i := 198) rfl) rfl
set_option maxRecDepth 20000 in
theorem w_114 : Cond.code yX5_width cX5_width 2 (some .int) ∈ wl := tm_6 (List.mem_of_getElem? (i := 23) rfl) rfl
set_option maxRecDepth 20000 in
theorem w_115 : Cond.methodLink RX5 42 yX5_width ∈ wl := tm_6 (List.mem_of_getElem? (i := 20) rfl) rfl
set_option maxRecDepth 20000 in
theorem w_116 : Cond.instanceMethod yX5_width ∈ wl := tm_6 (List.mem_of_getElem? (i := 21) rfl) rfl
set_option maxRecDepth 20000 in
theorem w_117 : Cond.selects RX5 yX5_width yX5_width ∈ wl := tm_6 (List.mem_of_getElem? (i := 22) rfl) rfl
set_option maxRecDepth 20000 in
theorem w_118 : Cond.code yX5_cut cX5_cut 3 (some .long) ∈ wl := tm_6 (List.mem_of_getElem? (i := 26) rfl) rfl
set_option maxRecDepth 20000 in
theorem w_119 : Cond.methodLink RX5 45 yX5_cut ∈ wl := tm_6 (List.mem_of_getElem? (i := 24) rfl) rfl
set_option maxRecDepth 20000 in
theorem w_120 : Cond.static yX5_cut ∈ wl := tm_6 (List.mem_of_getElem? (i := 25) rfl) rfl
set_option maxRecDepth 20000 in
theorem w_121 : Cond.methodLink RX5 53 arraycopyName ∈ wl := tm_6 (List.mem_of_getElem? (i := 41) rfl) rfl
set_option maxRecDepth 20000 in
theorem w_122 : Cond.code yX5_covers cX5_covers 4 (some .boolean) ∈ wl := tm_6 (List.mem_of_getElem? (i := 35) rfl) rfl
set_option maxRecDepth 20000 in
theorem w_123 : Cond.methodLink RX5 49 yX5_covers ∈ wl := tm_6 (List.mem_of_getElem? (i := 40) rfl) rfl
set_option maxRecDepth 20000 in
theorem w_124 : Cond.instanceMethod yX5_covers ∈ wl := tm_6 (List.mem_of_getElem? (i := 33) rfl) rfl
set_option maxRecDepth 20000 in
theorem w_125 : Cond.selects RX5 yX5_covers yX5_covers ∈ wl := tm_6 (List.mem_of_getElem? (i := 34) rfl) rfl
set_option maxRecDepth 20000 in
theorem w_126 : Cond.code yJ7_rangeCheck_23922 cJ7_rangeCheck_23922 3 none ∈ wl := tm_6 (List.mem_of_getElem? (i := 11) rfl) rfl
set_option maxRecDepth 20000 in
theorem w_127 : Cond.initialized RJ7 ∈ wl := tm_1 (List.mem_of_getElem? (i := 7) rfl) rfl
set_option maxRecDepth 20000 in
theorem w_128 : Cond.methodLink RJ7 13 yJ7_rangeCheck_23922 ∈ wl := tm_6 (List.mem_of_getElem? (i := 9) rfl) rfl
set_option maxRecDepth 20000 in
theorem w_129 : Cond.static yJ7_rangeCheck_23922 ∈ wl := tm_6 (List.mem_of_getElem? (i := 10) rfl) rfl
set_option maxRecDepth 20000 in
theorem w_130 : Cond.code yJ7_fill_53178 cJ7_fill_53178 4 none ∈ wl := tm_1 (List.mem_of_getElem? (i := 197) rfl) rfl
set_option maxRecDepth 20000 in
theorem w_131 : Cond.methodLink RX10 36 yJ7_fill_53178 ∈ wl := tm_2 (List.mem_of_getElem? (i := 176) rfl) rfl
set_option maxRecDepth 20000 in
theorem w_132 : Cond.static yJ7_fill_53178 ∈ wl := tm_1 (List.mem_of_getElem? (i := 196) rfl) rfl
set_option maxRecDepth 20000 in
theorem w_133 : Cond.code yJ7_fill_bad5a cJ7_fill_bad5a 6 none ∈ wl := tm_6 (List.mem_of_getElem? (i := 8) rfl) rfl
set_option maxRecDepth 20000 in
theorem w_134 : Cond.methodLink RX5 32 yJ7_fill_bad5a ∈ wl := tm_6 (List.mem_of_getElem? (i := 6) rfl) rfl
set_option maxRecDepth 20000 in
theorem w_135 : Cond.static yJ7_fill_bad5a ∈ wl := tm_6 (List.mem_of_getElem? (i := 7) rfl) rfl
set_option maxRecDepth 20000 in
theorem w_136 : Cond.laysFinal "LostWood$Travel" "LostWood$Travel" "costs" "[I" ∈ wl := tm_2 (List.mem_of_getElem? (i := 102) rfl) rfl
set_option maxRecDepth 20000 in
theorem w_137 : Cond.laysFinal "LostWood$Travel" "LostWood$Travel" "chances" "[I" ∈ wl := tm_2 (List.mem_of_getElem? (i := 104) rfl) rfl
set_option maxRecDepth 20000 in
theorem w_138 : Cond.laysFinal "LostWood$Travel" "LostWood$Travel" "later" "[I" ∈ wl := tm_2 (List.mem_of_getElem? (i := 106) rfl) rfl
set_option maxRecDepth 20000 in
theorem w_139 : Cond.fieldLink RX8 15 "LostWood$Travel" "chances" "[I" ∈ wl := tm_2 (List.mem_of_getElem? (i := 100) rfl) rfl
set_option maxRecDepth 20000 in
theorem w_140 : Cond.fieldLink RX8 9 "LostWood$Travel" "costs" "[I" ∈ wl := tm_2 (List.mem_of_getElem? (i := 99) rfl) rfl
set_option maxRecDepth 20000 in
theorem w_141 : Cond.methodLink RX8 50 Lib.Math.min.name ∈ wl := tm_5 (List.mem_of_getElem? (i := 150) rfl) rfl
set_option maxRecDepth 20000 in
theorem w_142 : Cond.static Lib.Math.min.name ∈ wl := tm_2 (List.mem_of_getElem? (i := 191) rfl) rfl
set_option maxRecDepth 20000 in
theorem w_143 : Cond.initialized "java/lang/Math" ∈ wl := tm_1 (List.mem_of_getElem? (i := 10) rfl) rfl
set_option maxRecDepth 20000 in
theorem w_144 : Cond.code Lib.Math.min.name Lib.Math.min.code 2 (some .int) ∈ wl := tm_2 (List.mem_of_getElem? (i := 192) rfl) rfl
set_option maxRecDepth 20000 in
theorem w_145 : Cond.constant RX8 27 (1000000000) ∈ wl := tm_5 (List.mem_of_getElem? (i := 142) rfl) rfl
set_option maxRecDepth 20000 in
theorem w_146 : Cond.methodLink RX8 42 yX10_after ∈ wl := tm_5 (List.mem_of_getElem? (i := 148) rfl) rfl
set_option maxRecDepth 20000 in
theorem w_147 : Cond.methodLink RX8 21 yX10_hasPlace ∈ wl := tm_5 (List.mem_of_getElem? (i := 141) rfl) rfl
set_option maxRecDepth 20000 in
theorem w_148 : Cond.methodLink RX8 46 yX10_sign ∈ wl := tm_5 (List.mem_of_getElem? (i := 149) rfl) rfl
set_option maxRecDepth 20000 in
theorem w_149 : Cond.fieldLink RX8 34 "LostWood$Wood" "places" "I" ∈ wl := tm_1 (List.mem_of_getElem? (i := 57) rfl) rfl
set_option maxRecDepth 20000 in
theorem w_150 : Cond.methodLink RX8 28 yJ7_fill_53178 ∈ wl := tm_5 (List.mem_of_getElem? (i := 143) rfl) rfl
set_option maxRecDepth 20000 in
theorem w_151 : Cond.code yX8_relax cX8_relax 7 none ∈ wl := tm_5 (List.mem_of_getElem? (i := 147) rfl) rfl
set_option maxRecDepth 20000 in
theorem w_152 : Cond.initialized RX8 ∈ wl := tm_1 (List.mem_of_getElem? (i := 14) rfl) rfl
set_option maxRecDepth 20000 in
theorem w_153 : Cond.methodLink RX8 38 yX8_relax ∈ wl := tm_5 (List.mem_of_getElem? (i := 144) rfl) rfl
set_option maxRecDepth 20000 in
theorem w_154 : Cond.instanceMethod yX8_relax ∈ wl := tm_5 (List.mem_of_getElem? (i := 146) rfl) rfl
set_option maxRecDepth 20000 in
theorem w_155 : Cond.selects RX8 yX8_relax yX8_relax ∈ wl := tp_3 (q := (yX8_relax, 3)) (List.mem_of_getElem? (i := 4) rfl)
set_option maxRecDepth 20000 in
theorem w_156 : Cond.fieldLink RX8 18 "LostWood$Travel" "later" "[I" ∈ wl := tm_2 (List.mem_of_getElem? (i := 101) rfl) rfl
set_option maxRecDepth 20000 in
theorem w_157 : Cond.methodLink RX8 55 arraycopyName ∈ wl := tm_5 (List.mem_of_getElem? (i := 170) rfl) rfl
set_option maxRecDepth 20000 in
theorem in_X10 : ∀ w ∈ wsX100, w ∈ wl := List.forall_mem_cons.mpr ⟨w_9, List.forall_mem_cons.mpr ⟨w_10, List.forall_mem_cons.mpr ⟨w_11, List.forall_mem_cons.mpr ⟨w_12, List.forall_mem_cons.mpr ⟨w_13, List.forall_mem_cons.mpr ⟨w_14, List.forall_mem_cons.mpr ⟨w_15, List.forall_mem_cons.mpr ⟨w_16, List.forall_mem_cons.mpr ⟨w_17, List.forall_mem_cons.mpr ⟨w_18, List.forall_mem_cons.mpr ⟨w_19, List.forall_mem_cons.mpr ⟨w_20, fun _ h => absurd h List.not_mem_nil⟩⟩⟩⟩⟩⟩⟩⟩⟩⟩⟩⟩
set_option maxRecDepth 20000 in
theorem in_X9 : ∀ w ∈ wsX90, w ∈ wl := List.forall_mem_cons.mpr ⟨w_50, List.forall_mem_cons.mpr ⟨w_51, List.forall_mem_cons.mpr ⟨w_52, fun _ h => absurd h List.not_mem_nil⟩⟩⟩
set_option maxRecDepth 20000 in
theorem in_X2 : ∀ w ∈ wsX20, w ∈ wl := List.forall_mem_cons.mpr ⟨w_69, List.forall_mem_cons.mpr ⟨w_70, List.forall_mem_cons.mpr ⟨w_71, List.forall_mem_cons.mpr ⟨w_72, List.forall_mem_cons.mpr ⟨w_73, List.forall_mem_cons.mpr ⟨w_74, fun _ h => absurd h List.not_mem_nil⟩⟩⟩⟩⟩⟩
set_option maxRecDepth 20000 in
theorem in_X5 : ∀ w ∈ wsX50, w ∈ wl := List.forall_mem_cons.mpr ⟨w_99, List.forall_mem_cons.mpr ⟨w_100, List.forall_mem_cons.mpr ⟨w_101, fun _ h => absurd h List.not_mem_nil⟩⟩⟩
set_option maxRecDepth 20000 in
theorem in_X8 : ∀ w ∈ wsX80, w ∈ wl := List.forall_mem_cons.mpr ⟨w_136, List.forall_mem_cons.mpr ⟨w_137, List.forall_mem_cons.mpr ⟨w_138, fun _ h => absurd h List.not_mem_nil⟩⟩⟩
theorem kd_J6_numberOfTrailingZeros_0f7a4 : okD yJ6_numberOfTrailingZeros_0f7a4 1 := by decide +kernel
theorem kd_X10_all : okD yX10_all 0 := by decide +kernel
theorem kd_X10_hasPlace : okD yX10_hasPlace 1 := by decide +kernel
theorem kd_X11_isWind : okD yX11_isWind 1 := by decide +kernel
theorem kd_X10_spread : okD yX10_spread 2 := by decide +kernel
theorem kd_X10_showing : okD yX10_showing 2 := by decide +kernel
theorem kd_X10_after : okD yX10_after 2 := by decide +kernel
theorem kd_J6_bitCount_0f7a4 : okD yJ6_bitCount_0f7a4 1 := by decide +kernel
theorem kd_X10_sign : okD yX10_sign 1 := by decide +kernel
theorem kd_X11_isSlot : okD yX11_isSlot 1 := by decide +kernel
theorem kd_X5_has : okD yX5_has 1 := by decide +kernel
theorem kd_X5_size : okD yX5_size 1 := by decide +kernel
theorem kd_X5_width : okD yX5_width 1 := by decide +kernel
theorem kd_X5_cut : okD yX5_cut 2 := by decide +kernel
theorem kd_X5_covers : okD yX5_covers 3 := by decide +kernel
theorem kd_J7_rangeCheck_23922 : okD yJ7_rangeCheck_23922 3 := by decide +kernel
theorem kd_J7_fill_53178 : okD yJ7_fill_53178 2 := by decide +kernel
theorem kd_J7_fill_bad5a : okD yJ7_fill_bad5a 4 := by decide +kernel
theorem kd_X8_relax : okD yX8_relax 3 := by decide +kernel
set_option maxRecDepth 20000 in
theorem kS_X11_314 : okS RX11 314 yJ6_numberOfTrailingZeros_0f7a4 cJ6_numberOfTrailingZeros_0f7a4 2 (some .int) 1 := ⟨⟨w_7, w_5, w_6, kd_J6_numberOfTrailingZeros_0f7a4⟩, w_8⟩
set_option maxRecDepth 20000 in
theorem kV_X10_61 : okV RX10 61 yX10_all cX10_all 1 (some .int) 0 := ⟨⟨w_26, w_24, w_25, kd_X10_all⟩, w_27, w_28⟩
set_option maxRecDepth 20000 in
theorem kV_X10_65 : okV RX10 65 yX10_hasPlace cX10_hasPlace 2 (some .boolean) 1 := ⟨⟨w_30, w_29, w_25, kd_X10_hasPlace⟩, w_31, w_32⟩
set_option maxRecDepth 20000 in
theorem kSN_X10_69 : okSN RX10 69 yX11_isWind RX11 cX11_isWind 1 (some .boolean) 1 := ⟨⟨List.mem_of_getElem? (i := 11) rfl, w_33, w_34, kd_X11_isWind⟩, w_35⟩
set_option maxRecDepth 20000 in
theorem kV_X10_72 : okV RX10 72 yX10_spread cX10_spread 5 (some .int) 2 := ⟨⟨w_39, w_38, w_25, kd_X10_spread⟩, w_40, w_41⟩
set_option maxRecDepth 20000 in
theorem kV_X10_76 : okV RX10 76 yX10_showing cX10_showing 5 (some .int) 2 := ⟨⟨w_43, w_42, w_25, kd_X10_showing⟩, w_44, w_45⟩
set_option maxRecDepth 20000 in
theorem kV_X10_79 : okV RX10 79 yX10_after cX10_after 3 (some .int) 2 := ⟨⟨w_47, w_46, w_25, kd_X10_after⟩, w_48, w_49⟩
set_option maxRecDepth 20000 in
theorem kS_X9_41 : okS RX9 41 yJ6_bitCount_0f7a4 cJ6_bitCount_0f7a4 1 (some .int) 1 := ⟨⟨w_55, w_54, w_6, kd_J6_bitCount_0f7a4⟩, w_56⟩
set_option maxRecDepth 20000 in
theorem kV_X9_21 : okV RX9 21 yX10_after cX10_after 3 (some .int) 2 := ⟨⟨w_59, w_46, w_25, kd_X10_after⟩, w_48, w_49⟩
set_option maxRecDepth 20000 in
theorem kV_X9_27 : okV RX9 27 yX10_sign cX10_sign 2 (some .int) 1 := ⟨⟨w_61, w_60, w_25, kd_X10_sign⟩, w_62, w_63⟩
set_option maxRecDepth 20000 in
theorem kV_X9_31 : okV RX9 31 yX10_spread cX10_spread 5 (some .int) 2 := ⟨⟨w_64, w_38, w_25, kd_X10_spread⟩, w_40, w_41⟩
set_option maxRecDepth 20000 in
theorem kV_X9_34 : okV RX9 34 yX10_showing cX10_showing 5 (some .int) 2 := ⟨⟨w_65, w_42, w_25, kd_X10_showing⟩, w_44, w_45⟩
set_option maxRecDepth 20000 in
theorem kV_X9_37 : okV RX9 37 yX10_all cX10_all 1 (some .int) 0 := ⟨⟨w_66, w_24, w_25, kd_X10_all⟩, w_27, w_28⟩
set_option maxRecDepth 20000 in
theorem kV_X7_38 : okV RX7 38 yX10_sign cX10_sign 2 (some .int) 1 := ⟨⟨w_68, w_60, w_25, kd_X10_sign⟩, w_62, w_63⟩
set_option maxRecDepth 20000 in
theorem kSN_X5_28 : okSN RX5 28 yX11_isSlot RX11 cX11_isSlot 1 (some .boolean) 1 := ⟨⟨List.mem_of_getElem? (i := 12) rfl, w_97, w_34, kd_X11_isSlot⟩, w_98⟩
set_option maxRecDepth 20000 in
theorem kV_X5_35 : okV RX5 35 yX5_has cX5_has 2 (some .boolean) 1 := ⟨⟨w_106, w_104, w_105, kd_X5_has⟩, w_107, w_108⟩
set_option maxRecDepth 20000 in
theorem kV_X5_38 : okV RX5 38 yX5_size cX5_size 2 (some .int) 1 := ⟨⟨w_110, w_109, w_105, kd_X5_size⟩, w_111, w_112⟩
set_option maxRecDepth 20000 in
theorem kV_X5_42 : okV RX5 42 yX5_width cX5_width 2 (some .int) 1 := ⟨⟨w_115, w_114, w_105, kd_X5_width⟩, w_116, w_117⟩
set_option maxRecDepth 20000 in
theorem kS_X5_45 : okS RX5 45 yX5_cut cX5_cut 3 (some .long) 2 := ⟨⟨w_119, w_118, w_105, kd_X5_cut⟩, w_120⟩
set_option maxRecDepth 20000 in
theorem kV_X5_49 : okV RX5 49 yX5_covers cX5_covers 4 (some .boolean) 3 := ⟨⟨w_123, w_122, w_105, kd_X5_covers⟩, w_124, w_125⟩
set_option maxRecDepth 20000 in
theorem kS_J7_13 : okS RJ7 13 yJ7_rangeCheck_23922 cJ7_rangeCheck_23922 3 none 3 := ⟨⟨w_128, w_126, w_127, kd_J7_rangeCheck_23922⟩, w_129⟩
set_option maxRecDepth 20000 in
theorem kS_X10_36 : okS RX10 36 yJ7_fill_53178 cJ7_fill_53178 4 none 2 := ⟨⟨w_131, w_130, w_127, kd_J7_fill_53178⟩, w_132⟩
set_option maxRecDepth 20000 in
theorem kS_X5_32 : okS RX5 32 yJ7_fill_bad5a cJ7_fill_bad5a 6 none 4 := ⟨⟨w_134, w_133, w_127, kd_J7_fill_bad5a⟩, w_135⟩
set_option maxRecDepth 20000 in
theorem kV_X8_42 : okV RX8 42 yX10_after cX10_after 3 (some .int) 2 := ⟨⟨w_146, w_46, w_25, kd_X10_after⟩, w_48, w_49⟩
set_option maxRecDepth 20000 in
theorem kV_X8_21 : okV RX8 21 yX10_hasPlace cX10_hasPlace 2 (some .boolean) 1 := ⟨⟨w_147, w_29, w_25, kd_X10_hasPlace⟩, w_31, w_32⟩
set_option maxRecDepth 20000 in
theorem kV_X8_46 : okV RX8 46 yX10_sign cX10_sign 2 (some .int) 1 := ⟨⟨w_148, w_60, w_25, kd_X10_sign⟩, w_62, w_63⟩
set_option maxRecDepth 20000 in
theorem kS_X8_28 : okS RX8 28 yJ7_fill_53178 cJ7_fill_53178 4 none 2 := ⟨⟨w_150, w_130, w_127, kd_J7_fill_53178⟩, w_132⟩
set_option maxRecDepth 20000 in
theorem kV_X8_38 : okV RX8 38 yX8_relax cX8_relax 7 none 3 := ⟨⟨w_153, w_151, w_152, kd_X8_relax⟩, w_154, w_155⟩
