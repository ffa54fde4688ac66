theorem dX12_findTwo_0 : decode cX12_findTwo 0 = .ok (.iconst 0, 1) := by decide +kernel
theorem dX12_findTwo_1 : decode cX12_findTwo 1 = .ok (.istore_n 3, 1) := by decide +kernel
theorem dX12_findTwo_2 : decode cX12_findTwo 2 = .ok (.iload_n 3, 1) := by decide +kernel
theorem dX12_findTwo_3 : decode cX12_findTwo 3 = .ok (.aload_n 0, 1) := by decide +kernel
theorem dX12_findTwo_4 : decode cX12_findTwo 4 = .ok (.getfield 58, 3) := by decide +kernel
theorem dX12_findTwo_7 : decode cX12_findTwo 7 = .ok (.arraylength, 1) := by decide +kernel
theorem dX12_findTwo_8 : decode cX12_findTwo 8 = .ok (.if_icmp .ge 16, 3) := by decide +kernel
theorem dX12_findTwo_24 : decode cX12_findTwo 24 = .ok (.iconst 1, 1) := by decide +kernel
theorem dX12_findTwo_25 : decode cX12_findTwo 25 = .ok (.istore_n 3, 1) := by decide +kernel
theorem dX12_findTwo_26 : decode cX12_findTwo 26 = .ok (.aload_n 0, 1) := by decide +kernel
theorem dX12_findTwo_27 : decode cX12_findTwo 27 = .ok (.getfield 55, 3) := by decide +kernel
theorem dX12_findTwo_30 : decode cX12_findTwo 30 = .ok (.iconst 0, 1) := by decide +kernel
theorem dX12_findTwo_31 : decode cX12_findTwo 31 = .ok (.bipush 10, 2) := by decide +kernel
theorem dX12_findTwo_33 : decode cX12_findTwo 33 = .ok (.iload_n 1, 1) := by decide +kernel
theorem dX12_findTwo_34 : decode cX12_findTwo 34 = .ok (.imul, 1) := by decide +kernel
theorem dX12_findTwo_35 : decode cX12_findTwo 35 = .ok (.iload_n 2, 1) := by decide +kernel
theorem dX12_findTwo_36 : decode cX12_findTwo 36 = .ok (.iadd, 1) := by decide +kernel
theorem dX12_findTwo_37 : decode cX12_findTwo 37 = .ok (.iastore, 1) := by decide +kernel
theorem dX12_findTwo_38 : decode cX12_findTwo 38 = .ok (.aload_n 0, 1) := by decide +kernel
theorem dX12_findTwo_39 : decode cX12_findTwo 39 = .ok (.getfield 58, 3) := by decide +kernel
theorem dX12_findTwo_42 : decode cX12_findTwo 42 = .ok (.aload_n 0, 1) := by decide +kernel
theorem dX12_findTwo_43 : decode cX12_findTwo 43 = .ok (.getfield 55, 3) := by decide +kernel
theorem dX12_findTwo_46 : decode cX12_findTwo 46 = .ok (.iconst 0, 1) := by decide +kernel
theorem dX12_findTwo_47 : decode cX12_findTwo 47 = .ok (.iaload, 1) := by decide +kernel
theorem dX12_findTwo_48 : decode cX12_findTwo 48 = .ok (.iconst 0, 1) := by decide +kernel
theorem dX12_findTwo_49 : decode cX12_findTwo 49 = .ok (.iastore, 1) := by decide +kernel
theorem dX12_findTwo_50 : decode cX12_findTwo 50 = .ok (.iconst 0, 1) := by decide +kernel
theorem dX12_findTwo_51 : decode cX12_findTwo 51 = .ok (.istore 4, 2) := by decide +kernel
theorem dX12_findTwo_53 : decode cX12_findTwo 53 = .ok (.iload 4, 2) := by decide +kernel
theorem dX12_findTwo_55 : decode cX12_findTwo 55 = .ok (.iload_n 3, 1) := by decide +kernel
theorem dX12_findTwo_56 : decode cX12_findTwo 56 = .ok (.if_icmp .ge 162, 3) := by decide +kernel
theorem dX12_findTwo_218 : decode cX12_findTwo 218 = .ok (.iconst (-1), 1) := by decide +kernel
theorem dX12_findTwo_219 : decode cX12_findTwo 219 = .ok (.ireturn, 1) := by decide +kernel
theorem dX12_findTwo_59 : decode cX12_findTwo 59 = .ok (.aload_n 0, 1) := by decide +kernel
theorem dX12_findTwo_60 : decode cX12_findTwo 60 = .ok (.getfield 55, 3) := by decide +kernel
theorem dX12_findTwo_63 : decode cX12_findTwo 63 = .ok (.iload 4, 2) := by decide +kernel
theorem dX12_findTwo_65 : decode cX12_findTwo 65 = .ok (.iaload, 1) := by decide +kernel
theorem dX12_findTwo_66 : decode cX12_findTwo 66 = .ok (.bipush 10, 2) := by decide +kernel
theorem dX12_findTwo_68 : decode cX12_findTwo 68 = .ok (.idiv, 1) := by decide +kernel
theorem dX12_findTwo_69 : decode cX12_findTwo 69 = .ok (.istore 5, 2) := by decide +kernel
theorem dX12_findTwo_71 : decode cX12_findTwo 71 = .ok (.aload_n 0, 1) := by decide +kernel
theorem dX12_findTwo_72 : decode cX12_findTwo 72 = .ok (.getfield 55, 3) := by decide +kernel
theorem dX12_findTwo_75 : decode cX12_findTwo 75 = .ok (.iload 4, 2) := by decide +kernel
theorem dX12_findTwo_77 : decode cX12_findTwo 77 = .ok (.iaload, 1) := by decide +kernel
theorem dX12_findTwo_78 : decode cX12_findTwo 78 = .ok (.bipush 10, 2) := by decide +kernel
theorem dX12_findTwo_80 : decode cX12_findTwo 80 = .ok (.irem, 1) := by decide +kernel
theorem dX12_findTwo_81 : decode cX12_findTwo 81 = .ok (.istore 6, 2) := by decide +kernel
theorem dX12_findTwo_83 : decode cX12_findTwo 83 = .ok (.aload_n 0, 1) := by decide +kernel
theorem dX12_findTwo_84 : decode cX12_findTwo 84 = .ok (.iload 5, 2) := by decide +kernel
theorem dX12_findTwo_86 : decode cX12_findTwo 86 = .ok (.invokevirtual 276, 3) := by decide +kernel
theorem dX12_findTwo_89 : decode cX12_findTwo 89 = .ok (.aload_n 0, 1) := by decide +kernel
theorem dX12_findTwo_90 : decode cX12_findTwo 90 = .ok (.iload 6, 2) := by decide +kernel
theorem dX12_findTwo_92 : decode cX12_findTwo 92 = .ok (.invokevirtual 276, 3) := by decide +kernel
theorem dX12_findTwo_95 : decode cX12_findTwo 95 = .ok (.if_icmp .eq 11, 3) := by decide +kernel
theorem dX12_findTwo_106 : decode cX12_findTwo 106 = .ok (.iconst 0, 1) := by decide +kernel
theorem dX12_findTwo_107 : decode cX12_findTwo 107 = .ok (.istore 7, 2) := by decide +kernel
theorem dX12_findTwo_109 : decode cX12_findTwo 109 = .ok (.iload 7, 2) := by decide +kernel
theorem dX12_findTwo_111 : decode cX12_findTwo 111 = .ok (.iconst 4, 1) := by decide +kernel
theorem dX12_findTwo_112 : decode cX12_findTwo 112 = .ok (.if_icmp .ge 100, 3) := by decide +kernel
theorem dX12_findTwo_212 : decode cX12_findTwo 212 = .ok (.iinc 4 1, 3) := by decide +kernel
theorem dX12_findTwo_215 : decode cX12_findTwo 215 = .ok (.goto (-162), 3) := by decide +kernel
theorem dX12_findTwo_115 : decode cX12_findTwo 115 = .ok (.bipush 10, 2) := by decide +kernel
theorem dX12_findTwo_117 : decode cX12_findTwo 117 = .ok (.aload_n 0, 1) := by decide +kernel
theorem dX12_findTwo_118 : decode cX12_findTwo 118 = .ok (.iload 5, 2) := by decide +kernel
theorem dX12_findTwo_120 : decode cX12_findTwo 120 = .ok (.iload 7, 2) := by decide +kernel
theorem dX12_findTwo_122 : decode cX12_findTwo 122 = .ok (.invokevirtual 273, 3) := by decide +kernel
theorem dX12_findTwo_125 : decode cX12_findTwo 125 = .ok (.imul, 1) := by decide +kernel
theorem dX12_findTwo_126 : decode cX12_findTwo 126 = .ok (.aload_n 0, 1) := by decide +kernel
theorem dX12_findTwo_127 : decode cX12_findTwo 127 = .ok (.iload 6, 2) := by decide +kernel
theorem dX12_findTwo_129 : decode cX12_findTwo 129 = .ok (.iload 7, 2) := by decide +kernel
theorem dX12_findTwo_131 : decode cX12_findTwo 131 = .ok (.invokevirtual 273, 3) := by decide +kernel
theorem dX12_findTwo_134 : decode cX12_findTwo 134 = .ok (.iadd, 1) := by decide +kernel
theorem dX12_findTwo_135 : decode cX12_findTwo 135 = .ok (.istore 8, 2) := by decide +kernel
theorem dX12_findTwo_137 : decode cX12_findTwo 137 = .ok (.aload_n 0, 1) := by decide +kernel
theorem dX12_findTwo_138 : decode cX12_findTwo 138 = .ok (.getfield 58, 3) := by decide +kernel
theorem dX12_findTwo_141 : decode cX12_findTwo 141 = .ok (.iload 8, 2) := by decide +kernel
theorem dX12_findTwo_143 : decode cX12_findTwo 143 = .ok (.iaload, 1) := by decide +kernel
theorem dX12_findTwo_144 : decode cX12_findTwo 144 = .ok (.iconst (-1), 1) := by decide +kernel
theorem dX12_findTwo_145 : decode cX12_findTwo 145 = .ok (.if_icmp .eq 6, 3) := by decide +kernel
theorem dX12_findTwo_151 : decode cX12_findTwo 151 = .ok (.aload_n 0, 1) := by decide +kernel
theorem dX12_findTwo_152 : decode cX12_findTwo 152 = .ok (.getfield 58, 3) := by decide +kernel
theorem dX12_findTwo_155 : decode cX12_findTwo 155 = .ok (.iload 8, 2) := by decide +kernel
theorem dX12_findTwo_157 : decode cX12_findTwo 157 = .ok (.aload_n 0, 1) := by decide +kernel
theorem dX12_findTwo_158 : decode cX12_findTwo 158 = .ok (.getfield 58, 3) := by decide +kernel
theorem dX12_findTwo_161 : decode cX12_findTwo 161 = .ok (.aload_n 0, 1) := by decide +kernel
theorem dX12_findTwo_162 : decode cX12_findTwo 162 = .ok (.getfield 55, 3) := by decide +kernel
theorem dX12_findTwo_165 : decode cX12_findTwo 165 = .ok (.iload 4, 2) := by decide +kernel
theorem dX12_findTwo_167 : decode cX12_findTwo 167 = .ok (.iaload, 1) := by decide +kernel
theorem dX12_findTwo_168 : decode cX12_findTwo 168 = .ok (.iaload, 1) := by decide +kernel
theorem dX12_findTwo_169 : decode cX12_findTwo 169 = .ok (.iconst 1, 1) := by decide +kernel
theorem dX12_findTwo_170 : decode cX12_findTwo 170 = .ok (.iadd, 1) := by decide +kernel
theorem dX12_findTwo_171 : decode cX12_findTwo 171 = .ok (.iastore, 1) := by decide +kernel
theorem dX12_findTwo_172 : decode cX12_findTwo 172 = .ok (.aload_n 0, 1) := by decide +kernel
theorem dX12_findTwo_173 : decode cX12_findTwo 173 = .ok (.getfield 61, 3) := by decide +kernel
theorem dX12_findTwo_176 : decode cX12_findTwo 176 = .ok (.iload 8, 2) := by decide +kernel
theorem dX12_findTwo_178 : decode cX12_findTwo 178 = .ok (.iload 7, 2) := by decide +kernel
theorem dX12_findTwo_180 : decode cX12_findTwo 180 = .ok (.iastore, 1) := by decide +kernel
theorem dX12_findTwo_181 : decode cX12_findTwo 181 = .ok (.aload_n 0, 1) := by decide +kernel
theorem dX12_findTwo_182 : decode cX12_findTwo 182 = .ok (.getfield 64, 3) := by decide +kernel
theorem dX12_findTwo_185 : decode cX12_findTwo 185 = .ok (.iload 8, 2) := by decide +kernel
theorem dX12_findTwo_187 : decode cX12_findTwo 187 = .ok (.aload_n 0, 1) := by decide +kernel
theorem dX12_findTwo_188 : decode cX12_findTwo 188 = .ok (.getfield 55, 3) := by decide +kernel
theorem dX12_findTwo_191 : decode cX12_findTwo 191 = .ok (.iload 4, 2) := by decide +kernel
theorem dX12_findTwo_193 : decode cX12_findTwo 193 = .ok (.iaload, 1) := by decide +kernel
theorem dX12_findTwo_194 : decode cX12_findTwo 194 = .ok (.iastore, 1) := by decide +kernel
theorem dX12_findTwo_195 : decode cX12_findTwo 195 = .ok (.aload_n 0, 1) := by decide +kernel
theorem dX12_findTwo_196 : decode cX12_findTwo 196 = .ok (.getfield 55, 3) := by decide +kernel
theorem dX12_findTwo_199 : decode cX12_findTwo 199 = .ok (.iload_n 3, 1) := by decide +kernel
theorem dX12_findTwo_200 : decode cX12_findTwo 200 = .ok (.iload 8, 2) := by decide +kernel
theorem dX12_findTwo_202 : decode cX12_findTwo 202 = .ok (.iastore, 1) := by decide +kernel
theorem dX12_findTwo_203 : decode cX12_findTwo 203 = .ok (.iinc 3 1, 3) := by decide +kernel
theorem dX12_findTwo_206 : decode cX12_findTwo 206 = .ok (.iinc 7 1, 3) := by decide +kernel
theorem dX12_findTwo_209 : decode cX12_findTwo 209 = .ok (.goto (-100), 3) := by decide +kernel
theorem dX12_findTwo_148 : decode cX12_findTwo 148 = .ok (.goto 58, 3) := by decide +kernel
theorem dX12_findTwo_98 : decode cX12_findTwo 98 = .ok (.aload_n 0, 1) := by decide +kernel
theorem dX12_findTwo_99 : decode cX12_findTwo 99 = .ok (.getfield 55, 3) := by decide +kernel
theorem dX12_findTwo_102 : decode cX12_findTwo 102 = .ok (.iload 4, 2) := by decide +kernel
theorem dX12_findTwo_104 : decode cX12_findTwo 104 = .ok (.iaload, 1) := by decide +kernel
theorem dX12_findTwo_105 : decode cX12_findTwo 105 = .ok (.ireturn, 1) := by decide +kernel
theorem dX12_findTwo_11 : decode cX12_findTwo 11 = .ok (.aload_n 0, 1) := by decide +kernel
theorem dX12_findTwo_12 : decode cX12_findTwo 12 = .ok (.getfield 58, 3) := by decide +kernel
theorem dX12_findTwo_15 : decode cX12_findTwo 15 = .ok (.iload_n 3, 1) := by decide +kernel
theorem dX12_findTwo_16 : decode cX12_findTwo 16 = .ok (.iconst (-1), 1) := by decide +kernel
theorem dX12_findTwo_17 : decode cX12_findTwo 17 = .ok (.iastore, 1) := by decide +kernel
theorem dX12_findTwo_18 : decode cX12_findTwo 18 = .ok (.iinc 3 1, 3) := by decide +kernel
theorem dX12_findTwo_21 : decode cX12_findTwo 21 = .ok (.goto (-19), 3) := by decide +kernel
theorem dX12_tells_0 : decode cX12_tells 0 = .ok (.aload_n 0, 1) := by decide +kernel
theorem dX12_tells_1 : decode cX12_tells 1 = .ok (.iload_n 1, 1) := by decide +kernel
theorem dX12_tells_2 : decode cX12_tells 2 = .ok (.iload_n 2, 1) := by decide +kernel
theorem dX12_tells_3 : decode cX12_tells 3 = .ok (.invokevirtual 394, 3) := by decide +kernel
theorem dX12_tells_6 : decode cX12_tells 6 = .ok (.ifCond .ne 6, 3) := by decide +kernel
theorem dX12_tells_9 : decode cX12_tells 9 = .ok (.bipush (-2), 2) := by decide +kernel
theorem dX12_tells_11 : decode cX12_tells 11 = .ok (.ireturn, 1) := by decide +kernel
theorem dX12_tells_12 : decode cX12_tells 12 = .ok (.aload_n 0, 1) := by decide +kernel
theorem dX12_tells_13 : decode cX12_tells 13 = .ok (.iload_n 1, 1) := by decide +kernel
theorem dX12_tells_14 : decode cX12_tells 14 = .ok (.iload_n 2, 1) := by decide +kernel
theorem dX12_tells_15 : decode cX12_tells 15 = .ok (.invokevirtual 400, 3) := by decide +kernel
theorem dX12_tells_18 : decode cX12_tells 18 = .ok (.istore_n 3, 1) := by decide +kernel
theorem dX12_tells_19 : decode cX12_tells 19 = .ok (.iload_n 3, 1) := by decide +kernel
theorem dX12_tells_20 : decode cX12_tells 20 = .ok (.iconst (-1), 1) := by decide +kernel
theorem dX12_tells_21 : decode cX12_tells 21 = .ok (.if_icmp .ne 7, 3) := by decide +kernel
theorem dX12_tells_24 : decode cX12_tells 24 = .ok (.iconst (-1), 1) := by decide +kernel
theorem dX12_tells_25 : decode cX12_tells 25 = .ok (.goto 9, 3) := by decide +kernel
theorem dX12_tells_34 : decode cX12_tells 34 = .ok (.ireturn, 1) := by decide +kernel
theorem dX12_tells_28 : decode cX12_tells 28 = .ok (.aload_n 0, 1) := by decide +kernel
theorem dX12_tells_29 : decode cX12_tells 29 = .ok (.getfield 58, 3) := by decide +kernel
theorem dX12_tells_32 : decode cX12_tells 32 = .ok (.iload_n 3, 1) := by decide +kernel
theorem dX12_tells_33 : decode cX12_tells 33 = .ok (.iaload, 1) := by decide +kernel
theorem dX12_told__0 : decode cX12_told_ 0 = .ok (.aload_n 0, 1) := by decide +kernel
theorem dX12_told__1 : decode cX12_told_ 1 = .ok (.iload_n 1, 1) := by decide +kernel
theorem dX12_told__2 : decode cX12_told_ 2 = .ok (.iload_n 2, 1) := by decide +kernel
theorem dX12_told__3 : decode cX12_told_ 3 = .ok (.invokevirtual 394, 3) := by decide +kernel
theorem dX12_told__6 : decode cX12_told_ 6 = .ok (.ifCond .ne 6, 3) := by decide +kernel
theorem dX12_told__9 : decode cX12_told_ 9 = .ok (.bipush (-2), 2) := by decide +kernel
theorem dX12_told__11 : decode cX12_told_ 11 = .ok (.ireturn, 1) := by decide +kernel
theorem dX12_told__12 : decode cX12_told_ 12 = .ok (.aload_n 0, 1) := by decide +kernel
theorem dX12_told__13 : decode cX12_told_ 13 = .ok (.iload_n 1, 1) := by decide +kernel
theorem dX12_told__14 : decode cX12_told_ 14 = .ok (.iload_n 2, 1) := by decide +kernel
theorem dX12_told__15 : decode cX12_told_ 15 = .ok (.invokevirtual 400, 3) := by decide +kernel
theorem dX12_told__18 : decode cX12_told_ 18 = .ok (.istore 4, 2) := by decide +kernel
theorem dX12_told__20 : decode cX12_told_ 20 = .ok (.iload 4, 2) := by decide +kernel
theorem dX12_told__22 : decode cX12_told_ 22 = .ok (.iconst (-1), 1) := by decide +kernel
theorem dX12_told__23 : decode cX12_told_ 23 = .ok (.if_icmp .eq 22, 3) := by decide +kernel
theorem dX12_told__45 : decode cX12_told_ 45 = .ok (.iconst (-1), 1) := by decide +kernel
theorem dX12_told__46 : decode cX12_told_ 46 = .ok (.ireturn, 1) := by decide +kernel
theorem dX12_told__26 : decode cX12_told_ 26 = .ok (.iload_n 3, 1) := by decide +kernel
theorem dX12_told__27 : decode cX12_told_ 27 = .ok (.i2l, 1) := by decide +kernel
theorem dX12_told__28 : decode cX12_told_ 28 = .ok (.lconst 0, 1) := by decide +kernel
theorem dX12_told__29 : decode cX12_told_ 29 = .ok (.aload_n 0, 1) := by decide +kernel
theorem dX12_told__30 : decode cX12_told_ 30 = .ok (.getfield 58, 3) := by decide +kernel
theorem dX12_told__33 : decode cX12_told_ 33 = .ok (.iload 4, 2) := by decide +kernel
theorem dX12_told__35 : decode cX12_told_ 35 = .ok (.iaload, 1) := by decide +kernel
theorem dX12_told__36 : decode cX12_told_ 36 = .ok (.iconst 1, 1) := by decide +kernel
theorem dX12_told__37 : decode cX12_told_ 37 = .ok (.isub, 1) := by decide +kernel
theorem dX12_told__38 : decode cX12_told_ 38 = .ok (.i2l, 1) := by decide +kernel
theorem dX12_told__39 : decode cX12_told_ 39 = .ok (.invokestatic 115, 3) := by decide +kernel
theorem dX12_told__42 : decode cX12_told_ 42 = .ok (.ifCond .ne 5, 3) := by decide +kernel
theorem dX12_told__47 : decode cX12_told_ 47 = .ok (.aload_n 0, 1) := by decide +kernel
theorem dX12_told__48 : decode cX12_told_ 48 = .ok (.getfield 58, 3) := by decide +kernel
theorem dX12_told__51 : decode cX12_told_ 51 = .ok (.iload 4, 2) := by decide +kernel
theorem dX12_told__53 : decode cX12_told_ 53 = .ok (.iaload, 1) := by decide +kernel
theorem dX12_told__54 : decode cX12_told_ 54 = .ok (.iload_n 3, 1) := by decide +kernel
theorem dX12_told__55 : decode cX12_told_ 55 = .ok (.iconst 1, 1) := by decide +kernel
theorem dX12_told__56 : decode cX12_told_ 56 = .ok (.iadd, 1) := by decide +kernel
theorem dX12_told__57 : decode cX12_told_ 57 = .ok (.if_icmp .le 15, 3) := by decide +kernel
theorem dX12_told__72 : decode cX12_told_ 72 = .ok (.aload_n 0, 1) := by decide +kernel
theorem dX12_told__73 : decode cX12_told_ 73 = .ok (.getfield 61, 3) := by decide +kernel
theorem dX12_told__76 : decode cX12_told_ 76 = .ok (.iload 4, 2) := by decide +kernel
theorem dX12_told__78 : decode cX12_told_ 78 = .ok (.iaload, 1) := by decide +kernel
theorem dX12_told__79 : decode cX12_told_ 79 = .ok (.ireturn, 1) := by decide +kernel
theorem dX12_told__60 : decode cX12_told_ 60 = .ok (.aload_n 0, 1) := by decide +kernel
theorem dX12_told__61 : decode cX12_told_ 61 = .ok (.getfield 64, 3) := by decide +kernel
theorem dX12_told__64 : decode cX12_told_ 64 = .ok (.iload 4, 2) := by decide +kernel
theorem dX12_told__66 : decode cX12_told_ 66 = .ok (.iaload, 1) := by decide +kernel
theorem dX12_told__67 : decode cX12_told_ 67 = .ok (.istore 4, 2) := by decide +kernel
theorem dX12_told__69 : decode cX12_told_ 69 = .ok (.goto (-22), 3) := by decide +kernel
theorem dX12_findOne_0 : decode cX12_findOne 0 = .ok (.iconst 0, 1) := by decide +kernel
theorem dX12_findOne_1 : decode cX12_findOne 1 = .ok (.istore_n 2, 1) := by decide +kernel
theorem dX12_findOne_2 : decode cX12_findOne 2 = .ok (.iload_n 2, 1) := by decide +kernel
theorem dX12_findOne_3 : decode cX12_findOne 3 = .ok (.sipush 1024, 3) := by decide +kernel
theorem dX12_findOne_6 : decode cX12_findOne 6 = .ok (.if_icmp .ge 16, 3) := by decide +kernel
theorem dX12_findOne_22 : decode cX12_findOne 22 = .ok (.aload_n 0, 1) := by decide +kernel
theorem dX12_findOne_23 : decode cX12_findOne 23 = .ok (.iconst 1, 1) := by decide +kernel
theorem dX12_findOne_24 : decode cX12_findOne 24 = .ok (.putfield 406, 3) := by decide +kernel
theorem dX12_findOne_27 : decode cX12_findOne 27 = .ok (.aload_n 0, 1) := by decide +kernel
theorem dX12_findOne_28 : decode cX12_findOne 28 = .ok (.getfield 67, 3) := by decide +kernel
theorem dX12_findOne_31 : decode cX12_findOne 31 = .ok (.iconst 0, 1) := by decide +kernel
theorem dX12_findOne_32 : decode cX12_findOne 32 = .ok (.iload_n 1, 1) := by decide +kernel
theorem dX12_findOne_33 : decode cX12_findOne 33 = .ok (.iastore, 1) := by decide +kernel
theorem dX12_findOne_34 : decode cX12_findOne 34 = .ok (.aload_n 0, 1) := by decide +kernel
theorem dX12_findOne_35 : decode cX12_findOne 35 = .ok (.getfield 70, 3) := by decide +kernel
theorem dX12_findOne_38 : decode cX12_findOne 38 = .ok (.iload_n 1, 1) := by decide +kernel
theorem dX12_findOne_39 : decode cX12_findOne 39 = .ok (.iconst 0, 1) := by decide +kernel
theorem dX12_findOne_40 : decode cX12_findOne 40 = .ok (.iastore, 1) := by decide +kernel
theorem dX12_findOne_41 : decode cX12_findOne 41 = .ok (.iconst (-1), 1) := by decide +kernel
theorem dX12_findOne_42 : decode cX12_findOne 42 = .ok (.istore_n 2, 1) := by decide +kernel
theorem dX12_findOne_43 : decode cX12_findOne 43 = .ok (.iconst 0, 1) := by decide +kernel
theorem dX12_findOne_44 : decode cX12_findOne 44 = .ok (.istore_n 3, 1) := by decide +kernel
theorem dX12_findOne_45 : decode cX12_findOne 45 = .ok (.iload_n 3, 1) := by decide +kernel
theorem dX12_findOne_46 : decode cX12_findOne 46 = .ok (.aload_n 0, 1) := by decide +kernel
theorem dX12_findOne_47 : decode cX12_findOne 47 = .ok (.getfield 406, 3) := by decide +kernel
theorem dX12_findOne_50 : decode cX12_findOne 50 = .ok (.if_icmp .ge 128, 3) := by decide +kernel
theorem dX12_findOne_178 : decode cX12_findOne 178 = .ok (.iload_n 2, 1) := by decide +kernel
theorem dX12_findOne_179 : decode cX12_findOne 179 = .ok (.ireturn, 1) := by decide +kernel
theorem dX12_findOne_53 : decode cX12_findOne 53 = .ok (.aload_n 0, 1) := by decide +kernel
theorem dX12_findOne_54 : decode cX12_findOne 54 = .ok (.getfield 67, 3) := by decide +kernel
theorem dX12_findOne_57 : decode cX12_findOne 57 = .ok (.iload_n 3, 1) := by decide +kernel
theorem dX12_findOne_58 : decode cX12_findOne 58 = .ok (.iaload, 1) := by decide +kernel
theorem dX12_findOne_59 : decode cX12_findOne 59 = .ok (.istore 4, 2) := by decide +kernel
theorem dX12_findOne_61 : decode cX12_findOne 61 = .ok (.iload_n 2, 1) := by decide +kernel
theorem dX12_findOne_62 : decode cX12_findOne 62 = .ok (.iconst (-1), 1) := by decide +kernel
theorem dX12_findOne_63 : decode cX12_findOne 63 = .ok (.if_icmp .ne 15, 3) := by decide +kernel
theorem dX12_findOne_78 : decode cX12_findOne 78 = .ok (.iconst 0, 1) := by decide +kernel
theorem dX12_findOne_79 : decode cX12_findOne 79 = .ok (.istore 5, 2) := by decide +kernel
theorem dX12_findOne_81 : decode cX12_findOne 81 = .ok (.iload 5, 2) := by decide +kernel
theorem dX12_findOne_83 : decode cX12_findOne 83 = .ok (.iconst 4, 1) := by decide +kernel
theorem dX12_findOne_84 : decode cX12_findOne 84 = .ok (.if_icmp .ge 88, 3) := by decide +kernel
theorem dX12_findOne_172 : decode cX12_findOne 172 = .ok (.iinc 3 1, 3) := by decide +kernel
theorem dX12_findOne_175 : decode cX12_findOne 175 = .ok (.goto (-130), 3) := by decide +kernel
theorem dX12_findOne_87 : decode cX12_findOne 87 = .ok (.aload_n 0, 1) := by decide +kernel
theorem dX12_findOne_88 : decode cX12_findOne 88 = .ok (.iload 4, 2) := by decide +kernel
theorem dX12_findOne_90 : decode cX12_findOne 90 = .ok (.iload 5, 2) := by decide +kernel
theorem dX12_findOne_92 : decode cX12_findOne 92 = .ok (.invokevirtual 286, 3) := by decide +kernel
theorem dX12_findOne_95 : decode cX12_findOne 95 = .ok (.istore 6, 2) := by decide +kernel
theorem dX12_findOne_97 : decode cX12_findOne 97 = .ok (.aload_n 0, 1) := by decide +kernel
theorem dX12_findOne_98 : decode cX12_findOne 98 = .ok (.getfield 70, 3) := by decide +kernel
theorem dX12_findOne_101 : decode cX12_findOne 101 = .ok (.iload 6, 2) := by decide +kernel
theorem dX12_findOne_103 : decode cX12_findOne 103 = .ok (.iaload, 1) := by decide +kernel
theorem dX12_findOne_104 : decode cX12_findOne 104 = .ok (.iconst (-1), 1) := by decide +kernel
theorem dX12_findOne_105 : decode cX12_findOne 105 = .ok (.if_icmp .eq 6, 3) := by decide +kernel
theorem dX12_findOne_111 : decode cX12_findOne 111 = .ok (.aload_n 0, 1) := by decide +kernel
theorem dX12_findOne_112 : decode cX12_findOne 112 = .ok (.getfield 70, 3) := by decide +kernel
theorem dX12_findOne_115 : decode cX12_findOne 115 = .ok (.iload 6, 2) := by decide +kernel
theorem dX12_findOne_117 : decode cX12_findOne 117 = .ok (.aload_n 0, 1) := by decide +kernel
theorem dX12_findOne_118 : decode cX12_findOne 118 = .ok (.getfield 70, 3) := by decide +kernel
theorem dX12_findOne_121 : decode cX12_findOne 121 = .ok (.iload 4, 2) := by decide +kernel
theorem dX12_findOne_123 : decode cX12_findOne 123 = .ok (.iaload, 1) := by decide +kernel
theorem dX12_findOne_124 : decode cX12_findOne 124 = .ok (.iconst 1, 1) := by decide +kernel
theorem dX12_findOne_125 : decode cX12_findOne 125 = .ok (.iadd, 1) := by decide +kernel
theorem dX12_findOne_126 : decode cX12_findOne 126 = .ok (.iastore, 1) := by decide +kernel
theorem dX12_findOne_127 : decode cX12_findOne 127 = .ok (.aload_n 0, 1) := by decide +kernel
theorem dX12_findOne_128 : decode cX12_findOne 128 = .ok (.getfield 73, 3) := by decide +kernel
theorem dX12_findOne_131 : decode cX12_findOne 131 = .ok (.iload 6, 2) := by decide +kernel
theorem dX12_findOne_133 : decode cX12_findOne 133 = .ok (.iload 5, 2) := by decide +kernel
theorem dX12_findOne_135 : decode cX12_findOne 135 = .ok (.iastore, 1) := by decide +kernel
theorem dX12_findOne_136 : decode cX12_findOne 136 = .ok (.aload_n 0, 1) := by decide +kernel
theorem dX12_findOne_137 : decode cX12_findOne 137 = .ok (.getfield 76, 3) := by decide +kernel
theorem dX12_findOne_140 : decode cX12_findOne 140 = .ok (.iload 6, 2) := by decide +kernel
theorem dX12_findOne_142 : decode cX12_findOne 142 = .ok (.iload 4, 2) := by decide +kernel
theorem dX12_findOne_144 : decode cX12_findOne 144 = .ok (.iastore, 1) := by decide +kernel
theorem dX12_findOne_145 : decode cX12_findOne 145 = .ok (.aload_n 0, 1) := by decide +kernel
theorem dX12_findOne_146 : decode cX12_findOne 146 = .ok (.getfield 67, 3) := by decide +kernel
theorem dX12_findOne_149 : decode cX12_findOne 149 = .ok (.aload_n 0, 1) := by decide +kernel
theorem dX12_findOne_150 : decode cX12_findOne 150 = .ok (.getfield 406, 3) := by decide +kernel
theorem dX12_findOne_153 : decode cX12_findOne 153 = .ok (.iload 6, 2) := by decide +kernel
theorem dX12_findOne_155 : decode cX12_findOne 155 = .ok (.iastore, 1) := by decide +kernel
theorem dX12_findOne_156 : decode cX12_findOne 156 = .ok (.aload_n 0, 1) := by decide +kernel
theorem dX12_findOne_157 : decode cX12_findOne 157 = .ok (.dup, 1) := by decide +kernel
theorem dX12_findOne_158 : decode cX12_findOne 158 = .ok (.getfield 406, 3) := by decide +kernel
theorem dX12_findOne_161 : decode cX12_findOne 161 = .ok (.iconst 1, 1) := by decide +kernel
theorem dX12_findOne_162 : decode cX12_findOne 162 = .ok (.iadd, 1) := by decide +kernel
theorem dX12_findOne_163 : decode cX12_findOne 163 = .ok (.putfield 406, 3) := by decide +kernel
theorem dX12_findOne_166 : decode cX12_findOne 166 = .ok (.iinc 5 1, 3) := by decide +kernel
theorem dX12_findOne_169 : decode cX12_findOne 169 = .ok (.goto (-88), 3) := by decide +kernel
theorem dX12_findOne_108 : decode cX12_findOne 108 = .ok (.goto 58, 3) := by decide +kernel
theorem dX12_findOne_66 : decode cX12_findOne 66 = .ok (.iload 4, 2) := by decide +kernel
theorem dX12_findOne_68 : decode cX12_findOne 68 = .ok (.invokestatic 316, 3) := by decide +kernel
theorem dX12_findOne_71 : decode cX12_findOne 71 = .ok (.iconst 1, 1) := by decide +kernel
theorem dX12_findOne_72 : decode cX12_findOne 72 = .ok (.if_icmp .ne 6, 3) := by decide +kernel
theorem dX12_findOne_75 : decode cX12_findOne 75 = .ok (.iload 4, 2) := by decide +kernel
theorem dX12_findOne_77 : decode cX12_findOne 77 = .ok (.istore_n 2, 1) := by decide +kernel
theorem dX12_findOne_9 : decode cX12_findOne 9 = .ok (.aload_n 0, 1) := by decide +kernel
theorem dX12_findOne_10 : decode cX12_findOne 10 = .ok (.getfield 70, 3) := by decide +kernel
theorem dX12_findOne_13 : decode cX12_findOne 13 = .ok (.iload_n 2, 1) := by decide +kernel
theorem dX12_findOne_14 : decode cX12_findOne 14 = .ok (.iconst (-1), 1) := by decide +kernel
theorem dX12_findOne_15 : decode cX12_findOne 15 = .ok (.iastore, 1) := by decide +kernel
theorem dX12_findOne_16 : decode cX12_findOne 16 = .ok (.iinc 2 1, 3) := by decide +kernel
theorem dX12_findOne_19 : decode cX12_findOne 19 = .ok (.goto (-17), 3) := by decide +kernel
theorem dX12_gather_0 : decode cX12_gather 0 = .ok (.aload_n 0, 1) := by decide +kernel
theorem dX12_gather_1 : decode cX12_gather 1 = .ok (.iload_n 1, 1) := by decide +kernel
theorem dX12_gather_2 : decode cX12_gather 2 = .ok (.invokevirtual 282, 3) := by decide +kernel
theorem dX12_gather_5 : decode cX12_gather 5 = .ok (.ifCond .ne 6, 3) := by decide +kernel
theorem dX12_gather_8 : decode cX12_gather 8 = .ok (.bipush (-2), 2) := by decide +kernel
theorem dX12_gather_10 : decode cX12_gather 10 = .ok (.ireturn, 1) := by decide +kernel
theorem dX12_gather_11 : decode cX12_gather 11 = .ok (.aload_n 0, 1) := by decide +kernel
theorem dX12_gather_12 : decode cX12_gather 12 = .ok (.iload_n 1, 1) := by decide +kernel
theorem dX12_gather_13 : decode cX12_gather 13 = .ok (.invokevirtual 409, 3) := by decide +kernel
theorem dX12_gather_16 : decode cX12_gather 16 = .ok (.istore_n 2, 1) := by decide +kernel
theorem dX12_gather_17 : decode cX12_gather 17 = .ok (.iload_n 2, 1) := by decide +kernel
theorem dX12_gather_18 : decode cX12_gather 18 = .ok (.iconst (-1), 1) := by decide +kernel
theorem dX12_gather_19 : decode cX12_gather 19 = .ok (.if_icmp .ne 7, 3) := by decide +kernel
theorem dX12_gather_22 : decode cX12_gather 22 = .ok (.iconst (-1), 1) := by decide +kernel
theorem dX12_gather_23 : decode cX12_gather 23 = .ok (.goto 9, 3) := by decide +kernel
theorem dX12_gather_32 : decode cX12_gather 32 = .ok (.ireturn, 1) := by decide +kernel
theorem dX12_gather_26 : decode cX12_gather 26 = .ok (.aload_n 0, 1) := by decide +kernel
theorem dX12_gather_27 : decode cX12_gather 27 = .ok (.getfield 70, 3) := by decide +kernel
theorem dX12_gather_30 : decode cX12_gather 30 = .ok (.iload_n 2, 1) := by decide +kernel
theorem dX12_gather_31 : decode cX12_gather 31 = .ok (.iaload, 1) := by decide +kernel
theorem dX12_gathers_0 : decode cX12_gathers 0 = .ok (.aload_n 0, 1) := by decide +kernel
theorem dX12_gathers_1 : decode cX12_gathers 1 = .ok (.iload_n 1, 1) := by decide +kernel
theorem dX12_gathers_2 : decode cX12_gathers 2 = .ok (.invokevirtual 282, 3) := by decide +kernel
theorem dX12_gathers_5 : decode cX12_gathers 5 = .ok (.ifCond .ne 6, 3) := by decide +kernel
theorem dX12_gathers_8 : decode cX12_gathers 8 = .ok (.bipush (-2), 2) := by decide +kernel
theorem dX12_gathers_10 : decode cX12_gathers 10 = .ok (.ireturn, 1) := by decide +kernel
theorem dX12_gathers_11 : decode cX12_gathers 11 = .ok (.aload_n 0, 1) := by decide +kernel
theorem dX12_gathers_12 : decode cX12_gathers 12 = .ok (.iload_n 1, 1) := by decide +kernel
theorem dX12_gathers_13 : decode cX12_gathers 13 = .ok (.invokevirtual 409, 3) := by decide +kernel
theorem dX12_gathers_16 : decode cX12_gathers 16 = .ok (.istore_n 3, 1) := by decide +kernel
theorem dX12_gathers_17 : decode cX12_gathers 17 = .ok (.iload_n 3, 1) := by decide +kernel
theorem dX12_gathers_18 : decode cX12_gathers 18 = .ok (.iconst (-1), 1) := by decide +kernel
theorem dX12_gathers_19 : decode cX12_gathers 19 = .ok (.if_icmp .eq 21, 3) := by decide +kernel
theorem dX12_gathers_40 : decode cX12_gathers 40 = .ok (.iconst (-1), 1) := by decide +kernel
theorem dX12_gathers_41 : decode cX12_gathers 41 = .ok (.ireturn, 1) := by decide +kernel
theorem dX12_gathers_22 : decode cX12_gathers 22 = .ok (.iload_n 2, 1) := by decide +kernel
theorem dX12_gathers_23 : decode cX12_gathers 23 = .ok (.i2l, 1) := by decide +kernel
theorem dX12_gathers_24 : decode cX12_gathers 24 = .ok (.lconst 0, 1) := by decide +kernel
theorem dX12_gathers_25 : decode cX12_gathers 25 = .ok (.aload_n 0, 1) := by decide +kernel
theorem dX12_gathers_26 : decode cX12_gathers 26 = .ok (.getfield 70, 3) := by decide +kernel
theorem dX12_gathers_29 : decode cX12_gathers 29 = .ok (.iload_n 3, 1) := by decide +kernel
theorem dX12_gathers_30 : decode cX12_gathers 30 = .ok (.iaload, 1) := by decide +kernel
theorem dX12_gathers_31 : decode cX12_gathers 31 = .ok (.iconst 1, 1) := by decide +kernel
theorem dX12_gathers_32 : decode cX12_gathers 32 = .ok (.isub, 1) := by decide +kernel
theorem dX12_gathers_33 : decode cX12_gathers 33 = .ok (.i2l, 1) := by decide +kernel
theorem dX12_gathers_34 : decode cX12_gathers 34 = .ok (.invokestatic 115, 3) := by decide +kernel
theorem dX12_gathers_37 : decode cX12_gathers 37 = .ok (.ifCond .ne 5, 3) := by decide +kernel
theorem dX12_gathers_42 : decode cX12_gathers 42 = .ok (.aload_n 0, 1) := by decide +kernel
theorem dX12_gathers_43 : decode cX12_gathers 43 = .ok (.getfield 70, 3) := by decide +kernel
theorem dX12_gathers_46 : decode cX12_gathers 46 = .ok (.iload_n 3, 1) := by decide +kernel
theorem dX12_gathers_47 : decode cX12_gathers 47 = .ok (.iaload, 1) := by decide +kernel
theorem dX12_gathers_48 : decode cX12_gathers 48 = .ok (.iload_n 2, 1) := by decide +kernel
theorem dX12_gathers_49 : decode cX12_gathers 49 = .ok (.iconst 1, 1) := by decide +kernel
theorem dX12_gathers_50 : decode cX12_gathers 50 = .ok (.iadd, 1) := by decide +kernel
theorem dX12_gathers_51 : decode cX12_gathers 51 = .ok (.if_icmp .le 13, 3) := by decide +kernel
theorem dX12_gathers_64 : decode cX12_gathers 64 = .ok (.aload_n 0, 1) := by decide +kernel
theorem dX12_gathers_65 : decode cX12_gathers 65 = .ok (.getfield 73, 3) := by decide +kernel
theorem dX12_gathers_68 : decode cX12_gathers 68 = .ok (.iload_n 3, 1) := by decide +kernel
theorem dX12_gathers_69 : decode cX12_gathers 69 = .ok (.iaload, 1) := by decide +kernel
theorem dX12_gathers_70 : decode cX12_gathers 70 = .ok (.ireturn, 1) := by decide +kernel
theorem dX12_gathers_54 : decode cX12_gathers 54 = .ok (.aload_n 0, 1) := by decide +kernel
theorem dX12_gathers_55 : decode cX12_gathers 55 = .ok (.getfield 76, 3) := by decide +kernel
theorem dX12_gathers_58 : decode cX12_gathers 58 = .ok (.iload_n 3, 1) := by decide +kernel
theorem dX12_gathers_59 : decode cX12_gathers 59 = .ok (.iaload, 1) := by decide +kernel
theorem dX12_gathers_60 : decode cX12_gathers 60 = .ok (.istore_n 3, 1) := by decide +kernel
theorem dX12_gathers_61 : decode cX12_gathers 61 = .ok (.goto (-19), 3) := by decide +kernel
theorem dX12_roundabout_0 : decode cX12_roundabout 0 = .ok (.aload_n 0, 1) := by decide +kernel
theorem dX12_roundabout_1 : decode cX12_roundabout 1 = .ok (.iload_n 1, 1) := by decide +kernel
theorem dX12_roundabout_2 : decode cX12_roundabout 2 = .ok (.invokevirtual 282, 3) := by decide +kernel
theorem dX12_roundabout_5 : decode cX12_roundabout 5 = .ok (.ifCond .ne 6, 3) := by decide +kernel
theorem dX12_roundabout_8 : decode cX12_roundabout 8 = .ok (.bipush (-2), 2) := by decide +kernel
theorem dX12_roundabout_10 : decode cX12_roundabout 10 = .ok (.ireturn, 1) := by decide +kernel
theorem dX12_roundabout_11 : decode cX12_roundabout 11 = .ok (.aload_n 0, 1) := by decide +kernel
theorem dX12_roundabout_12 : decode cX12_roundabout 12 = .ok (.iload_n 1, 1) := by decide +kernel
theorem dX12_roundabout_13 : decode cX12_roundabout 13 = .ok (.invokevirtual 409, 3) := by decide +kernel
theorem dX12_roundabout_16 : decode cX12_roundabout 16 = .ok (.istore_n 2, 1) := by decide +kernel
theorem dX12_roundabout_17 : decode cX12_roundabout 17 = .ok (.iload_n 2, 1) := by decide +kernel
theorem dX12_roundabout_18 : decode cX12_roundabout 18 = .ok (.iconst (-1), 1) := by decide +kernel
theorem dX12_roundabout_19 : decode cX12_roundabout 19 = .ok (.if_icmp .ne 5, 3) := by decide +kernel
theorem dX12_roundabout_22 : decode cX12_roundabout 22 = .ok (.iconst (-1), 1) := by decide +kernel
theorem dX12_roundabout_23 : decode cX12_roundabout 23 = .ok (.ireturn, 1) := by decide +kernel
theorem dX12_roundabout_24 : decode cX12_roundabout 24 = .ok (.iconst 0, 1) := by decide +kernel
theorem dX12_roundabout_25 : decode cX12_roundabout 25 = .ok (.istore_n 3, 1) := by decide +kernel
theorem dX12_roundabout_26 : decode cX12_roundabout 26 = .ok (.iload_n 3, 1) := by decide +kernel
theorem dX12_roundabout_27 : decode cX12_roundabout 27 = .ok (.aload_n 0, 1) := by decide +kernel
theorem dX12_roundabout_28 : decode cX12_roundabout 28 = .ok (.getfield 9, 3) := by decide +kernel
theorem dX12_roundabout_31 : decode cX12_roundabout 31 = .ok (.iconst 0, 1) := by decide +kernel
theorem dX12_roundabout_32 : decode cX12_roundabout 32 = .ok (.iaload, 1) := by decide +kernel
theorem dX12_roundabout_33 : decode cX12_roundabout 33 = .ok (.if_icmp .ge 28, 3) := by decide +kernel
theorem dX12_roundabout_61 : decode cX12_roundabout 61 = .ok (.iconst (-1), 1) := by decide +kernel
theorem dX12_roundabout_62 : decode cX12_roundabout 62 = .ok (.ireturn, 1) := by decide +kernel
theorem dX12_roundabout_36 : decode cX12_roundabout 36 = .ok (.aload_n 0, 1) := by decide +kernel
theorem dX12_roundabout_37 : decode cX12_roundabout 37 = .ok (.getfield 70, 3) := by decide +kernel
theorem dX12_roundabout_40 : decode cX12_roundabout 40 = .ok (.iconst 1, 1) := by decide +kernel
theorem dX12_roundabout_41 : decode cX12_roundabout 41 = .ok (.iload_n 3, 1) := by decide +kernel
theorem dX12_roundabout_42 : decode cX12_roundabout 42 = .ok (.ishl, 1) := by decide +kernel
theorem dX12_roundabout_43 : decode cX12_roundabout 43 = .ok (.iaload, 1) := by decide +kernel
theorem dX12_roundabout_44 : decode cX12_roundabout 44 = .ok (.aload_n 0, 1) := by decide +kernel
theorem dX12_roundabout_45 : decode cX12_roundabout 45 = .ok (.getfield 70, 3) := by decide +kernel
theorem dX12_roundabout_48 : decode cX12_roundabout 48 = .ok (.iload_n 2, 1) := by decide +kernel
theorem dX12_roundabout_49 : decode cX12_roundabout 49 = .ok (.iaload, 1) := by decide +kernel
theorem dX12_roundabout_50 : decode cX12_roundabout 50 = .ok (.if_icmp .ne 5, 3) := by decide +kernel
theorem dX12_roundabout_55 : decode cX12_roundabout 55 = .ok (.iinc 3 1, 3) := by decide +kernel
theorem dX12_roundabout_58 : decode cX12_roundabout 58 = .ok (.goto (-32), 3) := by decide +kernel
theorem dX12_roundabout_53 : decode cX12_roundabout 53 = .ok (.iload_n 3, 1) := by decide +kernel
theorem dX12_roundabout_54 : decode cX12_roundabout 54 = .ok (.ireturn, 1) := by decide +kernel
