theorem dX11_isWind_0 : decode cX11_isWind 0 = .ok (.iload_n 0, 1) := by decide +kernel
theorem dX11_isWind_1 : decode cX11_isWind 1 = .ok (.ifCond .lt 12, 3) := by decide +kernel
theorem dX11_isWind_13 : decode cX11_isWind 13 = .ok (.iconst 0, 1) := by decide +kernel
theorem dX11_isWind_14 : decode cX11_isWind 14 = .ok (.ireturn, 1) := by decide +kernel
theorem dX11_isWind_4 : decode cX11_isWind 4 = .ok (.iload_n 0, 1) := by decide +kernel
theorem dX11_isWind_5 : decode cX11_isWind 5 = .ok (.iconst 4, 1) := by decide +kernel
theorem dX11_isWind_6 : decode cX11_isWind 6 = .ok (.if_icmp .ge 7, 3) := by decide +kernel
theorem dX11_isWind_9 : decode cX11_isWind 9 = .ok (.iconst 1, 1) := by decide +kernel
theorem dX11_isWind_10 : decode cX11_isWind 10 = .ok (.goto 4, 3) := by decide +kernel
theorem dX11_isMark_0 : decode cX11_isMark 0 = .ok (.iload_n 0, 1) := by decide +kernel
theorem dX11_isMark_1 : decode cX11_isMark 1 = .ok (.ifCond .lt 13, 3) := by decide +kernel
theorem dX11_isMark_14 : decode cX11_isMark 14 = .ok (.iconst 0, 1) := by decide +kernel
theorem dX11_isMark_15 : decode cX11_isMark 15 = .ok (.ireturn, 1) := by decide +kernel
theorem dX11_isMark_4 : decode cX11_isMark 4 = .ok (.iload_n 0, 1) := by decide +kernel
theorem dX11_isMark_5 : decode cX11_isMark 5 = .ok (.bipush 10, 2) := by decide +kernel
theorem dX11_isMark_7 : decode cX11_isMark 7 = .ok (.if_icmp .ge 7, 3) := by decide +kernel
theorem dX11_isMark_10 : decode cX11_isMark 10 = .ok (.iconst 1, 1) := by decide +kernel
theorem dX11_isMark_11 : decode cX11_isMark 11 = .ok (.goto 4, 3) := by decide +kernel
theorem dX11_isSlot_0 : decode cX11_isSlot 0 = .ok (.iload_n 0, 1) := by decide +kernel
theorem dX11_isSlot_1 : decode cX11_isSlot 1 = .ok (.ifCond .lt 12, 3) := by decide +kernel
theorem dX11_isSlot_13 : decode cX11_isSlot 13 = .ok (.iconst 0, 1) := by decide +kernel
theorem dX11_isSlot_14 : decode cX11_isSlot 14 = .ok (.ireturn, 1) := by decide +kernel
theorem dX11_isSlot_4 : decode cX11_isSlot 4 = .ok (.iload_n 0, 1) := by decide +kernel
theorem dX11_isSlot_5 : decode cX11_isSlot 5 = .ok (.iconst 4, 1) := by decide +kernel
theorem dX11_isSlot_6 : decode cX11_isSlot 6 = .ok (.if_icmp .ge 7, 3) := by decide +kernel
theorem dX11_isSlot_9 : decode cX11_isSlot 9 = .ok (.iconst 1, 1) := by decide +kernel
theorem dX11_isSlot_10 : decode cX11_isSlot 10 = .ok (.goto 4, 3) := by decide +kernel
theorem dX11_isFogLength_0 : decode cX11_isFogLength 0 = .ok (.iload_n 0, 1) := by decide +kernel
theorem dX11_isFogLength_1 : decode cX11_isFogLength 1 = .ok (.ifCond .lt 13, 3) := by decide +kernel
theorem dX11_isFogLength_14 : decode cX11_isFogLength 14 = .ok (.iconst 0, 1) := by decide +kernel
theorem dX11_isFogLength_15 : decode cX11_isFogLength 15 = .ok (.ireturn, 1) := by decide +kernel
theorem dX11_isFogLength_4 : decode cX11_isFogLength 4 = .ok (.iload_n 0, 1) := by decide +kernel
theorem dX11_isFogLength_5 : decode cX11_isFogLength 5 = .ok (.bipush 15, 2) := by decide +kernel
theorem dX11_isFogLength_7 : decode cX11_isFogLength 7 = .ok (.if_icmp .gt 7, 3) := by decide +kernel
theorem dX11_isFogLength_10 : decode cX11_isFogLength 10 = .ok (.iconst 1, 1) := by decide +kernel
theorem dX11_isFogLength_11 : decode cX11_isFogLength 11 = .ok (.goto 4, 3) := by decide +kernel
theorem dX11_isDraw_0 : decode cX11_isDraw 0 = .ok (.iload_n 0, 1) := by decide +kernel
theorem dX11_isDraw_1 : decode cX11_isDraw 1 = .ok (.ifCond .lt 24, 3) := by decide +kernel
theorem dX11_isDraw_25 : decode cX11_isDraw 25 = .ok (.iconst 0, 1) := by decide +kernel
theorem dX11_isDraw_26 : decode cX11_isDraw 26 = .ok (.ireturn, 1) := by decide +kernel
theorem dX11_isDraw_4 : decode cX11_isDraw 4 = .ok (.iload_n 0, 1) := by decide +kernel
theorem dX11_isDraw_5 : decode cX11_isDraw 5 = .ok (.ldc_w 375, 3) := by decide +kernel
theorem dX11_isDraw_8 : decode cX11_isDraw 8 = .ok (.if_icmp .gt 17, 3) := by decide +kernel
theorem dX11_isDraw_11 : decode cX11_isDraw 11 = .ok (.iload_n 1, 1) := by decide +kernel
theorem dX11_isDraw_12 : decode cX11_isDraw 12 = .ok (.ifCond .lt 13, 3) := by decide +kernel
theorem dX11_isDraw_15 : decode cX11_isDraw 15 = .ok (.iload_n 1, 1) := by decide +kernel
theorem dX11_isDraw_16 : decode cX11_isDraw 16 = .ok (.bipush 40, 2) := by decide +kernel
theorem dX11_isDraw_18 : decode cX11_isDraw 18 = .ok (.if_icmp .gt 7, 3) := by decide +kernel
theorem dX11_isDraw_21 : decode cX11_isDraw 21 = .ok (.iconst 1, 1) := by decide +kernel
theorem dX11_isDraw_22 : decode cX11_isDraw 22 = .ok (.goto 4, 3) := by decide +kernel
theorem dJ6_bitCount_0f7a4_0 : decode cJ6_bitCount_0f7a4 0 = .ok (.iload_n 0, 1) := by decide +kernel
theorem dJ6_bitCount_0f7a4_1 : decode cJ6_bitCount_0f7a4 1 = .ok (.iload_n 0, 1) := by decide +kernel
theorem dJ6_bitCount_0f7a4_2 : decode cJ6_bitCount_0f7a4 2 = .ok (.iconst 1, 1) := by decide +kernel
theorem dJ6_bitCount_0f7a4_3 : decode cJ6_bitCount_0f7a4 3 = .ok (.iushr, 1) := by decide +kernel
theorem dJ6_bitCount_0f7a4_4 : decode cJ6_bitCount_0f7a4 4 = .ok (.ldc_w 265, 3) := by decide +kernel
theorem dJ6_bitCount_0f7a4_7 : decode cJ6_bitCount_0f7a4 7 = .ok (.iand, 1) := by decide +kernel
theorem dJ6_bitCount_0f7a4_8 : decode cJ6_bitCount_0f7a4 8 = .ok (.isub, 1) := by decide +kernel
theorem dJ6_bitCount_0f7a4_9 : decode cJ6_bitCount_0f7a4 9 = .ok (.istore_n 0, 1) := by decide +kernel
theorem dJ6_bitCount_0f7a4_10 : decode cJ6_bitCount_0f7a4 10 = .ok (.iload_n 0, 1) := by decide +kernel
theorem dJ6_bitCount_0f7a4_11 : decode cJ6_bitCount_0f7a4 11 = .ok (.ldc_w 266, 3) := by decide +kernel
theorem dJ6_bitCount_0f7a4_14 : decode cJ6_bitCount_0f7a4 14 = .ok (.iand, 1) := by decide +kernel
theorem dJ6_bitCount_0f7a4_15 : decode cJ6_bitCount_0f7a4 15 = .ok (.iload_n 0, 1) := by decide +kernel
theorem dJ6_bitCount_0f7a4_16 : decode cJ6_bitCount_0f7a4 16 = .ok (.iconst 2, 1) := by decide +kernel
theorem dJ6_bitCount_0f7a4_17 : decode cJ6_bitCount_0f7a4 17 = .ok (.iushr, 1) := by decide +kernel
theorem dJ6_bitCount_0f7a4_18 : decode cJ6_bitCount_0f7a4 18 = .ok (.ldc_w 266, 3) := by decide +kernel
theorem dJ6_bitCount_0f7a4_21 : decode cJ6_bitCount_0f7a4 21 = .ok (.iand, 1) := by decide +kernel
theorem dJ6_bitCount_0f7a4_22 : decode cJ6_bitCount_0f7a4 22 = .ok (.iadd, 1) := by decide +kernel
theorem dJ6_bitCount_0f7a4_23 : decode cJ6_bitCount_0f7a4 23 = .ok (.istore_n 0, 1) := by decide +kernel
theorem dJ6_bitCount_0f7a4_24 : decode cJ6_bitCount_0f7a4 24 = .ok (.iload_n 0, 1) := by decide +kernel
theorem dJ6_bitCount_0f7a4_25 : decode cJ6_bitCount_0f7a4 25 = .ok (.iload_n 0, 1) := by decide +kernel
theorem dJ6_bitCount_0f7a4_26 : decode cJ6_bitCount_0f7a4 26 = .ok (.iconst 4, 1) := by decide +kernel
theorem dJ6_bitCount_0f7a4_27 : decode cJ6_bitCount_0f7a4 27 = .ok (.iushr, 1) := by decide +kernel
theorem dJ6_bitCount_0f7a4_28 : decode cJ6_bitCount_0f7a4 28 = .ok (.iadd, 1) := by decide +kernel
theorem dJ6_bitCount_0f7a4_29 : decode cJ6_bitCount_0f7a4 29 = .ok (.ldc_w 267, 3) := by decide +kernel
theorem dJ6_bitCount_0f7a4_32 : decode cJ6_bitCount_0f7a4 32 = .ok (.iand, 1) := by decide +kernel
theorem dJ6_bitCount_0f7a4_33 : decode cJ6_bitCount_0f7a4 33 = .ok (.istore_n 0, 1) := by decide +kernel
theorem dJ6_bitCount_0f7a4_34 : decode cJ6_bitCount_0f7a4 34 = .ok (.iload_n 0, 1) := by decide +kernel
theorem dJ6_bitCount_0f7a4_35 : decode cJ6_bitCount_0f7a4 35 = .ok (.iload_n 0, 1) := by decide +kernel
theorem dJ6_bitCount_0f7a4_36 : decode cJ6_bitCount_0f7a4 36 = .ok (.bipush 8, 2) := by decide +kernel
theorem dJ6_bitCount_0f7a4_38 : decode cJ6_bitCount_0f7a4 38 = .ok (.iushr, 1) := by decide +kernel
theorem dJ6_bitCount_0f7a4_39 : decode cJ6_bitCount_0f7a4 39 = .ok (.iadd, 1) := by decide +kernel
theorem dJ6_bitCount_0f7a4_40 : decode cJ6_bitCount_0f7a4 40 = .ok (.istore_n 0, 1) := by decide +kernel
theorem dJ6_bitCount_0f7a4_41 : decode cJ6_bitCount_0f7a4 41 = .ok (.iload_n 0, 1) := by decide +kernel
theorem dJ6_bitCount_0f7a4_42 : decode cJ6_bitCount_0f7a4 42 = .ok (.iload_n 0, 1) := by decide +kernel
theorem dJ6_bitCount_0f7a4_43 : decode cJ6_bitCount_0f7a4 43 = .ok (.bipush 16, 2) := by decide +kernel
theorem dJ6_bitCount_0f7a4_45 : decode cJ6_bitCount_0f7a4 45 = .ok (.iushr, 1) := by decide +kernel
theorem dJ6_bitCount_0f7a4_46 : decode cJ6_bitCount_0f7a4 46 = .ok (.iadd, 1) := by decide +kernel
theorem dJ6_bitCount_0f7a4_47 : decode cJ6_bitCount_0f7a4 47 = .ok (.istore_n 0, 1) := by decide +kernel
theorem dJ6_bitCount_0f7a4_48 : decode cJ6_bitCount_0f7a4 48 = .ok (.iload_n 0, 1) := by decide +kernel
theorem dJ6_bitCount_0f7a4_49 : decode cJ6_bitCount_0f7a4 49 = .ok (.bipush 63, 2) := by decide +kernel
theorem dJ6_bitCount_0f7a4_51 : decode cJ6_bitCount_0f7a4 51 = .ok (.iand, 1) := by decide +kernel
theorem dJ6_bitCount_0f7a4_52 : decode cJ6_bitCount_0f7a4 52 = .ok (.ireturn, 1) := by decide +kernel
theorem dJ6_numberOfTrailingZeros_0f7a4_0 : decode cJ6_numberOfTrailingZeros_0f7a4 0 = .ok (.iload_n 0, 1) := by decide +kernel
theorem dJ6_numberOfTrailingZeros_0f7a4_1 : decode cJ6_numberOfTrailingZeros_0f7a4 1 = .ok (.iconst (-1), 1) := by decide +kernel
theorem dJ6_numberOfTrailingZeros_0f7a4_2 : decode cJ6_numberOfTrailingZeros_0f7a4 2 = .ok (.ixor, 1) := by decide +kernel
theorem dJ6_numberOfTrailingZeros_0f7a4_3 : decode cJ6_numberOfTrailingZeros_0f7a4 3 = .ok (.iload_n 0, 1) := by decide +kernel
theorem dJ6_numberOfTrailingZeros_0f7a4_4 : decode cJ6_numberOfTrailingZeros_0f7a4 4 = .ok (.iconst 1, 1) := by decide +kernel
theorem dJ6_numberOfTrailingZeros_0f7a4_5 : decode cJ6_numberOfTrailingZeros_0f7a4 5 = .ok (.isub, 1) := by decide +kernel
theorem dJ6_numberOfTrailingZeros_0f7a4_6 : decode cJ6_numberOfTrailingZeros_0f7a4 6 = .ok (.iand, 1) := by decide +kernel
theorem dJ6_numberOfTrailingZeros_0f7a4_7 : decode cJ6_numberOfTrailingZeros_0f7a4 7 = .ok (.istore_n 0, 1) := by decide +kernel
theorem dJ6_numberOfTrailingZeros_0f7a4_8 : decode cJ6_numberOfTrailingZeros_0f7a4 8 = .ok (.iload_n 0, 1) := by decide +kernel
theorem dJ6_numberOfTrailingZeros_0f7a4_9 : decode cJ6_numberOfTrailingZeros_0f7a4 9 = .ok (.ifCond .gt 8, 3) := by decide +kernel
theorem dJ6_numberOfTrailingZeros_0f7a4_17 : decode cJ6_numberOfTrailingZeros_0f7a4 17 = .ok (.iconst 1, 1) := by decide +kernel
theorem dJ6_numberOfTrailingZeros_0f7a4_18 : decode cJ6_numberOfTrailingZeros_0f7a4 18 = .ok (.istore_n 1, 1) := by decide +kernel
theorem dJ6_numberOfTrailingZeros_0f7a4_19 : decode cJ6_numberOfTrailingZeros_0f7a4 19 = .ok (.iload_n 0, 1) := by decide +kernel
theorem dJ6_numberOfTrailingZeros_0f7a4_20 : decode cJ6_numberOfTrailingZeros_0f7a4 20 = .ok (.ldc_w 264, 3) := by decide +kernel
theorem dJ6_numberOfTrailingZeros_0f7a4_23 : decode cJ6_numberOfTrailingZeros_0f7a4 23 = .ok (.if_icmp .le 11, 3) := by decide +kernel
theorem dJ6_numberOfTrailingZeros_0f7a4_34 : decode cJ6_numberOfTrailingZeros_0f7a4 34 = .ok (.iload_n 0, 1) := by decide +kernel
theorem dJ6_numberOfTrailingZeros_0f7a4_35 : decode cJ6_numberOfTrailingZeros_0f7a4 35 = .ok (.sipush 256, 3) := by decide +kernel
theorem dJ6_numberOfTrailingZeros_0f7a4_38 : decode cJ6_numberOfTrailingZeros_0f7a4 38 = .ok (.if_icmp .le 11, 3) := by decide +kernel
theorem dJ6_numberOfTrailingZeros_0f7a4_49 : decode cJ6_numberOfTrailingZeros_0f7a4 49 = .ok (.iload_n 0, 1) := by decide +kernel
theorem dJ6_numberOfTrailingZeros_0f7a4_50 : decode cJ6_numberOfTrailingZeros_0f7a4 50 = .ok (.bipush 16, 2) := by decide +kernel
theorem dJ6_numberOfTrailingZeros_0f7a4_52 : decode cJ6_numberOfTrailingZeros_0f7a4 52 = .ok (.if_icmp .le 10, 3) := by decide +kernel
theorem dJ6_numberOfTrailingZeros_0f7a4_62 : decode cJ6_numberOfTrailingZeros_0f7a4 62 = .ok (.iload_n 0, 1) := by decide +kernel
theorem dJ6_numberOfTrailingZeros_0f7a4_63 : decode cJ6_numberOfTrailingZeros_0f7a4 63 = .ok (.iconst 4, 1) := by decide +kernel
theorem dJ6_numberOfTrailingZeros_0f7a4_64 : decode cJ6_numberOfTrailingZeros_0f7a4 64 = .ok (.if_icmp .le 10, 3) := by decide +kernel
theorem dJ6_numberOfTrailingZeros_0f7a4_74 : decode cJ6_numberOfTrailingZeros_0f7a4 74 = .ok (.iload_n 1, 1) := by decide +kernel
theorem dJ6_numberOfTrailingZeros_0f7a4_75 : decode cJ6_numberOfTrailingZeros_0f7a4 75 = .ok (.iload_n 0, 1) := by decide +kernel
theorem dJ6_numberOfTrailingZeros_0f7a4_76 : decode cJ6_numberOfTrailingZeros_0f7a4 76 = .ok (.iconst 1, 1) := by decide +kernel
theorem dJ6_numberOfTrailingZeros_0f7a4_77 : decode cJ6_numberOfTrailingZeros_0f7a4 77 = .ok (.iushr, 1) := by decide +kernel
theorem dJ6_numberOfTrailingZeros_0f7a4_78 : decode cJ6_numberOfTrailingZeros_0f7a4 78 = .ok (.iadd, 1) := by decide +kernel
theorem dJ6_numberOfTrailingZeros_0f7a4_79 : decode cJ6_numberOfTrailingZeros_0f7a4 79 = .ok (.ireturn, 1) := by decide +kernel
theorem dJ6_numberOfTrailingZeros_0f7a4_67 : decode cJ6_numberOfTrailingZeros_0f7a4 67 = .ok (.iinc 1 2, 3) := by decide +kernel
theorem dJ6_numberOfTrailingZeros_0f7a4_70 : decode cJ6_numberOfTrailingZeros_0f7a4 70 = .ok (.iload_n 0, 1) := by decide +kernel
theorem dJ6_numberOfTrailingZeros_0f7a4_71 : decode cJ6_numberOfTrailingZeros_0f7a4 71 = .ok (.iconst 2, 1) := by decide +kernel
theorem dJ6_numberOfTrailingZeros_0f7a4_72 : decode cJ6_numberOfTrailingZeros_0f7a4 72 = .ok (.iushr, 1) := by decide +kernel
theorem dJ6_numberOfTrailingZeros_0f7a4_73 : decode cJ6_numberOfTrailingZeros_0f7a4 73 = .ok (.istore_n 0, 1) := by decide +kernel
theorem dJ6_numberOfTrailingZeros_0f7a4_55 : decode cJ6_numberOfTrailingZeros_0f7a4 55 = .ok (.iinc 1 4, 3) := by decide +kernel
theorem dJ6_numberOfTrailingZeros_0f7a4_58 : decode cJ6_numberOfTrailingZeros_0f7a4 58 = .ok (.iload_n 0, 1) := by decide +kernel
theorem dJ6_numberOfTrailingZeros_0f7a4_59 : decode cJ6_numberOfTrailingZeros_0f7a4 59 = .ok (.iconst 4, 1) := by decide +kernel
theorem dJ6_numberOfTrailingZeros_0f7a4_60 : decode cJ6_numberOfTrailingZeros_0f7a4 60 = .ok (.iushr, 1) := by decide +kernel
theorem dJ6_numberOfTrailingZeros_0f7a4_61 : decode cJ6_numberOfTrailingZeros_0f7a4 61 = .ok (.istore_n 0, 1) := by decide +kernel
theorem dJ6_numberOfTrailingZeros_0f7a4_41 : decode cJ6_numberOfTrailingZeros_0f7a4 41 = .ok (.iinc 1 8, 3) := by decide +kernel
theorem dJ6_numberOfTrailingZeros_0f7a4_44 : decode cJ6_numberOfTrailingZeros_0f7a4 44 = .ok (.iload_n 0, 1) := by decide +kernel
theorem dJ6_numberOfTrailingZeros_0f7a4_45 : decode cJ6_numberOfTrailingZeros_0f7a4 45 = .ok (.bipush 8, 2) := by decide +kernel
theorem dJ6_numberOfTrailingZeros_0f7a4_47 : decode cJ6_numberOfTrailingZeros_0f7a4 47 = .ok (.iushr, 1) := by decide +kernel
theorem dJ6_numberOfTrailingZeros_0f7a4_48 : decode cJ6_numberOfTrailingZeros_0f7a4 48 = .ok (.istore_n 0, 1) := by decide +kernel
theorem dJ6_numberOfTrailingZeros_0f7a4_26 : decode cJ6_numberOfTrailingZeros_0f7a4 26 = .ok (.iinc 1 16, 3) := by decide +kernel
theorem dJ6_numberOfTrailingZeros_0f7a4_29 : decode cJ6_numberOfTrailingZeros_0f7a4 29 = .ok (.iload_n 0, 1) := by decide +kernel
theorem dJ6_numberOfTrailingZeros_0f7a4_30 : decode cJ6_numberOfTrailingZeros_0f7a4 30 = .ok (.bipush 16, 2) := by decide +kernel
theorem dJ6_numberOfTrailingZeros_0f7a4_32 : decode cJ6_numberOfTrailingZeros_0f7a4 32 = .ok (.iushr, 1) := by decide +kernel
theorem dJ6_numberOfTrailingZeros_0f7a4_33 : decode cJ6_numberOfTrailingZeros_0f7a4 33 = .ok (.istore_n 0, 1) := by decide +kernel
theorem dJ6_numberOfTrailingZeros_0f7a4_12 : decode cJ6_numberOfTrailingZeros_0f7a4 12 = .ok (.iload_n 0, 1) := by decide +kernel
theorem dJ6_numberOfTrailingZeros_0f7a4_13 : decode cJ6_numberOfTrailingZeros_0f7a4 13 = .ok (.bipush 32, 2) := by decide +kernel
theorem dJ6_numberOfTrailingZeros_0f7a4_15 : decode cJ6_numberOfTrailingZeros_0f7a4 15 = .ok (.iand, 1) := by decide +kernel
theorem dJ6_numberOfTrailingZeros_0f7a4_16 : decode cJ6_numberOfTrailingZeros_0f7a4 16 = .ok (.ireturn, 1) := by decide +kernel
theorem dX11_lowest_0 : decode cX11_lowest 0 = .ok (.iload_n 0, 1) := by decide +kernel
theorem dX11_lowest_1 : decode cX11_lowest 1 = .ok (.ifCond .ne 7, 3) := by decide +kernel
theorem dX11_lowest_8 : decode cX11_lowest 8 = .ok (.iload_n 0, 1) := by decide +kernel
theorem dX11_lowest_9 : decode cX11_lowest 9 = .ok (.invokestatic 314, 3) := by decide +kernel
theorem dX11_lowest_12 : decode cX11_lowest 12 = .ok (.ireturn, 1) := by decide +kernel
theorem dX11_lowest_4 : decode cX11_lowest 4 = .ok (.iconst (-1), 1) := by decide +kernel
theorem dX11_lowest_5 : decode cX11_lowest 5 = .ok (.goto 7, 3) := by decide +kernel
theorem dX10_hasPlace_0 : decode cX10_hasPlace 0 = .ok (.iload_n 1, 1) := by decide +kernel
theorem dX10_hasPlace_1 : decode cX10_hasPlace 1 = .ok (.ifCond .lt 21, 3) := by decide +kernel
theorem dX10_hasPlace_22 : decode cX10_hasPlace 22 = .ok (.iconst 0, 1) := by decide +kernel
theorem dX10_hasPlace_23 : decode cX10_hasPlace 23 = .ok (.ireturn, 1) := by decide +kernel
theorem dX10_hasPlace_4 : decode cX10_hasPlace 4 = .ok (.iload_n 1, 1) := by decide +kernel
theorem dX10_hasPlace_5 : decode cX10_hasPlace 5 = .ok (.aload_n 0, 1) := by decide +kernel
theorem dX10_hasPlace_6 : decode cX10_hasPlace 6 = .ok (.getfield 42, 3) := by decide +kernel
theorem dX10_hasPlace_9 : decode cX10_hasPlace 9 = .ok (.if_icmp .ge 13, 3) := by decide +kernel
theorem dX10_hasPlace_12 : decode cX10_hasPlace 12 = .ok (.iload_n 1, 1) := by decide +kernel
theorem dX10_hasPlace_13 : decode cX10_hasPlace 13 = .ok (.bipush 10, 2) := by decide +kernel
theorem dX10_hasPlace_15 : decode cX10_hasPlace 15 = .ok (.if_icmp .ge 7, 3) := by decide +kernel
theorem dX10_hasPlace_18 : decode cX10_hasPlace 18 = .ok (.iconst 1, 1) := by decide +kernel
theorem dX10_hasPlace_19 : decode cX10_hasPlace 19 = .ok (.goto 4, 3) := by decide +kernel
theorem dX10_hasPupil_0 : decode cX10_hasPupil 0 = .ok (.iload_n 1, 1) := by decide +kernel
theorem dX10_hasPupil_1 : decode cX10_hasPupil 1 = .ok (.ifCond .lt 20, 3) := by decide +kernel
theorem dX10_hasPupil_21 : decode cX10_hasPupil 21 = .ok (.iconst 0, 1) := by decide +kernel
theorem dX10_hasPupil_22 : decode cX10_hasPupil 22 = .ok (.ireturn, 1) := by decide +kernel
theorem dX10_hasPupil_4 : decode cX10_hasPupil 4 = .ok (.iload_n 1, 1) := by decide +kernel
theorem dX10_hasPupil_5 : decode cX10_hasPupil 5 = .ok (.aload_n 0, 1) := by decide +kernel
theorem dX10_hasPupil_6 : decode cX10_hasPupil 6 = .ok (.getfield 46, 3) := by decide +kernel
theorem dX10_hasPupil_9 : decode cX10_hasPupil 9 = .ok (.if_icmp .ge 12, 3) := by decide +kernel
theorem dX10_hasPupil_12 : decode cX10_hasPupil 12 = .ok (.iload_n 1, 1) := by decide +kernel
theorem dX10_hasPupil_13 : decode cX10_hasPupil 13 = .ok (.iconst 4, 1) := by decide +kernel
theorem dX10_hasPupil_14 : decode cX10_hasPupil 14 = .ok (.if_icmp .ge 7, 3) := by decide +kernel
theorem dX10_hasPupil_17 : decode cX10_hasPupil 17 = .ok (.iconst 1, 1) := by decide +kernel
theorem dX10_hasPupil_18 : decode cX10_hasPupil 18 = .ok (.goto 4, 3) := by decide +kernel
theorem dX10_stands_0 : decode cX10_stands 0 = .ok (.aload_n 0, 1) := by decide +kernel
theorem dX10_stands_1 : decode cX10_stands 1 = .ok (.getfield 52, 3) := by decide +kernel
theorem dX10_stands_4 : decode cX10_stands 4 = .ok (.ifCond .le 7, 3) := by decide +kernel
theorem dX10_stands_11 : decode cX10_stands 11 = .ok (.iconst 0, 1) := by decide +kernel
theorem dX10_stands_12 : decode cX10_stands 12 = .ok (.ireturn, 1) := by decide +kernel
theorem dX10_stands_7 : decode cX10_stands 7 = .ok (.iconst 1, 1) := by decide +kernel
theorem dX10_stands_8 : decode cX10_stands 8 = .ok (.goto 4, 3) := by decide +kernel
theorem dX10_all_0 : decode cX10_all 0 = .ok (.iconst 1, 1) := by decide +kernel
theorem dX10_all_1 : decode cX10_all 1 = .ok (.aload_n 0, 1) := by decide +kernel
theorem dX10_all_2 : decode cX10_all 2 = .ok (.getfield 42, 3) := by decide +kernel
theorem dX10_all_5 : decode cX10_all 5 = .ok (.ishl, 1) := by decide +kernel
theorem dX10_all_6 : decode cX10_all 6 = .ok (.iconst 1, 1) := by decide +kernel
theorem dX10_all_7 : decode cX10_all 7 = .ok (.isub, 1) := by decide +kernel
theorem dX10_all_8 : decode cX10_all 8 = .ok (.ireturn, 1) := by decide +kernel
theorem dX10_hasSet_0 : decode cX10_hasSet 0 = .ok (.iload_n 1, 1) := by decide +kernel
theorem dX10_hasSet_1 : decode cX10_hasSet 1 = .ok (.iconst 1, 1) := by decide +kernel
theorem dX10_hasSet_2 : decode cX10_hasSet 2 = .ok (.if_icmp .lt 15, 3) := by decide +kernel
theorem dX10_hasSet_17 : decode cX10_hasSet 17 = .ok (.iconst 0, 1) := by decide +kernel
theorem dX10_hasSet_18 : decode cX10_hasSet 18 = .ok (.ireturn, 1) := by decide +kernel
theorem dX10_hasSet_5 : decode cX10_hasSet 5 = .ok (.iload_n 1, 1) := by decide +kernel
theorem dX10_hasSet_6 : decode cX10_hasSet 6 = .ok (.aload_n 0, 1) := by decide +kernel
theorem dX10_hasSet_7 : decode cX10_hasSet 7 = .ok (.invokevirtual 61, 3) := by decide +kernel
theorem dX10_hasSet_10 : decode cX10_hasSet 10 = .ok (.if_icmp .gt 7, 3) := by decide +kernel
theorem dX10_hasSet_13 : decode cX10_hasSet 13 = .ok (.iconst 1, 1) := by decide +kernel
theorem dX10_hasSet_14 : decode cX10_hasSet 14 = .ok (.goto 4, 3) := by decide +kernel
theorem dX10_after_0 : decode cX10_after 0 = .ok (.aload_n 0, 1) := by decide +kernel
theorem dX10_after_1 : decode cX10_after 1 = .ok (.iload_n 1, 1) := by decide +kernel
theorem dX10_after_2 : decode cX10_after 2 = .ok (.invokevirtual 65, 3) := by decide +kernel
theorem dX10_after_5 : decode cX10_after 5 = .ok (.ifCond .eq 23, 3) := by decide +kernel
theorem dX10_after_28 : decode cX10_after 28 = .ok (.iload_n 1, 1) := by decide +kernel
theorem dX10_after_29 : decode cX10_after 29 = .ok (.ireturn, 1) := by decide +kernel
theorem dX10_after_8 : decode cX10_after 8 = .ok (.iload_n 2, 1) := by decide +kernel
theorem dX10_after_9 : decode cX10_after 9 = .ok (.invokestatic 69, 3) := by decide +kernel
theorem dX10_after_12 : decode cX10_after 12 = .ok (.ifCond .eq 16, 3) := by decide +kernel
theorem dX10_after_15 : decode cX10_after 15 = .ok (.aload_n 0, 1) := by decide +kernel
theorem dX10_after_16 : decode cX10_after 16 = .ok (.getfield 9, 3) := by decide +kernel
theorem dX10_after_19 : decode cX10_after 19 = .ok (.iload_n 1, 1) := by decide +kernel
theorem dX10_after_20 : decode cX10_after 20 = .ok (.iconst 4, 1) := by decide +kernel
theorem dX10_after_21 : decode cX10_after 21 = .ok (.imul, 1) := by decide +kernel
theorem dX10_after_22 : decode cX10_after 22 = .ok (.iload_n 2, 1) := by decide +kernel
theorem dX10_after_23 : decode cX10_after 23 = .ok (.iadd, 1) := by decide +kernel
theorem dX10_after_24 : decode cX10_after 24 = .ok (.iaload, 1) := by decide +kernel
theorem dX10_after_25 : decode cX10_after 25 = .ok (.goto 4, 3) := by decide +kernel
theorem dX10_sign_0 : decode cX10_sign 0 = .ok (.aload_n 0, 1) := by decide +kernel
theorem dX10_sign_1 : decode cX10_sign 1 = .ok (.iload_n 1, 1) := by decide +kernel
theorem dX10_sign_2 : decode cX10_sign 2 = .ok (.invokevirtual 65, 3) := by decide +kernel
theorem dX10_sign_5 : decode cX10_sign 5 = .ok (.ifCond .eq 12, 3) := by decide +kernel
theorem dX10_sign_17 : decode cX10_sign 17 = .ok (.iconst 0, 1) := by decide +kernel
theorem dX10_sign_18 : decode cX10_sign 18 = .ok (.ireturn, 1) := by decide +kernel
theorem dX10_sign_8 : decode cX10_sign 8 = .ok (.aload_n 0, 1) := by decide +kernel
theorem dX10_sign_9 : decode cX10_sign 9 = .ok (.getfield 15, 3) := by decide +kernel
theorem dX10_sign_12 : decode cX10_sign 12 = .ok (.iload_n 1, 1) := by decide +kernel
theorem dX10_sign_13 : decode cX10_sign 13 = .ok (.iaload, 1) := by decide +kernel
theorem dX10_sign_14 : decode cX10_sign 14 = .ok (.goto 4, 3) := by decide +kernel
theorem dX10_spread_0 : decode cX10_spread 0 = .ok (.iload_n 2, 1) := by decide +kernel
theorem dX10_spread_1 : decode cX10_spread 1 = .ok (.invokestatic 69, 3) := by decide +kernel
theorem dX10_spread_4 : decode cX10_spread 4 = .ok (.ifCond .ne 5, 3) := by decide +kernel
theorem dX10_spread_7 : decode cX10_spread 7 = .ok (.iload_n 1, 1) := by decide +kernel
theorem dX10_spread_8 : decode cX10_spread 8 = .ok (.ireturn, 1) := by decide +kernel
theorem dX10_spread_9 : decode cX10_spread 9 = .ok (.iconst 0, 1) := by decide +kernel
theorem dX10_spread_10 : decode cX10_spread 10 = .ok (.istore_n 3, 1) := by decide +kernel
theorem dX10_spread_11 : decode cX10_spread 11 = .ok (.iconst 0, 1) := by decide +kernel
theorem dX10_spread_12 : decode cX10_spread 12 = .ok (.istore 4, 2) := by decide +kernel
theorem dX10_spread_14 : decode cX10_spread 14 = .ok (.iload 4, 2) := by decide +kernel
theorem dX10_spread_16 : decode cX10_spread 16 = .ok (.aload_n 0, 1) := by decide +kernel
theorem dX10_spread_17 : decode cX10_spread 17 = .ok (.getfield 42, 3) := by decide +kernel
theorem dX10_spread_20 : decode cX10_spread 20 = .ok (.if_icmp .ge 41, 3) := by decide +kernel
theorem dX10_spread_61 : decode cX10_spread 61 = .ok (.iload_n 3, 1) := by decide +kernel
theorem dX10_spread_62 : decode cX10_spread 62 = .ok (.ireturn, 1) := by decide +kernel
theorem dX10_spread_23 : decode cX10_spread 23 = .ok (.iload 4, 2) := by decide +kernel
theorem dX10_spread_25 : decode cX10_spread 25 = .ok (.bipush 10, 2) := by decide +kernel
theorem dX10_spread_27 : decode cX10_spread 27 = .ok (.if_icmp .ge 34, 3) := by decide +kernel
theorem dX10_spread_30 : decode cX10_spread 30 = .ok (.iload_n 1, 1) := by decide +kernel
theorem dX10_spread_31 : decode cX10_spread 31 = .ok (.iload 4, 2) := by decide +kernel
theorem dX10_spread_33 : decode cX10_spread 33 = .ok (.ishr, 1) := by decide +kernel
theorem dX10_spread_34 : decode cX10_spread 34 = .ok (.iconst 1, 1) := by decide +kernel
theorem dX10_spread_35 : decode cX10_spread 35 = .ok (.iand, 1) := by decide +kernel
theorem dX10_spread_36 : decode cX10_spread 36 = .ok (.ifCond .eq 19, 3) := by decide +kernel
theorem dX10_spread_55 : decode cX10_spread 55 = .ok (.iinc 4 1, 3) := by decide +kernel
theorem dX10_spread_58 : decode cX10_spread 58 = .ok (.goto (-44), 3) := by decide +kernel
theorem dX10_spread_39 : decode cX10_spread 39 = .ok (.iload_n 3, 1) := by decide +kernel
theorem dX10_spread_40 : decode cX10_spread 40 = .ok (.iconst 1, 1) := by decide +kernel
theorem dX10_spread_41 : decode cX10_spread 41 = .ok (.aload_n 0, 1) := by decide +kernel
theorem dX10_spread_42 : decode cX10_spread 42 = .ok (.getfield 9, 3) := by decide +kernel
theorem dX10_spread_45 : decode cX10_spread 45 = .ok (.iload 4, 2) := by decide +kernel
theorem dX10_spread_47 : decode cX10_spread 47 = .ok (.iconst 4, 1) := by decide +kernel
theorem dX10_spread_48 : decode cX10_spread 48 = .ok (.imul, 1) := by decide +kernel
theorem dX10_spread_49 : decode cX10_spread 49 = .ok (.iload_n 2, 1) := by decide +kernel
theorem dX10_spread_50 : decode cX10_spread 50 = .ok (.iadd, 1) := by decide +kernel
theorem dX10_spread_51 : decode cX10_spread 51 = .ok (.iaload, 1) := by decide +kernel
theorem dX10_spread_52 : decode cX10_spread 52 = .ok (.ishl, 1) := by decide +kernel
theorem dX10_spread_53 : decode cX10_spread 53 = .ok (.ior, 1) := by decide +kernel
theorem dX10_spread_54 : decode cX10_spread 54 = .ok (.istore_n 3, 1) := by decide +kernel
theorem dX10_spreadAnyhow_0 : decode cX10_spreadAnyhow 0 = .ok (.iconst 0, 1) := by decide +kernel
theorem dX10_spreadAnyhow_1 : decode cX10_spreadAnyhow 1 = .ok (.istore_n 2, 1) := by decide +kernel
theorem dX10_spreadAnyhow_2 : decode cX10_spreadAnyhow 2 = .ok (.iconst 0, 1) := by decide +kernel
theorem dX10_spreadAnyhow_3 : decode cX10_spreadAnyhow 3 = .ok (.istore_n 3, 1) := by decide +kernel
theorem dX10_spreadAnyhow_4 : decode cX10_spreadAnyhow 4 = .ok (.iload_n 3, 1) := by decide +kernel
theorem dX10_spreadAnyhow_5 : decode cX10_spreadAnyhow 5 = .ok (.iconst 4, 1) := by decide +kernel
theorem dX10_spreadAnyhow_6 : decode cX10_spreadAnyhow 6 = .ok (.if_icmp .ge 18, 3) := by decide +kernel
theorem dX10_spreadAnyhow_24 : decode cX10_spreadAnyhow 24 = .ok (.iload_n 2, 1) := by decide +kernel
theorem dX10_spreadAnyhow_25 : decode cX10_spreadAnyhow 25 = .ok (.ireturn, 1) := by decide +kernel
theorem dX10_spreadAnyhow_9 : decode cX10_spreadAnyhow 9 = .ok (.iload_n 2, 1) := by decide +kernel
theorem dX10_spreadAnyhow_10 : decode cX10_spreadAnyhow 10 = .ok (.aload_n 0, 1) := by decide +kernel
theorem dX10_spreadAnyhow_11 : decode cX10_spreadAnyhow 11 = .ok (.iload_n 1, 1) := by decide +kernel
theorem dX10_spreadAnyhow_12 : decode cX10_spreadAnyhow 12 = .ok (.iload_n 3, 1) := by decide +kernel
theorem dX10_spreadAnyhow_13 : decode cX10_spreadAnyhow 13 = .ok (.invokevirtual 72, 3) := by decide +kernel
theorem dX10_spreadAnyhow_16 : decode cX10_spreadAnyhow 16 = .ok (.ior, 1) := by decide +kernel
theorem dX10_spreadAnyhow_17 : decode cX10_spreadAnyhow 17 = .ok (.istore_n 2, 1) := by decide +kernel
theorem dX10_spreadAnyhow_18 : decode cX10_spreadAnyhow 18 = .ok (.iinc 3 1, 3) := by decide +kernel
theorem dX10_spreadAnyhow_21 : decode cX10_spreadAnyhow 21 = .ok (.goto (-17), 3) := by decide +kernel
theorem dX10_showing_0 : decode cX10_showing 0 = .ok (.iconst 0, 1) := by decide +kernel
theorem dX10_showing_1 : decode cX10_showing 1 = .ok (.istore_n 3, 1) := by decide +kernel
theorem dX10_showing_2 : decode cX10_showing 2 = .ok (.iconst 0, 1) := by decide +kernel
theorem dX10_showing_3 : decode cX10_showing 3 = .ok (.istore 4, 2) := by decide +kernel
theorem dX10_showing_5 : decode cX10_showing 5 = .ok (.iload 4, 2) := by decide +kernel
theorem dX10_showing_7 : decode cX10_showing 7 = .ok (.aload_n 0, 1) := by decide +kernel
theorem dX10_showing_8 : decode cX10_showing 8 = .ok (.getfield 42, 3) := by decide +kernel
theorem dX10_showing_11 : decode cX10_showing 11 = .ok (.if_icmp .ge 43, 3) := by decide +kernel
theorem dX10_showing_54 : decode cX10_showing 54 = .ok (.iload_n 3, 1) := by decide +kernel
theorem dX10_showing_55 : decode cX10_showing 55 = .ok (.ireturn, 1) := by decide +kernel
theorem dX10_showing_14 : decode cX10_showing 14 = .ok (.iload 4, 2) := by decide +kernel
theorem dX10_showing_16 : decode cX10_showing 16 = .ok (.bipush 10, 2) := by decide +kernel
theorem dX10_showing_18 : decode cX10_showing 18 = .ok (.if_icmp .ge 36, 3) := by decide +kernel
theorem dX10_showing_21 : decode cX10_showing 21 = .ok (.iload_n 1, 1) := by decide +kernel
theorem dX10_showing_22 : decode cX10_showing 22 = .ok (.iload 4, 2) := by decide +kernel
theorem dX10_showing_24 : decode cX10_showing 24 = .ok (.ishr, 1) := by decide +kernel
theorem dX10_showing_25 : decode cX10_showing 25 = .ok (.iconst 1, 1) := by decide +kernel
theorem dX10_showing_26 : decode cX10_showing 26 = .ok (.iand, 1) := by decide +kernel
theorem dX10_showing_27 : decode cX10_showing 27 = .ok (.ifCond .eq 21, 3) := by decide +kernel
theorem dX10_showing_48 : decode cX10_showing 48 = .ok (.iinc 4 1, 3) := by decide +kernel
theorem dX10_showing_51 : decode cX10_showing 51 = .ok (.goto (-46), 3) := by decide +kernel
theorem dX10_showing_30 : decode cX10_showing 30 = .ok (.aload_n 0, 1) := by decide +kernel
theorem dX10_showing_31 : decode cX10_showing 31 = .ok (.getfield 15, 3) := by decide +kernel
theorem dX10_showing_34 : decode cX10_showing 34 = .ok (.iload 4, 2) := by decide +kernel
theorem dX10_showing_36 : decode cX10_showing 36 = .ok (.iaload, 1) := by decide +kernel
theorem dX10_showing_37 : decode cX10_showing 37 = .ok (.iload_n 2, 1) := by decide +kernel
theorem dX10_showing_38 : decode cX10_showing 38 = .ok (.if_icmp .ne 10, 3) := by decide +kernel
theorem dX10_showing_41 : decode cX10_showing 41 = .ok (.iload_n 3, 1) := by decide +kernel
theorem dX10_showing_42 : decode cX10_showing 42 = .ok (.iconst 1, 1) := by decide +kernel
theorem dX10_showing_43 : decode cX10_showing 43 = .ok (.iload 4, 2) := by decide +kernel
theorem dX10_showing_45 : decode cX10_showing 45 = .ok (.ishl, 1) := by decide +kernel
theorem dX10_showing_46 : decode cX10_showing 46 = .ok (.ior, 1) := by decide +kernel
theorem dX10_showing_47 : decode cX10_showing 47 = .ok (.istore_n 3, 1) := by decide +kernel
theorem dX10_marked_0 : decode cX10_marked 0 = .ok (.aload_n 0, 1) := by decide +kernel
theorem dX10_marked_1 : decode cX10_marked 1 = .ok (.invokevirtual 61, 3) := by decide +kernel
theorem dX10_marked_4 : decode cX10_marked 4 = .ok (.aload_n 0, 1) := by decide +kernel
theorem dX10_marked_5 : decode cX10_marked 5 = .ok (.aload_n 0, 1) := by decide +kernel
theorem dX10_marked_6 : decode cX10_marked 6 = .ok (.invokevirtual 61, 3) := by decide +kernel
theorem dX10_marked_9 : decode cX10_marked 9 = .ok (.iconst 0, 1) := by decide +kernel
theorem dX10_marked_10 : decode cX10_marked 10 = .ok (.invokevirtual 76, 3) := by decide +kernel
theorem dX10_marked_13 : decode cX10_marked 13 = .ok (.iconst (-1), 1) := by decide +kernel
theorem dX10_marked_14 : decode cX10_marked 14 = .ok (.ixor, 1) := by decide +kernel
theorem dX10_marked_15 : decode cX10_marked 15 = .ok (.iand, 1) := by decide +kernel
theorem dX10_marked_16 : decode cX10_marked 16 = .ok (.ireturn, 1) := by decide +kernel
theorem dX10_waysElsewhere_0 : decode cX10_waysElsewhere 0 = .ok (.iconst 0, 1) := by decide +kernel
theorem dX10_waysElsewhere_1 : decode cX10_waysElsewhere 1 = .ok (.istore_n 1, 1) := by decide +kernel
theorem dX10_waysElsewhere_2 : decode cX10_waysElsewhere 2 = .ok (.iconst 0, 1) := by decide +kernel
theorem dX10_waysElsewhere_3 : decode cX10_waysElsewhere 3 = .ok (.istore_n 2, 1) := by decide +kernel
theorem dX10_waysElsewhere_4 : decode cX10_waysElsewhere 4 = .ok (.iload_n 2, 1) := by decide +kernel
theorem dX10_waysElsewhere_5 : decode cX10_waysElsewhere 5 = .ok (.aload_n 0, 1) := by decide +kernel
theorem dX10_waysElsewhere_6 : decode cX10_waysElsewhere 6 = .ok (.getfield 42, 3) := by decide +kernel
theorem dX10_waysElsewhere_9 : decode cX10_waysElsewhere 9 = .ok (.if_icmp .ge 40, 3) := by decide +kernel
theorem dX10_waysElsewhere_49 : decode cX10_waysElsewhere 49 = .ok (.iload_n 1, 1) := by decide +kernel
theorem dX10_waysElsewhere_50 : decode cX10_waysElsewhere 50 = .ok (.ireturn, 1) := by decide +kernel
theorem dX10_waysElsewhere_12 : decode cX10_waysElsewhere 12 = .ok (.iconst 0, 1) := by decide +kernel
theorem dX10_waysElsewhere_13 : decode cX10_waysElsewhere 13 = .ok (.istore_n 3, 1) := by decide +kernel
theorem dX10_waysElsewhere_14 : decode cX10_waysElsewhere 14 = .ok (.iload_n 3, 1) := by decide +kernel
theorem dX10_waysElsewhere_15 : decode cX10_waysElsewhere 15 = .ok (.iconst 4, 1) := by decide +kernel
theorem dX10_waysElsewhere_16 : decode cX10_waysElsewhere 16 = .ok (.if_icmp .ge 27, 3) := by decide +kernel
theorem dX10_waysElsewhere_43 : decode cX10_waysElsewhere 43 = .ok (.iinc 2 1, 3) := by decide +kernel
theorem dX10_waysElsewhere_46 : decode cX10_waysElsewhere 46 = .ok (.goto (-42), 3) := by decide +kernel
theorem dX10_waysElsewhere_19 : decode cX10_waysElsewhere 19 = .ok (.iload_n 1, 1) := by decide +kernel
theorem dX10_waysElsewhere_20 : decode cX10_waysElsewhere 20 = .ok (.aload_n 0, 1) := by decide +kernel
theorem dX10_waysElsewhere_21 : decode cX10_waysElsewhere 21 = .ok (.iload_n 2, 1) := by decide +kernel
theorem dX10_waysElsewhere_22 : decode cX10_waysElsewhere 22 = .ok (.iload_n 3, 1) := by decide +kernel
theorem dX10_waysElsewhere_23 : decode cX10_waysElsewhere 23 = .ok (.invokevirtual 79, 3) := by decide +kernel
theorem dX10_waysElsewhere_26 : decode cX10_waysElsewhere 26 = .ok (.iload_n 2, 1) := by decide +kernel
theorem dX10_waysElsewhere_27 : decode cX10_waysElsewhere 27 = .ok (.if_icmp .eq 7, 3) := by decide +kernel
theorem dX10_waysElsewhere_34 : decode cX10_waysElsewhere 34 = .ok (.iconst 0, 1) := by decide +kernel
theorem dX10_waysElsewhere_35 : decode cX10_waysElsewhere 35 = .ok (.iadd, 1) := by decide +kernel
theorem dX10_waysElsewhere_36 : decode cX10_waysElsewhere 36 = .ok (.istore_n 1, 1) := by decide +kernel
theorem dX10_waysElsewhere_37 : decode cX10_waysElsewhere 37 = .ok (.iinc 3 1, 3) := by decide +kernel
theorem dX10_waysElsewhere_40 : decode cX10_waysElsewhere 40 = .ok (.goto (-26), 3) := by decide +kernel
theorem dX10_waysElsewhere_30 : decode cX10_waysElsewhere 30 = .ok (.iconst 1, 1) := by decide +kernel
theorem dX10_waysElsewhere_31 : decode cX10_waysElsewhere 31 = .ok (.goto 4, 3) := by decide +kernel
theorem dX9_doubt_0 : decode cX9_doubt 0 = .ok (.aload_n 0, 1) := by decide +kernel
theorem dX9_doubt_1 : decode cX9_doubt 1 = .ok (.getfield 15, 3) := by decide +kernel
theorem dX9_doubt_4 : decode cX9_doubt 4 = .ok (.invokestatic 41, 3) := by decide +kernel
theorem dX9_doubt_7 : decode cX9_doubt 7 = .ok (.ireturn, 1) := by decide +kernel
theorem dX9_isSure_0 : decode cX9_isSure 0 = .ok (.aload_n 0, 1) := by decide +kernel
theorem dX9_isSure_1 : decode cX9_isSure 1 = .ok (.getfield 15, 3) := by decide +kernel
theorem dX9_isSure_4 : decode cX9_isSure 4 = .ok (.iconst 1, 1) := by decide +kernel
theorem dX9_isSure_5 : decode cX9_isSure 5 = .ok (.aload_n 0, 1) := by decide +kernel
theorem dX9_isSure_6 : decode cX9_isSure 6 = .ok (.getfield 9, 3) := by decide +kernel
theorem dX9_isSure_9 : decode cX9_isSure 9 = .ok (.ishl, 1) := by decide +kernel
theorem dX9_isSure_10 : decode cX9_isSure 10 = .ok (.if_icmp .ne 7, 3) := by decide +kernel
theorem dX9_isSure_17 : decode cX9_isSure 17 = .ok (.iconst 0, 1) := by decide +kernel
theorem dX9_isSure_18 : decode cX9_isSure 18 = .ok (.ireturn, 1) := by decide +kernel
theorem dX9_isSure_13 : decode cX9_isSure 13 = .ok (.iconst 1, 1) := by decide +kernel
theorem dX9_isSure_14 : decode cX9_isSure 14 = .ok (.goto 4, 3) := by decide +kernel
theorem dX9_isAstray_0 : decode cX9_isAstray 0 = .ok (.aload_n 0, 1) := by decide +kernel
theorem dX9_isAstray_1 : decode cX9_isAstray 1 = .ok (.getfield 15, 3) := by decide +kernel
theorem dX9_isAstray_4 : decode cX9_isAstray 4 = .ok (.aload_n 0, 1) := by decide +kernel
theorem dX9_isAstray_5 : decode cX9_isAstray 5 = .ok (.getfield 9, 3) := by decide +kernel
theorem dX9_isAstray_8 : decode cX9_isAstray 8 = .ok (.ishr, 1) := by decide +kernel
theorem dX9_isAstray_9 : decode cX9_isAstray 9 = .ok (.iconst 1, 1) := by decide +kernel
theorem dX9_isAstray_10 : decode cX9_isAstray 10 = .ok (.iand, 1) := by decide +kernel
theorem dX9_isAstray_11 : decode cX9_isAstray 11 = .ok (.ifCond .ne 7, 3) := by decide +kernel
theorem dX9_isAstray_18 : decode cX9_isAstray 18 = .ok (.iconst 0, 1) := by decide +kernel
theorem dX9_isAstray_19 : decode cX9_isAstray 19 = .ok (.ireturn, 1) := by decide +kernel
theorem dX9_isAstray_14 : decode cX9_isAstray 14 = .ok (.iconst 1, 1) := by decide +kernel
theorem dX9_isAstray_15 : decode cX9_isAstray 15 = .ok (.goto 4, 3) := by decide +kernel
theorem dX9_place_0 : decode cX9_place 0 = .ok (.aload_n 0, 1) := by decide +kernel
theorem dX9_place_1 : decode cX9_place 1 = .ok (.iload_n 1, 1) := by decide +kernel
theorem dX9_place_2 : decode cX9_place 2 = .ok (.putfield 9, 3) := by decide +kernel
theorem dX9_place_5 : decode cX9_place 5 = .ok (.aload_n 0, 1) := by decide +kernel
theorem dX9_place_6 : decode cX9_place 6 = .ok (.iload_n 2, 1) := by decide +kernel
theorem dX9_place_7 : decode cX9_place 7 = .ok (.putfield 15, 3) := by decide +kernel
theorem dX9_place_10 : decode cX9_place 10 = .ok (.aload_n 0, 1) := by decide +kernel
theorem dX9_place_11 : decode cX9_place 11 = .ok (.iload_n 3, 1) := by decide +kernel
theorem dX9_place_12 : decode cX9_place 12 = .ok (.putfield 18, 3) := by decide +kernel
theorem dX9_place_15 : decode cX9_place 15 = .ok (.return_, 1) := by decide +kernel
theorem dX9_step_0 : decode cX9_step 0 = .ok (.aload_n 0, 1) := by decide +kernel
theorem dX9_step_1 : decode cX9_step 1 = .ok (.aload_n 1, 1) := by decide +kernel
theorem dX9_step_2 : decode cX9_step 2 = .ok (.aload_n 0, 1) := by decide +kernel
theorem dX9_step_3 : decode cX9_step 3 = .ok (.getfield 9, 3) := by decide +kernel
theorem dX9_step_6 : decode cX9_step 6 = .ok (.iload_n 2, 1) := by decide +kernel
theorem dX9_step_7 : decode cX9_step 7 = .ok (.aload_n 0, 1) := by decide +kernel
theorem dX9_step_8 : decode cX9_step 8 = .ok (.getfield 18, 3) := by decide +kernel
theorem dX9_step_11 : decode cX9_step 11 = .ok (.iadd, 1) := by decide +kernel
theorem dX9_step_12 : decode cX9_step 12 = .ok (.iconst 4, 1) := by decide +kernel
theorem dX9_step_13 : decode cX9_step 13 = .ok (.irem, 1) := by decide +kernel
theorem dX9_step_14 : decode cX9_step 14 = .ok (.invokevirtual 21, 3) := by decide +kernel
theorem dX9_step_17 : decode cX9_step 17 = .ok (.putfield 9, 3) := by decide +kernel
theorem dX9_step_20 : decode cX9_step 20 = .ok (.aload_n 1, 1) := by decide +kernel
theorem dX9_step_21 : decode cX9_step 21 = .ok (.aload_n 0, 1) := by decide +kernel
theorem dX9_step_22 : decode cX9_step 22 = .ok (.getfield 9, 3) := by decide +kernel
theorem dX9_step_25 : decode cX9_step 25 = .ok (.invokevirtual 27, 3) := by decide +kernel
theorem dX9_step_28 : decode cX9_step 28 = .ok (.istore_n 3, 1) := by decide +kernel
theorem dX9_step_29 : decode cX9_step 29 = .ok (.aload_n 1, 1) := by decide +kernel
theorem dX9_step_30 : decode cX9_step 30 = .ok (.aload_n 1, 1) := by decide +kernel
theorem dX9_step_31 : decode cX9_step 31 = .ok (.aload_n 0, 1) := by decide +kernel
theorem dX9_step_32 : decode cX9_step 32 = .ok (.getfield 15, 3) := by decide +kernel
theorem dX9_step_35 : decode cX9_step 35 = .ok (.iload_n 2, 1) := by decide +kernel
theorem dX9_step_36 : decode cX9_step 36 = .ok (.invokevirtual 31, 3) := by decide +kernel
theorem dX9_step_39 : decode cX9_step 39 = .ok (.iload_n 3, 1) := by decide +kernel
theorem dX9_step_40 : decode cX9_step 40 = .ok (.invokevirtual 34, 3) := by decide +kernel
theorem dX9_step_43 : decode cX9_step 43 = .ok (.istore 4, 2) := by decide +kernel
theorem dX9_step_45 : decode cX9_step 45 = .ok (.aload_n 0, 1) := by decide +kernel
theorem dX9_step_46 : decode cX9_step 46 = .ok (.iload 4, 2) := by decide +kernel
theorem dX9_step_48 : decode cX9_step 48 = .ok (.ifCond .eq 8, 3) := by decide +kernel
theorem dX9_step_56 : decode cX9_step 56 = .ok (.aload_n 1, 1) := by decide +kernel
theorem dX9_step_57 : decode cX9_step 57 = .ok (.aload_n 1, 1) := by decide +kernel
theorem dX9_step_58 : decode cX9_step 58 = .ok (.invokevirtual 37, 3) := by decide +kernel
theorem dX9_step_61 : decode cX9_step 61 = .ok (.iload_n 3, 1) := by decide +kernel
theorem dX9_step_62 : decode cX9_step 62 = .ok (.invokevirtual 34, 3) := by decide +kernel
theorem dX9_step_65 : decode cX9_step 65 = .ok (.putfield 15, 3) := by decide +kernel
theorem dX9_step_68 : decode cX9_step 68 = .ok (.return_, 1) := by decide +kernel
theorem dX9_step_51 : decode cX9_step 51 = .ok (.iload 4, 2) := by decide +kernel
theorem dX9_step_53 : decode cX9_step 53 = .ok (.goto 12, 3) := by decide +kernel
theorem dX7_showsOne_0 : decode cX7_showsOne 0 = .ok (.iconst (-1), 1) := by decide +kernel
theorem dX7_showsOne_1 : decode cX7_showsOne 1 = .ok (.istore_n 3, 1) := by decide +kernel
theorem dX7_showsOne_2 : decode cX7_showsOne 2 = .ok (.iconst 0, 1) := by decide +kernel
theorem dX7_showsOne_3 : decode cX7_showsOne 3 = .ok (.istore 4, 2) := by decide +kernel
theorem dX7_showsOne_5 : decode cX7_showsOne 5 = .ok (.iload 4, 2) := by decide +kernel
theorem dX7_showsOne_7 : decode cX7_showsOne 7 = .ok (.aload_n 0, 1) := by decide +kernel
theorem dX7_showsOne_8 : decode cX7_showsOne 8 = .ok (.getfield 35, 3) := by decide +kernel
theorem dX7_showsOne_11 : decode cX7_showsOne 11 = .ok (.if_icmp .ge 58, 3) := by decide +kernel
theorem dX7_showsOne_69 : decode cX7_showsOne 69 = .ok (.iconst 1, 1) := by decide +kernel
theorem dX7_showsOne_70 : decode cX7_showsOne 70 = .ok (.ireturn, 1) := by decide +kernel
theorem dX7_showsOne_14 : decode cX7_showsOne 14 = .ok (.iload_n 1, 1) := by decide +kernel
theorem dX7_showsOne_15 : decode cX7_showsOne 15 = .ok (.iload 4, 2) := by decide +kernel
theorem dX7_showsOne_17 : decode cX7_showsOne 17 = .ok (.ishr, 1) := by decide +kernel
theorem dX7_showsOne_18 : decode cX7_showsOne 18 = .ok (.iconst 1, 1) := by decide +kernel
theorem dX7_showsOne_19 : decode cX7_showsOne 19 = .ok (.iand, 1) := by decide +kernel
theorem dX7_showsOne_20 : decode cX7_showsOne 20 = .ok (.ifCond .ne 6, 3) := by decide +kernel
theorem dX7_showsOne_26 : decode cX7_showsOne 26 = .ok (.iload_n 2, 1) := by decide +kernel
theorem dX7_showsOne_27 : decode cX7_showsOne 27 = .ok (.iload 4, 2) := by decide +kernel
theorem dX7_showsOne_29 : decode cX7_showsOne 29 = .ok (.ishr, 1) := by decide +kernel
theorem dX7_showsOne_30 : decode cX7_showsOne 30 = .ok (.iconst 1, 1) := by decide +kernel
theorem dX7_showsOne_31 : decode cX7_showsOne 31 = .ok (.iand, 1) := by decide +kernel
theorem dX7_showsOne_32 : decode cX7_showsOne 32 = .ok (.ifCond .eq 7, 3) := by decide +kernel
theorem dX7_showsOne_39 : decode cX7_showsOne 39 = .ok (.aload_n 0, 1) := by decide +kernel
theorem dX7_showsOne_40 : decode cX7_showsOne 40 = .ok (.iload 4, 2) := by decide +kernel
theorem dX7_showsOne_42 : decode cX7_showsOne 42 = .ok (.invokevirtual 38, 3) := by decide +kernel
theorem dX7_showsOne_45 : decode cX7_showsOne 45 = .ok (.istore 5, 2) := by decide +kernel
theorem dX7_showsOne_47 : decode cX7_showsOne 47 = .ok (.iload_n 3, 1) := by decide +kernel
theorem dX7_showsOne_48 : decode cX7_showsOne 48 = .ok (.iconst (-1), 1) := by decide +kernel
theorem dX7_showsOne_49 : decode cX7_showsOne 49 = .ok (.if_icmp .eq 11, 3) := by decide +kernel
theorem dX7_showsOne_60 : decode cX7_showsOne 60 = .ok (.iload 5, 2) := by decide +kernel
theorem dX7_showsOne_62 : decode cX7_showsOne 62 = .ok (.istore_n 3, 1) := by decide +kernel
theorem dX7_showsOne_63 : decode cX7_showsOne 63 = .ok (.iinc 4 1, 3) := by decide +kernel
theorem dX7_showsOne_66 : decode cX7_showsOne 66 = .ok (.goto (-61), 3) := by decide +kernel
theorem dX7_showsOne_52 : decode cX7_showsOne 52 = .ok (.iload_n 3, 1) := by decide +kernel
theorem dX7_showsOne_53 : decode cX7_showsOne 53 = .ok (.iload 5, 2) := by decide +kernel
theorem dX7_showsOne_55 : decode cX7_showsOne 55 = .ok (.if_icmp .eq 5, 3) := by decide +kernel
theorem dX7_showsOne_58 : decode cX7_showsOne 58 = .ok (.iconst 0, 1) := by decide +kernel
theorem dX7_showsOne_59 : decode cX7_showsOne 59 = .ok (.ireturn, 1) := by decide +kernel
theorem dX7_showsOne_35 : decode cX7_showsOne 35 = .ok (.iconst 0, 1) := by decide +kernel
theorem dX7_showsOne_36 : decode cX7_showsOne 36 = .ok (.goto 9, 3) := by decide +kernel
theorem dX7_showsOne_23 : decode cX7_showsOne 23 = .ok (.goto 40, 3) := by decide +kernel
theorem dX2_assemble_0 : decode cX2_assemble 0 = .ok (.iconst 0, 1) := by decide +kernel
theorem dX2_assemble_1 : decode cX2_assemble 1 = .ok (.istore_n 2, 1) := by decide +kernel
theorem dX2_assemble_2 : decode cX2_assemble 2 = .ok (.iload_n 2, 1) := by decide +kernel
theorem dX2_assemble_3 : decode cX2_assemble 3 = .ok (.iconst 4, 1) := by decide +kernel
theorem dX2_assemble_4 : decode cX2_assemble 4 = .ok (.if_icmp .ge 33, 3) := by decide +kernel
theorem dX2_assemble_37 : decode cX2_assemble 37 = .ok (.aload_n 0, 1) := by decide +kernel
theorem dX2_assemble_38 : decode cX2_assemble 38 = .ok (.iconst 0, 1) := by decide +kernel
theorem dX2_assemble_39 : decode cX2_assemble 39 = .ok (.putfield 35, 3) := by decide +kernel
theorem dX2_assemble_42 : decode cX2_assemble 42 = .ok (.return_, 1) := by decide +kernel
theorem dX2_assemble_7 : decode cX2_assemble 7 = .ok (.aload_n 0, 1) := by decide +kernel
theorem dX2_assemble_8 : decode cX2_assemble 8 = .ok (.getfield 9, 3) := by decide +kernel
theorem dX2_assemble_11 : decode cX2_assemble 11 = .ok (.iload_n 2, 1) := by decide +kernel
theorem dX2_assemble_12 : decode cX2_assemble 12 = .ok (.aload_n 1, 1) := by decide +kernel
theorem dX2_assemble_13 : decode cX2_assemble 13 = .ok (.getfield 27, 3) := by decide +kernel
theorem dX2_assemble_16 : decode cX2_assemble 16 = .ok (.iload_n 2, 1) := by decide +kernel
theorem dX2_assemble_17 : decode cX2_assemble 17 = .ok (.iaload, 1) := by decide +kernel
theorem dX2_assemble_18 : decode cX2_assemble 18 = .ok (.iastore, 1) := by decide +kernel
theorem dX2_assemble_19 : decode cX2_assemble 19 = .ok (.aload_n 0, 1) := by decide +kernel
theorem dX2_assemble_20 : decode cX2_assemble 20 = .ok (.getfield 15, 3) := by decide +kernel
theorem dX2_assemble_23 : decode cX2_assemble 23 = .ok (.iload_n 2, 1) := by decide +kernel
theorem dX2_assemble_24 : decode cX2_assemble 24 = .ok (.aload_n 1, 1) := by decide +kernel
theorem dX2_assemble_25 : decode cX2_assemble 25 = .ok (.getfield 32, 3) := by decide +kernel
theorem dX2_assemble_28 : decode cX2_assemble 28 = .ok (.iload_n 2, 1) := by decide +kernel
theorem dX2_assemble_29 : decode cX2_assemble 29 = .ok (.iaload, 1) := by decide +kernel
theorem dX2_assemble_30 : decode cX2_assemble 30 = .ok (.iastore, 1) := by decide +kernel
theorem dX2_assemble_31 : decode cX2_assemble 31 = .ok (.iinc 2 1, 3) := by decide +kernel
theorem dX2_assemble_34 : decode cX2_assemble 34 = .ok (.goto (-32), 3) := by decide +kernel
theorem dX2_copyFrom_0 : decode cX2_copyFrom 0 = .ok (.aload_n 1, 1) := by decide +kernel
theorem dX2_copyFrom_1 : decode cX2_copyFrom 1 = .ok (.getfield 9, 3) := by decide +kernel
theorem dX2_copyFrom_4 : decode cX2_copyFrom 4 = .ok (.iconst 0, 1) := by decide +kernel
theorem dX2_copyFrom_5 : decode cX2_copyFrom 5 = .ok (.aload_n 0, 1) := by decide +kernel
theorem dX2_copyFrom_6 : decode cX2_copyFrom 6 = .ok (.getfield 9, 3) := by decide +kernel
theorem dX2_copyFrom_9 : decode cX2_copyFrom 9 = .ok (.iconst 0, 1) := by decide +kernel
theorem dX2_copyFrom_10 : decode cX2_copyFrom 10 = .ok (.aload_n 0, 1) := by decide +kernel
theorem dX2_copyFrom_11 : decode cX2_copyFrom 11 = .ok (.getfield 9, 3) := by decide +kernel
theorem dX2_copyFrom_14 : decode cX2_copyFrom 14 = .ok (.arraylength, 1) := by decide +kernel
theorem dX2_copyFrom_15 : decode cX2_copyFrom 15 = .ok (.invokestatic 39, 3) := by decide +kernel
theorem dX2_copyFrom_18 : decode cX2_copyFrom 18 = .ok (.aload_n 1, 1) := by decide +kernel
theorem dX2_copyFrom_19 : decode cX2_copyFrom 19 = .ok (.getfield 15, 3) := by decide +kernel
theorem dX2_copyFrom_22 : decode cX2_copyFrom 22 = .ok (.iconst 0, 1) := by decide +kernel
theorem dX2_copyFrom_23 : decode cX2_copyFrom 23 = .ok (.aload_n 0, 1) := by decide +kernel
theorem dX2_copyFrom_24 : decode cX2_copyFrom 24 = .ok (.getfield 15, 3) := by decide +kernel
theorem dX2_copyFrom_27 : decode cX2_copyFrom 27 = .ok (.iconst 0, 1) := by decide +kernel
theorem dX2_copyFrom_28 : decode cX2_copyFrom 28 = .ok (.aload_n 0, 1) := by decide +kernel
theorem dX2_copyFrom_29 : decode cX2_copyFrom 29 = .ok (.getfield 15, 3) := by decide +kernel
theorem dX2_copyFrom_32 : decode cX2_copyFrom 32 = .ok (.arraylength, 1) := by decide +kernel
theorem dX2_copyFrom_33 : decode cX2_copyFrom 33 = .ok (.invokestatic 39, 3) := by decide +kernel
theorem dX2_copyFrom_36 : decode cX2_copyFrom 36 = .ok (.aload_n 1, 1) := by decide +kernel
theorem dX2_copyFrom_37 : decode cX2_copyFrom 37 = .ok (.getfield 18, 3) := by decide +kernel
theorem dX2_copyFrom_40 : decode cX2_copyFrom 40 = .ok (.iconst 0, 1) := by decide +kernel
theorem dX2_copyFrom_41 : decode cX2_copyFrom 41 = .ok (.aload_n 0, 1) := by decide +kernel
theorem dX2_copyFrom_42 : decode cX2_copyFrom 42 = .ok (.getfield 18, 3) := by decide +kernel
theorem dX2_copyFrom_45 : decode cX2_copyFrom 45 = .ok (.iconst 0, 1) := by decide +kernel
theorem dX2_copyFrom_46 : decode cX2_copyFrom 46 = .ok (.aload_n 0, 1) := by decide +kernel
theorem dX2_copyFrom_47 : decode cX2_copyFrom 47 = .ok (.getfield 18, 3) := by decide +kernel
theorem dX2_copyFrom_50 : decode cX2_copyFrom 50 = .ok (.arraylength, 1) := by decide +kernel
theorem dX2_copyFrom_51 : decode cX2_copyFrom 51 = .ok (.invokestatic 39, 3) := by decide +kernel
theorem dX2_copyFrom_54 : decode cX2_copyFrom 54 = .ok (.aload_n 1, 1) := by decide +kernel
theorem dX2_copyFrom_55 : decode cX2_copyFrom 55 = .ok (.getfield 21, 3) := by decide +kernel
theorem dX2_copyFrom_58 : decode cX2_copyFrom 58 = .ok (.iconst 0, 1) := by decide +kernel
theorem dX2_copyFrom_59 : decode cX2_copyFrom 59 = .ok (.aload_n 0, 1) := by decide +kernel
theorem dX2_copyFrom_60 : decode cX2_copyFrom 60 = .ok (.getfield 21, 3) := by decide +kernel
theorem dX2_copyFrom_63 : decode cX2_copyFrom 63 = .ok (.iconst 0, 1) := by decide +kernel
theorem dX2_copyFrom_64 : decode cX2_copyFrom 64 = .ok (.aload_n 0, 1) := by decide +kernel
theorem dX2_copyFrom_65 : decode cX2_copyFrom 65 = .ok (.getfield 21, 3) := by decide +kernel
theorem dX2_copyFrom_68 : decode cX2_copyFrom 68 = .ok (.arraylength, 1) := by decide +kernel
theorem dX2_copyFrom_69 : decode cX2_copyFrom 69 = .ok (.invokestatic 39, 3) := by decide +kernel
theorem dX2_copyFrom_72 : decode cX2_copyFrom 72 = .ok (.aload_n 1, 1) := by decide +kernel
theorem dX2_copyFrom_73 : decode cX2_copyFrom 73 = .ok (.getfield 24, 3) := by decide +kernel
theorem dX2_copyFrom_76 : decode cX2_copyFrom 76 = .ok (.iconst 0, 1) := by decide +kernel
theorem dX2_copyFrom_77 : decode cX2_copyFrom 77 = .ok (.aload_n 0, 1) := by decide +kernel
theorem dX2_copyFrom_78 : decode cX2_copyFrom 78 = .ok (.getfield 24, 3) := by decide +kernel
theorem dX2_copyFrom_81 : decode cX2_copyFrom 81 = .ok (.iconst 0, 1) := by decide +kernel
theorem dX2_copyFrom_82 : decode cX2_copyFrom 82 = .ok (.aload_n 0, 1) := by decide +kernel
theorem dX2_copyFrom_83 : decode cX2_copyFrom 83 = .ok (.getfield 24, 3) := by decide +kernel
theorem dX2_copyFrom_86 : decode cX2_copyFrom 86 = .ok (.arraylength, 1) := by decide +kernel
theorem dX2_copyFrom_87 : decode cX2_copyFrom 87 = .ok (.invokestatic 39, 3) := by decide +kernel
theorem dX2_copyFrom_90 : decode cX2_copyFrom 90 = .ok (.aload_n 0, 1) := by decide +kernel
theorem dX2_copyFrom_91 : decode cX2_copyFrom 91 = .ok (.aload_n 1, 1) := by decide +kernel
theorem dX2_copyFrom_92 : decode cX2_copyFrom 92 = .ok (.getfield 35, 3) := by decide +kernel
theorem dX2_copyFrom_95 : decode cX2_copyFrom 95 = .ok (.putfield 35, 3) := by decide +kernel
theorem dX2_copyFrom_98 : decode cX2_copyFrom 98 = .ok (.return_, 1) := by decide +kernel
theorem dX2_keepStep_0 : decode cX2_keepStep 0 = .ok (.aload_n 0, 1) := by decide +kernel
theorem dX2_keepStep_1 : decode cX2_keepStep 1 = .ok (.getfield 35, 3) := by decide +kernel
theorem dX2_keepStep_4 : decode cX2_keepStep 4 = .ok (.bipush 60, 2) := by decide +kernel
theorem dX2_keepStep_6 : decode cX2_keepStep 6 = .ok (.if_icmp .ge 12, 3) := by decide +kernel
theorem dX2_keepStep_18 : decode cX2_keepStep 18 = .ok (.return_, 1) := by decide +kernel
theorem dX2_keepStep_9 : decode cX2_keepStep 9 = .ok (.iload_n 1, 1) := by decide +kernel
theorem dX2_keepStep_10 : decode cX2_keepStep 10 = .ok (.ifCond .lt 8, 3) := by decide +kernel
theorem dX2_keepStep_13 : decode cX2_keepStep 13 = .ok (.iload_n 1, 1) := by decide +kernel
theorem dX2_keepStep_14 : decode cX2_keepStep 14 = .ok (.iconst 4, 1) := by decide +kernel
theorem dX2_keepStep_15 : decode cX2_keepStep 15 = .ok (.if_icmp .lt 4, 3) := by decide +kernel
theorem dX2_keepStep_19 : decode cX2_keepStep 19 = .ok (.aload_n 0, 1) := by decide +kernel
theorem dX2_keepStep_20 : decode cX2_keepStep 20 = .ok (.getfield 18, 3) := by decide +kernel
theorem dX2_keepStep_23 : decode cX2_keepStep 23 = .ok (.aload_n 0, 1) := by decide +kernel
theorem dX2_keepStep_24 : decode cX2_keepStep 24 = .ok (.getfield 35, 3) := by decide +kernel
theorem dX2_keepStep_27 : decode cX2_keepStep 27 = .ok (.iload_n 1, 1) := by decide +kernel
theorem dX2_keepStep_28 : decode cX2_keepStep 28 = .ok (.iastore, 1) := by decide +kernel
theorem dX2_keepStep_29 : decode cX2_keepStep 29 = .ok (.aload_n 0, 1) := by decide +kernel
theorem dX2_keepStep_30 : decode cX2_keepStep 30 = .ok (.getfield 21, 3) := by decide +kernel
theorem dX2_keepStep_33 : decode cX2_keepStep 33 = .ok (.aload_n 0, 1) := by decide +kernel
theorem dX2_keepStep_34 : decode cX2_keepStep 34 = .ok (.getfield 35, 3) := by decide +kernel
theorem dX2_keepStep_37 : decode cX2_keepStep 37 = .ok (.aload_n 0, 1) := by decide +kernel
theorem dX2_keepStep_38 : decode cX2_keepStep 38 = .ok (.getfield 9, 3) := by decide +kernel
theorem dX2_keepStep_41 : decode cX2_keepStep 41 = .ok (.iload_n 1, 1) := by decide +kernel
theorem dX2_keepStep_42 : decode cX2_keepStep 42 = .ok (.iaload, 1) := by decide +kernel
theorem dX2_keepStep_43 : decode cX2_keepStep 43 = .ok (.iastore, 1) := by decide +kernel
theorem dX2_keepStep_44 : decode cX2_keepStep 44 = .ok (.aload_n 0, 1) := by decide +kernel
theorem dX2_keepStep_45 : decode cX2_keepStep 45 = .ok (.getfield 24, 3) := by decide +kernel
theorem dX2_keepStep_48 : decode cX2_keepStep 48 = .ok (.aload_n 0, 1) := by decide +kernel
theorem dX2_keepStep_49 : decode cX2_keepStep 49 = .ok (.getfield 35, 3) := by decide +kernel
theorem dX2_keepStep_52 : decode cX2_keepStep 52 = .ok (.aload_n 0, 1) := by decide +kernel
theorem dX2_keepStep_53 : decode cX2_keepStep 53 = .ok (.getfield 15, 3) := by decide +kernel
theorem dX2_keepStep_56 : decode cX2_keepStep 56 = .ok (.iload_n 1, 1) := by decide +kernel
theorem dX2_keepStep_57 : decode cX2_keepStep 57 = .ok (.iaload, 1) := by decide +kernel
theorem dX2_keepStep_58 : decode cX2_keepStep 58 = .ok (.iastore, 1) := by decide +kernel
theorem dX2_keepStep_59 : decode cX2_keepStep 59 = .ok (.aload_n 0, 1) := by decide +kernel
theorem dX2_keepStep_60 : decode cX2_keepStep 60 = .ok (.dup, 1) := by decide +kernel
theorem dX2_keepStep_61 : decode cX2_keepStep 61 = .ok (.getfield 35, 3) := by decide +kernel
theorem dX2_keepStep_64 : decode cX2_keepStep 64 = .ok (.iconst 1, 1) := by decide +kernel
theorem dX2_keepStep_65 : decode cX2_keepStep 65 = .ok (.iadd, 1) := by decide +kernel
theorem dX2_keepStep_66 : decode cX2_keepStep 66 = .ok (.putfield 35, 3) := by decide +kernel
theorem dX2_keepStep_69 : decode cX2_keepStep 69 = .ok (.aload_n 0, 1) := by decide +kernel
theorem dX2_keepStep_70 : decode cX2_keepStep 70 = .ok (.getfield 9, 3) := by decide +kernel
theorem dX2_keepStep_73 : decode cX2_keepStep 73 = .ok (.iload_n 1, 1) := by decide +kernel
theorem dX2_keepStep_74 : decode cX2_keepStep 74 = .ok (.aload_n 2, 1) := by decide +kernel
theorem dX2_keepStep_75 : decode cX2_keepStep 75 = .ok (.getfield 45, 3) := by decide +kernel
theorem dX2_keepStep_78 : decode cX2_keepStep 78 = .ok (.iastore, 1) := by decide +kernel
theorem dX2_keepStep_79 : decode cX2_keepStep 79 = .ok (.aload_n 0, 1) := by decide +kernel
theorem dX2_keepStep_80 : decode cX2_keepStep 80 = .ok (.getfield 15, 3) := by decide +kernel
theorem dX2_keepStep_83 : decode cX2_keepStep 83 = .ok (.iload_n 1, 1) := by decide +kernel
theorem dX2_keepStep_84 : decode cX2_keepStep 84 = .ok (.aload_n 2, 1) := by decide +kernel
theorem dX2_keepStep_85 : decode cX2_keepStep 85 = .ok (.getfield 49, 3) := by decide +kernel
theorem dX2_keepStep_88 : decode cX2_keepStep 88 = .ok (.iastore, 1) := by decide +kernel
theorem dX2_keepStep_89 : decode cX2_keepStep 89 = .ok (.return_, 1) := by decide +kernel
theorem dX2_takeBack_0 : decode cX2_takeBack 0 = .ok (.aload_n 0, 1) := by decide +kernel
theorem dX2_takeBack_1 : decode cX2_takeBack 1 = .ok (.getfield 35, 3) := by decide +kernel
theorem dX2_takeBack_4 : decode cX2_takeBack 4 = .ok (.iconst 1, 1) := by decide +kernel
theorem dX2_takeBack_5 : decode cX2_takeBack 5 = .ok (.if_icmp .lt 12, 3) := by decide +kernel
theorem dX2_takeBack_17 : decode cX2_takeBack 17 = .ok (.iconst 0, 1) := by decide +kernel
theorem dX2_takeBack_18 : decode cX2_takeBack 18 = .ok (.ireturn, 1) := by decide +kernel
theorem dX2_takeBack_8 : decode cX2_takeBack 8 = .ok (.aload_n 0, 1) := by decide +kernel
theorem dX2_takeBack_9 : decode cX2_takeBack 9 = .ok (.getfield 35, 3) := by decide +kernel
theorem dX2_takeBack_12 : decode cX2_takeBack 12 = .ok (.bipush 60, 2) := by decide +kernel
theorem dX2_takeBack_14 : decode cX2_takeBack 14 = .ok (.if_icmp .le 5, 3) := by decide +kernel
theorem dX2_takeBack_19 : decode cX2_takeBack 19 = .ok (.aload_n 0, 1) := by decide +kernel
theorem dX2_takeBack_20 : decode cX2_takeBack 20 = .ok (.dup, 1) := by decide +kernel
theorem dX2_takeBack_21 : decode cX2_takeBack 21 = .ok (.getfield 35, 3) := by decide +kernel
theorem dX2_takeBack_24 : decode cX2_takeBack 24 = .ok (.iconst 1, 1) := by decide +kernel
theorem dX2_takeBack_25 : decode cX2_takeBack 25 = .ok (.isub, 1) := by decide +kernel
theorem dX2_takeBack_26 : decode cX2_takeBack 26 = .ok (.putfield 35, 3) := by decide +kernel
theorem dX2_takeBack_29 : decode cX2_takeBack 29 = .ok (.aload_n 0, 1) := by decide +kernel
theorem dX2_takeBack_30 : decode cX2_takeBack 30 = .ok (.getfield 18, 3) := by decide +kernel
theorem dX2_takeBack_33 : decode cX2_takeBack 33 = .ok (.aload_n 0, 1) := by decide +kernel
theorem dX2_takeBack_34 : decode cX2_takeBack 34 = .ok (.getfield 35, 3) := by decide +kernel
theorem dX2_takeBack_37 : decode cX2_takeBack 37 = .ok (.iaload, 1) := by decide +kernel
theorem dX2_takeBack_38 : decode cX2_takeBack 38 = .ok (.istore_n 1, 1) := by decide +kernel
theorem dX2_takeBack_39 : decode cX2_takeBack 39 = .ok (.iload_n 1, 1) := by decide +kernel
theorem dX2_takeBack_40 : decode cX2_takeBack 40 = .ok (.ifCond .lt 38, 3) := by decide +kernel
theorem dX2_takeBack_78 : decode cX2_takeBack 78 = .ok (.iconst 1, 1) := by decide +kernel
theorem dX2_takeBack_79 : decode cX2_takeBack 79 = .ok (.ireturn, 1) := by decide +kernel
theorem dX2_takeBack_43 : decode cX2_takeBack 43 = .ok (.iload_n 1, 1) := by decide +kernel
theorem dX2_takeBack_44 : decode cX2_takeBack 44 = .ok (.iconst 4, 1) := by decide +kernel
theorem dX2_takeBack_45 : decode cX2_takeBack 45 = .ok (.if_icmp .ge 33, 3) := by decide +kernel
theorem dX2_takeBack_48 : decode cX2_takeBack 48 = .ok (.aload_n 0, 1) := by decide +kernel
theorem dX2_takeBack_49 : decode cX2_takeBack 49 = .ok (.getfield 9, 3) := by decide +kernel
theorem dX2_takeBack_52 : decode cX2_takeBack 52 = .ok (.iload_n 1, 1) := by decide +kernel
theorem dX2_takeBack_53 : decode cX2_takeBack 53 = .ok (.aload_n 0, 1) := by decide +kernel
theorem dX2_takeBack_54 : decode cX2_takeBack 54 = .ok (.getfield 21, 3) := by decide +kernel
theorem dX2_takeBack_57 : decode cX2_takeBack 57 = .ok (.aload_n 0, 1) := by decide +kernel
theorem dX2_takeBack_58 : decode cX2_takeBack 58 = .ok (.getfield 35, 3) := by decide +kernel
theorem dX2_takeBack_61 : decode cX2_takeBack 61 = .ok (.iaload, 1) := by decide +kernel
theorem dX2_takeBack_62 : decode cX2_takeBack 62 = .ok (.iastore, 1) := by decide +kernel
theorem dX2_takeBack_63 : decode cX2_takeBack 63 = .ok (.aload_n 0, 1) := by decide +kernel
theorem dX2_takeBack_64 : decode cX2_takeBack 64 = .ok (.getfield 15, 3) := by decide +kernel
theorem dX2_takeBack_67 : decode cX2_takeBack 67 = .ok (.iload_n 1, 1) := by decide +kernel
theorem dX2_takeBack_68 : decode cX2_takeBack 68 = .ok (.aload_n 0, 1) := by decide +kernel
theorem dX2_takeBack_69 : decode cX2_takeBack 69 = .ok (.getfield 24, 3) := by decide +kernel
theorem dX2_takeBack_72 : decode cX2_takeBack 72 = .ok (.aload_n 0, 1) := by decide +kernel
theorem dX2_takeBack_73 : decode cX2_takeBack 73 = .ok (.getfield 35, 3) := by decide +kernel
theorem dX2_takeBack_76 : decode cX2_takeBack 76 = .ok (.iaload, 1) := by decide +kernel
theorem dX2_takeBack_77 : decode cX2_takeBack 77 = .ok (.iastore, 1) := by decide +kernel
theorem dX10_copyFrom_0 : decode cX10_copyFrom 0 = .ok (.aload_n 1, 1) := by decide +kernel
theorem dX10_copyFrom_1 : decode cX10_copyFrom 1 = .ok (.getfield 9, 3) := by decide +kernel
theorem dX10_copyFrom_4 : decode cX10_copyFrom 4 = .ok (.iconst 0, 1) := by decide +kernel
theorem dX10_copyFrom_5 : decode cX10_copyFrom 5 = .ok (.aload_n 0, 1) := by decide +kernel
theorem dX10_copyFrom_6 : decode cX10_copyFrom 6 = .ok (.getfield 9, 3) := by decide +kernel
theorem dX10_copyFrom_9 : decode cX10_copyFrom 9 = .ok (.iconst 0, 1) := by decide +kernel
theorem dX10_copyFrom_10 : decode cX10_copyFrom 10 = .ok (.aload_n 0, 1) := by decide +kernel
theorem dX10_copyFrom_11 : decode cX10_copyFrom 11 = .ok (.getfield 9, 3) := by decide +kernel
theorem dX10_copyFrom_14 : decode cX10_copyFrom 14 = .ok (.arraylength, 1) := by decide +kernel
theorem dX10_copyFrom_15 : decode cX10_copyFrom 15 = .ok (.invokestatic 55, 3) := by decide +kernel
theorem dX10_copyFrom_18 : decode cX10_copyFrom 18 = .ok (.aload_n 1, 1) := by decide +kernel
theorem dX10_copyFrom_19 : decode cX10_copyFrom 19 = .ok (.getfield 15, 3) := by decide +kernel
theorem dX10_copyFrom_22 : decode cX10_copyFrom 22 = .ok (.iconst 0, 1) := by decide +kernel
theorem dX10_copyFrom_23 : decode cX10_copyFrom 23 = .ok (.aload_n 0, 1) := by decide +kernel
theorem dX10_copyFrom_24 : decode cX10_copyFrom 24 = .ok (.getfield 15, 3) := by decide +kernel
theorem dX10_copyFrom_27 : decode cX10_copyFrom 27 = .ok (.iconst 0, 1) := by decide +kernel
theorem dX10_copyFrom_28 : decode cX10_copyFrom 28 = .ok (.aload_n 0, 1) := by decide +kernel
theorem dX10_copyFrom_29 : decode cX10_copyFrom 29 = .ok (.getfield 15, 3) := by decide +kernel
theorem dX10_copyFrom_32 : decode cX10_copyFrom 32 = .ok (.arraylength, 1) := by decide +kernel
theorem dX10_copyFrom_33 : decode cX10_copyFrom 33 = .ok (.invokestatic 55, 3) := by decide +kernel
theorem dX10_copyFrom_36 : decode cX10_copyFrom 36 = .ok (.aload_n 1, 1) := by decide +kernel
theorem dX10_copyFrom_37 : decode cX10_copyFrom 37 = .ok (.getfield 18, 3) := by decide +kernel
theorem dX10_copyFrom_40 : decode cX10_copyFrom 40 = .ok (.iconst 0, 1) := by decide +kernel
theorem dX10_copyFrom_41 : decode cX10_copyFrom 41 = .ok (.aload_n 0, 1) := by decide +kernel
theorem dX10_copyFrom_42 : decode cX10_copyFrom 42 = .ok (.getfield 18, 3) := by decide +kernel
theorem dX10_copyFrom_45 : decode cX10_copyFrom 45 = .ok (.iconst 0, 1) := by decide +kernel
theorem dX10_copyFrom_46 : decode cX10_copyFrom 46 = .ok (.aload_n 0, 1) := by decide +kernel
theorem dX10_copyFrom_47 : decode cX10_copyFrom 47 = .ok (.getfield 18, 3) := by decide +kernel
theorem dX10_copyFrom_50 : decode cX10_copyFrom 50 = .ok (.arraylength, 1) := by decide +kernel
theorem dX10_copyFrom_51 : decode cX10_copyFrom 51 = .ok (.invokestatic 55, 3) := by decide +kernel
theorem dX10_copyFrom_54 : decode cX10_copyFrom 54 = .ok (.aload_n 1, 1) := by decide +kernel
theorem dX10_copyFrom_55 : decode cX10_copyFrom 55 = .ok (.getfield 21, 3) := by decide +kernel
theorem dX10_copyFrom_58 : decode cX10_copyFrom 58 = .ok (.iconst 0, 1) := by decide +kernel
theorem dX10_copyFrom_59 : decode cX10_copyFrom 59 = .ok (.aload_n 0, 1) := by decide +kernel
theorem dX10_copyFrom_60 : decode cX10_copyFrom 60 = .ok (.getfield 21, 3) := by decide +kernel
theorem dX10_copyFrom_63 : decode cX10_copyFrom 63 = .ok (.iconst 0, 1) := by decide +kernel
theorem dX10_copyFrom_64 : decode cX10_copyFrom 64 = .ok (.aload_n 0, 1) := by decide +kernel
