theorem dX11_isWind_0 : decode cX11_isWind 0 = .ok (.iload_n 0, 1) := by decide +kernel
theorem dX11_isWind_1 : decode cX11_isWind 1 = .ok (.ifCond .lt 12, 3) := by decide +kernel
theorem dX11_isWind_13 : decode cX11_isWind 13 = .ok (.iconst 0, 1) := by decide +kernel
theorem dX11_isWind_14 : decode cX11_isWind 14 = .ok (.ireturn, 1) := by decide +kernel
theorem dX11_isWind_4 : decode cX11_isWind 4 = .ok (.iload_n 0, 1) := by decide +kernel
theorem dX11_isWind_5 : decode cX11_isWind 5 = .ok (.iconst 4, 1) := by decide +kernel
theorem dX11_isWind_6 : decode cX11_isWind 6 = .ok (.if_icmp .ge 7, 3) := by decide +kernel
theorem dX11_isWind_9 : decode cX11_isWind 9 = .ok (.iconst 1, 1) := by decide +kernel
theorem dX11_isWind_10 : decode cX11_isWind 10 = .ok (.goto 4, 3) := by decide +kernel
theorem dX11_isMark_0 : decode cX11_isMark 0 = .ok (.iload_n 0, 1) := by decide +kernel
theorem dX11_isMark_1 : decode cX11_isMark 1 = .ok (.ifCond .lt 13, 3) := by decide +kernel
theorem dX11_isMark_14 : decode cX11_isMark 14 = .ok (.iconst 0, 1) := by decide +kernel
theorem dX11_isMark_15 : decode cX11_isMark 15 = .ok (.ireturn, 1) := by decide +kernel
theorem dX11_isMark_4 : decode cX11_isMark 4 = .ok (.iload_n 0, 1) := by decide +kernel
theorem dX11_isMark_5 : decode cX11_isMark 5 = .ok (.bipush 10, 2) := by decide +kernel
theorem dX11_isMark_7 : decode cX11_isMark 7 = .ok (.if_icmp .ge 7, 3) := by decide +kernel
theorem dX11_isMark_10 : decode cX11_isMark 10 = .ok (.iconst 1, 1) := by decide +kernel
theorem dX11_isMark_11 : decode cX11_isMark 11 = .ok (.goto 4, 3) := by decide +kernel
theorem dX11_isFogLength_0 : decode cX11_isFogLength 0 = .ok (.iload_n 0, 1) := by decide +kernel
theorem dX11_isFogLength_1 : decode cX11_isFogLength 1 = .ok (.ifCond .lt 13, 3) := by decide +kernel
theorem dX11_isFogLength_14 : decode cX11_isFogLength 14 = .ok (.iconst 0, 1) := by decide +kernel
theorem dX11_isFogLength_15 : decode cX11_isFogLength 15 = .ok (.ireturn, 1) := by decide +kernel
theorem dX11_isFogLength_4 : decode cX11_isFogLength 4 = .ok (.iload_n 0, 1) := by decide +kernel
theorem dX11_isFogLength_5 : decode cX11_isFogLength 5 = .ok (.bipush 15, 2) := by decide +kernel
theorem dX11_isFogLength_7 : decode cX11_isFogLength 7 = .ok (.if_icmp .gt 7, 3) := by decide +kernel
theorem dX11_isFogLength_10 : decode cX11_isFogLength 10 = .ok (.iconst 1, 1) := by decide +kernel
theorem dX11_isFogLength_11 : decode cX11_isFogLength 11 = .ok (.goto 4, 3) := by decide +kernel
theorem dX11_isDraw_0 : decode cX11_isDraw 0 = .ok (.iload_n 0, 1) := by decide +kernel
theorem dX11_isDraw_1 : decode cX11_isDraw 1 = .ok (.ifCond .lt 24, 3) := by decide +kernel
theorem dX11_isDraw_25 : decode cX11_isDraw 25 = .ok (.iconst 0, 1) := by decide +kernel
theorem dX11_isDraw_26 : decode cX11_isDraw 26 = .ok (.ireturn, 1) := by decide +kernel
theorem dX11_isDraw_4 : decode cX11_isDraw 4 = .ok (.iload_n 0, 1) := by decide +kernel
theorem dX11_isDraw_5 : decode cX11_isDraw 5 = .ok (.ldc_w 375, 3) := by decide +kernel
theorem dX11_isDraw_8 : decode cX11_isDraw 8 = .ok (.if_icmp .gt 17, 3) := by decide +kernel
theorem dX11_isDraw_11 : decode cX11_isDraw 11 = .ok (.iload_n 1, 1) := by decide +kernel
theorem dX11_isDraw_12 : decode cX11_isDraw 12 = .ok (.ifCond .lt 13, 3) := by decide +kernel
theorem dX11_isDraw_15 : decode cX11_isDraw 15 = .ok (.iload_n 1, 1) := by decide +kernel
theorem dX11_isDraw_16 : decode cX11_isDraw 16 = .ok (.bipush 40, 2) := by decide +kernel
theorem dX11_isDraw_18 : decode cX11_isDraw 18 = .ok (.if_icmp .gt 7, 3) := by decide +kernel
theorem dX11_isDraw_21 : decode cX11_isDraw 21 = .ok (.iconst 1, 1) := by decide +kernel
theorem dX11_isDraw_22 : decode cX11_isDraw 22 = .ok (.goto 4, 3) := by decide +kernel
theorem dX11_isSlot_0 : decode cX11_isSlot 0 = .ok (.iload_n 0, 1) := by decide +kernel
theorem dX11_isSlot_1 : decode cX11_isSlot 1 = .ok (.ifCond .lt 12, 3) := by decide +kernel
theorem dX11_isSlot_13 : decode cX11_isSlot 13 = .ok (.iconst 0, 1) := by decide +kernel
theorem dX11_isSlot_14 : decode cX11_isSlot 14 = .ok (.ireturn, 1) := by decide +kernel
theorem dX11_isSlot_4 : decode cX11_isSlot 4 = .ok (.iload_n 0, 1) := by decide +kernel
theorem dX11_isSlot_5 : decode cX11_isSlot 5 = .ok (.iconst 4, 1) := by decide +kernel
theorem dX11_isSlot_6 : decode cX11_isSlot 6 = .ok (.if_icmp .ge 7, 3) := by decide +kernel
theorem dX11_isSlot_9 : decode cX11_isSlot 9 = .ok (.iconst 1, 1) := by decide +kernel
theorem dX11_isSlot_10 : decode cX11_isSlot 10 = .ok (.goto 4, 3) := by decide +kernel
theorem dJ6_bitCount_0f7a4_0 : decode cJ6_bitCount_0f7a4 0 = .ok (.iload_n 0, 1) := by decide +kernel
theorem dJ6_bitCount_0f7a4_1 : decode cJ6_bitCount_0f7a4 1 = .ok (.iload_n 0, 1) := by decide +kernel
theorem dJ6_bitCount_0f7a4_2 : decode cJ6_bitCount_0f7a4 2 = .ok (.iconst 1, 1) := by decide +kernel
theorem dJ6_bitCount_0f7a4_3 : decode cJ6_bitCount_0f7a4 3 = .ok (.iushr, 1) := by decide +kernel
theorem dJ6_bitCount_0f7a4_4 : decode cJ6_bitCount_0f7a4 4 = .ok (.ldc_w 265, 3) := by decide +kernel
theorem dJ6_bitCount_0f7a4_7 : decode cJ6_bitCount_0f7a4 7 = .ok (.iand, 1) := by decide +kernel
theorem dJ6_bitCount_0f7a4_8 : decode cJ6_bitCount_0f7a4 8 = .ok (.isub, 1) := by decide +kernel
theorem dJ6_bitCount_0f7a4_9 : decode cJ6_bitCount_0f7a4 9 = .ok (.istore_n 0, 1) := by decide +kernel
theorem dJ6_bitCount_0f7a4_10 : decode cJ6_bitCount_0f7a4 10 = .ok (.iload_n 0, 1) := by decide +kernel
theorem dJ6_bitCount_0f7a4_11 : decode cJ6_bitCount_0f7a4 11 = .ok (.ldc_w 266, 3) := by decide +kernel
theorem dJ6_bitCount_0f7a4_14 : decode cJ6_bitCount_0f7a4 14 = .ok (.iand, 1) := by decide +kernel
theorem dJ6_bitCount_0f7a4_15 : decode cJ6_bitCount_0f7a4 15 = .ok (.iload_n 0, 1) := by decide +kernel
theorem dJ6_bitCount_0f7a4_16 : decode cJ6_bitCount_0f7a4 16 = .ok (.iconst 2, 1) := by decide +kernel
theorem dJ6_bitCount_0f7a4_17 : decode cJ6_bitCount_0f7a4 17 = .ok (.iushr, 1) := by decide +kernel
theorem dJ6_bitCount_0f7a4_18 : decode cJ6_bitCount_0f7a4 18 = .ok (.ldc_w 266, 3) := by decide +kernel
theorem dJ6_bitCount_0f7a4_21 : decode cJ6_bitCount_0f7a4 21 = .ok (.iand, 1) := by decide +kernel
theorem dJ6_bitCount_0f7a4_22 : decode cJ6_bitCount_0f7a4 22 = .ok (.iadd, 1) := by decide +kernel
theorem dJ6_bitCount_0f7a4_23 : decode cJ6_bitCount_0f7a4 23 = .ok (.istore_n 0, 1) := by decide +kernel
theorem dJ6_bitCount_0f7a4_24 : decode cJ6_bitCount_0f7a4 24 = .ok (.iload_n 0, 1) := by decide +kernel
theorem dJ6_bitCount_0f7a4_25 : decode cJ6_bitCount_0f7a4 25 = .ok (.iload_n 0, 1) := by decide +kernel
theorem dJ6_bitCount_0f7a4_26 : decode cJ6_bitCount_0f7a4 26 = .ok (.iconst 4, 1) := by decide +kernel
theorem dJ6_bitCount_0f7a4_27 : decode cJ6_bitCount_0f7a4 27 = .ok (.iushr, 1) := by decide +kernel
theorem dJ6_bitCount_0f7a4_28 : decode cJ6_bitCount_0f7a4 28 = .ok (.iadd, 1) := by decide +kernel
theorem dJ6_bitCount_0f7a4_29 : decode cJ6_bitCount_0f7a4 29 = .ok (.ldc_w 267, 3) := by decide +kernel
theorem dJ6_bitCount_0f7a4_32 : decode cJ6_bitCount_0f7a4 32 = .ok (.iand, 1) := by decide +kernel
theorem dJ6_bitCount_0f7a4_33 : decode cJ6_bitCount_0f7a4 33 = .ok (.istore_n 0, 1) := by decide +kernel
theorem dJ6_bitCount_0f7a4_34 : decode cJ6_bitCount_0f7a4 34 = .ok (.iload_n 0, 1) := by decide +kernel
theorem dJ6_bitCount_0f7a4_35 : decode cJ6_bitCount_0f7a4 35 = .ok (.iload_n 0, 1) := by decide +kernel
theorem dJ6_bitCount_0f7a4_36 : decode cJ6_bitCount_0f7a4 36 = .ok (.bipush 8, 2) := by decide +kernel
theorem dJ6_bitCount_0f7a4_38 : decode cJ6_bitCount_0f7a4 38 = .ok (.iushr, 1) := by decide +kernel
theorem dJ6_bitCount_0f7a4_39 : decode cJ6_bitCount_0f7a4 39 = .ok (.iadd, 1) := by decide +kernel
theorem dJ6_bitCount_0f7a4_40 : decode cJ6_bitCount_0f7a4 40 = .ok (.istore_n 0, 1) := by decide +kernel
theorem dJ6_bitCount_0f7a4_41 : decode cJ6_bitCount_0f7a4 41 = .ok (.iload_n 0, 1) := by decide +kernel
theorem dJ6_bitCount_0f7a4_42 : decode cJ6_bitCount_0f7a4 42 = .ok (.iload_n 0, 1) := by decide +kernel
theorem dJ6_bitCount_0f7a4_43 : decode cJ6_bitCount_0f7a4 43 = .ok (.bipush 16, 2) := by decide +kernel
theorem dJ6_bitCount_0f7a4_45 : decode cJ6_bitCount_0f7a4 45 = .ok (.iushr, 1) := by decide +kernel
theorem dJ6_bitCount_0f7a4_46 : decode cJ6_bitCount_0f7a4 46 = .ok (.iadd, 1) := by decide +kernel
theorem dJ6_bitCount_0f7a4_47 : decode cJ6_bitCount_0f7a4 47 = .ok (.istore_n 0, 1) := by decide +kernel
theorem dJ6_bitCount_0f7a4_48 : decode cJ6_bitCount_0f7a4 48 = .ok (.iload_n 0, 1) := by decide +kernel
theorem dJ6_bitCount_0f7a4_49 : decode cJ6_bitCount_0f7a4 49 = .ok (.bipush 63, 2) := by decide +kernel
theorem dJ6_bitCount_0f7a4_51 : decode cJ6_bitCount_0f7a4 51 = .ok (.iand, 1) := by decide +kernel
theorem dJ6_bitCount_0f7a4_52 : decode cJ6_bitCount_0f7a4 52 = .ok (.ireturn, 1) := by decide +kernel
theorem dX10_hasPlace_0 : decode cX10_hasPlace 0 = .ok (.iload_n 1, 1) := by decide +kernel
theorem dX10_hasPlace_1 : decode cX10_hasPlace 1 = .ok (.ifCond .lt 21, 3) := by decide +kernel
theorem dX10_hasPlace_22 : decode cX10_hasPlace 22 = .ok (.iconst 0, 1) := by decide +kernel
theorem dX10_hasPlace_23 : decode cX10_hasPlace 23 = .ok (.ireturn, 1) := by decide +kernel
theorem dX10_hasPlace_4 : decode cX10_hasPlace 4 = .ok (.iload_n 1, 1) := by decide +kernel
theorem dX10_hasPlace_5 : decode cX10_hasPlace 5 = .ok (.aload_n 0, 1) := by decide +kernel
theorem dX10_hasPlace_6 : decode cX10_hasPlace 6 = .ok (.getfield 42, 3) := by decide +kernel
theorem dX10_hasPlace_9 : decode cX10_hasPlace 9 = .ok (.if_icmp .ge 13, 3) := by decide +kernel
theorem dX10_hasPupil_0 : decode cX10_hasPupil 0 = .ok (.iload_n 1, 1) := by decide +kernel
theorem dX10_hasPupil_1 : decode cX10_hasPupil 1 = .ok (.ifCond .lt 20, 3) := by decide +kernel
theorem dX10_hasPupil_21 : decode cX10_hasPupil 21 = .ok (.iconst 0, 1) := by decide +kernel
theorem dX10_hasPupil_22 : decode cX10_hasPupil 22 = .ok (.ireturn, 1) := by decide +kernel
theorem dX10_hasPupil_4 : decode cX10_hasPupil 4 = .ok (.iload_n 1, 1) := by decide +kernel
theorem dX10_hasPupil_5 : decode cX10_hasPupil 5 = .ok (.aload_n 0, 1) := by decide +kernel
theorem dX10_hasPupil_6 : decode cX10_hasPupil 6 = .ok (.getfield 46, 3) := by decide +kernel
theorem dX10_hasPupil_9 : decode cX10_hasPupil 9 = .ok (.if_icmp .ge 12, 3) := by decide +kernel
theorem dX10_stands_0 : decode cX10_stands 0 = .ok (.aload_n 0, 1) := by decide +kernel
theorem dX10_stands_1 : decode cX10_stands 1 = .ok (.getfield 52, 3) := by decide +kernel
theorem dX10_stands_4 : decode cX10_stands 4 = .ok (.ifCond .le 7, 3) := by decide +kernel
theorem dX10_stands_11 : decode cX10_stands 11 = .ok (.iconst 0, 1) := by decide +kernel
theorem dX10_stands_12 : decode cX10_stands 12 = .ok (.ireturn, 1) := by decide +kernel
theorem dX10_all_0 : decode cX10_all 0 = .ok (.iconst 1, 1) := by decide +kernel
theorem dX10_all_1 : decode cX10_all 1 = .ok (.aload_n 0, 1) := by decide +kernel
theorem dX10_all_2 : decode cX10_all 2 = .ok (.getfield 42, 3) := by decide +kernel
theorem dX10_all_5 : decode cX10_all 5 = .ok (.ishl, 1) := by decide +kernel
theorem dX10_all_6 : decode cX10_all 6 = .ok (.iconst 1, 1) := by decide +kernel
theorem dX10_all_7 : decode cX10_all 7 = .ok (.isub, 1) := by decide +kernel
theorem dX10_all_8 : decode cX10_all 8 = .ok (.ireturn, 1) := by decide +kernel
theorem dX10_hasSet_0 : decode cX10_hasSet 0 = .ok (.iload_n 1, 1) := by decide +kernel
theorem dX10_hasSet_1 : decode cX10_hasSet 1 = .ok (.iconst 1, 1) := by decide +kernel
theorem dX10_hasSet_2 : decode cX10_hasSet 2 = .ok (.if_icmp .lt 15, 3) := by decide +kernel
theorem dX10_hasSet_17 : decode cX10_hasSet 17 = .ok (.iconst 0, 1) := by decide +kernel
theorem dX10_hasSet_18 : decode cX10_hasSet 18 = .ok (.ireturn, 1) := by decide +kernel
theorem dX10_hasSet_5 : decode cX10_hasSet 5 = .ok (.iload_n 1, 1) := by decide +kernel
theorem dX10_hasSet_6 : decode cX10_hasSet 6 = .ok (.aload_n 0, 1) := by decide +kernel
theorem dX10_hasSet_7 : decode cX10_hasSet 7 = .ok (.invokevirtual 61, 3) := by decide +kernel
theorem dX10_hasSet_10 : decode cX10_hasSet 10 = .ok (.if_icmp .gt 7, 3) := by decide +kernel
theorem dX10_showing_0 : decode cX10_showing 0 = .ok (.iconst 0, 1) := by decide +kernel
theorem dX10_showing_1 : decode cX10_showing 1 = .ok (.istore_n 3, 1) := by decide +kernel
theorem dX10_showing_2 : decode cX10_showing 2 = .ok (.iconst 0, 1) := by decide +kernel
theorem dX10_showing_3 : decode cX10_showing 3 = .ok (.istore 4, 2) := by decide +kernel
theorem dX10_showing_5 : decode cX10_showing 5 = .ok (.iload 4, 2) := by decide +kernel
theorem dX10_showing_7 : decode cX10_showing 7 = .ok (.aload_n 0, 1) := by decide +kernel
theorem dX10_showing_8 : decode cX10_showing 8 = .ok (.getfield 42, 3) := by decide +kernel
theorem dX10_showing_11 : decode cX10_showing 11 = .ok (.if_icmp .ge 43, 3) := by decide +kernel
theorem dX10_showing_54 : decode cX10_showing 54 = .ok (.iload_n 3, 1) := by decide +kernel
theorem dX10_showing_55 : decode cX10_showing 55 = .ok (.ireturn, 1) := by decide +kernel
theorem dX10_marked_0 : decode cX10_marked 0 = .ok (.aload_n 0, 1) := by decide +kernel
theorem dX10_marked_1 : decode cX10_marked 1 = .ok (.invokevirtual 61, 3) := by decide +kernel
theorem dX10_marked_4 : decode cX10_marked 4 = .ok (.aload_n 0, 1) := by decide +kernel
theorem dX10_marked_5 : decode cX10_marked 5 = .ok (.aload_n 0, 1) := by decide +kernel
theorem dX10_marked_6 : decode cX10_marked 6 = .ok (.invokevirtual 61, 3) := by decide +kernel
theorem dX10_marked_9 : decode cX10_marked 9 = .ok (.iconst 0, 1) := by decide +kernel
theorem dX10_marked_10 : decode cX10_marked 10 = .ok (.invokevirtual 76, 3) := by decide +kernel
theorem dX10_marked_13 : decode cX10_marked 13 = .ok (.iconst (-1), 1) := by decide +kernel
theorem dX10_marked_14 : decode cX10_marked 14 = .ok (.ixor, 1) := by decide +kernel
theorem dX10_marked_15 : decode cX10_marked 15 = .ok (.iand, 1) := by decide +kernel
theorem dX10_marked_16 : decode cX10_marked 16 = .ok (.ireturn, 1) := by decide +kernel
theorem dX10_waysElsewhere_0 : decode cX10_waysElsewhere 0 = .ok (.iconst 0, 1) := by decide +kernel
theorem dX10_waysElsewhere_1 : decode cX10_waysElsewhere 1 = .ok (.istore_n 1, 1) := by decide +kernel
theorem dX10_waysElsewhere_2 : decode cX10_waysElsewhere 2 = .ok (.iconst 0, 1) := by decide +kernel
theorem dX10_waysElsewhere_3 : decode cX10_waysElsewhere 3 = .ok (.istore_n 2, 1) := by decide +kernel
theorem dX10_waysElsewhere_4 : decode cX10_waysElsewhere 4 = .ok (.iload_n 2, 1) := by decide +kernel
theorem dX10_waysElsewhere_5 : decode cX10_waysElsewhere 5 = .ok (.aload_n 0, 1) := by decide +kernel
theorem dX10_waysElsewhere_6 : decode cX10_waysElsewhere 6 = .ok (.getfield 42, 3) := by decide +kernel
theorem dX10_waysElsewhere_9 : decode cX10_waysElsewhere 9 = .ok (.if_icmp .ge 40, 3) := by decide +kernel
theorem dX10_waysElsewhere_49 : decode cX10_waysElsewhere 49 = .ok (.iload_n 1, 1) := by decide +kernel
theorem dX10_waysElsewhere_50 : decode cX10_waysElsewhere 50 = .ok (.ireturn, 1) := by decide +kernel
theorem dX5_has_0 : decode cX5_has 0 = .ok (.iload_n 1, 1) := by decide +kernel
theorem dX5_has_1 : decode cX5_has 1 = .ok (.invokestatic 28, 3) := by decide +kernel
theorem dX5_has_4 : decode cX5_has 4 = .ok (.ifCond .eq 17, 3) := by decide +kernel
theorem dX5_has_7 : decode cX5_has 7 = .ok (.aload_n 0, 1) := by decide +kernel
theorem dX5_has_8 : decode cX5_has 8 = .ok (.getfield 19, 3) := by decide +kernel
theorem dX5_has_11 : decode cX5_has 11 = .ok (.iload_n 1, 1) := by decide +kernel
theorem dX5_has_12 : decode cX5_has 12 = .ok (.iaload, 1) := by decide +kernel
theorem dX5_has_13 : decode cX5_has 13 = .ok (.iconst (-1), 1) := by decide +kernel
theorem dX5_has_14 : decode cX5_has 14 = .ok (.if_icmp .eq 7, 3) := by decide +kernel
theorem dX5_has_21 : decode cX5_has 21 = .ok (.iconst 0, 1) := by decide +kernel
theorem dX5_has_22 : decode cX5_has 22 = .ok (.ireturn, 1) := by decide +kernel
theorem dX5_kept_0 : decode cX5_kept 0 = .ok (.iconst 0, 1) := by decide +kernel
theorem dX5_kept_1 : decode cX5_kept 1 = .ok (.istore_n 1, 1) := by decide +kernel
theorem dX5_kept_2 : decode cX5_kept 2 = .ok (.iconst 0, 1) := by decide +kernel
theorem dX5_kept_3 : decode cX5_kept 3 = .ok (.istore_n 2, 1) := by decide +kernel
theorem dX5_kept_4 : decode cX5_kept 4 = .ok (.iload_n 2, 1) := by decide +kernel
theorem dX5_kept_5 : decode cX5_kept 5 = .ok (.iconst 4, 1) := by decide +kernel
theorem dX5_kept_6 : decode cX5_kept 6 = .ok (.if_icmp .ge 25, 3) := by decide +kernel
theorem dX5_kept_9 : decode cX5_kept 9 = .ok (.iload_n 1, 1) := by decide +kernel
theorem dX5_kept_10 : decode cX5_kept 10 = .ok (.aload_n 0, 1) := by decide +kernel
theorem dX5_kept_11 : decode cX5_kept 11 = .ok (.iload_n 2, 1) := by decide +kernel
theorem dX5_kept_12 : decode cX5_kept 12 = .ok (.invokevirtual 35, 3) := by decide +kernel
theorem dX5_kept_15 : decode cX5_kept 15 = .ok (.ifCond .eq 7, 3) := by decide +kernel
theorem dX5_kept_22 : decode cX5_kept 22 = .ok (.iconst 0, 1) := by decide +kernel
theorem dX5_kept_23 : decode cX5_kept 23 = .ok (.iadd, 1) := by decide +kernel
theorem dX5_kept_24 : decode cX5_kept 24 = .ok (.istore_n 1, 1) := by decide +kernel
theorem dX5_kept_25 : decode cX5_kept 25 = .ok (.iinc 2 1, 3) := by decide +kernel
theorem dX5_kept_28 : decode cX5_kept 28 = .ok (.goto (-24), 3) := by decide +kernel
theorem dX5_kept_31 : decode cX5_kept 31 = .ok (.iload_n 1, 1) := by decide +kernel
theorem dX5_kept_32 : decode cX5_kept 32 = .ok (.ireturn, 1) := by decide +kernel
theorem dX11_arePlaces_0 : decode cX11_arePlaces 0 = .ok (.aload_n 0, 1) := by decide +kernel
theorem dX11_arePlaces_1 : decode cX11_arePlaces 1 = .ok (.getfield 19, 3) := by decide +kernel
theorem dX11_arePlaces_4 : decode cX11_arePlaces 4 = .ok (.iload_n 1, 1) := by decide +kernel
theorem dX11_arePlaces_5 : decode cX11_arePlaces 5 = .ok (.invokevirtual 126, 3) := by decide +kernel
theorem dX11_arePlaces_8 : decode cX11_arePlaces 8 = .ok (.ifCond .eq 18, 3) := by decide +kernel
theorem dX11_arePlaces_26 : decode cX11_arePlaces 26 = .ok (.iconst 0, 1) := by decide +kernel
theorem dX11_arePlaces_27 : decode cX11_arePlaces 27 = .ok (.ireturn, 1) := by decide +kernel
theorem dX11_stand_0 : decode cX11_stand 0 = .ok (.aload_n 0, 1) := by decide +kernel
theorem dX11_stand_1 : decode cX11_stand 1 = .ok (.getfield 19, 3) := by decide +kernel
theorem dX11_stand_4 : decode cX11_stand 4 = .ok (.iload_n 1, 1) := by decide +kernel
theorem dX11_stand_5 : decode cX11_stand 5 = .ok (.invokevirtual 334, 3) := by decide +kernel
theorem dX11_stand_8 : decode cX11_stand 8 = .ok (.ifCond .ne 5, 3) := by decide +kernel
theorem dX11_stand_11 : decode cX11_stand 11 = .ok (.iconst 0, 1) := by decide +kernel
theorem dX11_stand_12 : decode cX11_stand 12 = .ok (.ireturn, 1) := by decide +kernel
theorem dX11_refuseWalk_0 : decode cX11_refuseWalk 0 = .ok (.iload_n 1, 1) := by decide +kernel
theorem dX11_refuseWalk_1 : decode cX11_refuseWalk 1 = .ok (.invokestatic 352, 3) := by decide +kernel
theorem dX11_refuseWalk_4 : decode cX11_refuseWalk 4 = .ok (.ifCond .eq 11, 3) := by decide +kernel
theorem dX11_refuseWalk_7 : decode cX11_refuseWalk 7 = .ok (.aload_n 0, 1) := by decide +kernel
theorem dX11_refuseWalk_8 : decode cX11_refuseWalk 8 = .ok (.iload_n 2, 1) := by decide +kernel
theorem dX11_refuseWalk_9 : decode cX11_refuseWalk 9 = .ok (.invokevirtual 152, 3) := by decide +kernel
theorem dX11_refuseWalk_12 : decode cX11_refuseWalk 12 = .ok (.ifCond .ne 6, 3) := by decide +kernel
theorem dX11_refuseWalk_15 : decode cX11_refuseWalk 15 = .ok (.bipush (-2), 2) := by decide +kernel
theorem dX11_refuseWalk_17 : decode cX11_refuseWalk 17 = .ok (.ireturn, 1) := by decide +kernel
theorem dX11_refuseReading_0 : decode cX11_refuseReading 0 = .ok (.iload_n 1, 1) := by decide +kernel
theorem dX11_refuseReading_1 : decode cX11_refuseReading 1 = .ok (.invokestatic 352, 3) := by decide +kernel
theorem dX11_refuseReading_4 : decode cX11_refuseReading 4 = .ok (.ifCond .eq 13, 3) := by decide +kernel
theorem dX11_refuseReading_7 : decode cX11_refuseReading 7 = .ok (.aload_n 0, 1) := by decide +kernel
theorem dX11_refuseReading_8 : decode cX11_refuseReading 8 = .ok (.getfield 19, 3) := by decide +kernel
theorem dX11_refuseReading_11 : decode cX11_refuseReading 11 = .ok (.invokevirtual 185, 3) := by decide +kernel
theorem dX11_refuseReading_14 : decode cX11_refuseReading 14 = .ok (.ifCond .ne 6, 3) := by decide +kernel
theorem dX11_refuseReading_17 : decode cX11_refuseReading 17 = .ok (.bipush (-2), 2) := by decide +kernel
theorem dX11_refuseReading_19 : decode cX11_refuseReading 19 = .ok (.ireturn, 1) := by decide +kernel
theorem dX11_seek_0 : decode cX11_seek 0 = .ok (.aload_n 0, 1) := by decide +kernel
theorem dX11_seek_1 : decode cX11_seek 1 = .ok (.iload_n 1, 1) := by decide +kernel
theorem dX11_seek_2 : decode cX11_seek 2 = .ok (.invokevirtual 152, 3) := by decide +kernel
theorem dX11_seek_5 : decode cX11_seek 5 = .ok (.ifCond .ne 5, 3) := by decide +kernel
theorem dX11_seek_8 : decode cX11_seek 8 = .ok (.iconst 0, 1) := by decide +kernel
theorem dX11_seek_9 : decode cX11_seek 9 = .ok (.ireturn, 1) := by decide +kernel
theorem dX11_leads_0 : decode cX11_leads 0 = .ok (.aload_n 0, 1) := by decide +kernel
theorem dX11_leads_1 : decode cX11_leads 1 = .ok (.getfield 19, 3) := by decide +kernel
theorem dX11_leads_4 : decode cX11_leads 4 = .ok (.iload_n 1, 1) := by decide +kernel
theorem dX11_leads_5 : decode cX11_leads 5 = .ok (.invokevirtual 126, 3) := by decide +kernel
theorem dX11_leads_8 : decode cX11_leads 8 = .ok (.ifCond .eq 10, 3) := by decide +kernel
theorem dX11_leads_18 : decode cX11_leads 18 = .ok (.bipush (-2), 2) := by decide +kernel
theorem dX11_leads_20 : decode cX11_leads 20 = .ok (.ireturn, 1) := by decide +kernel
theorem dX11_mark_0 : decode cX11_mark 0 = .ok (.aload_n 0, 1) := by decide +kernel
theorem dX11_mark_1 : decode cX11_mark 1 = .ok (.getfield 19, 3) := by decide +kernel
theorem dX11_mark_4 : decode cX11_mark 4 = .ok (.iload_n 1, 1) := by decide +kernel
theorem dX11_mark_5 : decode cX11_mark 5 = .ok (.invokevirtual 126, 3) := by decide +kernel
theorem dX11_mark_8 : decode cX11_mark 8 = .ok (.ifCond .eq 14, 3) := by decide +kernel
theorem dX11_mark_22 : decode cX11_mark 22 = .ok (.bipush (-2), 2) := by decide +kernel
theorem dX11_mark_24 : decode cX11_mark 24 = .ok (.ireturn, 1) := by decide +kernel
theorem dX11_becomes_0 : decode cX11_becomes 0 = .ok (.aload_n 0, 1) := by decide +kernel
theorem dX11_becomes_1 : decode cX11_becomes 1 = .ok (.getfield 19, 3) := by decide +kernel
theorem dX11_becomes_4 : decode cX11_becomes 4 = .ok (.iload_n 1, 1) := by decide +kernel
theorem dX11_becomes_5 : decode cX11_becomes 5 = .ok (.invokevirtual 140, 3) := by decide +kernel
theorem dX11_becomes_8 : decode cX11_becomes 8 = .ok (.ifCond .eq 10, 3) := by decide +kernel
theorem dX11_becomes_18 : decode cX11_becomes 18 = .ok (.bipush (-2), 2) := by decide +kernel
theorem dX11_becomes_20 : decode cX11_becomes 20 = .ok (.ireturn, 1) := by decide +kernel
theorem dX11_seen_0 : decode cX11_seen 0 = .ok (.aload_n 0, 1) := by decide +kernel
theorem dX11_seen_1 : decode cX11_seen 1 = .ok (.getfield 19, 3) := by decide +kernel
theorem dX11_seen_4 : decode cX11_seen 4 = .ok (.iload_n 1, 1) := by decide +kernel
theorem dX11_seen_5 : decode cX11_seen 5 = .ok (.invokevirtual 140, 3) := by decide +kernel
theorem dX11_seen_8 : decode cX11_seen 8 = .ok (.ifCond .eq 10, 3) := by decide +kernel
theorem dX11_seen_18 : decode cX11_seen 18 = .ok (.bipush (-2), 2) := by decide +kernel
theorem dX11_seen_20 : decode cX11_seen 20 = .ok (.ireturn, 1) := by decide +kernel
theorem dX11_where_0 : decode cX11_where 0 = .ok (.aload_n 0, 1) := by decide +kernel
theorem dX11_where_1 : decode cX11_where 1 = .ok (.iload_n 1, 1) := by decide +kernel
theorem dX11_where_2 : decode cX11_where 2 = .ok (.invokevirtual 152, 3) := by decide +kernel
theorem dX11_where_5 : decode cX11_where 5 = .ok (.ifCond .eq 13, 3) := by decide +kernel
theorem dX11_where_18 : decode cX11_where 18 = .ok (.bipush (-2), 2) := by decide +kernel
theorem dX11_where_20 : decode cX11_where 20 = .ok (.ireturn, 1) := by decide +kernel
theorem dX11_thinks_0 : decode cX11_thinks 0 = .ok (.aload_n 0, 1) := by decide +kernel
theorem dX11_thinks_1 : decode cX11_thinks 1 = .ok (.iload_n 1, 1) := by decide +kernel
theorem dX11_thinks_2 : decode cX11_thinks 2 = .ok (.invokevirtual 152, 3) := by decide +kernel
theorem dX11_thinks_5 : decode cX11_thinks 5 = .ok (.ifCond .eq 13, 3) := by decide +kernel
theorem dX11_thinks_18 : decode cX11_thinks 18 = .ok (.bipush (-2), 2) := by decide +kernel
theorem dX11_thinks_20 : decode cX11_thinks 20 = .ok (.ireturn, 1) := by decide +kernel
theorem dX11_pupil_0 : decode cX11_pupil 0 = .ok (.aload_n 0, 1) := by decide +kernel
theorem dX11_pupil_1 : decode cX11_pupil 1 = .ok (.iload_n 1, 1) := by decide +kernel
theorem dX11_pupil_2 : decode cX11_pupil 2 = .ok (.invokevirtual 152, 3) := by decide +kernel
theorem dX11_pupil_5 : decode cX11_pupil 5 = .ok (.ifCond .ne 6, 3) := by decide +kernel
theorem dX11_pupil_8 : decode cX11_pupil 8 = .ok (.bipush (-2), 2) := by decide +kernel
theorem dX11_pupil_10 : decode cX11_pupil 10 = .ok (.ireturn, 1) := by decide +kernel
theorem dX11_goes_0 : decode cX11_goes 0 = .ok (.iload_n 2, 1) := by decide +kernel
theorem dX11_goes_1 : decode cX11_goes 1 = .ok (.invokestatic 129, 3) := by decide +kernel
theorem dX11_goes_4 : decode cX11_goes 4 = .ok (.ifCond .eq 11, 3) := by decide +kernel
theorem dX11_goes_15 : decode cX11_goes 15 = .ok (.bipush (-2), 2) := by decide +kernel
theorem dX11_goes_17 : decode cX11_goes 17 = .ok (.ireturn, 1) := by decide +kernel
theorem dX11_goes_7 : decode cX11_goes 7 = .ok (.aload_n 0, 1) := by decide +kernel
theorem dX11_goes_8 : decode cX11_goes 8 = .ok (.iload_n 1, 1) := by decide +kernel
theorem dX11_goes_9 : decode cX11_goes 9 = .ok (.invokevirtual 152, 3) := by decide +kernel
theorem dX11_goes_12 : decode cX11_goes 12 = .ok (.ifCond .ne 6, 3) := by decide +kernel
theorem dX11_most_0 : decode cX11_most 0 = .ok (.aload_n 0, 1) := by decide +kernel
theorem dX11_most_1 : decode cX11_most 1 = .ok (.getfield 19, 3) := by decide +kernel
theorem dX11_most_4 : decode cX11_most 4 = .ok (.invokevirtual 185, 3) := by decide +kernel
theorem dX11_most_7 : decode cX11_most 7 = .ok (.ifCond .ne 6, 3) := by decide +kernel
theorem dX11_most_10 : decode cX11_most 10 = .ok (.bipush (-2), 2) := by decide +kernel
theorem dX11_most_12 : decode cX11_most 12 = .ok (.ireturn, 1) := by decide +kernel
theorem dX11_who_0 : decode cX11_who 0 = .ok (.aload_n 0, 1) := by decide +kernel
theorem dX11_who_1 : decode cX11_who 1 = .ok (.getfield 19, 3) := by decide +kernel
theorem dX11_who_4 : decode cX11_who 4 = .ok (.invokevirtual 185, 3) := by decide +kernel
theorem dX11_who_7 : decode cX11_who 7 = .ok (.ifCond .eq 12, 3) := by decide +kernel
theorem dX11_who_19 : decode cX11_who 19 = .ok (.bipush (-2), 2) := by decide +kernel
theorem dX11_who_21 : decode cX11_who 21 = .ok (.ireturn, 1) := by decide +kernel
theorem dX11_undo_0 : decode cX11_undo 0 = .ok (.aload_n 0, 1) := by decide +kernel
theorem dX11_undo_1 : decode cX11_undo 1 = .ok (.getfield 19, 3) := by decide +kernel
theorem dX11_undo_4 : decode cX11_undo 4 = .ok (.invokevirtual 185, 3) := by decide +kernel
theorem dX11_undo_7 : decode cX11_undo 7 = .ok (.ifCond .ne 6, 3) := by decide +kernel
theorem dX11_undo_10 : decode cX11_undo 10 = .ok (.bipush (-2), 2) := by decide +kernel
theorem dX11_undo_12 : decode cX11_undo 12 = .ok (.ireturn, 1) := by decide +kernel
theorem dX11_anew_0 : decode cX11_anew 0 = .ok (.aload_n 0, 1) := by decide +kernel
theorem dX11_anew_1 : decode cX11_anew 1 = .ok (.getfield 19, 3) := by decide +kernel
theorem dX11_anew_4 : decode cX11_anew 4 = .ok (.invokevirtual 185, 3) := by decide +kernel
theorem dX11_anew_7 : decode cX11_anew 7 = .ok (.ifCond .ne 6, 3) := by decide +kernel
theorem dX11_anew_10 : decode cX11_anew 10 = .ok (.bipush (-2), 2) := by decide +kernel
theorem dX11_anew_12 : decode cX11_anew 12 = .ok (.ireturn, 1) := by decide +kernel
theorem dX11_would_0 : decode cX11_would 0 = .ok (.aload_n 0, 1) := by decide +kernel
theorem dX11_would_1 : decode cX11_would 1 = .ok (.iload_n 1, 1) := by decide +kernel
theorem dX11_would_2 : decode cX11_would 2 = .ok (.iload_n 2, 1) := by decide +kernel
theorem dX11_would_3 : decode cX11_would 3 = .ok (.invokevirtual 191, 3) := by decide +kernel
theorem dX11_would_6 : decode cX11_would 6 = .ok (.istore_n 3, 1) := by decide +kernel
theorem dX11_would_7 : decode cX11_would 7 = .ok (.iload_n 3, 1) := by decide +kernel
theorem dX11_would_8 : decode cX11_would 8 = .ok (.ifCond .eq 5, 3) := by decide +kernel
theorem dX11_would_11 : decode cX11_would 11 = .ok (.iload_n 3, 1) := by decide +kernel
theorem dX11_would_12 : decode cX11_would 12 = .ok (.ireturn, 1) := by decide +kernel
theorem dX11_think_0 : decode cX11_think 0 = .ok (.aload_n 0, 1) := by decide +kernel
theorem dX11_think_1 : decode cX11_think 1 = .ok (.iload_n 1, 1) := by decide +kernel
theorem dX11_think_2 : decode cX11_think 2 = .ok (.iload_n 2, 1) := by decide +kernel
theorem dX11_think_3 : decode cX11_think 3 = .ok (.invokevirtual 191, 3) := by decide +kernel
theorem dX11_think_6 : decode cX11_think 6 = .ok (.istore_n 3, 1) := by decide +kernel
theorem dX11_think_7 : decode cX11_think 7 = .ok (.iload_n 3, 1) := by decide +kernel
theorem dX11_think_8 : decode cX11_think 8 = .ok (.ifCond .eq 5, 3) := by decide +kernel
theorem dX11_think_11 : decode cX11_think 11 = .ok (.iload_n 3, 1) := by decide +kernel
theorem dX11_think_12 : decode cX11_think 12 = .ok (.ireturn, 1) := by decide +kernel
theorem dX11_knows_0 : decode cX11_knows 0 = .ok (.aload_n 0, 1) := by decide +kernel
theorem dX11_knows_1 : decode cX11_knows 1 = .ok (.iload_n 1, 1) := by decide +kernel
theorem dX11_knows_2 : decode cX11_knows 2 = .ok (.iload_n 2, 1) := by decide +kernel
theorem dX11_knows_3 : decode cX11_knows 3 = .ok (.invokevirtual 191, 3) := by decide +kernel
theorem dX11_knows_6 : decode cX11_knows 6 = .ok (.istore_n 3, 1) := by decide +kernel
theorem dX11_knows_7 : decode cX11_knows 7 = .ok (.iload_n 3, 1) := by decide +kernel
theorem dX11_knows_8 : decode cX11_knows 8 = .ok (.ifCond .eq 7, 3) := by decide +kernel
theorem dX11_knows_11 : decode cX11_knows 11 = .ok (.iload_n 3, 1) := by decide +kernel
theorem dX11_knows_12 : decode cX11_knows 12 = .ok (.goto 9, 3) := by decide +kernel
theorem dX11_knows_21 : decode cX11_knows 21 = .ok (.ireturn, 1) := by decide +kernel
theorem dX11_loses_0 : decode cX11_loses 0 = .ok (.aload_n 0, 1) := by decide +kernel
theorem dX11_loses_1 : decode cX11_loses 1 = .ok (.iload_n 1, 1) := by decide +kernel
theorem dX11_loses_2 : decode cX11_loses 2 = .ok (.iload_n 2, 1) := by decide +kernel
theorem dX11_loses_3 : decode cX11_loses 3 = .ok (.invokevirtual 191, 3) := by decide +kernel
theorem dX11_loses_6 : decode cX11_loses 6 = .ok (.istore_n 3, 1) := by decide +kernel
theorem dX11_loses_7 : decode cX11_loses 7 = .ok (.iload_n 3, 1) := by decide +kernel
theorem dX11_loses_8 : decode cX11_loses 8 = .ok (.ifCond .eq 7, 3) := by decide +kernel
theorem dX11_loses_11 : decode cX11_loses 11 = .ok (.iload_n 3, 1) := by decide +kernel
theorem dX11_loses_12 : decode cX11_loses 12 = .ok (.goto 9, 3) := by decide +kernel
theorem dX11_loses_21 : decode cX11_loses 21 = .ok (.ireturn, 1) := by decide +kernel
theorem dX11_doubts_0 : decode cX11_doubts 0 = .ok (.aload_n 0, 1) := by decide +kernel
theorem dX11_doubts_1 : decode cX11_doubts 1 = .ok (.iload_n 1, 1) := by decide +kernel
theorem dX11_doubts_2 : decode cX11_doubts 2 = .ok (.iload_n 2, 1) := by decide +kernel
theorem dX11_doubts_3 : decode cX11_doubts 3 = .ok (.invokevirtual 191, 3) := by decide +kernel
theorem dX11_doubts_6 : decode cX11_doubts 6 = .ok (.istore_n 3, 1) := by decide +kernel
theorem dX11_doubts_7 : decode cX11_doubts 7 = .ok (.iload_n 3, 1) := by decide +kernel
theorem dX11_doubts_8 : decode cX11_doubts 8 = .ok (.ifCond .eq 5, 3) := by decide +kernel
theorem dX11_doubts_11 : decode cX11_doubts 11 = .ok (.iload_n 3, 1) := by decide +kernel
theorem dX11_doubts_12 : decode cX11_doubts 12 = .ok (.ireturn, 1) := by decide +kernel
theorem dX11_blur_0 : decode cX11_blur 0 = .ok (.iload_n 2, 1) := by decide +kernel
theorem dX11_blur_1 : decode cX11_blur 1 = .ok (.iconst 1, 1) := by decide +kernel
theorem dX11_blur_2 : decode cX11_blur 2 = .ok (.if_icmp .lt 23, 3) := by decide +kernel
theorem dX11_blur_25 : decode cX11_blur 25 = .ok (.bipush (-2), 2) := by decide +kernel
theorem dX11_blur_27 : decode cX11_blur 27 = .ok (.ireturn, 1) := by decide +kernel
theorem dX11_blur_5 : decode cX11_blur 5 = .ok (.aload_n 0, 1) := by decide +kernel
theorem dX11_blur_6 : decode cX11_blur 6 = .ok (.iload_n 1, 1) := by decide +kernel
theorem dX11_blur_7 : decode cX11_blur 7 = .ok (.iconst 1, 1) := by decide +kernel
theorem dX11_blur_8 : decode cX11_blur 8 = .ok (.iload_n 2, 1) := by decide +kernel
theorem dX11_blur_9 : decode cX11_blur 9 = .ok (.invokevirtual 212, 3) := by decide +kernel
theorem dX11_blur_12 : decode cX11_blur 12 = .ok (.ifCond .eq 13, 3) := by decide +kernel
theorem dX11_blurs_0 : decode cX11_blurs 0 = .ok (.iload_n 2, 1) := by decide +kernel
theorem dX11_blurs_1 : decode cX11_blurs 1 = .ok (.iconst 1, 1) := by decide +kernel
theorem dX11_blurs_2 : decode cX11_blurs 2 = .ok (.if_icmp .lt 24, 3) := by decide +kernel
theorem dX11_blurs_26 : decode cX11_blurs 26 = .ok (.bipush (-2), 2) := by decide +kernel
theorem dX11_blurs_28 : decode cX11_blurs 28 = .ok (.ireturn, 1) := by decide +kernel
theorem dX11_blurs_5 : decode cX11_blurs 5 = .ok (.aload_n 0, 1) := by decide +kernel
theorem dX11_blurs_6 : decode cX11_blurs 6 = .ok (.iload_n 1, 1) := by decide +kernel
theorem dX11_blurs_7 : decode cX11_blurs 7 = .ok (.iconst 1, 1) := by decide +kernel
theorem dX11_blurs_8 : decode cX11_blurs 8 = .ok (.iload_n 2, 1) := by decide +kernel
theorem dX11_blurs_9 : decode cX11_blurs 9 = .ok (.invokevirtual 212, 3) := by decide +kernel
theorem dX11_blurs_12 : decode cX11_blurs 12 = .ok (.ifCond .eq 14, 3) := by decide +kernel
theorem dX11_stray_0 : decode cX11_stray 0 = .ok (.aload_n 0, 1) := by decide +kernel
theorem dX11_stray_1 : decode cX11_stray 1 = .ok (.iload_n 1, 1) := by decide +kernel
theorem dX11_stray_2 : decode cX11_stray 2 = .ok (.iconst 2, 1) := by decide +kernel
theorem dX11_stray_3 : decode cX11_stray 3 = .ok (.iconst 0, 1) := by decide +kernel
theorem dX11_stray_4 : decode cX11_stray 4 = .ok (.invokevirtual 212, 3) := by decide +kernel
theorem dX11_stray_7 : decode cX11_stray 7 = .ok (.ifCond .eq 13, 3) := by decide +kernel
theorem dX11_stray_20 : decode cX11_stray 20 = .ok (.bipush (-2), 2) := by decide +kernel
theorem dX11_stray_22 : decode cX11_stray 22 = .ok (.ireturn, 1) := by decide +kernel
theorem dX11_strays_0 : decode cX11_strays 0 = .ok (.aload_n 0, 1) := by decide +kernel
theorem dX11_strays_1 : decode cX11_strays 1 = .ok (.iload_n 1, 1) := by decide +kernel
theorem dX11_strays_2 : decode cX11_strays 2 = .ok (.iconst 2, 1) := by decide +kernel
theorem dX11_strays_3 : decode cX11_strays 3 = .ok (.iconst 0, 1) := by decide +kernel
theorem dX11_strays_4 : decode cX11_strays 4 = .ok (.invokevirtual 212, 3) := by decide +kernel
theorem dX11_strays_7 : decode cX11_strays 7 = .ok (.ifCond .eq 14, 3) := by decide +kernel
theorem dX11_strays_21 : decode cX11_strays 21 = .ok (.bipush (-2), 2) := by decide +kernel
theorem dX11_strays_23 : decode cX11_strays 23 = .ok (.ireturn, 1) := by decide +kernel
theorem dX11_home_0 : decode cX11_home 0 = .ok (.aload_n 0, 1) := by decide +kernel
theorem dX11_home_1 : decode cX11_home 1 = .ok (.iload_n 1, 1) := by decide +kernel
theorem dX11_home_2 : decode cX11_home 2 = .ok (.iconst 3, 1) := by decide +kernel
theorem dX11_home_3 : decode cX11_home 3 = .ok (.iconst 0, 1) := by decide +kernel
theorem dX11_home_4 : decode cX11_home 4 = .ok (.invokevirtual 212, 3) := by decide +kernel
theorem dX11_home_7 : decode cX11_home 7 = .ok (.ifCond .eq 13, 3) := by decide +kernel
theorem dX11_home_20 : decode cX11_home 20 = .ok (.bipush (-2), 2) := by decide +kernel
theorem dX11_home_22 : decode cX11_home 22 = .ok (.ireturn, 1) := by decide +kernel
theorem dX11_homes_0 : decode cX11_homes 0 = .ok (.aload_n 0, 1) := by decide +kernel
theorem dX11_homes_1 : decode cX11_homes 1 = .ok (.iload_n 1, 1) := by decide +kernel
theorem dX11_homes_2 : decode cX11_homes 2 = .ok (.iconst 3, 1) := by decide +kernel
theorem dX11_homes_3 : decode cX11_homes 3 = .ok (.iconst 0, 1) := by decide +kernel
theorem dX11_homes_4 : decode cX11_homes 4 = .ok (.invokevirtual 212, 3) := by decide +kernel
theorem dX11_homes_7 : decode cX11_homes 7 = .ok (.ifCond .eq 14, 3) := by decide +kernel
theorem dX11_homes_21 : decode cX11_homes 21 = .ok (.bipush (-2), 2) := by decide +kernel
theorem dX11_homes_23 : decode cX11_homes 23 = .ok (.ireturn, 1) := by decide +kernel
theorem dX11_states_0 : decode cX11_states 0 = .ok (.aload_n 0, 1) := by decide +kernel
theorem dX11_states_1 : decode cX11_states 1 = .ok (.iload_n 1, 1) := by decide +kernel
theorem dX11_states_2 : decode cX11_states 2 = .ok (.iconst 0, 1) := by decide +kernel
theorem dX11_states_3 : decode cX11_states 3 = .ok (.iconst 0, 1) := by decide +kernel
theorem dX11_states_4 : decode cX11_states 4 = .ok (.invokevirtual 212, 3) := by decide +kernel
theorem dX11_states_7 : decode cX11_states 7 = .ok (.ifCond .eq 13, 3) := by decide +kernel
theorem dX11_states_20 : decode cX11_states 20 = .ok (.bipush (-2), 2) := by decide +kernel
theorem dX11_states_22 : decode cX11_states 22 = .ok (.ireturn, 1) := by decide +kernel
theorem dX11_plan_0 : decode cX11_plan 0 = .ok (.aload_n 0, 1) := by decide +kernel
theorem dX11_plan_1 : decode cX11_plan 1 = .ok (.getfield 19, 3) := by decide +kernel
theorem dX11_plan_4 : decode cX11_plan 4 = .ok (.iload_n 1, 1) := by decide +kernel
theorem dX11_plan_5 : decode cX11_plan 5 = .ok (.invokevirtual 140, 3) := by decide +kernel
theorem dX11_plan_8 : decode cX11_plan 8 = .ok (.ifCond .ne 6, 3) := by decide +kernel
theorem dX11_plan_11 : decode cX11_plan 11 = .ok (.bipush (-2), 2) := by decide +kernel
theorem dX11_plan_13 : decode cX11_plan 13 = .ok (.ireturn, 1) := by decide +kernel
theorem dX11_first_0 : decode cX11_first 0 = .ok (.aload_n 0, 1) := by decide +kernel
theorem dX11_first_1 : decode cX11_first 1 = .ok (.getfield 19, 3) := by decide +kernel
theorem dX11_first_4 : decode cX11_first 4 = .ok (.iload_n 1, 1) := by decide +kernel
theorem dX11_first_5 : decode cX11_first 5 = .ok (.invokevirtual 140, 3) := by decide +kernel
theorem dX11_first_8 : decode cX11_first 8 = .ok (.ifCond .ne 6, 3) := by decide +kernel
theorem dX11_first_11 : decode cX11_first 11 = .ok (.bipush (-2), 2) := by decide +kernel
theorem dX11_first_13 : decode cX11_first 13 = .ok (.ireturn, 1) := by decide +kernel
theorem dX11_hardest_0 : decode cX11_hardest 0 = .ok (.aload_n 0, 1) := by decide +kernel
theorem dX11_hardest_1 : decode cX11_hardest 1 = .ok (.getfield 19, 3) := by decide +kernel
theorem dX11_hardest_4 : decode cX11_hardest 4 = .ok (.invokevirtual 185, 3) := by decide +kernel
theorem dX11_hardest_7 : decode cX11_hardest 7 = .ok (.ifCond .ne 6, 3) := by decide +kernel
theorem dX11_hardest_10 : decode cX11_hardest 10 = .ok (.bipush (-2), 2) := by decide +kernel
theorem dX11_hardest_12 : decode cX11_hardest 12 = .ok (.ireturn, 1) := by decide +kernel
theorem dX11_alike_0 : decode cX11_alike 0 = .ok (.aload_n 0, 1) := by decide +kernel
theorem dX11_alike_1 : decode cX11_alike 1 = .ok (.iload_n 1, 1) := by decide +kernel
theorem dX11_alike_2 : decode cX11_alike 2 = .ok (.iload_n 2, 1) := by decide +kernel
theorem dX11_alike_3 : decode cX11_alike 3 = .ok (.invokevirtual 236, 3) := by decide +kernel
theorem dX11_alike_6 : decode cX11_alike 6 = .ok (.ifCond .ne 6, 3) := by decide +kernel
theorem dX11_alike_9 : decode cX11_alike 9 = .ok (.bipush (-2), 2) := by decide +kernel
theorem dX11_alike_11 : decode cX11_alike 11 = .ok (.ireturn, 1) := by decide +kernel
theorem dX11_kinds_0 : decode cX11_kinds 0 = .ok (.aload_n 0, 1) := by decide +kernel
theorem dX11_kinds_1 : decode cX11_kinds 1 = .ok (.getfield 19, 3) := by decide +kernel
theorem dX11_kinds_4 : decode cX11_kinds 4 = .ok (.invokevirtual 185, 3) := by decide +kernel
theorem dX11_kinds_7 : decode cX11_kinds 7 = .ok (.ifCond .ne 6, 3) := by decide +kernel
theorem dX11_kinds_10 : decode cX11_kinds 10 = .ok (.bipush (-2), 2) := by decide +kernel
theorem dX11_kinds_12 : decode cX11_kinds 12 = .ok (.ireturn, 1) := by decide +kernel
theorem dX11_tells_0 : decode cX11_tells 0 = .ok (.aload_n 0, 1) := by decide +kernel
theorem dX11_tells_1 : decode cX11_tells 1 = .ok (.iload_n 1, 1) := by decide +kernel
theorem dX11_tells_2 : decode cX11_tells 2 = .ok (.iload_n 2, 1) := by decide +kernel
theorem dX11_tells_3 : decode cX11_tells 3 = .ok (.invokevirtual 236, 3) := by decide +kernel
theorem dX11_tells_6 : decode cX11_tells 6 = .ok (.ifCond .ne 6, 3) := by decide +kernel
theorem dX11_tells_9 : decode cX11_tells 9 = .ok (.bipush (-2), 2) := by decide +kernel
theorem dX11_tells_11 : decode cX11_tells 11 = .ok (.ireturn, 1) := by decide +kernel
theorem dX11_told_0 : decode cX11_told 0 = .ok (.aload_n 0, 1) := by decide +kernel
theorem dX11_told_1 : decode cX11_told 1 = .ok (.iload_n 1, 1) := by decide +kernel
theorem dX11_told_2 : decode cX11_told 2 = .ok (.iload_n 2, 1) := by decide +kernel
theorem dX11_told_3 : decode cX11_told 3 = .ok (.invokevirtual 236, 3) := by decide +kernel
theorem dX11_told_6 : decode cX11_told 6 = .ok (.ifCond .ne 6, 3) := by decide +kernel
theorem dX11_told_9 : decode cX11_told 9 = .ok (.bipush (-2), 2) := by decide +kernel
theorem dX11_told_11 : decode cX11_told 11 = .ok (.ireturn, 1) := by decide +kernel
theorem dX11_bares_0 : decode cX11_bares 0 = .ok (.aload_n 0, 1) := by decide +kernel
theorem dX11_bares_1 : decode cX11_bares 1 = .ok (.iload_n 1, 1) := by decide +kernel
theorem dX11_bares_2 : decode cX11_bares 2 = .ok (.iload_n 2, 1) := by decide +kernel
theorem dX11_bares_3 : decode cX11_bares 3 = .ok (.invokevirtual 236, 3) := by decide +kernel
theorem dX11_bares_6 : decode cX11_bares 6 = .ok (.ifCond .eq 15, 3) := by decide +kernel
theorem dX11_bares_21 : decode cX11_bares 21 = .ok (.bipush (-2), 2) := by decide +kernel
theorem dX11_bares_23 : decode cX11_bares 23 = .ok (.ireturn, 1) := by decide +kernel
theorem dX11_bared_0 : decode cX11_bared 0 = .ok (.aload_n 0, 1) := by decide +kernel
theorem dX11_bared_1 : decode cX11_bared 1 = .ok (.iload_n 1, 1) := by decide +kernel
theorem dX11_bared_2 : decode cX11_bared 2 = .ok (.iload_n 2, 1) := by decide +kernel
theorem dX11_bared_3 : decode cX11_bared 3 = .ok (.invokevirtual 236, 3) := by decide +kernel
theorem dX11_bared_6 : decode cX11_bared 6 = .ok (.ifCond .eq 12, 3) := by decide +kernel
theorem dX11_bared_18 : decode cX11_bared 18 = .ok (.bipush (-2), 2) := by decide +kernel
theorem dX11_bared_20 : decode cX11_bared 20 = .ok (.ireturn, 1) := by decide +kernel
theorem dX11_gather_0 : decode cX11_gather 0 = .ok (.aload_n 0, 1) := by decide +kernel
theorem dX11_gather_1 : decode cX11_gather 1 = .ok (.getfield 19, 3) := by decide +kernel
theorem dX11_gather_4 : decode cX11_gather 4 = .ok (.iload_n 1, 1) := by decide +kernel
theorem dX11_gather_5 : decode cX11_gather 5 = .ok (.invokevirtual 140, 3) := by decide +kernel
theorem dX11_gather_8 : decode cX11_gather 8 = .ok (.ifCond .ne 6, 3) := by decide +kernel
theorem dX11_gather_11 : decode cX11_gather 11 = .ok (.bipush (-2), 2) := by decide +kernel
theorem dX11_gather_13 : decode cX11_gather 13 = .ok (.ireturn, 1) := by decide +kernel
theorem dX11_gathers_0 : decode cX11_gathers 0 = .ok (.aload_n 0, 1) := by decide +kernel
theorem dX11_gathers_1 : decode cX11_gathers 1 = .ok (.getfield 19, 3) := by decide +kernel
theorem dX11_gathers_4 : decode cX11_gathers 4 = .ok (.iload_n 1, 1) := by decide +kernel
theorem dX11_gathers_5 : decode cX11_gathers 5 = .ok (.invokevirtual 140, 3) := by decide +kernel
theorem dX11_gathers_8 : decode cX11_gathers 8 = .ok (.ifCond .ne 6, 3) := by decide +kernel
theorem dX11_gathers_11 : decode cX11_gathers 11 = .ok (.bipush (-2), 2) := by decide +kernel
theorem dX11_gathers_13 : decode cX11_gathers 13 = .ok (.ireturn, 1) := by decide +kernel
theorem dX11_roundabout_0 : decode cX11_roundabout 0 = .ok (.aload_n 0, 1) := by decide +kernel
theorem dX11_roundabout_1 : decode cX11_roundabout 1 = .ok (.getfield 19, 3) := by decide +kernel
theorem dX11_roundabout_4 : decode cX11_roundabout 4 = .ok (.iload_n 1, 1) := by decide +kernel
theorem dX11_roundabout_5 : decode cX11_roundabout 5 = .ok (.invokevirtual 140, 3) := by decide +kernel
theorem dX11_roundabout_8 : decode cX11_roundabout 8 = .ok (.ifCond .ne 6, 3) := by decide +kernel
theorem dX11_roundabout_11 : decode cX11_roundabout 11 = .ok (.bipush (-2), 2) := by decide +kernel
theorem dX11_roundabout_13 : decode cX11_roundabout 13 = .ok (.ireturn, 1) := by decide +kernel
theorem dX11_meet_0 : decode cX11_meet 0 = .ok (.aload_n 0, 1) := by decide +kernel
theorem dX11_meet_1 : decode cX11_meet 1 = .ok (.iload_n 1, 1) := by decide +kernel
theorem dX11_meet_2 : decode cX11_meet 2 = .ok (.iload_n 2, 1) := by decide +kernel
theorem dX11_meet_3 : decode cX11_meet 3 = .ok (.invokevirtual 236, 3) := by decide +kernel
theorem dX11_meet_6 : decode cX11_meet 6 = .ok (.ifCond .ne 6, 3) := by decide +kernel
theorem dX11_meet_9 : decode cX11_meet 9 = .ok (.bipush (-2), 2) := by decide +kernel
theorem dX11_meet_11 : decode cX11_meet 11 = .ok (.ireturn, 1) := by decide +kernel
theorem dX11_met_0 : decode cX11_met 0 = .ok (.aload_n 0, 1) := by decide +kernel
theorem dX11_met_1 : decode cX11_met 1 = .ok (.iload_n 1, 1) := by decide +kernel
theorem dX11_met_2 : decode cX11_met 2 = .ok (.iload_n 2, 1) := by decide +kernel
theorem dX11_met_3 : decode cX11_met 3 = .ok (.invokevirtual 236, 3) := by decide +kernel
theorem dX11_met_6 : decode cX11_met 6 = .ok (.ifCond .ne 6, 3) := by decide +kernel
theorem dX11_met_9 : decode cX11_met 9 = .ok (.bipush (-2), 2) := by decide +kernel
theorem dX11_met_11 : decode cX11_met 11 = .ok (.ireturn, 1) := by decide +kernel
theorem dX11_read_0 : decode cX11_read 0 = .ok (.aload_n 0, 1) := by decide +kernel
theorem dX11_read_1 : decode cX11_read 1 = .ok (.iload_n 1, 1) := by decide +kernel
theorem dX11_read_2 : decode cX11_read 2 = .ok (.invokevirtual 269, 3) := by decide +kernel
theorem dX11_read_5 : decode cX11_read 5 = .ok (.istore_n 2, 1) := by decide +kernel
theorem dX11_read_6 : decode cX11_read 6 = .ok (.iload_n 2, 1) := by decide +kernel
theorem dX11_read_7 : decode cX11_read 7 = .ok (.ifCond .eq 7, 3) := by decide +kernel
theorem dX11_read_10 : decode cX11_read 10 = .ok (.iload_n 2, 1) := by decide +kernel
theorem dX11_read_11 : decode cX11_read 11 = .ok (.goto 15, 3) := by decide +kernel
theorem dX11_read_26 : decode cX11_read 26 = .ok (.ireturn, 1) := by decide +kernel
theorem dX11_began_0 : decode cX11_began 0 = .ok (.aload_n 0, 1) := by decide +kernel
theorem dX11_began_1 : decode cX11_began 1 = .ok (.iload_n 1, 1) := by decide +kernel
theorem dX11_began_2 : decode cX11_began 2 = .ok (.invokevirtual 269, 3) := by decide +kernel
theorem dX11_began_5 : decode cX11_began 5 = .ok (.istore_n 2, 1) := by decide +kernel
theorem dX11_began_6 : decode cX11_began 6 = .ok (.iload_n 2, 1) := by decide +kernel
theorem dX11_began_7 : decode cX11_began 7 = .ok (.ifCond .eq 5, 3) := by decide +kernel
theorem dX11_began_10 : decode cX11_began 10 = .ok (.iload_n 2, 1) := by decide +kernel
theorem dX11_began_11 : decode cX11_began 11 = .ok (.ireturn, 1) := by decide +kernel
theorem dX11_ask_0 : decode cX11_ask 0 = .ok (.aload_n 0, 1) := by decide +kernel
theorem dX11_ask_1 : decode cX11_ask 1 = .ok (.iload_n 1, 1) := by decide +kernel
theorem dX11_ask_2 : decode cX11_ask 2 = .ok (.invokevirtual 269, 3) := by decide +kernel
theorem dX11_ask_5 : decode cX11_ask 5 = .ok (.istore_n 2, 1) := by decide +kernel
theorem dX11_ask_6 : decode cX11_ask 6 = .ok (.iload_n 2, 1) := by decide +kernel
theorem dX11_ask_7 : decode cX11_ask 7 = .ok (.ifCond .eq 7, 3) := by decide +kernel
theorem dX11_ask_10 : decode cX11_ask 10 = .ok (.iload_n 2, 1) := by decide +kernel
theorem dX11_ask_11 : decode cX11_ask 11 = .ok (.goto 19, 3) := by decide +kernel
theorem dX11_ask_30 : decode cX11_ask 30 = .ok (.ireturn, 1) := by decide +kernel
theorem dX11_leaves_0 : decode cX11_leaves 0 = .ok (.aload_n 0, 1) := by decide +kernel
theorem dX11_leaves_1 : decode cX11_leaves 1 = .ok (.iload_n 1, 1) := by decide +kernel
theorem dX11_leaves_2 : decode cX11_leaves 2 = .ok (.invokevirtual 269, 3) := by decide +kernel
theorem dX11_leaves_5 : decode cX11_leaves 5 = .ok (.istore_n 2, 1) := by decide +kernel
theorem dX11_leaves_6 : decode cX11_leaves 6 = .ok (.iload_n 2, 1) := by decide +kernel
theorem dX11_leaves_7 : decode cX11_leaves 7 = .ok (.ifCond .eq 5, 3) := by decide +kernel
theorem dX11_leaves_10 : decode cX11_leaves 10 = .ok (.iload_n 2, 1) := by decide +kernel
theorem dX11_leaves_11 : decode cX11_leaves 11 = .ok (.ireturn, 1) := by decide +kernel
theorem dX11_course_0 : decode cX11_course 0 = .ok (.aload_n 0, 1) := by decide +kernel
theorem dX11_course_1 : decode cX11_course 1 = .ok (.iload_n 1, 1) := by decide +kernel
theorem dX11_course_2 : decode cX11_course 2 = .ok (.iload_n 2, 1) := by decide +kernel
theorem dX11_course_3 : decode cX11_course 3 = .ok (.invokevirtual 191, 3) := by decide +kernel
theorem dX11_course_6 : decode cX11_course 6 = .ok (.istore_n 3, 1) := by decide +kernel
theorem dX11_course_7 : decode cX11_course 7 = .ok (.iload_n 3, 1) := by decide +kernel
theorem dX11_course_8 : decode cX11_course 8 = .ok (.ifCond .eq 5, 3) := by decide +kernel
theorem dX11_course_11 : decode cX11_course 11 = .ok (.iload_n 3, 1) := by decide +kernel
theorem dX11_course_12 : decode cX11_course 12 = .ok (.ireturn, 1) := by decide +kernel
theorem dX11_lesson_0 : decode cX11_lesson 0 = .ok (.aload_n 0, 1) := by decide +kernel
theorem dX11_lesson_1 : decode cX11_lesson 1 = .ok (.iload_n 1, 1) := by decide +kernel
theorem dX11_lesson_2 : decode cX11_lesson 2 = .ok (.iload_n 2, 1) := by decide +kernel
theorem dX11_lesson_3 : decode cX11_lesson 3 = .ok (.invokevirtual 191, 3) := by decide +kernel
theorem dX11_lesson_6 : decode cX11_lesson 6 = .ok (.istore 4, 2) := by decide +kernel
theorem dX11_lesson_8 : decode cX11_lesson 8 = .ok (.iload 4, 2) := by decide +kernel
theorem dX11_lesson_10 : decode cX11_lesson 10 = .ok (.ifCond .eq 6, 3) := by decide +kernel
theorem dX11_lesson_13 : decode cX11_lesson 13 = .ok (.iload 4, 2) := by decide +kernel
theorem dX11_lesson_15 : decode cX11_lesson 15 = .ok (.ireturn, 1) := by decide +kernel
theorem dX11_spoilt_0 : decode cX11_spoilt 0 = .ok (.aload_n 0, 1) := by decide +kernel
theorem dX11_spoilt_1 : decode cX11_spoilt 1 = .ok (.iload_n 1, 1) := by decide +kernel
theorem dX11_spoilt_2 : decode cX11_spoilt 2 = .ok (.iload_n 2, 1) := by decide +kernel
theorem dX11_spoilt_3 : decode cX11_spoilt 3 = .ok (.invokevirtual 191, 3) := by decide +kernel
theorem dX11_spoilt_6 : decode cX11_spoilt 6 = .ok (.istore_n 3, 1) := by decide +kernel
theorem dX11_spoilt_7 : decode cX11_spoilt 7 = .ok (.iload_n 3, 1) := by decide +kernel
theorem dX11_spoilt_8 : decode cX11_spoilt 8 = .ok (.ifCond .eq 5, 3) := by decide +kernel
theorem dX11_spoilt_11 : decode cX11_spoilt 11 = .ok (.iload_n 3, 1) := by decide +kernel
theorem dX11_spoilt_12 : decode cX11_spoilt 12 = .ok (.ireturn, 1) := by decide +kernel
theorem dX11_route_0 : decode cX11_route 0 = .ok (.aload_n 0, 1) := by decide +kernel
theorem dX11_route_1 : decode cX11_route 1 = .ok (.iload_n 1, 1) := by decide +kernel
theorem dX11_route_2 : decode cX11_route 2 = .ok (.iload_n 2, 1) := by decide +kernel
theorem dX11_route_3 : decode cX11_route 3 = .ok (.invokevirtual 236, 3) := by decide +kernel
theorem dX11_route_6 : decode cX11_route 6 = .ok (.ifCond .eq 20, 3) := by decide +kernel
theorem dX11_route_26 : decode cX11_route 26 = .ok (.bipush (-2), 2) := by decide +kernel
theorem dX11_route_28 : decode cX11_route 28 = .ok (.ireturn, 1) := by decide +kernel
theorem dX11_dark_0 : decode cX11_dark 0 = .ok (.aload_n 0, 1) := by decide +kernel
theorem dX11_dark_1 : decode cX11_dark 1 = .ok (.iload_n 1, 1) := by decide +kernel
theorem dX11_dark_2 : decode cX11_dark 2 = .ok (.iload_n 2, 1) := by decide +kernel
theorem dX11_dark_3 : decode cX11_dark 3 = .ok (.invokevirtual 236, 3) := by decide +kernel
theorem dX11_dark_6 : decode cX11_dark 6 = .ok (.ifCond .ne 6, 3) := by decide +kernel
theorem dX11_dark_9 : decode cX11_dark 9 = .ok (.bipush (-2), 2) := by decide +kernel
theorem dX11_dark_11 : decode cX11_dark 11 = .ok (.ireturn, 1) := by decide +kernel
theorem dX11_detour_0 : decode cX11_detour 0 = .ok (.aload_n 0, 1) := by decide +kernel
theorem dX11_detour_1 : decode cX11_detour 1 = .ok (.iload_n 1, 1) := by decide +kernel
theorem dX11_detour_2 : decode cX11_detour 2 = .ok (.iload_n 2, 1) := by decide +kernel
theorem dX11_detour_3 : decode cX11_detour 3 = .ok (.invokevirtual 236, 3) := by decide +kernel
theorem dX11_detour_6 : decode cX11_detour 6 = .ok (.ifCond .ne 6, 3) := by decide +kernel
theorem dX11_detour_9 : decode cX11_detour 9 = .ok (.bipush (-2), 2) := by decide +kernel
theorem dX11_detour_11 : decode cX11_detour 11 = .ok (.ireturn, 1) := by decide +kernel
theorem dX11_fog_0 : decode cX11_fog 0 = .ok (.aload_n 0, 1) := by decide +kernel
theorem dX11_fog_1 : decode cX11_fog 1 = .ok (.iload_n 1, 1) := by decide +kernel
theorem dX11_fog_2 : decode cX11_fog 2 = .ok (.iload_n 2, 1) := by decide +kernel
theorem dX11_fog_3 : decode cX11_fog 3 = .ok (.invokevirtual 236, 3) := by decide +kernel
theorem dX11_fog_6 : decode cX11_fog 6 = .ok (.ifCond .eq 21, 3) := by decide +kernel
theorem dX11_fog_27 : decode cX11_fog 27 = .ok (.bipush (-2), 2) := by decide +kernel
theorem dX11_fog_29 : decode cX11_fog 29 = .ok (.ireturn, 1) := by decide +kernel
theorem dX11_likely_0 : decode cX11_likely 0 = .ok (.aload_n 0, 1) := by decide +kernel
theorem dX11_likely_1 : decode cX11_likely 1 = .ok (.getfield 19, 3) := by decide +kernel
theorem dX11_likely_4 : decode cX11_likely 4 = .ok (.iload_n 1, 1) := by decide +kernel
theorem dX11_likely_5 : decode cX11_likely 5 = .ok (.invokevirtual 126, 3) := by decide +kernel
theorem dX11_likely_8 : decode cX11_likely 8 = .ok (.ifCond .eq 10, 3) := by decide +kernel
theorem dX11_likely_18 : decode cX11_likely 18 = .ok (.bipush (-2), 2) := by decide +kernel
theorem dX11_likely_20 : decode cX11_likely 20 = .ok (.ireturn, 1) := by decide +kernel
theorem dX11_can_0 : decode cX11_can 0 = .ok (.aload_n 0, 1) := by decide +kernel
theorem dX11_can_1 : decode cX11_can 1 = .ok (.getfield 19, 3) := by decide +kernel
theorem dX11_can_4 : decode cX11_can 4 = .ok (.iload_n 1, 1) := by decide +kernel
theorem dX11_can_5 : decode cX11_can 5 = .ok (.invokevirtual 126, 3) := by decide +kernel
theorem dX11_can_8 : decode cX11_can 8 = .ok (.ifCond .eq 19, 3) := by decide +kernel
theorem dX11_can_27 : decode cX11_can 27 = .ok (.bipush (-2), 2) := by decide +kernel
theorem dX11_can_29 : decode cX11_can 29 = .ok (.ireturn, 1) := by decide +kernel
theorem dX11_lead_0 : decode cX11_lead 0 = .ok (.aload_n 0, 1) := by decide +kernel
theorem dX11_lead_1 : decode cX11_lead 1 = .ok (.iload_n 1, 1) := by decide +kernel
theorem dX11_lead_2 : decode cX11_lead 2 = .ok (.iload_n 3, 1) := by decide +kernel
theorem dX11_lead_3 : decode cX11_lead 3 = .ok (.invokevirtual 236, 3) := by decide +kernel
theorem dX11_lead_6 : decode cX11_lead 6 = .ok (.ifCond .eq 10, 3) := by decide +kernel
theorem dX11_lead_16 : decode cX11_lead 16 = .ok (.bipush (-2), 2) := by decide +kernel
theorem dX11_lead_18 : decode cX11_lead 18 = .ok (.ireturn, 1) := by decide +kernel
theorem dX11_marks_0 : decode cX11_marks 0 = .ok (.aload_n 0, 1) := by decide +kernel
theorem dX11_marks_1 : decode cX11_marks 1 = .ok (.getfield 19, 3) := by decide +kernel
theorem dX11_marks_4 : decode cX11_marks 4 = .ok (.iload_n 1, 1) := by decide +kernel
theorem dX11_marks_5 : decode cX11_marks 5 = .ok (.invokevirtual 126, 3) := by decide +kernel
theorem dX11_marks_8 : decode cX11_marks 8 = .ok (.ifCond .eq 10, 3) := by decide +kernel
theorem dX11_marks_18 : decode cX11_marks 18 = .ok (.bipush (-2), 2) := by decide +kernel
theorem dX11_marks_20 : decode cX11_marks 20 = .ok (.ireturn, 1) := by decide +kernel
theorem dX11_drawn_0 : decode cX11_drawn 0 = .ok (.iload_n 1, 1) := by decide +kernel
theorem dX11_drawn_1 : decode cX11_drawn 1 = .ok (.iload_n 3, 1) := by decide +kernel
theorem dX11_drawn_2 : decode cX11_drawn 2 = .ok (.invokestatic 328, 3) := by decide +kernel
theorem dX11_drawn_5 : decode cX11_drawn 5 = .ok (.ifCond .eq 22, 3) := by decide +kernel
theorem dX11_drawn_27 : decode cX11_drawn 27 = .ok (.bipush (-2), 2) := by decide +kernel
theorem dX11_drawn_29 : decode cX11_drawn 29 = .ok (.ireturn, 1) := by decide +kernel
theorem dX11_drawn_8 : decode cX11_drawn 8 = .ok (.iload 4, 2) := by decide +kernel
theorem dX11_drawn_10 : decode cX11_drawn 10 = .ok (.ifCond .lt 17, 3) := by decide +kernel
theorem dX11_drawn_13 : decode cX11_drawn 13 = .ok (.iload 4, 2) := by decide +kernel
theorem dX11_drawn_15 : decode cX11_drawn 15 = .ok (.iconst 2, 1) := by decide +kernel
theorem dX11_drawn_16 : decode cX11_drawn 16 = .ok (.if_icmp .gt 11, 3) := by decide +kernel
theorem dX11_drawn_19 : decode cX11_drawn 19 = .ok (.aload_n 0, 1) := by decide +kernel
theorem dX11_drawn_20 : decode cX11_drawn 20 = .ok (.iload_n 2, 1) := by decide +kernel
theorem dX11_drawn_21 : decode cX11_drawn 21 = .ok (.invokevirtual 152, 3) := by decide +kernel
theorem dX11_drawn_24 : decode cX11_drawn 24 = .ok (.ifCond .ne 6, 3) := by decide +kernel
theorem dX11_luck_0 : decode cX11_luck 0 = .ok (.iload_n 1, 1) := by decide +kernel
theorem dX11_luck_1 : decode cX11_luck 1 = .ok (.iload 4, 2) := by decide +kernel
theorem dX11_luck_3 : decode cX11_luck 3 = .ok (.invokestatic 328, 3) := by decide +kernel
theorem dX11_luck_6 : decode cX11_luck 6 = .ok (.ifCond .eq 25, 3) := by decide +kernel
theorem dX11_luck_31 : decode cX11_luck 31 = .ok (.bipush (-2), 2) := by decide +kernel
theorem dX11_luck_33 : decode cX11_luck 33 = .ok (.ireturn, 1) := by decide +kernel
theorem dX11_luck_9 : decode cX11_luck 9 = .ok (.iload_n 2, 1) := by decide +kernel
theorem dX11_luck_10 : decode cX11_luck 10 = .ok (.iconst 1, 1) := by decide +kernel
theorem dX11_luck_11 : decode cX11_luck 11 = .ok (.if_icmp .lt 20, 3) := by decide +kernel
theorem dX11_luck_14 : decode cX11_luck 14 = .ok (.iload_n 2, 1) := by decide +kernel
theorem dX11_luck_15 : decode cX11_luck 15 = .ok (.bipush 20, 2) := by decide +kernel
theorem dX11_luck_17 : decode cX11_luck 17 = .ok (.if_icmp .gt 14, 3) := by decide +kernel
theorem dX11_luck_20 : decode cX11_luck 20 = .ok (.aload_n 0, 1) := by decide +kernel
theorem dX11_luck_21 : decode cX11_luck 21 = .ok (.getfield 19, 3) := by decide +kernel
theorem dX11_luck_24 : decode cX11_luck 24 = .ok (.iload_n 3, 1) := by decide +kernel
theorem dX11_luck_25 : decode cX11_luck 25 = .ok (.invokevirtual 334, 3) := by decide +kernel
theorem dX11_luck_28 : decode cX11_luck 28 = .ok (.ifCond .ne 6, 3) := by decide +kernel
theorem dX11_fault_0 : decode cX11_fault 0 = .ok (.iload_n 1, 1) := by decide +kernel
theorem dX11_fault_1 : decode cX11_fault 1 = .ok (.ifCond .ne 11, 3) := by decide +kernel
theorem dX11_fault_12 : decode cX11_fault 12 = .ok (.iload_n 1, 1) := by decide +kernel
theorem dX11_fault_13 : decode cX11_fault 13 = .ok (.iconst 1, 1) := by decide +kernel
theorem dX11_fault_14 : decode cX11_fault 14 = .ok (.if_icmp .ne 13, 3) := by decide +kernel
theorem dX11_fault_27 : decode cX11_fault 27 = .ok (.iconst (-1), 1) := by decide +kernel
theorem dX11_fault_28 : decode cX11_fault 28 = .ok (.ireturn, 1) := by decide +kernel
theorem dX11_fault_17 : decode cX11_fault 17 = .ok (.aload_n 0, 1) := by decide +kernel
theorem dX11_fault_18 : decode cX11_fault 18 = .ok (.getfield 12, 3) := by decide +kernel
theorem dX11_fault_21 : decode cX11_fault 21 = .ok (.getfield 123, 3) := by decide +kernel
theorem dX11_fault_24 : decode cX11_fault 24 = .ok (.goto 4, 3) := by decide +kernel
theorem dX11_fault_4 : decode cX11_fault 4 = .ok (.aload_n 0, 1) := by decide +kernel
theorem dX11_fault_5 : decode cX11_fault 5 = .ok (.getfield 12, 3) := by decide +kernel
theorem dX11_fault_8 : decode cX11_fault 8 = .ok (.getfield 120, 3) := by decide +kernel
theorem dX11_fault_11 : decode cX11_fault 11 = .ok (.ireturn, 1) := by decide +kernel
theorem dX11_count_0 : decode cX11_count 0 = .ok (.iload_n 1, 1) := by decide +kernel
theorem dX11_count_1 : decode cX11_count 1 = .ok (.tableswitch 126 0 8 #[51, 59, 67, 78, 86, 94, 102, 110, 118], 51) := by decide +kernel
theorem dX11_count_52 : decode cX11_count 52 = .ok (.aload_n 0, 1) := by decide +kernel
theorem dX11_count_53 : decode cX11_count 53 = .ok (.getfield 19, 3) := by decide +kernel
theorem dX11_count_56 : decode cX11_count 56 = .ok (.getfield 233, 3) := by decide +kernel
theorem dX11_count_59 : decode cX11_count 59 = .ok (.ireturn, 1) := by decide +kernel
theorem dX11_count_60 : decode cX11_count 60 = .ok (.aload_n 0, 1) := by decide +kernel
theorem dX11_count_61 : decode cX11_count 61 = .ok (.getfield 19, 3) := by decide +kernel
theorem dX11_count_64 : decode cX11_count 64 = .ok (.invokevirtual 337, 3) := by decide +kernel
theorem dX11_count_67 : decode cX11_count 67 = .ok (.ireturn, 1) := by decide +kernel
theorem dX11_count_68 : decode cX11_count 68 = .ok (.aload_n 0, 1) := by decide +kernel
theorem dX11_count_69 : decode cX11_count 69 = .ok (.getfield 19, 3) := by decide +kernel
theorem dX11_count_72 : decode cX11_count 72 = .ok (.invokevirtual 340, 3) := by decide +kernel
theorem dX11_count_75 : decode cX11_count 75 = .ok (.invokestatic 251, 3) := by decide +kernel
theorem dX11_count_78 : decode cX11_count 78 = .ok (.ireturn, 1) := by decide +kernel
theorem dX11_count_79 : decode cX11_count 79 = .ok (.aload_n 0, 1) := by decide +kernel
theorem dX11_count_80 : decode cX11_count 80 = .ok (.getfield 19, 3) := by decide +kernel
theorem dX11_count_83 : decode cX11_count 83 = .ok (.getfield 343, 3) := by decide +kernel
theorem dX11_count_86 : decode cX11_count 86 = .ok (.ireturn, 1) := by decide +kernel
theorem dX11_count_87 : decode cX11_count 87 = .ok (.aload_n 0, 1) := by decide +kernel
theorem dX11_count_88 : decode cX11_count 88 = .ok (.getfield 19, 3) := by decide +kernel
theorem dX11_count_91 : decode cX11_count 91 = .ok (.getfield 291, 3) := by decide +kernel
theorem dX11_count_94 : decode cX11_count 94 = .ok (.ireturn, 1) := by decide +kernel
theorem dX11_count_95 : decode cX11_count 95 = .ok (.aload_n 0, 1) := by decide +kernel
