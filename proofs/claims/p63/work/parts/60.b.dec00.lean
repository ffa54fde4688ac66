theorem dX12_depthSplit_0 : decode cX12_depthSplit 0 = .ok (.iconst 0, 1) := by decide +kernel
theorem dX12_depthSplit_1 : decode cX12_depthSplit 1 = .ok (.istore_n 2, 1) := by decide +kernel
theorem dX12_depthSplit_2 : decode cX12_depthSplit 2 = .ok (.iconst 0, 1) := by decide +kernel
theorem dX12_depthSplit_3 : decode cX12_depthSplit 3 = .ok (.istore_n 3, 1) := by decide +kernel
theorem dX12_depthSplit_4 : decode cX12_depthSplit 4 = .ok (.iload_n 3, 1) := by decide +kernel
theorem dX12_depthSplit_5 : decode cX12_depthSplit 5 = .ok (.bipush 9, 2) := by decide +kernel
theorem dX12_depthSplit_7 : decode cX12_depthSplit 7 = .ok (.if_icmp .gt 38, 3) := by decide +kernel
theorem dX12_depthSplit_45 : decode cX12_depthSplit 45 = .ok (.iload_n 2, 1) := by decide +kernel
theorem dX12_depthSplit_46 : decode cX12_depthSplit 46 = .ok (.ireturn, 1) := by decide +kernel
theorem dX12_depthSplit_10 : decode cX12_depthSplit 10 = .ok (.iload_n 2, 1) := by decide +kernel
theorem dX12_depthSplit_11 : decode cX12_depthSplit 11 = .ok (.aload_n 0, 1) := by decide +kernel
theorem dX12_depthSplit_12 : decode cX12_depthSplit 12 = .ok (.iload_n 1, 1) := by decide +kernel
theorem dX12_depthSplit_13 : decode cX12_depthSplit 13 = .ok (.iload_n 3, 1) := by decide +kernel
theorem dX12_depthSplit_14 : decode cX12_depthSplit 14 = .ok (.invokevirtual 291, 3) := by decide +kernel
theorem dX12_depthSplit_17 : decode cX12_depthSplit 17 = .ok (.ifCond .ne 7, 3) := by decide +kernel
theorem dX12_depthSplit_24 : decode cX12_depthSplit 24 = .ok (.aload_n 0, 1) := by decide +kernel
theorem dX12_depthSplit_25 : decode cX12_depthSplit 25 = .ok (.getfield 46, 3) := by decide +kernel
theorem dX12_depthSplit_28 : decode cX12_depthSplit 28 = .ok (.aload_n 0, 1) := by decide +kernel
theorem dX12_depthSplit_29 : decode cX12_depthSplit 29 = .ok (.iload_n 1, 1) := by decide +kernel
theorem dX12_depthSplit_30 : decode cX12_depthSplit 30 = .ok (.iload_n 3, 1) := by decide +kernel
theorem dX12_depthSplit_31 : decode cX12_depthSplit 31 = .ok (.invokevirtual 291, 3) := by decide +kernel
theorem dX12_depthSplit_34 : decode cX12_depthSplit 34 = .ok (.iaload, 1) := by decide +kernel
theorem dX12_depthSplit_35 : decode cX12_depthSplit 35 = .ok (.invokestatic 328, 3) := by decide +kernel
theorem dX12_depthSplit_38 : decode cX12_depthSplit 38 = .ok (.istore_n 2, 1) := by decide +kernel
theorem dX12_depthSplit_39 : decode cX12_depthSplit 39 = .ok (.iinc 3 1, 3) := by decide +kernel
theorem dX12_depthSplit_42 : decode cX12_depthSplit 42 = .ok (.goto (-38), 3) := by decide +kernel
theorem dX12_depthSplit_20 : decode cX12_depthSplit 20 = .ok (.iconst 0, 1) := by decide +kernel
theorem dX12_depthSplit_21 : decode cX12_depthSplit 21 = .ok (.goto 14, 3) := by decide +kernel
theorem dX12_fillDepths_0 : decode cX12_fillDepths 0 = .ok (.iconst 0, 1) := by decide +kernel
theorem dX12_fillDepths_1 : decode cX12_fillDepths 1 = .ok (.istore_n 1, 1) := by decide +kernel
theorem dX12_fillDepths_2 : decode cX12_fillDepths 2 = .ok (.iload_n 1, 1) := by decide +kernel
theorem dX12_fillDepths_3 : decode cX12_fillDepths 3 = .ok (.sipush 1024, 3) := by decide +kernel
theorem dX12_fillDepths_6 : decode cX12_fillDepths 6 = .ok (.if_icmp .ge 30, 3) := by decide +kernel
theorem dX12_fillDepths_36 : decode cX12_fillDepths 36 = .ok (.iconst 1, 1) := by decide +kernel
theorem dX12_fillDepths_37 : decode cX12_fillDepths 37 = .ok (.istore_n 1, 1) := by decide +kernel
theorem dX12_fillDepths_38 : decode cX12_fillDepths 38 = .ok (.iconst 1, 1) := by decide +kernel
theorem dX12_fillDepths_39 : decode cX12_fillDepths 39 = .ok (.istore_n 2, 1) := by decide +kernel
theorem dX12_fillDepths_40 : decode cX12_fillDepths 40 = .ok (.iload_n 1, 1) := by decide +kernel
theorem dX12_fillDepths_41 : decode cX12_fillDepths 41 = .ok (.ifCond .eq 106, 3) := by decide +kernel
theorem dX12_fillDepths_147 : decode cX12_fillDepths 147 = .ok (.return_, 1) := by decide +kernel
theorem dX12_fillDepths_44 : decode cX12_fillDepths 44 = .ok (.iconst 0, 1) := by decide +kernel
theorem dX12_fillDepths_45 : decode cX12_fillDepths 45 = .ok (.istore_n 1, 1) := by decide +kernel
theorem dX12_fillDepths_46 : decode cX12_fillDepths 46 = .ok (.iconst 1, 1) := by decide +kernel
theorem dX12_fillDepths_47 : decode cX12_fillDepths 47 = .ok (.istore_n 3, 1) := by decide +kernel
theorem dX12_fillDepths_48 : decode cX12_fillDepths 48 = .ok (.iload_n 3, 1) := by decide +kernel
theorem dX12_fillDepths_49 : decode cX12_fillDepths 49 = .ok (.aload_n 0, 1) := by decide +kernel
theorem dX12_fillDepths_50 : decode cX12_fillDepths 50 = .ok (.invokevirtual 129, 3) := by decide +kernel
theorem dX12_fillDepths_53 : decode cX12_fillDepths 53 = .ok (.if_icmp .gt 88, 3) := by decide +kernel
theorem dX12_fillDepths_141 : decode cX12_fillDepths 141 = .ok (.iinc 2 1, 3) := by decide +kernel
theorem dX12_fillDepths_144 : decode cX12_fillDepths 144 = .ok (.goto (-104), 3) := by decide +kernel
theorem dX12_fillDepths_56 : decode cX12_fillDepths 56 = .ok (.aload_n 0, 1) := by decide +kernel
theorem dX12_fillDepths_57 : decode cX12_fillDepths 57 = .ok (.getfield 46, 3) := by decide +kernel
theorem dX12_fillDepths_60 : decode cX12_fillDepths 60 = .ok (.iload_n 3, 1) := by decide +kernel
theorem dX12_fillDepths_61 : decode cX12_fillDepths 61 = .ok (.iaload, 1) := by decide +kernel
theorem dX12_fillDepths_62 : decode cX12_fillDepths 62 = .ok (.ldc_w 380, 3) := by decide +kernel
theorem dX12_fillDepths_65 : decode cX12_fillDepths 65 = .ok (.if_icmp .eq 6, 3) := by decide +kernel
theorem dX12_fillDepths_71 : decode cX12_fillDepths 71 = .ok (.iconst 0, 1) := by decide +kernel
theorem dX12_fillDepths_72 : decode cX12_fillDepths 72 = .ok (.istore 4, 2) := by decide +kernel
theorem dX12_fillDepths_74 : decode cX12_fillDepths 74 = .ok (.iconst 0, 1) := by decide +kernel
theorem dX12_fillDepths_75 : decode cX12_fillDepths 75 = .ok (.istore 5, 2) := by decide +kernel
theorem dX12_fillDepths_77 : decode cX12_fillDepths 77 = .ok (.iload 5, 2) := by decide +kernel
theorem dX12_fillDepths_79 : decode cX12_fillDepths 79 = .ok (.iconst 4, 1) := by decide +kernel
theorem dX12_fillDepths_80 : decode cX12_fillDepths 80 = .ok (.if_icmp .ge 38, 3) := by decide +kernel
theorem dX12_fillDepths_118 : decode cX12_fillDepths 118 = .ok (.iload 4, 2) := by decide +kernel
theorem dX12_fillDepths_120 : decode cX12_fillDepths 120 = .ok (.ifCond .ne 6, 3) := by decide +kernel
theorem dX12_fillDepths_126 : decode cX12_fillDepths 126 = .ok (.aload_n 0, 1) := by decide +kernel
theorem dX12_fillDepths_127 : decode cX12_fillDepths 127 = .ok (.getfield 46, 3) := by decide +kernel
theorem dX12_fillDepths_130 : decode cX12_fillDepths 130 = .ok (.iload_n 3, 1) := by decide +kernel
theorem dX12_fillDepths_131 : decode cX12_fillDepths 131 = .ok (.iload_n 2, 1) := by decide +kernel
theorem dX12_fillDepths_132 : decode cX12_fillDepths 132 = .ok (.iastore, 1) := by decide +kernel
theorem dX12_fillDepths_133 : decode cX12_fillDepths 133 = .ok (.iconst 1, 1) := by decide +kernel
theorem dX12_fillDepths_134 : decode cX12_fillDepths 134 = .ok (.istore_n 1, 1) := by decide +kernel
theorem dX12_fillDepths_135 : decode cX12_fillDepths 135 = .ok (.iinc 3 1, 3) := by decide +kernel
theorem dX12_fillDepths_138 : decode cX12_fillDepths 138 = .ok (.goto (-90), 3) := by decide +kernel
theorem dX12_fillDepths_123 : decode cX12_fillDepths 123 = .ok (.goto 12, 3) := by decide +kernel
theorem dX12_fillDepths_83 : decode cX12_fillDepths 83 = .ok (.iload 4, 2) := by decide +kernel
theorem dX12_fillDepths_85 : decode cX12_fillDepths 85 = .ok (.ifCond .ne 33, 3) := by decide +kernel
theorem dX12_fillDepths_88 : decode cX12_fillDepths 88 = .ok (.aload_n 0, 1) := by decide +kernel
theorem dX12_fillDepths_89 : decode cX12_fillDepths 89 = .ok (.aload_n 0, 1) := by decide +kernel
theorem dX12_fillDepths_90 : decode cX12_fillDepths 90 = .ok (.iload_n 3, 1) := by decide +kernel
theorem dX12_fillDepths_91 : decode cX12_fillDepths 91 = .ok (.iload 5, 2) := by decide +kernel
theorem dX12_fillDepths_93 : decode cX12_fillDepths 93 = .ok (.invokevirtual 286, 3) := by decide +kernel
theorem dX12_fillDepths_96 : decode cX12_fillDepths 96 = .ok (.invokevirtual 381, 3) := by decide +kernel
theorem dX12_fillDepths_99 : decode cX12_fillDepths 99 = .ok (.iload_n 2, 1) := by decide +kernel
theorem dX12_fillDepths_100 : decode cX12_fillDepths 100 = .ok (.iconst 1, 1) := by decide +kernel
theorem dX12_fillDepths_101 : decode cX12_fillDepths 101 = .ok (.isub, 1) := by decide +kernel
theorem dX12_fillDepths_102 : decode cX12_fillDepths 102 = .ok (.if_icmp .gt 7, 3) := by decide +kernel
theorem dX12_fillDepths_109 : decode cX12_fillDepths 109 = .ok (.iconst 0, 1) := by decide +kernel
theorem dX12_fillDepths_110 : decode cX12_fillDepths 110 = .ok (.istore 4, 2) := by decide +kernel
theorem dX12_fillDepths_112 : decode cX12_fillDepths 112 = .ok (.iinc 5 1, 3) := by decide +kernel
theorem dX12_fillDepths_115 : decode cX12_fillDepths 115 = .ok (.goto (-38), 3) := by decide +kernel
theorem dX12_fillDepths_105 : decode cX12_fillDepths 105 = .ok (.iconst 1, 1) := by decide +kernel
theorem dX12_fillDepths_106 : decode cX12_fillDepths 106 = .ok (.goto 4, 3) := by decide +kernel
theorem dX12_fillDepths_68 : decode cX12_fillDepths 68 = .ok (.goto 67, 3) := by decide +kernel
theorem dX12_fillDepths_9 : decode cX12_fillDepths 9 = .ok (.aload_n 0, 1) := by decide +kernel
theorem dX12_fillDepths_10 : decode cX12_fillDepths 10 = .ok (.getfield 46, 3) := by decide +kernel
theorem dX12_fillDepths_13 : decode cX12_fillDepths 13 = .ok (.iload_n 1, 1) := by decide +kernel
theorem dX12_fillDepths_14 : decode cX12_fillDepths 14 = .ok (.iload_n 1, 1) := by decide +kernel
theorem dX12_fillDepths_15 : decode cX12_fillDepths 15 = .ok (.invokestatic 316, 3) := by decide +kernel
theorem dX12_fillDepths_18 : decode cX12_fillDepths 18 = .ok (.iconst 1, 1) := by decide +kernel
theorem dX12_fillDepths_19 : decode cX12_fillDepths 19 = .ok (.if_icmp .gt 7, 3) := by decide +kernel
theorem dX12_fillDepths_26 : decode cX12_fillDepths 26 = .ok (.ldc_w 380, 3) := by decide +kernel
theorem dX12_fillDepths_29 : decode cX12_fillDepths 29 = .ok (.iastore, 1) := by decide +kernel
theorem dX12_fillDepths_30 : decode cX12_fillDepths 30 = .ok (.iinc 1 1, 3) := by decide +kernel
theorem dX12_fillDepths_33 : decode cX12_fillDepths 33 = .ok (.goto (-31), 3) := by decide +kernel
theorem dX12_fillDepths_22 : decode cX12_fillDepths 22 = .ok (.iconst 0, 1) := by decide +kernel
theorem dX12_fillDepths_23 : decode cX12_fillDepths 23 = .ok (.goto 6, 3) := by decide +kernel
theorem dX12_plan_0 : decode cX12_plan 0 = .ok (.aload_n 0, 1) := by decide +kernel
theorem dX12_plan_1 : decode cX12_plan 1 = .ok (.iload_n 1, 1) := by decide +kernel
theorem dX12_plan_2 : decode cX12_plan 2 = .ok (.invokevirtual 282, 3) := by decide +kernel
theorem dX12_plan_5 : decode cX12_plan 5 = .ok (.ifCond .ne 6, 3) := by decide +kernel
theorem dX12_plan_8 : decode cX12_plan 8 = .ok (.bipush (-2), 2) := by decide +kernel
theorem dX12_plan_10 : decode cX12_plan 10 = .ok (.ireturn, 1) := by decide +kernel
theorem dX12_plan_11 : decode cX12_plan 11 = .ok (.aload_n 0, 1) := by decide +kernel
theorem dX12_plan_12 : decode cX12_plan 12 = .ok (.invokevirtual 384, 3) := by decide +kernel
theorem dX12_plan_15 : decode cX12_plan 15 = .ok (.aload_n 0, 1) := by decide +kernel
theorem dX12_plan_16 : decode cX12_plan 16 = .ok (.iload_n 1, 1) := by decide +kernel
theorem dX12_plan_17 : decode cX12_plan 17 = .ok (.invokevirtual 381, 3) := by decide +kernel
theorem dX12_plan_20 : decode cX12_plan 20 = .ok (.istore_n 2, 1) := by decide +kernel
theorem dX12_plan_21 : decode cX12_plan 21 = .ok (.iload_n 2, 1) := by decide +kernel
theorem dX12_plan_22 : decode cX12_plan 22 = .ok (.ldc_w 380, 3) := by decide +kernel
theorem dX12_plan_25 : decode cX12_plan 25 = .ok (.if_icmp .ne 7, 3) := by decide +kernel
theorem dX12_plan_32 : decode cX12_plan 32 = .ok (.iload_n 2, 1) := by decide +kernel
theorem dX12_plan_33 : decode cX12_plan 33 = .ok (.ireturn, 1) := by decide +kernel
theorem dX12_plan_28 : decode cX12_plan 28 = .ok (.iconst (-1), 1) := by decide +kernel
theorem dX12_plan_29 : decode cX12_plan 29 = .ok (.goto 4, 3) := by decide +kernel
theorem dX12_areLike_0 : decode cX12_areLike 0 = .ok (.iconst 0, 1) := by decide +kernel
theorem dX12_areLike_1 : decode cX12_areLike 1 = .ok (.istore_n 2, 1) := by decide +kernel
theorem dX12_areLike_2 : decode cX12_areLike 2 = .ok (.iload_n 2, 1) := by decide +kernel
theorem dX12_areLike_3 : decode cX12_areLike 3 = .ok (.bipush 9, 2) := by decide +kernel
theorem dX12_areLike_5 : decode cX12_areLike 5 = .ok (.if_icmp .gt 21, 3) := by decide +kernel
theorem dX12_areLike_26 : decode cX12_areLike 26 = .ok (.iconst 0, 1) := by decide +kernel
theorem dX12_areLike_27 : decode cX12_areLike 27 = .ok (.ireturn, 1) := by decide +kernel
theorem dX12_areLike_8 : decode cX12_areLike 8 = .ok (.aload_n 0, 1) := by decide +kernel
theorem dX12_areLike_9 : decode cX12_areLike 9 = .ok (.iload_n 1, 1) := by decide +kernel
theorem dX12_areLike_10 : decode cX12_areLike 10 = .ok (.iload_n 2, 1) := by decide +kernel
theorem dX12_areLike_11 : decode cX12_areLike 11 = .ok (.invokevirtual 291, 3) := by decide +kernel
theorem dX12_areLike_14 : decode cX12_areLike 14 = .ok (.iload_n 1, 1) := by decide +kernel
theorem dX12_areLike_15 : decode cX12_areLike 15 = .ok (.if_icmp .ne 5, 3) := by decide +kernel
theorem dX12_areLike_20 : decode cX12_areLike 20 = .ok (.iinc 2 1, 3) := by decide +kernel
theorem dX12_areLike_23 : decode cX12_areLike 23 = .ok (.goto (-21), 3) := by decide +kernel
theorem dX12_areLike_18 : decode cX12_areLike 18 = .ok (.iconst 1, 1) := by decide +kernel
theorem dX12_areLike_19 : decode cX12_areLike 19 = .ok (.ireturn, 1) := by decide +kernel
theorem dX12_first_0 : decode cX12_first 0 = .ok (.aload_n 0, 1) := by decide +kernel
theorem dX12_first_1 : decode cX12_first 1 = .ok (.iload_n 1, 1) := by decide +kernel
theorem dX12_first_2 : decode cX12_first 2 = .ok (.invokevirtual 282, 3) := by decide +kernel
theorem dX12_first_5 : decode cX12_first 5 = .ok (.ifCond .ne 6, 3) := by decide +kernel
theorem dX12_first_8 : decode cX12_first 8 = .ok (.bipush (-2), 2) := by decide +kernel
theorem dX12_first_10 : decode cX12_first 10 = .ok (.ireturn, 1) := by decide +kernel
theorem dX12_first_11 : decode cX12_first 11 = .ok (.aload_n 0, 1) := by decide +kernel
theorem dX12_first_12 : decode cX12_first 12 = .ok (.invokevirtual 384, 3) := by decide +kernel
theorem dX12_first_15 : decode cX12_first 15 = .ok (.aload_n 0, 1) := by decide +kernel
theorem dX12_first_16 : decode cX12_first 16 = .ok (.iload_n 1, 1) := by decide +kernel
theorem dX12_first_17 : decode cX12_first 17 = .ok (.invokevirtual 387, 3) := by decide +kernel
theorem dX12_first_20 : decode cX12_first 20 = .ok (.ifCond .eq 24, 3) := by decide +kernel
theorem dX12_first_44 : decode cX12_first 44 = .ok (.iconst (-1), 1) := by decide +kernel
theorem dX12_first_45 : decode cX12_first 45 = .ok (.ireturn, 1) := by decide +kernel
theorem dX12_first_23 : decode cX12_first 23 = .ok (.aload_n 0, 1) := by decide +kernel
theorem dX12_first_24 : decode cX12_first 24 = .ok (.getfield 46, 3) := by decide +kernel
theorem dX12_first_27 : decode cX12_first 27 = .ok (.iload_n 1, 1) := by decide +kernel
theorem dX12_first_28 : decode cX12_first 28 = .ok (.iaload, 1) := by decide +kernel
theorem dX12_first_29 : decode cX12_first 29 = .ok (.ifCond .eq 15, 3) := by decide +kernel
theorem dX12_first_32 : decode cX12_first 32 = .ok (.aload_n 0, 1) := by decide +kernel
theorem dX12_first_33 : decode cX12_first 33 = .ok (.getfield 46, 3) := by decide +kernel
theorem dX12_first_36 : decode cX12_first 36 = .ok (.iload_n 1, 1) := by decide +kernel
theorem dX12_first_37 : decode cX12_first 37 = .ok (.iaload, 1) := by decide +kernel
theorem dX12_first_38 : decode cX12_first 38 = .ok (.ldc_w 380, 3) := by decide +kernel
theorem dX12_first_41 : decode cX12_first 41 = .ok (.if_icmp .ne 5, 3) := by decide +kernel
theorem dX12_first_46 : decode cX12_first 46 = .ok (.iconst 0, 1) := by decide +kernel
theorem dX12_first_47 : decode cX12_first 47 = .ok (.istore_n 2, 1) := by decide +kernel
theorem dX12_first_48 : decode cX12_first 48 = .ok (.aload_n 0, 1) := by decide +kernel
theorem dX12_first_49 : decode cX12_first 49 = .ok (.aload_n 0, 1) := by decide +kernel
theorem dX12_first_50 : decode cX12_first 50 = .ok (.iload_n 1, 1) := by decide +kernel
theorem dX12_first_51 : decode cX12_first 51 = .ok (.iload_n 2, 1) := by decide +kernel
theorem dX12_first_52 : decode cX12_first 52 = .ok (.invokevirtual 286, 3) := by decide +kernel
theorem dX12_first_55 : decode cX12_first 55 = .ok (.invokevirtual 381, 3) := by decide +kernel
theorem dX12_first_58 : decode cX12_first 58 = .ok (.aload_n 0, 1) := by decide +kernel
theorem dX12_first_59 : decode cX12_first 59 = .ok (.getfield 46, 3) := by decide +kernel
theorem dX12_first_62 : decode cX12_first 62 = .ok (.iload_n 1, 1) := by decide +kernel
theorem dX12_first_63 : decode cX12_first 63 = .ok (.iaload, 1) := by decide +kernel
theorem dX12_first_64 : decode cX12_first 64 = .ok (.iconst 1, 1) := by decide +kernel
theorem dX12_first_65 : decode cX12_first 65 = .ok (.isub, 1) := by decide +kernel
theorem dX12_first_66 : decode cX12_first 66 = .ok (.if_icmp .eq 9, 3) := by decide +kernel
theorem dX12_first_75 : decode cX12_first 75 = .ok (.iload_n 2, 1) := by decide +kernel
theorem dX12_first_76 : decode cX12_first 76 = .ok (.ireturn, 1) := by decide +kernel
theorem dX12_first_69 : decode cX12_first 69 = .ok (.iinc 2 1, 3) := by decide +kernel
theorem dX12_first_72 : decode cX12_first 72 = .ok (.goto (-24), 3) := by decide +kernel
theorem dX12_hardest_0 : decode cX12_hardest 0 = .ok (.aload_n 0, 1) := by decide +kernel
theorem dX12_hardest_1 : decode cX12_hardest 1 = .ok (.invokevirtual 125, 3) := by decide +kernel
theorem dX12_hardest_4 : decode cX12_hardest 4 = .ok (.ifCond .ne 6, 3) := by decide +kernel
theorem dX12_hardest_7 : decode cX12_hardest 7 = .ok (.bipush (-2), 2) := by decide +kernel
theorem dX12_hardest_9 : decode cX12_hardest 9 = .ok (.ireturn, 1) := by decide +kernel
theorem dX12_hardest_10 : decode cX12_hardest 10 = .ok (.aload_n 0, 1) := by decide +kernel
theorem dX12_hardest_11 : decode cX12_hardest 11 = .ok (.invokevirtual 384, 3) := by decide +kernel
theorem dX12_hardest_14 : decode cX12_hardest 14 = .ok (.iconst (-1), 1) := by decide +kernel
theorem dX12_hardest_15 : decode cX12_hardest 15 = .ok (.istore_n 1, 1) := by decide +kernel
theorem dX12_hardest_16 : decode cX12_hardest 16 = .ok (.iconst 0, 1) := by decide +kernel
theorem dX12_hardest_17 : decode cX12_hardest 17 = .ok (.istore_n 2, 1) := by decide +kernel
theorem dX12_hardest_18 : decode cX12_hardest 18 = .ok (.iload_n 2, 1) := by decide +kernel
theorem dX12_hardest_19 : decode cX12_hardest 19 = .ok (.aload_n 0, 1) := by decide +kernel
theorem dX12_hardest_20 : decode cX12_hardest 20 = .ok (.getfield 9, 3) := by decide +kernel
theorem dX12_hardest_23 : decode cX12_hardest 23 = .ok (.iconst 0, 1) := by decide +kernel
theorem dX12_hardest_24 : decode cX12_hardest 24 = .ok (.iaload, 1) := by decide +kernel
theorem dX12_hardest_25 : decode cX12_hardest 25 = .ok (.if_icmp .ge 54, 3) := by decide +kernel
theorem dX12_hardest_79 : decode cX12_hardest 79 = .ok (.iload_n 1, 1) := by decide +kernel
theorem dX12_hardest_80 : decode cX12_hardest 80 = .ok (.ireturn, 1) := by decide +kernel
theorem dX12_hardest_28 : decode cX12_hardest 28 = .ok (.iconst 0, 1) := by decide +kernel
theorem dX12_hardest_29 : decode cX12_hardest 29 = .ok (.istore_n 3, 1) := by decide +kernel
theorem dX12_hardest_30 : decode cX12_hardest 30 = .ok (.iload_n 3, 1) := by decide +kernel
theorem dX12_hardest_31 : decode cX12_hardest 31 = .ok (.iload_n 2, 1) := by decide +kernel
theorem dX12_hardest_32 : decode cX12_hardest 32 = .ok (.if_icmp .ge 41, 3) := by decide +kernel
theorem dX12_hardest_73 : decode cX12_hardest 73 = .ok (.iinc 2 1, 3) := by decide +kernel
theorem dX12_hardest_76 : decode cX12_hardest 76 = .ok (.goto (-58), 3) := by decide +kernel
theorem dX12_hardest_35 : decode cX12_hardest 35 = .ok (.aload_n 0, 1) := by decide +kernel
theorem dX12_hardest_36 : decode cX12_hardest 36 = .ok (.iconst 1, 1) := by decide +kernel
theorem dX12_hardest_37 : decode cX12_hardest 37 = .ok (.iload_n 2, 1) := by decide +kernel
theorem dX12_hardest_38 : decode cX12_hardest 38 = .ok (.ishl, 1) := by decide +kernel
theorem dX12_hardest_39 : decode cX12_hardest 39 = .ok (.iconst 1, 1) := by decide +kernel
theorem dX12_hardest_40 : decode cX12_hardest 40 = .ok (.iload_n 3, 1) := by decide +kernel
theorem dX12_hardest_41 : decode cX12_hardest 41 = .ok (.ishl, 1) := by decide +kernel
theorem dX12_hardest_42 : decode cX12_hardest 42 = .ok (.ior, 1) := by decide +kernel
theorem dX12_hardest_43 : decode cX12_hardest 43 = .ok (.invokevirtual 381, 3) := by decide +kernel
theorem dX12_hardest_46 : decode cX12_hardest 46 = .ok (.istore 4, 2) := by decide +kernel
theorem dX12_hardest_48 : decode cX12_hardest 48 = .ok (.iload 4, 2) := by decide +kernel
theorem dX12_hardest_50 : decode cX12_hardest 50 = .ok (.ldc_w 380, 3) := by decide +kernel
theorem dX12_hardest_53 : decode cX12_hardest 53 = .ok (.if_icmp .ne 7, 3) := by decide +kernel
theorem dX12_hardest_60 : decode cX12_hardest 60 = .ok (.iload_n 1, 1) := by decide +kernel
theorem dX12_hardest_61 : decode cX12_hardest 61 = .ok (.iload 4, 2) := by decide +kernel
theorem dX12_hardest_63 : decode cX12_hardest 63 = .ok (.invokestatic 328, 3) := by decide +kernel
theorem dX12_hardest_66 : decode cX12_hardest 66 = .ok (.istore_n 1, 1) := by decide +kernel
theorem dX12_hardest_67 : decode cX12_hardest 67 = .ok (.iinc 3 1, 3) := by decide +kernel
theorem dX12_hardest_70 : decode cX12_hardest 70 = .ok (.goto (-40), 3) := by decide +kernel
theorem dX12_hardest_56 : decode cX12_hardest 56 = .ok (.iload_n 1, 1) := by decide +kernel
theorem dX12_hardest_57 : decode cX12_hardest 57 = .ok (.goto 9, 3) := by decide +kernel
