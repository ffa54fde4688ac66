theorem dX12_fillCosts_0 : decode cX12_fillCosts 0 = .ok (.iconst 0, 1) := by decide +kernel
theorem dX12_fillCosts_1 : decode cX12_fillCosts 1 = .ok (.istore_n 3, 1) := by decide +kernel
theorem dX12_fillCosts_2 : decode cX12_fillCosts 2 = .ok (.iload_n 3, 1) := by decide +kernel
theorem dX12_fillCosts_3 : decode cX12_fillCosts 3 = .ok (.bipush 10, 2) := by decide +kernel
theorem dX12_fillCosts_5 : decode cX12_fillCosts 5 = .ok (.if_icmp .ge 27, 3) := by decide +kernel
theorem dX12_fillCosts_32 : decode cX12_fillCosts 32 = .ok (.iconst 1, 1) := by decide +kernel
theorem dX12_fillCosts_33 : decode cX12_fillCosts 33 = .ok (.istore_n 3, 1) := by decide +kernel
theorem dX12_fillCosts_34 : decode cX12_fillCosts 34 = .ok (.iload_n 3, 1) := by decide +kernel
theorem dX12_fillCosts_35 : decode cX12_fillCosts 35 = .ok (.ifCond .eq 105, 3) := by decide +kernel
theorem dX12_fillCosts_140 : decode cX12_fillCosts 140 = .ok (.return_, 1) := by decide +kernel
theorem dX12_fillCosts_38 : decode cX12_fillCosts 38 = .ok (.iconst 0, 1) := by decide +kernel
theorem dX12_fillCosts_39 : decode cX12_fillCosts 39 = .ok (.istore_n 3, 1) := by decide +kernel
theorem dX12_fillCosts_40 : decode cX12_fillCosts 40 = .ok (.iconst 0, 1) := by decide +kernel
theorem dX12_fillCosts_41 : decode cX12_fillCosts 41 = .ok (.istore 4, 2) := by decide +kernel
theorem dX12_fillCosts_43 : decode cX12_fillCosts 43 = .ok (.iload 4, 2) := by decide +kernel
theorem dX12_fillCosts_45 : decode cX12_fillCosts 45 = .ok (.aload_n 0, 1) := by decide +kernel
theorem dX12_fillCosts_46 : decode cX12_fillCosts 46 = .ok (.getfield 9, 3) := by decide +kernel
theorem dX12_fillCosts_49 : decode cX12_fillCosts 49 = .ok (.iconst 0, 1) := by decide +kernel
theorem dX12_fillCosts_50 : decode cX12_fillCosts 50 = .ok (.iaload, 1) := by decide +kernel
theorem dX12_fillCosts_51 : decode cX12_fillCosts 51 = .ok (.if_icmp .ge 86, 3) := by decide +kernel
theorem dX12_fillCosts_137 : decode cX12_fillCosts 137 = .ok (.goto (-103), 3) := by decide +kernel
theorem dX12_fillCosts_54 : decode cX12_fillCosts 54 = .ok (.iconst 0, 1) := by decide +kernel
theorem dX12_fillCosts_55 : decode cX12_fillCosts 55 = .ok (.istore 5, 2) := by decide +kernel
theorem dX12_fillCosts_57 : decode cX12_fillCosts 57 = .ok (.iload 5, 2) := by decide +kernel
theorem dX12_fillCosts_59 : decode cX12_fillCosts 59 = .ok (.iconst 4, 1) := by decide +kernel
theorem dX12_fillCosts_60 : decode cX12_fillCosts 60 = .ok (.if_icmp .ge 71, 3) := by decide +kernel
theorem dX12_fillCosts_131 : decode cX12_fillCosts 131 = .ok (.iinc 4 1, 3) := by decide +kernel
theorem dX12_fillCosts_134 : decode cX12_fillCosts 134 = .ok (.goto (-91), 3) := by decide +kernel
theorem dX12_fillCosts_63 : decode cX12_fillCosts 63 = .ok (.aload_n 0, 1) := by decide +kernel
theorem dX12_fillCosts_64 : decode cX12_fillCosts 64 = .ok (.iload 4, 2) := by decide +kernel
theorem dX12_fillCosts_66 : decode cX12_fillCosts 66 = .ok (.iload 5, 2) := by decide +kernel
theorem dX12_fillCosts_68 : decode cX12_fillCosts 68 = .ok (.invokevirtual 273, 3) := by decide +kernel
theorem dX12_fillCosts_71 : decode cX12_fillCosts 71 = .ok (.istore 6, 2) := by decide +kernel
theorem dX12_fillCosts_73 : decode cX12_fillCosts 73 = .ok (.aload_n 0, 1) := by decide +kernel
theorem dX12_fillCosts_74 : decode cX12_fillCosts 74 = .ok (.getfield 88, 3) := by decide +kernel
theorem dX12_fillCosts_77 : decode cX12_fillCosts 77 = .ok (.iload 4, 2) := by decide +kernel
theorem dX12_fillCosts_79 : decode cX12_fillCosts 79 = .ok (.iaload, 1) := by decide +kernel
theorem dX12_fillCosts_80 : decode cX12_fillCosts 80 = .ok (.iconst 1, 1) := by decide +kernel
theorem dX12_fillCosts_81 : decode cX12_fillCosts 81 = .ok (.iadd, 1) := by decide +kernel
theorem dX12_fillCosts_82 : decode cX12_fillCosts 82 = .ok (.aload_n 0, 1) := by decide +kernel
theorem dX12_fillCosts_83 : decode cX12_fillCosts 83 = .ok (.iload 6, 2) := by decide +kernel
theorem dX12_fillCosts_85 : decode cX12_fillCosts 85 = .ok (.invokevirtual 276, 3) := by decide +kernel
theorem dX12_fillCosts_88 : decode cX12_fillCosts 88 = .ok (.ifCond .ne 7, 3) := by decide +kernel
theorem dX12_fillCosts_95 : decode cX12_fillCosts 95 = .ok (.iconst 0, 1) := by decide +kernel
theorem dX12_fillCosts_96 : decode cX12_fillCosts 96 = .ok (.iadd, 1) := by decide +kernel
theorem dX12_fillCosts_97 : decode cX12_fillCosts 97 = .ok (.istore 7, 2) := by decide +kernel
theorem dX12_fillCosts_99 : decode cX12_fillCosts 99 = .ok (.iload 7, 2) := by decide +kernel
theorem dX12_fillCosts_101 : decode cX12_fillCosts 101 = .ok (.aload_n 0, 1) := by decide +kernel
theorem dX12_fillCosts_102 : decode cX12_fillCosts 102 = .ok (.getfield 88, 3) := by decide +kernel
theorem dX12_fillCosts_105 : decode cX12_fillCosts 105 = .ok (.iload 6, 2) := by decide +kernel
theorem dX12_fillCosts_107 : decode cX12_fillCosts 107 = .ok (.iaload, 1) := by decide +kernel
theorem dX12_fillCosts_108 : decode cX12_fillCosts 108 = .ok (.if_icmp .lt 6, 3) := by decide +kernel
theorem dX12_fillCosts_114 : decode cX12_fillCosts 114 = .ok (.aload_n 0, 1) := by decide +kernel
theorem dX12_fillCosts_115 : decode cX12_fillCosts 115 = .ok (.getfield 88, 3) := by decide +kernel
theorem dX12_fillCosts_118 : decode cX12_fillCosts 118 = .ok (.iload 6, 2) := by decide +kernel
theorem dX12_fillCosts_120 : decode cX12_fillCosts 120 = .ok (.iload 7, 2) := by decide +kernel
theorem dX12_fillCosts_122 : decode cX12_fillCosts 122 = .ok (.iastore, 1) := by decide +kernel
theorem dX12_fillCosts_123 : decode cX12_fillCosts 123 = .ok (.iconst 1, 1) := by decide +kernel
theorem dX12_fillCosts_124 : decode cX12_fillCosts 124 = .ok (.istore_n 3, 1) := by decide +kernel
theorem dX12_fillCosts_125 : decode cX12_fillCosts 125 = .ok (.iinc 5 1, 3) := by decide +kernel
theorem dX12_fillCosts_128 : decode cX12_fillCosts 128 = .ok (.goto (-71), 3) := by decide +kernel
theorem dX12_fillCosts_111 : decode cX12_fillCosts 111 = .ok (.goto 14, 3) := by decide +kernel
theorem dX12_fillCosts_91 : decode cX12_fillCosts 91 = .ok (.iload_n 2, 1) := by decide +kernel
theorem dX12_fillCosts_92 : decode cX12_fillCosts 92 = .ok (.goto 4, 3) := by decide +kernel
theorem dX12_fillCosts_8 : decode cX12_fillCosts 8 = .ok (.aload_n 0, 1) := by decide +kernel
theorem dX12_fillCosts_9 : decode cX12_fillCosts 9 = .ok (.getfield 88, 3) := by decide +kernel
theorem dX12_fillCosts_12 : decode cX12_fillCosts 12 = .ok (.iload_n 3, 1) := by decide +kernel
theorem dX12_fillCosts_13 : decode cX12_fillCosts 13 = .ok (.iload_n 3, 1) := by decide +kernel
theorem dX12_fillCosts_14 : decode cX12_fillCosts 14 = .ok (.iload_n 1, 1) := by decide +kernel
theorem dX12_fillCosts_15 : decode cX12_fillCosts 15 = .ok (.if_icmp .ne 7, 3) := by decide +kernel
theorem dX12_fillCosts_22 : decode cX12_fillCosts 22 = .ok (.ldc_w 380, 3) := by decide +kernel
theorem dX12_fillCosts_25 : decode cX12_fillCosts 25 = .ok (.iastore, 1) := by decide +kernel
theorem dX12_fillCosts_26 : decode cX12_fillCosts 26 = .ok (.iinc 3 1, 3) := by decide +kernel
theorem dX12_fillCosts_29 : decode cX12_fillCosts 29 = .ok (.goto (-27), 3) := by decide +kernel
theorem dX12_fillCosts_18 : decode cX12_fillCosts 18 = .ok (.iconst 0, 1) := by decide +kernel
theorem dX12_fillCosts_19 : decode cX12_fillCosts 19 = .ok (.goto 6, 3) := by decide +kernel
theorem dX12_route_0 : decode cX12_route 0 = .ok (.aload_n 0, 1) := by decide +kernel
theorem dX12_route_1 : decode cX12_route 1 = .ok (.iload_n 1, 1) := by decide +kernel
theorem dX12_route_2 : decode cX12_route 2 = .ok (.iload_n 2, 1) := by decide +kernel
theorem dX12_route_3 : decode cX12_route 3 = .ok (.invokevirtual 394, 3) := by decide +kernel
theorem dX12_route_6 : decode cX12_route 6 = .ok (.ifCond .ne 6, 3) := by decide +kernel
theorem dX12_route_9 : decode cX12_route 9 = .ok (.bipush (-2), 2) := by decide +kernel
theorem dX12_route_11 : decode cX12_route 11 = .ok (.ireturn, 1) := by decide +kernel
theorem dX12_route_12 : decode cX12_route 12 = .ok (.aload_n 0, 1) := by decide +kernel
theorem dX12_route_13 : decode cX12_route 13 = .ok (.iload_n 1, 1) := by decide +kernel
theorem dX12_route_14 : decode cX12_route 14 = .ok (.iconst 0, 1) := by decide +kernel
theorem dX12_route_15 : decode cX12_route 15 = .ok (.invokevirtual 459, 3) := by decide +kernel
theorem dX12_route_18 : decode cX12_route 18 = .ok (.aload_n 0, 1) := by decide +kernel
theorem dX12_route_19 : decode cX12_route 19 = .ok (.getfield 88, 3) := by decide +kernel
theorem dX12_route_22 : decode cX12_route 22 = .ok (.iload_n 2, 1) := by decide +kernel
theorem dX12_route_23 : decode cX12_route 23 = .ok (.iaload, 1) := by decide +kernel
theorem dX12_route_24 : decode cX12_route 24 = .ok (.ldc_w 380, 3) := by decide +kernel
theorem dX12_route_27 : decode cX12_route 27 = .ok (.if_icmp .ne 7, 3) := by decide +kernel
theorem dX12_route_34 : decode cX12_route 34 = .ok (.aload_n 0, 1) := by decide +kernel
theorem dX12_route_35 : decode cX12_route 35 = .ok (.getfield 88, 3) := by decide +kernel
theorem dX12_route_38 : decode cX12_route 38 = .ok (.iload_n 2, 1) := by decide +kernel
theorem dX12_route_39 : decode cX12_route 39 = .ok (.iaload, 1) := by decide +kernel
theorem dX12_route_40 : decode cX12_route 40 = .ok (.ireturn, 1) := by decide +kernel
theorem dX12_route_30 : decode cX12_route 30 = .ok (.iconst (-1), 1) := by decide +kernel
theorem dX12_route_31 : decode cX12_route 31 = .ok (.goto 9, 3) := by decide +kernel
theorem dX12_dark_0 : decode cX12_dark 0 = .ok (.aload_n 0, 1) := by decide +kernel
theorem dX12_dark_1 : decode cX12_dark 1 = .ok (.iload_n 1, 1) := by decide +kernel
theorem dX12_dark_2 : decode cX12_dark 2 = .ok (.iload_n 2, 1) := by decide +kernel
theorem dX12_dark_3 : decode cX12_dark 3 = .ok (.invokevirtual 394, 3) := by decide +kernel
theorem dX12_dark_6 : decode cX12_dark 6 = .ok (.ifCond .ne 6, 3) := by decide +kernel
theorem dX12_dark_9 : decode cX12_dark 9 = .ok (.bipush (-2), 2) := by decide +kernel
theorem dX12_dark_11 : decode cX12_dark 11 = .ok (.ireturn, 1) := by decide +kernel
theorem dX12_dark_12 : decode cX12_dark 12 = .ok (.aload_n 0, 1) := by decide +kernel
theorem dX12_dark_13 : decode cX12_dark 13 = .ok (.iload_n 1, 1) := by decide +kernel
theorem dX12_dark_14 : decode cX12_dark 14 = .ok (.sipush 1000, 3) := by decide +kernel
theorem dX12_dark_17 : decode cX12_dark 17 = .ok (.invokevirtual 459, 3) := by decide +kernel
theorem dX12_dark_20 : decode cX12_dark 20 = .ok (.aload_n 0, 1) := by decide +kernel
theorem dX12_dark_21 : decode cX12_dark 21 = .ok (.getfield 88, 3) := by decide +kernel
theorem dX12_dark_24 : decode cX12_dark 24 = .ok (.iload_n 2, 1) := by decide +kernel
theorem dX12_dark_25 : decode cX12_dark 25 = .ok (.iaload, 1) := by decide +kernel
theorem dX12_dark_26 : decode cX12_dark 26 = .ok (.ldc_w 380, 3) := by decide +kernel
theorem dX12_dark_29 : decode cX12_dark 29 = .ok (.if_icmp .ne 7, 3) := by decide +kernel
theorem dX12_dark_36 : decode cX12_dark 36 = .ok (.aload_n 0, 1) := by decide +kernel
theorem dX12_dark_37 : decode cX12_dark 37 = .ok (.getfield 88, 3) := by decide +kernel
theorem dX12_dark_40 : decode cX12_dark 40 = .ok (.iload_n 2, 1) := by decide +kernel
theorem dX12_dark_41 : decode cX12_dark 41 = .ok (.iaload, 1) := by decide +kernel
theorem dX12_dark_42 : decode cX12_dark 42 = .ok (.sipush 1000, 3) := by decide +kernel
theorem dX12_dark_45 : decode cX12_dark 45 = .ok (.idiv, 1) := by decide +kernel
theorem dX12_dark_46 : decode cX12_dark 46 = .ok (.ireturn, 1) := by decide +kernel
theorem dX12_dark_32 : decode cX12_dark 32 = .ok (.iconst (-1), 1) := by decide +kernel
theorem dX12_dark_33 : decode cX12_dark 33 = .ok (.goto 13, 3) := by decide +kernel
theorem dX12_detour_0 : decode cX12_detour 0 = .ok (.aload_n 0, 1) := by decide +kernel
theorem dX12_detour_1 : decode cX12_detour 1 = .ok (.iload_n 1, 1) := by decide +kernel
theorem dX12_detour_2 : decode cX12_detour 2 = .ok (.iload_n 2, 1) := by decide +kernel
theorem dX12_detour_3 : decode cX12_detour 3 = .ok (.invokevirtual 394, 3) := by decide +kernel
theorem dX12_detour_6 : decode cX12_detour 6 = .ok (.ifCond .ne 6, 3) := by decide +kernel
theorem dX12_detour_9 : decode cX12_detour 9 = .ok (.bipush (-2), 2) := by decide +kernel
theorem dX12_detour_11 : decode cX12_detour 11 = .ok (.ireturn, 1) := by decide +kernel
theorem dX12_detour_12 : decode cX12_detour 12 = .ok (.aload_n 0, 1) := by decide +kernel
theorem dX12_detour_13 : decode cX12_detour 13 = .ok (.iload_n 1, 1) := by decide +kernel
theorem dX12_detour_14 : decode cX12_detour 14 = .ok (.sipush 1000, 3) := by decide +kernel
theorem dX12_detour_17 : decode cX12_detour 17 = .ok (.invokevirtual 459, 3) := by decide +kernel
theorem dX12_detour_20 : decode cX12_detour 20 = .ok (.aload_n 0, 1) := by decide +kernel
theorem dX12_detour_21 : decode cX12_detour 21 = .ok (.getfield 88, 3) := by decide +kernel
theorem dX12_detour_24 : decode cX12_detour 24 = .ok (.iload_n 2, 1) := by decide +kernel
theorem dX12_detour_25 : decode cX12_detour 25 = .ok (.iaload, 1) := by decide +kernel
theorem dX12_detour_26 : decode cX12_detour 26 = .ok (.ldc_w 380, 3) := by decide +kernel
theorem dX12_detour_29 : decode cX12_detour 29 = .ok (.if_icmp .ne 7, 3) := by decide +kernel
theorem dX12_detour_36 : decode cX12_detour 36 = .ok (.aload_n 0, 1) := by decide +kernel
theorem dX12_detour_37 : decode cX12_detour 37 = .ok (.getfield 88, 3) := by decide +kernel
theorem dX12_detour_40 : decode cX12_detour 40 = .ok (.iload_n 2, 1) := by decide +kernel
theorem dX12_detour_41 : decode cX12_detour 41 = .ok (.iaload, 1) := by decide +kernel
theorem dX12_detour_42 : decode cX12_detour 42 = .ok (.sipush 1000, 3) := by decide +kernel
theorem dX12_detour_45 : decode cX12_detour 45 = .ok (.irem, 1) := by decide +kernel
theorem dX12_detour_46 : decode cX12_detour 46 = .ok (.ireturn, 1) := by decide +kernel
theorem dX12_detour_32 : decode cX12_detour 32 = .ok (.iconst (-1), 1) := by decide +kernel
theorem dX12_detour_33 : decode cX12_detour 33 = .ok (.goto 13, 3) := by decide +kernel
theorem dX12_goFog_0 : decode cX12_goFog 0 = .ok (.iconst 0, 1) := by decide +kernel
theorem dX12_goFog_1 : decode cX12_goFog 1 = .ok (.istore_n 3, 1) := by decide +kernel
theorem dX12_goFog_2 : decode cX12_goFog 2 = .ok (.iload_n 3, 1) := by decide +kernel
theorem dX12_goFog_3 : decode cX12_goFog 3 = .ok (.bipush 10, 2) := by decide +kernel
theorem dX12_goFog_5 : decode cX12_goFog 5 = .ok (.if_icmp .ge 25, 3) := by decide +kernel
theorem dX12_goFog_30 : decode cX12_goFog 30 = .ok (.iconst 0, 1) := by decide +kernel
theorem dX12_goFog_31 : decode cX12_goFog 31 = .ok (.istore_n 3, 1) := by decide +kernel
theorem dX12_goFog_32 : decode cX12_goFog 32 = .ok (.iload_n 3, 1) := by decide +kernel
theorem dX12_goFog_33 : decode cX12_goFog 33 = .ok (.iload_n 2, 1) := by decide +kernel
theorem dX12_goFog_34 : decode cX12_goFog 34 = .ok (.if_icmp .ge 121, 3) := by decide +kernel
theorem dX12_goFog_155 : decode cX12_goFog 155 = .ok (.return_, 1) := by decide +kernel
theorem dX12_goFog_37 : decode cX12_goFog 37 = .ok (.iconst 0, 1) := by decide +kernel
theorem dX12_goFog_38 : decode cX12_goFog 38 = .ok (.istore 4, 2) := by decide +kernel
theorem dX12_goFog_40 : decode cX12_goFog 40 = .ok (.iload 4, 2) := by decide +kernel
theorem dX12_goFog_42 : decode cX12_goFog 42 = .ok (.bipush 10, 2) := by decide +kernel
theorem dX12_goFog_44 : decode cX12_goFog 44 = .ok (.if_icmp .ge 17, 3) := by decide +kernel
theorem dX12_goFog_61 : decode cX12_goFog 61 = .ok (.iconst 0, 1) := by decide +kernel
theorem dX12_goFog_62 : decode cX12_goFog 62 = .ok (.istore 4, 2) := by decide +kernel
theorem dX12_goFog_64 : decode cX12_goFog 64 = .ok (.iload 4, 2) := by decide +kernel
theorem dX12_goFog_66 : decode cX12_goFog 66 = .ok (.aload_n 0, 1) := by decide +kernel
theorem dX12_goFog_67 : decode cX12_goFog 67 = .ok (.getfield 9, 3) := by decide +kernel
theorem dX12_goFog_70 : decode cX12_goFog 70 = .ok (.iconst 0, 1) := by decide +kernel
theorem dX12_goFog_71 : decode cX12_goFog 71 = .ok (.iaload, 1) := by decide +kernel
theorem dX12_goFog_72 : decode cX12_goFog 72 = .ok (.if_icmp .ge 47, 3) := by decide +kernel
theorem dX12_goFog_119 : decode cX12_goFog 119 = .ok (.iconst 0, 1) := by decide +kernel
theorem dX12_goFog_120 : decode cX12_goFog 120 = .ok (.istore 4, 2) := by decide +kernel
theorem dX12_goFog_122 : decode cX12_goFog 122 = .ok (.iload 4, 2) := by decide +kernel
theorem dX12_goFog_124 : decode cX12_goFog 124 = .ok (.bipush 10, 2) := by decide +kernel
theorem dX12_goFog_126 : decode cX12_goFog 126 = .ok (.if_icmp .ge 23, 3) := by decide +kernel
theorem dX12_goFog_149 : decode cX12_goFog 149 = .ok (.iinc 3 1, 3) := by decide +kernel
theorem dX12_goFog_152 : decode cX12_goFog 152 = .ok (.goto (-120), 3) := by decide +kernel
theorem dX12_goFog_129 : decode cX12_goFog 129 = .ok (.aload_n 0, 1) := by decide +kernel
theorem dX12_goFog_130 : decode cX12_goFog 130 = .ok (.getfield 91, 3) := by decide +kernel
theorem dX12_goFog_133 : decode cX12_goFog 133 = .ok (.iload 4, 2) := by decide +kernel
theorem dX12_goFog_135 : decode cX12_goFog 135 = .ok (.aload_n 0, 1) := by decide +kernel
theorem dX12_goFog_136 : decode cX12_goFog 136 = .ok (.getfield 94, 3) := by decide +kernel
theorem dX12_goFog_139 : decode cX12_goFog 139 = .ok (.iload 4, 2) := by decide +kernel
theorem dX12_goFog_141 : decode cX12_goFog 141 = .ok (.iaload, 1) := by decide +kernel
theorem dX12_goFog_142 : decode cX12_goFog 142 = .ok (.iastore, 1) := by decide +kernel
theorem dX12_goFog_143 : decode cX12_goFog 143 = .ok (.iinc 4 1, 3) := by decide +kernel
theorem dX12_goFog_146 : decode cX12_goFog 146 = .ok (.goto (-24), 3) := by decide +kernel
theorem dX12_goFog_75 : decode cX12_goFog 75 = .ok (.iconst 0, 1) := by decide +kernel
theorem dX12_goFog_76 : decode cX12_goFog 76 = .ok (.istore 5, 2) := by decide +kernel
theorem dX12_goFog_78 : decode cX12_goFog 78 = .ok (.iload 5, 2) := by decide +kernel
theorem dX12_goFog_80 : decode cX12_goFog 80 = .ok (.iconst 4, 1) := by decide +kernel
theorem dX12_goFog_81 : decode cX12_goFog 81 = .ok (.if_icmp .ge 32, 3) := by decide +kernel
theorem dX12_goFog_113 : decode cX12_goFog 113 = .ok (.iinc 4 1, 3) := by decide +kernel
theorem dX12_goFog_116 : decode cX12_goFog 116 = .ok (.goto (-52), 3) := by decide +kernel
theorem dX12_goFog_84 : decode cX12_goFog 84 = .ok (.aload_n 0, 1) := by decide +kernel
theorem dX12_goFog_85 : decode cX12_goFog 85 = .ok (.getfield 94, 3) := by decide +kernel
theorem dX12_goFog_88 : decode cX12_goFog 88 = .ok (.aload_n 0, 1) := by decide +kernel
theorem dX12_goFog_89 : decode cX12_goFog 89 = .ok (.iload 4, 2) := by decide +kernel
theorem dX12_goFog_91 : decode cX12_goFog 91 = .ok (.iload 5, 2) := by decide +kernel
theorem dX12_goFog_93 : decode cX12_goFog 93 = .ok (.invokevirtual 273, 3) := by decide +kernel
theorem dX12_goFog_96 : decode cX12_goFog 96 = .ok (.dup2, 1) := by decide +kernel
theorem dX12_goFog_97 : decode cX12_goFog 97 = .ok (.iaload, 1) := by decide +kernel
theorem dX12_goFog_98 : decode cX12_goFog 98 = .ok (.aload_n 0, 1) := by decide +kernel
theorem dX12_goFog_99 : decode cX12_goFog 99 = .ok (.getfield 91, 3) := by decide +kernel
theorem dX12_goFog_102 : decode cX12_goFog 102 = .ok (.iload 4, 2) := by decide +kernel
theorem dX12_goFog_104 : decode cX12_goFog 104 = .ok (.iaload, 1) := by decide +kernel
theorem dX12_goFog_105 : decode cX12_goFog 105 = .ok (.iadd, 1) := by decide +kernel
theorem dX12_goFog_106 : decode cX12_goFog 106 = .ok (.iastore, 1) := by decide +kernel
theorem dX12_goFog_107 : decode cX12_goFog 107 = .ok (.iinc 5 1, 3) := by decide +kernel
theorem dX12_goFog_110 : decode cX12_goFog 110 = .ok (.goto (-32), 3) := by decide +kernel
theorem dX12_goFog_47 : decode cX12_goFog 47 = .ok (.aload_n 0, 1) := by decide +kernel
theorem dX12_goFog_48 : decode cX12_goFog 48 = .ok (.getfield 94, 3) := by decide +kernel
theorem dX12_goFog_51 : decode cX12_goFog 51 = .ok (.iload 4, 2) := by decide +kernel
theorem dX12_goFog_53 : decode cX12_goFog 53 = .ok (.iconst 0, 1) := by decide +kernel
theorem dX12_goFog_54 : decode cX12_goFog 54 = .ok (.iastore, 1) := by decide +kernel
theorem dX12_goFog_55 : decode cX12_goFog 55 = .ok (.iinc 4 1, 3) := by decide +kernel
theorem dX12_goFog_58 : decode cX12_goFog 58 = .ok (.goto (-18), 3) := by decide +kernel
theorem dX12_goFog_8 : decode cX12_goFog 8 = .ok (.aload_n 0, 1) := by decide +kernel
theorem dX12_goFog_9 : decode cX12_goFog 9 = .ok (.getfield 91, 3) := by decide +kernel
theorem dX12_goFog_12 : decode cX12_goFog 12 = .ok (.iload_n 3, 1) := by decide +kernel
theorem dX12_goFog_13 : decode cX12_goFog 13 = .ok (.iload_n 3, 1) := by decide +kernel
theorem dX12_goFog_14 : decode cX12_goFog 14 = .ok (.iload_n 1, 1) := by decide +kernel
theorem dX12_goFog_15 : decode cX12_goFog 15 = .ok (.if_icmp .ne 7, 3) := by decide +kernel
theorem dX12_goFog_22 : decode cX12_goFog 22 = .ok (.iconst 0, 1) := by decide +kernel
theorem dX12_goFog_23 : decode cX12_goFog 23 = .ok (.iastore, 1) := by decide +kernel
theorem dX12_goFog_24 : decode cX12_goFog 24 = .ok (.iinc 3 1, 3) := by decide +kernel
theorem dX12_goFog_27 : decode cX12_goFog 27 = .ok (.goto (-25), 3) := by decide +kernel
theorem dX12_goFog_18 : decode cX12_goFog 18 = .ok (.iconst 1, 1) := by decide +kernel
theorem dX12_goFog_19 : decode cX12_goFog 19 = .ok (.goto 4, 3) := by decide +kernel
theorem dX12_divisor_0 : decode cX12_divisor 0 = .ok (.iload_n 0, 1) := by decide +kernel
theorem dX12_divisor_1 : decode cX12_divisor 1 = .ok (.istore_n 2, 1) := by decide +kernel
theorem dX12_divisor_2 : decode cX12_divisor 2 = .ok (.iload_n 1, 1) := by decide +kernel
theorem dX12_divisor_3 : decode cX12_divisor 3 = .ok (.istore_n 3, 1) := by decide +kernel
theorem dX12_divisor_4 : decode cX12_divisor 4 = .ok (.iload_n 3, 1) := by decide +kernel
theorem dX12_divisor_5 : decode cX12_divisor 5 = .ok (.ifCond .eq 16, 3) := by decide +kernel
theorem dX12_divisor_21 : decode cX12_divisor 21 = .ok (.iload_n 2, 1) := by decide +kernel
theorem dX12_divisor_22 : decode cX12_divisor 22 = .ok (.ireturn, 1) := by decide +kernel
theorem dX12_divisor_8 : decode cX12_divisor 8 = .ok (.iload_n 2, 1) := by decide +kernel
theorem dX12_divisor_9 : decode cX12_divisor 9 = .ok (.iload_n 3, 1) := by decide +kernel
theorem dX12_divisor_10 : decode cX12_divisor 10 = .ok (.irem, 1) := by decide +kernel
theorem dX12_divisor_11 : decode cX12_divisor 11 = .ok (.istore 4, 2) := by decide +kernel
theorem dX12_divisor_13 : decode cX12_divisor 13 = .ok (.iload_n 3, 1) := by decide +kernel
theorem dX12_divisor_14 : decode cX12_divisor 14 = .ok (.istore_n 2, 1) := by decide +kernel
theorem dX12_divisor_15 : decode cX12_divisor 15 = .ok (.iload 4, 2) := by decide +kernel
theorem dX12_divisor_17 : decode cX12_divisor 17 = .ok (.istore_n 3, 1) := by decide +kernel
theorem dX12_divisor_18 : decode cX12_divisor 18 = .ok (.goto (-14), 3) := by decide +kernel
theorem dX12_fog_0 : decode cX12_fog 0 = .ok (.aload_n 0, 1) := by decide +kernel
theorem dX12_fog_1 : decode cX12_fog 1 = .ok (.iload_n 1, 1) := by decide +kernel
theorem dX12_fog_2 : decode cX12_fog 2 = .ok (.iload_n 2, 1) := by decide +kernel
theorem dX12_fog_3 : decode cX12_fog 3 = .ok (.invokevirtual 394, 3) := by decide +kernel
theorem dX12_fog_6 : decode cX12_fog 6 = .ok (.ifCond .eq 26, 3) := by decide +kernel
theorem dX12_fog_32 : decode cX12_fog 32 = .ok (.bipush (-2), 2) := by decide +kernel
theorem dX12_fog_34 : decode cX12_fog 34 = .ok (.ireturn, 1) := by decide +kernel
theorem dX12_fog_9 : decode cX12_fog 9 = .ok (.iload_n 3, 1) := by decide +kernel
theorem dX12_fog_10 : decode cX12_fog 10 = .ok (.i2l, 1) := by decide +kernel
theorem dX12_fog_11 : decode cX12_fog 11 = .ok (.lconst 0, 1) := by decide +kernel
theorem dX12_fog_12 : decode cX12_fog 12 = .ok (.ldc2_w 462, 3) := by decide +kernel
theorem dX12_fog_15 : decode cX12_fog 15 = .ok (.invokestatic 115, 3) := by decide +kernel
theorem dX12_fog_18 : decode cX12_fog 18 = .ok (.ifCond .eq 14, 3) := by decide +kernel
theorem dX12_fog_21 : decode cX12_fog 21 = .ok (.iload 4, 2) := by decide +kernel
theorem dX12_fog_23 : decode cX12_fog 23 = .ok (.i2l, 1) := by decide +kernel
theorem dX12_fog_24 : decode cX12_fog 24 = .ok (.lconst 0, 1) := by decide +kernel
theorem dX12_fog_25 : decode cX12_fog 25 = .ok (.lconst 1, 1) := by decide +kernel
theorem dX12_fog_26 : decode cX12_fog 26 = .ok (.invokestatic 115, 3) := by decide +kernel
theorem dX12_fog_29 : decode cX12_fog 29 = .ok (.ifCond .ne 6, 3) := by decide +kernel
theorem dX12_fog_35 : decode cX12_fog 35 = .ok (.aload_n 0, 1) := by decide +kernel
theorem dX12_fog_36 : decode cX12_fog 36 = .ok (.iload_n 1, 1) := by decide +kernel
theorem dX12_fog_37 : decode cX12_fog 37 = .ok (.iload_n 3, 1) := by decide +kernel
theorem dX12_fog_38 : decode cX12_fog 38 = .ok (.invokevirtual 464, 3) := by decide +kernel
theorem dX12_fog_41 : decode cX12_fog 41 = .ok (.iconst 1, 1) := by decide +kernel
theorem dX12_fog_42 : decode cX12_fog 42 = .ok (.iconst 2, 1) := by decide +kernel
theorem dX12_fog_43 : decode cX12_fog 43 = .ok (.iload_n 3, 1) := by decide +kernel
theorem dX12_fog_44 : decode cX12_fog 44 = .ok (.imul, 1) := by decide +kernel
theorem dX12_fog_45 : decode cX12_fog 45 = .ok (.ishl, 1) := by decide +kernel
theorem dX12_fog_46 : decode cX12_fog 46 = .ok (.istore 5, 2) := by decide +kernel
theorem dX12_fog_48 : decode cX12_fog 48 = .ok (.iload 4, 2) := by decide +kernel
theorem dX12_fog_50 : decode cX12_fog 50 = .ok (.ifCond .ne 12, 3) := by decide +kernel
theorem dX12_fog_62 : decode cX12_fog 62 = .ok (.iload 5, 2) := by decide +kernel
theorem dX12_fog_64 : decode cX12_fog 64 = .ok (.aload_n 0, 1) := by decide +kernel
theorem dX12_fog_65 : decode cX12_fog 65 = .ok (.getfield 91, 3) := by decide +kernel
theorem dX12_fog_68 : decode cX12_fog 68 = .ok (.iload_n 2, 1) := by decide +kernel
theorem dX12_fog_69 : decode cX12_fog 69 = .ok (.iaload, 1) := by decide +kernel
theorem dX12_fog_70 : decode cX12_fog 70 = .ok (.iload 5, 2) := by decide +kernel
theorem dX12_fog_72 : decode cX12_fog 72 = .ok (.invokestatic 467, 3) := by decide +kernel
theorem dX12_fog_75 : decode cX12_fog 75 = .ok (.idiv, 1) := by decide +kernel
theorem dX12_fog_76 : decode cX12_fog 76 = .ok (.ireturn, 1) := by decide +kernel
theorem dX12_fog_53 : decode cX12_fog 53 = .ok (.aload_n 0, 1) := by decide +kernel
theorem dX12_fog_54 : decode cX12_fog 54 = .ok (.getfield 91, 3) := by decide +kernel
theorem dX12_fog_57 : decode cX12_fog 57 = .ok (.iload_n 2, 1) := by decide +kernel
theorem dX12_fog_58 : decode cX12_fog 58 = .ok (.iaload, 1) := by decide +kernel
theorem dX12_fog_59 : decode cX12_fog 59 = .ok (.goto 5, 3) := by decide +kernel
theorem dX12_likely_0 : decode cX12_likely 0 = .ok (.aload_n 0, 1) := by decide +kernel
theorem dX12_likely_1 : decode cX12_likely 1 = .ok (.iload_n 1, 1) := by decide +kernel
theorem dX12_likely_2 : decode cX12_likely 2 = .ok (.i2l, 1) := by decide +kernel
theorem dX12_likely_3 : decode cX12_likely 3 = .ok (.invokevirtual 119, 3) := by decide +kernel
theorem dX12_likely_6 : decode cX12_likely 6 = .ok (.ifCond .eq 15, 3) := by decide +kernel
theorem dX12_likely_21 : decode cX12_likely 21 = .ok (.bipush (-2), 2) := by decide +kernel
theorem dX12_likely_23 : decode cX12_likely 23 = .ok (.ireturn, 1) := by decide +kernel
theorem dX12_likely_9 : decode cX12_likely 9 = .ok (.iload_n 2, 1) := by decide +kernel
theorem dX12_likely_10 : decode cX12_likely 10 = .ok (.i2l, 1) := by decide +kernel
theorem dX12_likely_11 : decode cX12_likely 11 = .ok (.lconst 0, 1) := by decide +kernel
theorem dX12_likely_12 : decode cX12_likely 12 = .ok (.ldc2_w 462, 3) := by decide +kernel
theorem dX12_likely_15 : decode cX12_likely 15 = .ok (.invokestatic 115, 3) := by decide +kernel
theorem dX12_likely_18 : decode cX12_likely 18 = .ok (.ifCond .ne 6, 3) := by decide +kernel
theorem dX12_likely_24 : decode cX12_likely 24 = .ok (.aload_n 0, 1) := by decide +kernel
theorem dX12_likely_25 : decode cX12_likely 25 = .ok (.iload_n 1, 1) := by decide +kernel
theorem dX12_likely_26 : decode cX12_likely 26 = .ok (.iload_n 2, 1) := by decide +kernel
theorem dX12_likely_27 : decode cX12_likely 27 = .ok (.invokevirtual 464, 3) := by decide +kernel
theorem dX12_likely_30 : decode cX12_likely 30 = .ok (.iconst 0, 1) := by decide +kernel
theorem dX12_likely_31 : decode cX12_likely 31 = .ok (.istore_n 3, 1) := by decide +kernel
theorem dX12_likely_32 : decode cX12_likely 32 = .ok (.iconst 1, 1) := by decide +kernel
theorem dX12_likely_33 : decode cX12_likely 33 = .ok (.istore 4, 2) := by decide +kernel
theorem dX12_likely_35 : decode cX12_likely 35 = .ok (.iload 4, 2) := by decide +kernel
theorem dX12_likely_37 : decode cX12_likely 37 = .ok (.aload_n 0, 1) := by decide +kernel
theorem dX12_likely_38 : decode cX12_likely 38 = .ok (.getfield 9, 3) := by decide +kernel
theorem dX12_likely_41 : decode cX12_likely 41 = .ok (.iconst 0, 1) := by decide +kernel
theorem dX12_likely_42 : decode cX12_likely 42 = .ok (.iaload, 1) := by decide +kernel
theorem dX12_likely_43 : decode cX12_likely 43 = .ok (.if_icmp .ge 32, 3) := by decide +kernel
theorem dX12_likely_75 : decode cX12_likely 75 = .ok (.iload_n 3, 1) := by decide +kernel
theorem dX12_likely_76 : decode cX12_likely 76 = .ok (.ireturn, 1) := by decide +kernel
theorem dX12_likely_46 : decode cX12_likely 46 = .ok (.aload_n 0, 1) := by decide +kernel
theorem dX12_likely_47 : decode cX12_likely 47 = .ok (.getfield 91, 3) := by decide +kernel
theorem dX12_likely_50 : decode cX12_likely 50 = .ok (.iload 4, 2) := by decide +kernel
theorem dX12_likely_52 : decode cX12_likely 52 = .ok (.iaload, 1) := by decide +kernel
theorem dX12_likely_53 : decode cX12_likely 53 = .ok (.aload_n 0, 1) := by decide +kernel
theorem dX12_likely_54 : decode cX12_likely 54 = .ok (.getfield 91, 3) := by decide +kernel
theorem dX12_likely_57 : decode cX12_likely 57 = .ok (.iload_n 3, 1) := by decide +kernel
theorem dX12_likely_58 : decode cX12_likely 58 = .ok (.iaload, 1) := by decide +kernel
theorem dX12_likely_59 : decode cX12_likely 59 = .ok (.if_icmp .le 8, 3) := by decide +kernel
theorem dX12_likely_67 : decode cX12_likely 67 = .ok (.iload_n 3, 1) := by decide +kernel
theorem dX12_likely_68 : decode cX12_likely 68 = .ok (.istore_n 3, 1) := by decide +kernel
theorem dX12_likely_69 : decode cX12_likely 69 = .ok (.iinc 4 1, 3) := by decide +kernel
theorem dX12_likely_72 : decode cX12_likely 72 = .ok (.goto (-37), 3) := by decide +kernel
theorem dX12_likely_62 : decode cX12_likely 62 = .ok (.iload 4, 2) := by decide +kernel
theorem dX12_likely_64 : decode cX12_likely 64 = .ok (.goto 4, 3) := by decide +kernel
theorem dX12_can_0 : decode cX12_can 0 = .ok (.aload_n 0, 1) := by decide +kernel
theorem dX12_can_1 : decode cX12_can 1 = .ok (.iload_n 1, 1) := by decide +kernel
theorem dX12_can_2 : decode cX12_can 2 = .ok (.i2l, 1) := by decide +kernel
theorem dX12_can_3 : decode cX12_can 3 = .ok (.invokevirtual 119, 3) := by decide +kernel
theorem dX12_can_6 : decode cX12_can 6 = .ok (.ifCond .eq 15, 3) := by decide +kernel
theorem dX12_can_21 : decode cX12_can 21 = .ok (.bipush (-2), 2) := by decide +kernel
theorem dX12_can_23 : decode cX12_can 23 = .ok (.ireturn, 1) := by decide +kernel
theorem dX12_can_9 : decode cX12_can 9 = .ok (.iload_n 2, 1) := by decide +kernel
theorem dX12_can_10 : decode cX12_can 10 = .ok (.i2l, 1) := by decide +kernel
theorem dX12_can_11 : decode cX12_can 11 = .ok (.lconst 0, 1) := by decide +kernel
theorem dX12_can_12 : decode cX12_can 12 = .ok (.ldc2_w 462, 3) := by decide +kernel
theorem dX12_can_15 : decode cX12_can 15 = .ok (.invokestatic 115, 3) := by decide +kernel
theorem dX12_can_18 : decode cX12_can 18 = .ok (.ifCond .ne 6, 3) := by decide +kernel
theorem dX12_can_24 : decode cX12_can 24 = .ok (.iconst 1, 1) := by decide +kernel
theorem dX12_can_25 : decode cX12_can 25 = .ok (.iload_n 1, 1) := by decide +kernel
theorem dX12_can_26 : decode cX12_can 26 = .ok (.ishl, 1) := by decide +kernel
theorem dX12_can_27 : decode cX12_can 27 = .ok (.istore_n 3, 1) := by decide +kernel
theorem dX12_can_28 : decode cX12_can 28 = .ok (.iconst 0, 1) := by decide +kernel
theorem dX12_can_29 : decode cX12_can 29 = .ok (.istore 4, 2) := by decide +kernel
theorem dX12_can_31 : decode cX12_can 31 = .ok (.iload 4, 2) := by decide +kernel
theorem dX12_can_33 : decode cX12_can 33 = .ok (.iload_n 2, 1) := by decide +kernel
theorem dX12_can_34 : decode cX12_can 34 = .ok (.if_icmp .ge 15, 3) := by decide +kernel
theorem dX12_can_49 : decode cX12_can 49 = .ok (.iload_n 3, 1) := by decide +kernel
theorem dX12_can_50 : decode cX12_can 50 = .ok (.ireturn, 1) := by decide +kernel
theorem dX12_can_37 : decode cX12_can 37 = .ok (.aload_n 0, 1) := by decide +kernel
theorem dX12_can_38 : decode cX12_can 38 = .ok (.iload_n 3, 1) := by decide +kernel
theorem dX12_can_39 : decode cX12_can 39 = .ok (.invokevirtual 418, 3) := by decide +kernel
theorem dX12_can_42 : decode cX12_can 42 = .ok (.istore_n 3, 1) := by decide +kernel
theorem dX12_can_43 : decode cX12_can 43 = .ok (.iinc 4 1, 3) := by decide +kernel
theorem dX12_can_46 : decode cX12_can 46 = .ok (.goto (-15), 3) := by decide +kernel
theorem dX12_lead_0 : decode cX12_lead 0 = .ok (.aload_n 0, 1) := by decide +kernel
theorem dX12_lead_1 : decode cX12_lead 1 = .ok (.iload_n 1, 1) := by decide +kernel
theorem dX12_lead_2 : decode cX12_lead 2 = .ok (.iload_n 3, 1) := by decide +kernel
theorem dX12_lead_3 : decode cX12_lead 3 = .ok (.invokevirtual 394, 3) := by decide +kernel
theorem dX12_lead_6 : decode cX12_lead 6 = .ok (.ifCond .eq 11, 3) := by decide +kernel
theorem dX12_lead_17 : decode cX12_lead 17 = .ok (.bipush (-2), 2) := by decide +kernel
theorem dX12_lead_19 : decode cX12_lead 19 = .ok (.ireturn, 1) := by decide +kernel
theorem dX12_lead_9 : decode cX12_lead 9 = .ok (.iload_n 2, 1) := by decide +kernel
theorem dX12_lead_10 : decode cX12_lead 10 = .ok (.i2l, 1) := by decide +kernel
theorem dX12_lead_11 : decode cX12_lead 11 = .ok (.invokestatic 279, 3) := by decide +kernel
theorem dX12_lead_14 : decode cX12_lead 14 = .ok (.ifCond .ne 6, 3) := by decide +kernel
theorem dX12_lead_20 : decode cX12_lead 20 = .ok (.aload_n 0, 1) := by decide +kernel
theorem dX12_lead_21 : decode cX12_lead 21 = .ok (.getfield 9, 3) := by decide +kernel
theorem dX12_lead_24 : decode cX12_lead 24 = .ok (.iconst 4, 1) := by decide +kernel
theorem dX12_lead_25 : decode cX12_lead 25 = .ok (.iaload, 1) := by decide +kernel
theorem dX12_lead_26 : decode cX12_lead 26 = .ok (.ifCond .le 6, 3) := by decide +kernel
theorem dX12_lead_32 : decode cX12_lead 32 = .ok (.aload_n 0, 1) := by decide +kernel
theorem dX12_lead_33 : decode cX12_lead 33 = .ok (.iload_n 1, 1) := by decide +kernel
theorem dX12_lead_34 : decode cX12_lead 34 = .ok (.iload_n 2, 1) := by decide +kernel
theorem dX12_lead_35 : decode cX12_lead 35 = .ok (.invokevirtual 273, 3) := by decide +kernel
theorem dX12_lead_38 : decode cX12_lead 38 = .ok (.istore 4, 2) := by decide +kernel
theorem dX12_lead_40 : decode cX12_lead 40 = .ok (.aload_n 0, 1) := by decide +kernel
theorem dX12_lead_41 : decode cX12_lead 41 = .ok (.getfield 9, 3) := by decide +kernel
theorem dX12_lead_44 : decode cX12_lead 44 = .ok (.iconst 5, 1) := by decide +kernel
theorem dX12_lead_45 : decode cX12_lead 45 = .ok (.iconst 4, 1) := by decide +kernel
theorem dX12_lead_46 : decode cX12_lead 46 = .ok (.iload_n 1, 1) := by decide +kernel
theorem dX12_lead_47 : decode cX12_lead 47 = .ok (.imul, 1) := by decide +kernel
theorem dX12_lead_48 : decode cX12_lead 48 = .ok (.iadd, 1) := by decide +kernel
theorem dX12_lead_49 : decode cX12_lead 49 = .ok (.iload_n 2, 1) := by decide +kernel
theorem dX12_lead_50 : decode cX12_lead 50 = .ok (.iadd, 1) := by decide +kernel
theorem dX12_lead_51 : decode cX12_lead 51 = .ok (.iload_n 3, 1) := by decide +kernel
theorem dX12_lead_52 : decode cX12_lead 52 = .ok (.iastore, 1) := by decide +kernel
theorem dX12_lead_53 : decode cX12_lead 53 = .ok (.iload 4, 2) := by decide +kernel
theorem dX12_lead_55 : decode cX12_lead 55 = .ok (.ireturn, 1) := by decide +kernel
theorem dX12_lead_29 : decode cX12_lead 29 = .ok (.bipush (-5), 2) := by decide +kernel
theorem dX12_lead_31 : decode cX12_lead 31 = .ok (.ireturn, 1) := by decide +kernel
theorem dX12_marks_0 : decode cX12_marks 0 = .ok (.aload_n 0, 1) := by decide +kernel
theorem dX12_marks_1 : decode cX12_marks 1 = .ok (.iload_n 1, 1) := by decide +kernel
theorem dX12_marks_2 : decode cX12_marks 2 = .ok (.i2l, 1) := by decide +kernel
theorem dX12_marks_3 : decode cX12_marks 3 = .ok (.invokevirtual 119, 3) := by decide +kernel
theorem dX12_marks_6 : decode cX12_marks 6 = .ok (.ifCond .eq 15, 3) := by decide +kernel
theorem dX12_marks_21 : decode cX12_marks 21 = .ok (.bipush (-2), 2) := by decide +kernel
theorem dX12_marks_23 : decode cX12_marks 23 = .ok (.ireturn, 1) := by decide +kernel
theorem dX12_marks_9 : decode cX12_marks 9 = .ok (.iload_n 2, 1) := by decide +kernel
theorem dX12_marks_10 : decode cX12_marks 10 = .ok (.i2l, 1) := by decide +kernel
theorem dX12_marks_11 : decode cX12_marks 11 = .ok (.lconst 0, 1) := by decide +kernel
theorem dX12_marks_12 : decode cX12_marks 12 = .ok (.ldc2_w 289, 3) := by decide +kernel
theorem dX12_marks_15 : decode cX12_marks 15 = .ok (.invokestatic 115, 3) := by decide +kernel
theorem dX12_marks_18 : decode cX12_marks 18 = .ok (.ifCond .ne 6, 3) := by decide +kernel
theorem dX12_marks_24 : decode cX12_marks 24 = .ok (.aload_n 0, 1) := by decide +kernel
theorem dX12_marks_25 : decode cX12_marks 25 = .ok (.getfield 9, 3) := by decide +kernel
theorem dX12_marks_28 : decode cX12_marks 28 = .ok (.iconst 4, 1) := by decide +kernel
theorem dX12_marks_29 : decode cX12_marks 29 = .ok (.iaload, 1) := by decide +kernel
theorem dX12_marks_30 : decode cX12_marks 30 = .ok (.ifCond .le 6, 3) := by decide +kernel
theorem dX12_marks_36 : decode cX12_marks 36 = .ok (.aload_n 0, 1) := by decide +kernel
theorem dX12_marks_37 : decode cX12_marks 37 = .ok (.iload_n 1, 1) := by decide +kernel
theorem dX12_marks_38 : decode cX12_marks 38 = .ok (.invokevirtual 276, 3) := by decide +kernel
theorem dX12_marks_41 : decode cX12_marks 41 = .ok (.istore_n 3, 1) := by decide +kernel
theorem dX12_marks_42 : decode cX12_marks 42 = .ok (.aload_n 0, 1) := by decide +kernel
theorem dX12_marks_43 : decode cX12_marks 43 = .ok (.getfield 9, 3) := by decide +kernel
theorem dX12_marks_46 : decode cX12_marks 46 = .ok (.bipush 45, 2) := by decide +kernel
theorem dX12_marks_48 : decode cX12_marks 48 = .ok (.iload_n 1, 1) := by decide +kernel
theorem dX12_marks_49 : decode cX12_marks 49 = .ok (.iadd, 1) := by decide +kernel
theorem dX12_marks_50 : decode cX12_marks 50 = .ok (.iload_n 2, 1) := by decide +kernel
theorem dX12_marks_51 : decode cX12_marks 51 = .ok (.iastore, 1) := by decide +kernel
theorem dX12_marks_52 : decode cX12_marks 52 = .ok (.iload_n 3, 1) := by decide +kernel
theorem dX12_marks_53 : decode cX12_marks 53 = .ok (.ireturn, 1) := by decide +kernel
theorem dX12_marks_33 : decode cX12_marks 33 = .ok (.bipush (-5), 2) := by decide +kernel
theorem dX12_marks_35 : decode cX12_marks 35 = .ok (.ireturn, 1) := by decide +kernel
theorem dX12_goDrawn_0 : decode cX12_goDrawn 0 = .ok (.lload_n 1, 1) := by decide +kernel
theorem dX12_goDrawn_1 : decode cX12_goDrawn 1 = .ok (.lstore 5, 2) := by decide +kernel
theorem dX12_goDrawn_3 : decode cX12_goDrawn 3 = .ok (.aload_n 0, 1) := by decide +kernel
theorem dX12_goDrawn_4 : decode cX12_goDrawn 4 = .ok (.iload_n 3, 1) := by decide +kernel
theorem dX12_goDrawn_5 : decode cX12_goDrawn 5 = .ok (.invokevirtual 313, 3) := by decide +kernel
theorem dX12_goDrawn_8 : decode cX12_goDrawn 8 = .ok (.aload_n 0, 1) := by decide +kernel
theorem dX12_goDrawn_9 : decode cX12_goDrawn 9 = .ok (.aload_n 0, 1) := by decide +kernel
theorem dX12_goDrawn_10 : decode cX12_goDrawn 10 = .ok (.invokevirtual 319, 3) := by decide +kernel
theorem dX12_goDrawn_13 : decode cX12_goDrawn 13 = .ok (.ifCond .eq 7, 3) := by decide +kernel
theorem dX12_goDrawn_20 : decode cX12_goDrawn 20 = .ok (.iconst 0, 1) := by decide +kernel
theorem dX12_goDrawn_21 : decode cX12_goDrawn 21 = .ok (.putfield 470, 3) := by decide +kernel
theorem dX12_goDrawn_24 : decode cX12_goDrawn 24 = .ok (.iconst 0, 1) := by decide +kernel
theorem dX12_goDrawn_25 : decode cX12_goDrawn 25 = .ok (.istore 7, 2) := by decide +kernel
theorem dX12_goDrawn_27 : decode cX12_goDrawn 27 = .ok (.iload 7, 2) := by decide +kernel
theorem dX12_goDrawn_29 : decode cX12_goDrawn 29 = .ok (.iload 4, 2) := by decide +kernel
theorem dX12_goDrawn_31 : decode cX12_goDrawn 31 = .ok (.if_icmp .ge 61, 3) := by decide +kernel
theorem dX12_goDrawn_92 : decode cX12_goDrawn 92 = .ok (.return_, 1) := by decide +kernel
theorem dX12_goDrawn_34 : decode cX12_goDrawn 34 = .ok (.ldc2_w 473, 3) := by decide +kernel
theorem dX12_goDrawn_37 : decode cX12_goDrawn 37 = .ok (.lload 5, 2) := by decide +kernel
theorem dX12_goDrawn_39 : decode cX12_goDrawn 39 = .ok (.lmul, 1) := by decide +kernel
theorem dX12_goDrawn_40 : decode cX12_goDrawn 40 = .ok (.ldc2_w 475, 3) := by decide +kernel
theorem dX12_goDrawn_43 : decode cX12_goDrawn 43 = .ok (.ladd, 1) := by decide +kernel
theorem dX12_goDrawn_44 : decode cX12_goDrawn 44 = .ok (.ldc2_w 477, 3) := by decide +kernel
theorem dX12_goDrawn_47 : decode cX12_goDrawn 47 = .ok (.lrem, 1) := by decide +kernel
theorem dX12_goDrawn_48 : decode cX12_goDrawn 48 = .ok (.lstore 5, 2) := by decide +kernel
theorem dX12_goDrawn_50 : decode cX12_goDrawn 50 = .ok (.aload_n 0, 1) := by decide +kernel
theorem dX12_goDrawn_51 : decode cX12_goDrawn 51 = .ok (.lload 5, 2) := by decide +kernel
theorem dX12_goDrawn_53 : decode cX12_goDrawn 53 = .ok (.ldc2_w 479, 3) := by decide +kernel
theorem dX12_goDrawn_56 : decode cX12_goDrawn 56 = .ok (.ldiv, 1) := by decide +kernel
theorem dX12_goDrawn_57 : decode cX12_goDrawn 57 = .ok (.ldc2_w 424, 3) := by decide +kernel
theorem dX12_goDrawn_60 : decode cX12_goDrawn 60 = .ok (.lrem, 1) := by decide +kernel
theorem dX12_goDrawn_61 : decode cX12_goDrawn 61 = .ok (.l2i, 1) := by decide +kernel
theorem dX12_goDrawn_62 : decode cX12_goDrawn 62 = .ok (.invokevirtual 325, 3) := by decide +kernel
theorem dX12_goDrawn_65 : decode cX12_goDrawn 65 = .ok (.aload_n 0, 1) := by decide +kernel
theorem dX12_goDrawn_66 : decode cX12_goDrawn 66 = .ok (.dup, 1) := by decide +kernel
theorem dX12_goDrawn_67 : decode cX12_goDrawn 67 = .ok (.getfield 470, 3) := by decide +kernel
theorem dX12_goDrawn_70 : decode cX12_goDrawn 70 = .ok (.aload_n 0, 1) := by decide +kernel
theorem dX12_goDrawn_71 : decode cX12_goDrawn 71 = .ok (.invokevirtual 319, 3) := by decide +kernel
theorem dX12_goDrawn_74 : decode cX12_goDrawn 74 = .ok (.ifCond .eq 7, 3) := by decide +kernel
theorem dX12_goDrawn_81 : decode cX12_goDrawn 81 = .ok (.iconst 0, 1) := by decide +kernel
theorem dX12_goDrawn_82 : decode cX12_goDrawn 82 = .ok (.iadd, 1) := by decide +kernel
theorem dX12_goDrawn_83 : decode cX12_goDrawn 83 = .ok (.putfield 470, 3) := by decide +kernel
theorem dX12_goDrawn_86 : decode cX12_goDrawn 86 = .ok (.iinc 7 1, 3) := by decide +kernel
theorem dX12_goDrawn_89 : decode cX12_goDrawn 89 = .ok (.goto (-62), 3) := by decide +kernel
theorem dX12_goDrawn_77 : decode cX12_goDrawn 77 = .ok (.iconst 1, 1) := by decide +kernel
theorem dX12_goDrawn_78 : decode cX12_goDrawn 78 = .ok (.goto 4, 3) := by decide +kernel
theorem dX12_goDrawn_16 : decode cX12_goDrawn 16 = .ok (.iconst 1, 1) := by decide +kernel
theorem dX12_goDrawn_17 : decode cX12_goDrawn 17 = .ok (.goto 4, 3) := by decide +kernel
theorem dX12_isDrawn_0 : decode cX12_isDrawn 0 = .ok (.iload_n 1, 1) := by decide +kernel
theorem dX12_isDrawn_1 : decode cX12_isDrawn 1 = .ok (.i2l, 1) := by decide +kernel
theorem dX12_isDrawn_2 : decode cX12_isDrawn 2 = .ok (.lconst 0, 1) := by decide +kernel
theorem dX12_isDrawn_3 : decode cX12_isDrawn 3 = .ok (.ldc2_w 481, 3) := by decide +kernel
theorem dX12_isDrawn_6 : decode cX12_isDrawn 6 = .ok (.invokestatic 115, 3) := by decide +kernel
theorem dX12_isDrawn_9 : decode cX12_isDrawn 9 = .ok (.ifCond .eq 27, 3) := by decide +kernel
theorem dX12_isDrawn_36 : decode cX12_isDrawn 36 = .ok (.iconst 0, 1) := by decide +kernel
theorem dX12_isDrawn_37 : decode cX12_isDrawn 37 = .ok (.ireturn, 1) := by decide +kernel
theorem dX12_isDrawn_12 : decode cX12_isDrawn 12 = .ok (.aload_n 0, 1) := by decide +kernel
theorem dX12_isDrawn_13 : decode cX12_isDrawn 13 = .ok (.iload_n 2, 1) := by decide +kernel
theorem dX12_isDrawn_14 : decode cX12_isDrawn 14 = .ok (.invokevirtual 310, 3) := by decide +kernel
theorem dX12_isDrawn_17 : decode cX12_isDrawn 17 = .ok (.ifCond .eq 19, 3) := by decide +kernel
theorem dX12_isDrawn_20 : decode cX12_isDrawn 20 = .ok (.iload_n 3, 1) := by decide +kernel
theorem dX12_isDrawn_21 : decode cX12_isDrawn 21 = .ok (.i2l, 1) := by decide +kernel
theorem dX12_isDrawn_22 : decode cX12_isDrawn 22 = .ok (.lconst 0, 1) := by decide +kernel
theorem dX12_isDrawn_23 : decode cX12_isDrawn 23 = .ok (.ldc2_w 483, 3) := by decide +kernel
theorem dX12_isDrawn_26 : decode cX12_isDrawn 26 = .ok (.invokestatic 115, 3) := by decide +kernel
theorem dX12_isDrawn_29 : decode cX12_isDrawn 29 = .ok (.ifCond .eq 7, 3) := by decide +kernel
theorem dX12_isDrawn_32 : decode cX12_isDrawn 32 = .ok (.iconst 1, 1) := by decide +kernel
theorem dX12_isDrawn_33 : decode cX12_isDrawn 33 = .ok (.goto 4, 3) := by decide +kernel
theorem dX12_drawn_0 : decode cX12_drawn 0 = .ok (.aload_n 0, 1) := by decide +kernel
theorem dX12_drawn_1 : decode cX12_drawn 1 = .ok (.iload_n 1, 1) := by decide +kernel
theorem dX12_drawn_2 : decode cX12_drawn 2 = .ok (.iload_n 2, 1) := by decide +kernel
theorem dX12_drawn_3 : decode cX12_drawn 3 = .ok (.iload_n 3, 1) := by decide +kernel
theorem dX12_drawn_4 : decode cX12_drawn 4 = .ok (.invokevirtual 485, 3) := by decide +kernel
theorem dX12_drawn_7 : decode cX12_drawn 7 = .ok (.ifCond .eq 16, 3) := by decide +kernel
theorem dX12_drawn_23 : decode cX12_drawn 23 = .ok (.bipush (-2), 2) := by decide +kernel
theorem dX12_drawn_25 : decode cX12_drawn 25 = .ok (.ireturn, 1) := by decide +kernel
theorem dX12_drawn_10 : decode cX12_drawn 10 = .ok (.iload 4, 2) := by decide +kernel
theorem dX12_drawn_12 : decode cX12_drawn 12 = .ok (.i2l, 1) := by decide +kernel
theorem dX12_drawn_13 : decode cX12_drawn 13 = .ok (.lconst 0, 1) := by decide +kernel
theorem dX12_drawn_14 : decode cX12_drawn 14 = .ok (.ldc2_w 113, 3) := by decide +kernel
theorem dX12_drawn_17 : decode cX12_drawn 17 = .ok (.invokestatic 115, 3) := by decide +kernel
theorem dX12_drawn_20 : decode cX12_drawn 20 = .ok (.ifCond .ne 6, 3) := by decide +kernel
theorem dX12_drawn_26 : decode cX12_drawn 26 = .ok (.aload_n 0, 1) := by decide +kernel
theorem dX12_drawn_27 : decode cX12_drawn 27 = .ok (.iload_n 1, 1) := by decide +kernel
theorem dX12_drawn_28 : decode cX12_drawn 28 = .ok (.i2l, 1) := by decide +kernel
theorem dX12_drawn_29 : decode cX12_drawn 29 = .ok (.iload_n 2, 1) := by decide +kernel
theorem dX12_drawn_30 : decode cX12_drawn 30 = .ok (.iload_n 3, 1) := by decide +kernel
theorem dX12_drawn_31 : decode cX12_drawn 31 = .ok (.invokevirtual 489, 3) := by decide +kernel
theorem dX12_drawn_34 : decode cX12_drawn 34 = .ok (.iload 4, 2) := by decide +kernel
theorem dX12_drawn_36 : decode cX12_drawn 36 = .ok (.ifCond .ne 10, 3) := by decide +kernel
theorem dX12_drawn_46 : decode cX12_drawn 46 = .ok (.iload 4, 2) := by decide +kernel
theorem dX12_drawn_48 : decode cX12_drawn 48 = .ok (.iconst 1, 1) := by decide +kernel
theorem dX12_drawn_49 : decode cX12_drawn 49 = .ok (.if_icmp .ne 10, 3) := by decide +kernel
theorem dX12_drawn_59 : decode cX12_drawn 59 = .ok (.aload_n 0, 1) := by decide +kernel
theorem dX12_drawn_60 : decode cX12_drawn 60 = .ok (.getfield 470, 3) := by decide +kernel
theorem dX12_drawn_63 : decode cX12_drawn 63 = .ok (.ireturn, 1) := by decide +kernel
theorem dX12_drawn_52 : decode cX12_drawn 52 = .ok (.aload_n 0, 1) := by decide +kernel
theorem dX12_drawn_53 : decode cX12_drawn 53 = .ok (.getfield 303, 3) := by decide +kernel
theorem dX12_drawn_56 : decode cX12_drawn 56 = .ok (.goto 7, 3) := by decide +kernel
theorem dX12_drawn_39 : decode cX12_drawn 39 = .ok (.aload_n 0, 1) := by decide +kernel
theorem dX12_drawn_40 : decode cX12_drawn 40 = .ok (.getfield 297, 3) := by decide +kernel
theorem dX12_drawn_43 : decode cX12_drawn 43 = .ok (.goto 20, 3) := by decide +kernel
theorem dX12_luck_0 : decode cX12_luck 0 = .ok (.aload_n 0, 1) := by decide +kernel
theorem dX12_luck_1 : decode cX12_luck 1 = .ok (.iload_n 1, 1) := by decide +kernel
theorem dX12_luck_2 : decode cX12_luck 2 = .ok (.iload_n 3, 1) := by decide +kernel
theorem dX12_luck_3 : decode cX12_luck 3 = .ok (.iload 4, 2) := by decide +kernel
theorem dX12_luck_5 : decode cX12_luck 5 = .ok (.invokevirtual 485, 3) := by decide +kernel
theorem dX12_luck_8 : decode cX12_luck 8 = .ok (.ifCond .eq 15, 3) := by decide +kernel
theorem dX12_luck_23 : decode cX12_luck 23 = .ok (.bipush (-2), 2) := by decide +kernel
theorem dX12_luck_25 : decode cX12_luck 25 = .ok (.ireturn, 1) := by decide +kernel
theorem dX12_luck_11 : decode cX12_luck 11 = .ok (.iload_n 2, 1) := by decide +kernel
theorem dX12_luck_12 : decode cX12_luck 12 = .ok (.i2l, 1) := by decide +kernel
theorem dX12_luck_13 : decode cX12_luck 13 = .ok (.lconst 1, 1) := by decide +kernel
theorem dX12_luck_14 : decode cX12_luck 14 = .ok (.ldc2_w 493, 3) := by decide +kernel
theorem dX12_luck_17 : decode cX12_luck 17 = .ok (.invokestatic 115, 3) := by decide +kernel
theorem dX12_luck_20 : decode cX12_luck 20 = .ok (.ifCond .ne 6, 3) := by decide +kernel
theorem dX12_luck_26 : decode cX12_luck 26 = .ok (.iconst 0, 1) := by decide +kernel
theorem dX12_luck_27 : decode cX12_luck 27 = .ok (.istore 5, 2) := by decide +kernel
theorem dX12_luck_29 : decode cX12_luck 29 = .ok (.iconst 0, 1) := by decide +kernel
theorem dX12_luck_30 : decode cX12_luck 30 = .ok (.istore 6, 2) := by decide +kernel
theorem dX12_luck_32 : decode cX12_luck 32 = .ok (.iload 6, 2) := by decide +kernel
theorem dX12_luck_34 : decode cX12_luck 34 = .ok (.iload_n 2, 1) := by decide +kernel
theorem dX12_luck_35 : decode cX12_luck 35 = .ok (.if_icmp .ge 39, 3) := by decide +kernel
theorem dX12_luck_74 : decode cX12_luck 74 = .ok (.iload 5, 2) := by decide +kernel
theorem dX12_luck_76 : decode cX12_luck 76 = .ok (.ireturn, 1) := by decide +kernel
theorem dX12_luck_38 : decode cX12_luck 38 = .ok (.aload_n 0, 1) := by decide +kernel
theorem dX12_luck_39 : decode cX12_luck 39 = .ok (.iload_n 1, 1) := by decide +kernel
theorem dX12_luck_40 : decode cX12_luck 40 = .ok (.i2l, 1) := by decide +kernel
theorem dX12_luck_41 : decode cX12_luck 41 = .ok (.iload 6, 2) := by decide +kernel
theorem dX12_luck_43 : decode cX12_luck 43 = .ok (.i2l, 1) := by decide +kernel
theorem dX12_luck_44 : decode cX12_luck 44 = .ok (.ladd, 1) := by decide +kernel
theorem dX12_luck_45 : decode cX12_luck 45 = .ok (.iload_n 3, 1) := by decide +kernel
theorem dX12_luck_46 : decode cX12_luck 46 = .ok (.iload 4, 2) := by decide +kernel
theorem dX12_luck_48 : decode cX12_luck 48 = .ok (.invokevirtual 489, 3) := by decide +kernel
theorem dX12_luck_51 : decode cX12_luck 51 = .ok (.iload 5, 2) := by decide +kernel
theorem dX12_luck_53 : decode cX12_luck 53 = .ok (.aload_n 0, 1) := by decide +kernel
theorem dX12_luck_54 : decode cX12_luck 54 = .ok (.invokevirtual 319, 3) := by decide +kernel
theorem dX12_luck_57 : decode cX12_luck 57 = .ok (.ifCond .eq 7, 3) := by decide +kernel
theorem dX12_luck_64 : decode cX12_luck 64 = .ok (.iconst 0, 1) := by decide +kernel
theorem dX12_luck_65 : decode cX12_luck 65 = .ok (.iadd, 1) := by decide +kernel
theorem dX12_luck_66 : decode cX12_luck 66 = .ok (.istore 5, 2) := by decide +kernel
theorem dX12_luck_68 : decode cX12_luck 68 = .ok (.iinc 6 1, 3) := by decide +kernel
theorem dX12_luck_71 : decode cX12_luck 71 = .ok (.goto (-39), 3) := by decide +kernel
theorem dX12_luck_60 : decode cX12_luck 60 = .ok (.iconst 1, 1) := by decide +kernel
theorem dX12_luck_61 : decode cX12_luck 61 = .ok (.goto 4, 3) := by decide +kernel
theorem dX12_count_0 : decode cX12_count 0 = .ok (.iconst 0, 1) := by decide +kernel
theorem dX12_count_1 : decode cX12_count 1 = .ok (.istore_n 2, 1) := by decide +kernel
theorem dX12_count_2 : decode cX12_count 2 = .ok (.iload_n 1, 1) := by decide +kernel
theorem dX12_count_3 : decode cX12_count 3 = .ok (.tableswitch 212 0 8 #[49, 56, 110, 146, 153, 160, 167, 172, 179], 49) := by decide +kernel
theorem dX12_count_52 : decode cX12_count 52 = .ok (.aload_n 0, 1) := by decide +kernel
theorem dX12_count_53 : decode cX12_count 53 = .ok (.getfield 9, 3) := by decide +kernel
theorem dX12_count_56 : decode cX12_count 56 = .ok (.iconst 0, 1) := by decide +kernel
theorem dX12_count_57 : decode cX12_count 57 = .ok (.iaload, 1) := by decide +kernel
theorem dX12_count_58 : decode cX12_count 58 = .ok (.ireturn, 1) := by decide +kernel
theorem dX12_count_59 : decode cX12_count 59 = .ok (.iconst 0, 1) := by decide +kernel
theorem dX12_count_60 : decode cX12_count 60 = .ok (.istore_n 3, 1) := by decide +kernel
theorem dX12_count_61 : decode cX12_count 61 = .ok (.iload_n 3, 1) := by decide +kernel
theorem dX12_count_62 : decode cX12_count 62 = .ok (.aload_n 0, 1) := by decide +kernel
theorem dX12_count_63 : decode cX12_count 63 = .ok (.getfield 9, 3) := by decide +kernel
theorem dX12_count_66 : decode cX12_count 66 = .ok (.iconst 0, 1) := by decide +kernel
theorem dX12_count_67 : decode cX12_count 67 = .ok (.iaload, 1) := by decide +kernel
theorem dX12_count_68 : decode cX12_count 68 = .ok (.if_icmp .ge 43, 3) := by decide +kernel
theorem dX12_count_111 : decode cX12_count 111 = .ok (.iload_n 2, 1) := by decide +kernel
theorem dX12_count_112 : decode cX12_count 112 = .ok (.ireturn, 1) := by decide +kernel
theorem dX12_count_71 : decode cX12_count 71 = .ok (.iconst 0, 1) := by decide +kernel
theorem dX12_count_72 : decode cX12_count 72 = .ok (.istore 4, 2) := by decide +kernel
theorem dX12_count_74 : decode cX12_count 74 = .ok (.iload 4, 2) := by decide +kernel
theorem dX12_count_76 : decode cX12_count 76 = .ok (.iconst 4, 1) := by decide +kernel
theorem dX12_count_77 : decode cX12_count 77 = .ok (.if_icmp .ge 28, 3) := by decide +kernel
theorem dX12_count_105 : decode cX12_count 105 = .ok (.iinc 3 1, 3) := by decide +kernel
theorem dX12_count_108 : decode cX12_count 108 = .ok (.goto (-47), 3) := by decide +kernel
theorem dX12_count_80 : decode cX12_count 80 = .ok (.iload_n 2, 1) := by decide +kernel
theorem dX12_count_81 : decode cX12_count 81 = .ok (.aload_n 0, 1) := by decide +kernel
theorem dX12_count_82 : decode cX12_count 82 = .ok (.iload_n 3, 1) := by decide +kernel
theorem dX12_count_83 : decode cX12_count 83 = .ok (.iload 4, 2) := by decide +kernel
theorem dX12_count_85 : decode cX12_count 85 = .ok (.invokevirtual 273, 3) := by decide +kernel
theorem dX12_count_88 : decode cX12_count 88 = .ok (.iload_n 3, 1) := by decide +kernel
theorem dX12_count_89 : decode cX12_count 89 = .ok (.if_icmp .ne 7, 3) := by decide +kernel
theorem dX12_count_96 : decode cX12_count 96 = .ok (.iconst 1, 1) := by decide +kernel
theorem dX12_count_97 : decode cX12_count 97 = .ok (.iadd, 1) := by decide +kernel
theorem dX12_count_98 : decode cX12_count 98 = .ok (.istore_n 2, 1) := by decide +kernel
theorem dX12_count_99 : decode cX12_count 99 = .ok (.iinc 4 1, 3) := by decide +kernel
theorem dX12_count_102 : decode cX12_count 102 = .ok (.goto (-28), 3) := by decide +kernel
theorem dX12_count_92 : decode cX12_count 92 = .ok (.iconst 0, 1) := by decide +kernel
theorem dX12_count_93 : decode cX12_count 93 = .ok (.goto 4, 3) := by decide +kernel
theorem dX12_count_113 : decode cX12_count 113 = .ok (.iconst 0, 1) := by decide +kernel
theorem dX12_count_114 : decode cX12_count 114 = .ok (.istore_n 3, 1) := by decide +kernel
theorem dX12_count_115 : decode cX12_count 115 = .ok (.iload_n 3, 1) := by decide +kernel
theorem dX12_count_116 : decode cX12_count 116 = .ok (.aload_n 0, 1) := by decide +kernel
theorem dX12_count_117 : decode cX12_count 117 = .ok (.getfield 9, 3) := by decide +kernel
theorem dX12_count_120 : decode cX12_count 120 = .ok (.iconst 0, 1) := by decide +kernel
theorem dX12_count_121 : decode cX12_count 121 = .ok (.iaload, 1) := by decide +kernel
theorem dX12_count_122 : decode cX12_count 122 = .ok (.if_icmp .ge 25, 3) := by decide +kernel
theorem dX12_count_147 : decode cX12_count 147 = .ok (.iload_n 2, 1) := by decide +kernel
theorem dX12_count_148 : decode cX12_count 148 = .ok (.ireturn, 1) := by decide +kernel
theorem dX12_count_125 : decode cX12_count 125 = .ok (.iload_n 2, 1) := by decide +kernel
theorem dX12_count_126 : decode cX12_count 126 = .ok (.aload_n 0, 1) := by decide +kernel
theorem dX12_count_127 : decode cX12_count 127 = .ok (.iload_n 3, 1) := by decide +kernel
theorem dX12_count_128 : decode cX12_count 128 = .ok (.invokevirtual 276, 3) := by decide +kernel
theorem dX12_count_131 : decode cX12_count 131 = .ok (.ifCond .ne 7, 3) := by decide +kernel
theorem dX12_count_138 : decode cX12_count 138 = .ok (.iconst 1, 1) := by decide +kernel
theorem dX12_count_139 : decode cX12_count 139 = .ok (.iadd, 1) := by decide +kernel
theorem dX12_count_140 : decode cX12_count 140 = .ok (.istore_n 2, 1) := by decide +kernel
theorem dX12_count_141 : decode cX12_count 141 = .ok (.iinc 3 1, 3) := by decide +kernel
theorem dX12_count_144 : decode cX12_count 144 = .ok (.goto (-29), 3) := by decide +kernel
theorem dX12_count_134 : decode cX12_count 134 = .ok (.iconst 0, 1) := by decide +kernel
theorem dX12_count_135 : decode cX12_count 135 = .ok (.goto 4, 3) := by decide +kernel
theorem dX12_count_149 : decode cX12_count 149 = .ok (.aload_n 0, 1) := by decide +kernel
theorem dX12_count_150 : decode cX12_count 150 = .ok (.getfield 9, 3) := by decide +kernel
theorem dX12_count_153 : decode cX12_count 153 = .ok (.iconst 1, 1) := by decide +kernel
theorem dX12_count_154 : decode cX12_count 154 = .ok (.iaload, 1) := by decide +kernel
theorem dX12_count_155 : decode cX12_count 155 = .ok (.ireturn, 1) := by decide +kernel
theorem dX12_count_156 : decode cX12_count 156 = .ok (.aload_n 0, 1) := by decide +kernel
theorem dX12_count_157 : decode cX12_count 157 = .ok (.getfield 9, 3) := by decide +kernel
theorem dX12_count_160 : decode cX12_count 160 = .ok (.iconst 2, 1) := by decide +kernel
theorem dX12_count_161 : decode cX12_count 161 = .ok (.iaload, 1) := by decide +kernel
theorem dX12_count_162 : decode cX12_count 162 = .ok (.ireturn, 1) := by decide +kernel
theorem dX12_count_163 : decode cX12_count 163 = .ok (.aload_n 0, 1) := by decide +kernel
theorem dX12_count_164 : decode cX12_count 164 = .ok (.getfield 9, 3) := by decide +kernel
theorem dX12_count_167 : decode cX12_count 167 = .ok (.iconst 3, 1) := by decide +kernel
theorem dX12_count_168 : decode cX12_count 168 = .ok (.iaload, 1) := by decide +kernel
theorem dX12_count_169 : decode cX12_count 169 = .ok (.ireturn, 1) := by decide +kernel
theorem dX12_count_170 : decode cX12_count 170 = .ok (.aload_n 0, 1) := by decide +kernel
theorem dX12_count_171 : decode cX12_count 171 = .ok (.getfield 133, 3) := by decide +kernel
theorem dX12_count_174 : decode cX12_count 174 = .ok (.ireturn, 1) := by decide +kernel
theorem dX12_count_175 : decode cX12_count 175 = .ok (.aload_n 0, 1) := by decide +kernel
theorem dX12_count_176 : decode cX12_count 176 = .ok (.getfield 9, 3) := by decide +kernel
theorem dX12_count_179 : decode cX12_count 179 = .ok (.iconst 4, 1) := by decide +kernel
theorem dX12_count_180 : decode cX12_count 180 = .ok (.iaload, 1) := by decide +kernel
theorem dX12_count_181 : decode cX12_count 181 = .ok (.ireturn, 1) := by decide +kernel
theorem dX12_count_182 : decode cX12_count 182 = .ok (.iconst 0, 1) := by decide +kernel
theorem dX12_count_183 : decode cX12_count 183 = .ok (.istore_n 3, 1) := by decide +kernel
theorem dX12_count_184 : decode cX12_count 184 = .ok (.iload_n 3, 1) := by decide +kernel
theorem dX12_count_185 : decode cX12_count 185 = .ok (.iconst 4, 1) := by decide +kernel
theorem dX12_count_186 : decode cX12_count 186 = .ok (.if_icmp .ge 27, 3) := by decide +kernel
theorem dX12_count_213 : decode cX12_count 213 = .ok (.iload_n 2, 1) := by decide +kernel
theorem dX12_count_214 : decode cX12_count 214 = .ok (.ireturn, 1) := by decide +kernel
theorem dX12_count_189 : decode cX12_count 189 = .ok (.iload_n 2, 1) := by decide +kernel
theorem dX12_count_190 : decode cX12_count 190 = .ok (.aload_n 0, 1) := by decide +kernel
theorem dX12_count_191 : decode cX12_count 191 = .ok (.getfield 97, 3) := by decide +kernel
theorem dX12_count_194 : decode cX12_count 194 = .ok (.iload_n 3, 1) := by decide +kernel
theorem dX12_count_195 : decode cX12_count 195 = .ok (.iaload, 1) := by decide +kernel
theorem dX12_count_196 : decode cX12_count 196 = .ok (.iconst (-1), 1) := by decide +kernel
theorem dX12_count_197 : decode cX12_count 197 = .ok (.if_icmp .ne 7, 3) := by decide +kernel
theorem dX12_count_204 : decode cX12_count 204 = .ok (.iconst 1, 1) := by decide +kernel
theorem dX12_count_205 : decode cX12_count 205 = .ok (.iadd, 1) := by decide +kernel
theorem dX12_count_206 : decode cX12_count 206 = .ok (.istore_n 2, 1) := by decide +kernel
theorem dX12_count_207 : decode cX12_count 207 = .ok (.iinc 3 1, 3) := by decide +kernel
theorem dX12_count_210 : decode cX12_count 210 = .ok (.goto (-26), 3) := by decide +kernel
theorem dX12_count_200 : decode cX12_count 200 = .ok (.iconst 0, 1) := by decide +kernel
theorem dX12_count_201 : decode cX12_count 201 = .ok (.goto 4, 3) := by decide +kernel
theorem dX12_count_215 : decode cX12_count 215 = .ok (.iconst (-1), 1) := by decide +kernel
theorem dX12_count_216 : decode cX12_count 216 = .ok (.ireturn, 1) := by decide +kernel
theorem dX12_cut_0 : decode cX12_cut 0 = .ok (.bipush 64, 2) := by decide +kernel
theorem dX12_cut_2 : decode cX12_cut 2 = .ok (.bipush 8, 2) := by decide +kernel
theorem dX12_cut_4 : decode cX12_cut 4 = .ok (.iload_n 2, 1) := by decide +kernel
theorem dX12_cut_5 : decode cX12_cut 5 = .ok (.ishl, 1) := by decide +kernel
theorem dX12_cut_6 : decode cX12_cut 6 = .ok (.isub, 1) := by decide +kernel
theorem dX12_cut_7 : decode cX12_cut 7 = .ok (.istore_n 3, 1) := by decide +kernel
theorem dX12_cut_8 : decode cX12_cut 8 = .ok (.lload_n 0, 1) := by decide +kernel
