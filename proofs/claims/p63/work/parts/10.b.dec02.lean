theorem dX3_deepest_58 : decode cX3_deepest 58 = .ok (.if_icmp .ne 5, 3) := by decide +kernel
theorem dX3_deepest_63 : decode cX3_deepest 63 = .ok (.iload_n 2, 1) := by decide +kernel
theorem dX3_deepest_64 : decode cX3_deepest 64 = .ok (.iload 5, 2) := by decide +kernel
theorem dX3_deepest_66 : decode cX3_deepest 66 = .ok (.invokestatic 71, 3) := by decide +kernel
theorem dX3_deepest_69 : decode cX3_deepest 69 = .ok (.istore_n 2, 1) := by decide +kernel
theorem dX3_deepest_70 : decode cX3_deepest 70 = .ok (.iload_n 3, 1) := by decide +kernel
theorem dX3_deepest_71 : decode cX3_deepest 71 = .ok (.aload_n 0, 1) := by decide +kernel
theorem dX3_deepest_72 : decode cX3_deepest 72 = .ok (.getfield 18, 3) := by decide +kernel
theorem dX3_deepest_75 : decode cX3_deepest 75 = .ok (.iload 4, 2) := by decide +kernel
theorem dX3_deepest_77 : decode cX3_deepest 77 = .ok (.iaload, 1) := by decide +kernel
theorem dX3_deepest_78 : decode cX3_deepest 78 = .ok (.iconst (-1), 1) := by decide +kernel
theorem dX3_deepest_79 : decode cX3_deepest 79 = .ok (.ixor, 1) := by decide +kernel
theorem dX3_deepest_80 : decode cX3_deepest 80 = .ok (.iand, 1) := by decide +kernel
theorem dX3_deepest_81 : decode cX3_deepest 81 = .ok (.istore_n 3, 1) := by decide +kernel
theorem dX3_deepest_82 : decode cX3_deepest 82 = .ok (.iinc 4 1, 3) := by decide +kernel
theorem dX3_deepest_85 : decode cX3_deepest 85 = .ok (.goto (-73), 3) := by decide +kernel
theorem dX3_deepest_61 : decode cX3_deepest 61 = .ok (.iconst (-1), 1) := by decide +kernel
theorem dX3_deepest_62 : decode cX3_deepest 62 = .ok (.ireturn, 1) := by decide +kernel
theorem dX3_deepest_32 : decode cX3_deepest 32 = .ok (.goto 50, 3) := by decide +kernel
theorem dX3_windTo_0 : decode cX3_windTo 0 = .ok (.iload_n 1, 1) := by decide +kernel
theorem dX3_windTo_1 : decode cX3_windTo 1 = .ok (.ifCond .lt 10, 3) := by decide +kernel
theorem dX3_windTo_11 : decode cX3_windTo 11 = .ok (.iconst (-1), 1) := by decide +kernel
theorem dX3_windTo_12 : decode cX3_windTo 12 = .ok (.ireturn, 1) := by decide +kernel
theorem dX3_windTo_4 : decode cX3_windTo 4 = .ok (.iload_n 1, 1) := by decide +kernel
theorem dX3_windTo_5 : decode cX3_windTo 5 = .ok (.sipush 1024, 3) := by decide +kernel
theorem dX3_windTo_8 : decode cX3_windTo 8 = .ok (.if_icmp .lt 5, 3) := by decide +kernel
theorem dX3_windTo_13 : decode cX3_windTo 13 = .ok (.iconst 0, 1) := by decide +kernel
theorem dX3_windTo_14 : decode cX3_windTo 14 = .ok (.istore_n 3, 1) := by decide +kernel
theorem dX3_windTo_15 : decode cX3_windTo 15 = .ok (.iload_n 3, 1) := by decide +kernel
theorem dX3_windTo_16 : decode cX3_windTo 16 = .ok (.iconst 4, 1) := by decide +kernel
theorem dX3_windTo_17 : decode cX3_windTo 17 = .ok (.if_icmp .ge 39, 3) := by decide +kernel
theorem dX3_windTo_56 : decode cX3_windTo 56 = .ok (.iconst (-1), 1) := by decide +kernel
theorem dX3_windTo_57 : decode cX3_windTo 57 = .ok (.ireturn, 1) := by decide +kernel
theorem dX3_windTo_20 : decode cX3_windTo 20 = .ok (.aload_n 0, 1) := by decide +kernel
theorem dX3_windTo_21 : decode cX3_windTo 21 = .ok (.aload_n 0, 1) := by decide +kernel
theorem dX3_windTo_22 : decode cX3_windTo 22 = .ok (.getfield 15, 3) := by decide +kernel
theorem dX3_windTo_25 : decode cX3_windTo 25 = .ok (.iload_n 1, 1) := by decide +kernel
theorem dX3_windTo_26 : decode cX3_windTo 26 = .ok (.iconst 4, 1) := by decide +kernel
theorem dX3_windTo_27 : decode cX3_windTo 27 = .ok (.imul, 1) := by decide +kernel
theorem dX3_windTo_28 : decode cX3_windTo 28 = .ok (.iload_n 3, 1) := by decide +kernel
theorem dX3_windTo_29 : decode cX3_windTo 29 = .ok (.iadd, 1) := by decide +kernel
theorem dX3_windTo_30 : decode cX3_windTo 30 = .ok (.iaload, 1) := by decide +kernel
theorem dX3_windTo_31 : decode cX3_windTo 31 = .ok (.invokevirtual 68, 3) := by decide +kernel
theorem dX3_windTo_34 : decode cX3_windTo 34 = .ok (.istore 4, 2) := by decide +kernel
theorem dX3_windTo_36 : decode cX3_windTo 36 = .ok (.iload 4, 2) := by decide +kernel
theorem dX3_windTo_38 : decode cX3_windTo 38 = .ok (.iconst (-1), 1) := by decide +kernel
theorem dX3_windTo_39 : decode cX3_windTo 39 = .ok (.if_icmp .eq 11, 3) := by decide +kernel
theorem dX3_windTo_50 : decode cX3_windTo 50 = .ok (.iinc 3 1, 3) := by decide +kernel
theorem dX3_windTo_53 : decode cX3_windTo 53 = .ok (.goto (-38), 3) := by decide +kernel
theorem dX3_windTo_42 : decode cX3_windTo 42 = .ok (.iload 4, 2) := by decide +kernel
theorem dX3_windTo_44 : decode cX3_windTo 44 = .ok (.iload_n 2, 1) := by decide +kernel
theorem dX3_windTo_45 : decode cX3_windTo 45 = .ok (.if_icmp .ge 5, 3) := by decide +kernel
theorem dX3_windTo_48 : decode cX3_windTo 48 = .ok (.iload_n 3, 1) := by decide +kernel
theorem dX3_windTo_49 : decode cX3_windTo 49 = .ok (.ireturn, 1) := by decide +kernel
theorem dX3_settle_0 : decode cX3_settle 0 = .ok (.iconst 0, 1) := by decide +kernel
theorem dX3_settle_1 : decode cX3_settle 1 = .ok (.istore_n 2, 1) := by decide +kernel
theorem dX3_settle_2 : decode cX3_settle 2 = .ok (.iconst 1, 1) := by decide +kernel
theorem dX3_settle_3 : decode cX3_settle 3 = .ok (.istore_n 3, 1) := by decide +kernel
theorem dX3_settle_4 : decode cX3_settle 4 = .ok (.iload_n 3, 1) := by decide +kernel
theorem dX3_settle_5 : decode cX3_settle 5 = .ok (.aload_n 0, 1) := by decide +kernel
theorem dX3_settle_6 : decode cX3_settle 6 = .ok (.getfield 37, 3) := by decide +kernel
theorem dX3_settle_9 : decode cX3_settle 9 = .ok (.if_icmp .gt 53, 3) := by decide +kernel
theorem dX3_settle_62 : decode cX3_settle 62 = .ok (.iload_n 2, 1) := by decide +kernel
theorem dX3_settle_63 : decode cX3_settle 63 = .ok (.ireturn, 1) := by decide +kernel
theorem dX3_settle_12 : decode cX3_settle 12 = .ok (.iload_n 3, 1) := by decide +kernel
theorem dX3_settle_13 : decode cX3_settle 13 = .ok (.sipush 1024, 3) := by decide +kernel
theorem dX3_settle_16 : decode cX3_settle 16 = .ok (.if_icmp .ge 46, 3) := by decide +kernel
theorem dX3_settle_19 : decode cX3_settle 19 = .ok (.aload_n 0, 1) := by decide +kernel
theorem dX3_settle_20 : decode cX3_settle 20 = .ok (.getfield 9, 3) := by decide +kernel
theorem dX3_settle_23 : decode cX3_settle 23 = .ok (.iload_n 3, 1) := by decide +kernel
theorem dX3_settle_24 : decode cX3_settle 24 = .ok (.iaload, 1) := by decide +kernel
theorem dX3_settle_25 : decode cX3_settle 25 = .ok (.iconst (-1), 1) := by decide +kernel
theorem dX3_settle_26 : decode cX3_settle 26 = .ok (.if_icmp .ne 30, 3) := by decide +kernel
theorem dX3_settle_56 : decode cX3_settle 56 = .ok (.iinc 3 1, 3) := by decide +kernel
theorem dX3_settle_59 : decode cX3_settle 59 = .ok (.goto (-55), 3) := by decide +kernel
theorem dX3_settle_29 : decode cX3_settle 29 = .ok (.aload_n 0, 1) := by decide +kernel
theorem dX3_settle_30 : decode cX3_settle 30 = .ok (.iload_n 3, 1) := by decide +kernel
theorem dX3_settle_31 : decode cX3_settle 31 = .ok (.invokevirtual 59, 3) := by decide +kernel
theorem dX3_settle_34 : decode cX3_settle 34 = .ok (.ifCond .eq 22, 3) := by decide +kernel
theorem dX3_settle_37 : decode cX3_settle 37 = .ok (.aload_n 0, 1) := by decide +kernel
theorem dX3_settle_38 : decode cX3_settle 38 = .ok (.iload_n 3, 1) := by decide +kernel
theorem dX3_settle_39 : decode cX3_settle 39 = .ok (.iload_n 1, 1) := by decide +kernel
theorem dX3_settle_40 : decode cX3_settle 40 = .ok (.invokevirtual 62, 3) := by decide +kernel
theorem dX3_settle_43 : decode cX3_settle 43 = .ok (.iconst (-1), 1) := by decide +kernel
theorem dX3_settle_44 : decode cX3_settle 44 = .ok (.if_icmp .eq 12, 3) := by decide +kernel
theorem dX3_settle_47 : decode cX3_settle 47 = .ok (.aload_n 0, 1) := by decide +kernel
theorem dX3_settle_48 : decode cX3_settle 48 = .ok (.getfield 9, 3) := by decide +kernel
theorem dX3_settle_51 : decode cX3_settle 51 = .ok (.iload_n 3, 1) := by decide +kernel
theorem dX3_settle_52 : decode cX3_settle 52 = .ok (.iload_n 1, 1) := by decide +kernel
theorem dX3_settle_53 : decode cX3_settle 53 = .ok (.iastore, 1) := by decide +kernel
theorem dX3_settle_54 : decode cX3_settle 54 = .ok (.iconst 1, 1) := by decide +kernel
theorem dX3_settle_55 : decode cX3_settle 55 = .ok (.istore_n 2, 1) := by decide +kernel
theorem dX3_leastWind_0 : decode cX3_leastWind 0 = .ok (.iload_n 1, 1) := by decide +kernel
theorem dX3_leastWind_1 : decode cX3_leastWind 1 = .ok (.iconst 1, 1) := by decide +kernel
theorem dX3_leastWind_2 : decode cX3_leastWind 2 = .ok (.if_icmp .lt 28, 3) := by decide +kernel
theorem dX3_leastWind_30 : decode cX3_leastWind 30 = .ok (.iconst (-1), 1) := by decide +kernel
theorem dX3_leastWind_31 : decode cX3_leastWind 31 = .ok (.ireturn, 1) := by decide +kernel
theorem dX3_leastWind_5 : decode cX3_leastWind 5 = .ok (.iload_n 1, 1) := by decide +kernel
theorem dX3_leastWind_6 : decode cX3_leastWind 6 = .ok (.sipush 1024, 3) := by decide +kernel
theorem dX3_leastWind_9 : decode cX3_leastWind 9 = .ok (.if_icmp .ge 21, 3) := by decide +kernel
theorem dX3_leastWind_12 : decode cX3_leastWind 12 = .ok (.aload_n 0, 1) := by decide +kernel
theorem dX3_leastWind_13 : decode cX3_leastWind 13 = .ok (.iload_n 1, 1) := by decide +kernel
theorem dX3_leastWind_14 : decode cX3_leastWind 14 = .ok (.invokevirtual 59, 3) := by decide +kernel
theorem dX3_leastWind_17 : decode cX3_leastWind 17 = .ok (.ifCond .eq 13, 3) := by decide +kernel
theorem dX3_leastWind_20 : decode cX3_leastWind 20 = .ok (.aload_n 0, 1) := by decide +kernel
theorem dX3_leastWind_21 : decode cX3_leastWind 21 = .ok (.getfield 9, 3) := by decide +kernel
theorem dX3_leastWind_24 : decode cX3_leastWind 24 = .ok (.iload_n 1, 1) := by decide +kernel
theorem dX3_leastWind_25 : decode cX3_leastWind 25 = .ok (.iaload, 1) := by decide +kernel
theorem dX3_leastWind_26 : decode cX3_leastWind 26 = .ok (.iconst 1, 1) := by decide +kernel
theorem dX3_leastWind_27 : decode cX3_leastWind 27 = .ok (.if_icmp .ge 5, 3) := by decide +kernel
theorem dX3_leastWind_32 : decode cX3_leastWind 32 = .ok (.aload_n 0, 1) := by decide +kernel
theorem dX3_leastWind_33 : decode cX3_leastWind 33 = .ok (.iload_n 1, 1) := by decide +kernel
theorem dX3_leastWind_34 : decode cX3_leastWind 34 = .ok (.aload_n 0, 1) := by decide +kernel
theorem dX3_leastWind_35 : decode cX3_leastWind 35 = .ok (.getfield 9, 3) := by decide +kernel
theorem dX3_leastWind_38 : decode cX3_leastWind 38 = .ok (.iload_n 1, 1) := by decide +kernel
theorem dX3_leastWind_39 : decode cX3_leastWind 39 = .ok (.iaload, 1) := by decide +kernel
theorem dX3_leastWind_40 : decode cX3_leastWind 40 = .ok (.invokevirtual 62, 3) := by decide +kernel
theorem dX3_leastWind_43 : decode cX3_leastWind 43 = .ok (.ireturn, 1) := by decide +kernel
theorem dX3_prepare_0 : decode cX3_prepare 0 = .ok (.aload_n 0, 1) := by decide +kernel
theorem dX3_prepare_1 : decode cX3_prepare 1 = .ok (.getfield 21, 3) := by decide +kernel
theorem dX3_prepare_4 : decode cX3_prepare 4 = .ok (.ifCond .eq 4, 3) := by decide +kernel
theorem dX3_prepare_8 : decode cX3_prepare 8 = .ok (.aload_n 0, 1) := by decide +kernel
theorem dX3_prepare_9 : decode cX3_prepare 9 = .ok (.iconst 1, 1) := by decide +kernel
theorem dX3_prepare_10 : decode cX3_prepare 10 = .ok (.putfield 21, 3) := by decide +kernel
theorem dX3_prepare_13 : decode cX3_prepare 13 = .ok (.aload_n 0, 1) := by decide +kernel
theorem dX3_prepare_14 : decode cX3_prepare 14 = .ok (.aload_n 1, 1) := by decide +kernel
theorem dX3_prepare_15 : decode cX3_prepare 15 = .ok (.invokevirtual 25, 3) := by decide +kernel
theorem dX3_prepare_18 : decode cX3_prepare 18 = .ok (.sipush 1023, 3) := by decide +kernel
theorem dX3_prepare_21 : decode cX3_prepare 21 = .ok (.invokestatic 31, 3) := by decide +kernel
theorem dX3_prepare_24 : decode cX3_prepare 24 = .ok (.putfield 37, 3) := by decide +kernel
theorem dX3_prepare_27 : decode cX3_prepare 27 = .ok (.iconst 0, 1) := by decide +kernel
theorem dX3_prepare_28 : decode cX3_prepare 28 = .ok (.istore_n 2, 1) := by decide +kernel
theorem dX3_prepare_29 : decode cX3_prepare 29 = .ok (.iload_n 2, 1) := by decide +kernel
theorem dX3_prepare_30 : decode cX3_prepare 30 = .ok (.bipush 10, 2) := by decide +kernel
theorem dX3_prepare_32 : decode cX3_prepare 32 = .ok (.if_icmp .ge 28, 3) := by decide +kernel
theorem dX3_prepare_60 : decode cX3_prepare 60 = .ok (.iconst 0, 1) := by decide +kernel
theorem dX3_prepare_61 : decode cX3_prepare 61 = .ok (.istore_n 2, 1) := by decide +kernel
theorem dX3_prepare_62 : decode cX3_prepare 62 = .ok (.iload_n 2, 1) := by decide +kernel
theorem dX3_prepare_63 : decode cX3_prepare 63 = .ok (.aload_n 0, 1) := by decide +kernel
theorem dX3_prepare_64 : decode cX3_prepare 64 = .ok (.getfield 37, 3) := by decide +kernel
theorem dX3_prepare_67 : decode cX3_prepare 67 = .ok (.if_icmp .gt 57, 3) := by decide +kernel
theorem dX3_prepare_124 : decode cX3_prepare 124 = .ok (.iconst 1, 1) := by decide +kernel
theorem dX3_prepare_125 : decode cX3_prepare 125 = .ok (.istore_n 2, 1) := by decide +kernel
theorem dX3_prepare_126 : decode cX3_prepare 126 = .ok (.iconst 1, 1) := by decide +kernel
theorem dX3_prepare_127 : decode cX3_prepare 127 = .ok (.istore_n 3, 1) := by decide +kernel
theorem dX3_prepare_128 : decode cX3_prepare 128 = .ok (.iload_n 3, 1) := by decide +kernel
theorem dX3_prepare_129 : decode cX3_prepare 129 = .ok (.sipush 1024, 3) := by decide +kernel
theorem dX3_prepare_132 : decode cX3_prepare 132 = .ok (.if_icmp .gt 19, 3) := by decide +kernel
theorem dX3_prepare_151 : decode cX3_prepare 151 = .ok (.return_, 1) := by decide +kernel
theorem dX3_prepare_135 : decode cX3_prepare 135 = .ok (.iload_n 2, 1) := by decide +kernel
theorem dX3_prepare_136 : decode cX3_prepare 136 = .ok (.ifCond .eq 15, 3) := by decide +kernel
theorem dX3_prepare_139 : decode cX3_prepare 139 = .ok (.aload_n 0, 1) := by decide +kernel
theorem dX3_prepare_140 : decode cX3_prepare 140 = .ok (.iload_n 3, 1) := by decide +kernel
theorem dX3_prepare_141 : decode cX3_prepare 141 = .ok (.invokevirtual 55, 3) := by decide +kernel
theorem dX3_prepare_144 : decode cX3_prepare 144 = .ok (.istore_n 2, 1) := by decide +kernel
theorem dX3_prepare_145 : decode cX3_prepare 145 = .ok (.iinc 3 1, 3) := by decide +kernel
theorem dX3_prepare_148 : decode cX3_prepare 148 = .ok (.goto (-20), 3) := by decide +kernel
theorem dX3_prepare_70 : decode cX3_prepare 70 = .ok (.aload_n 0, 1) := by decide +kernel
theorem dX3_prepare_71 : decode cX3_prepare 71 = .ok (.getfield 9, 3) := by decide +kernel
theorem dX3_prepare_74 : decode cX3_prepare 74 = .ok (.iload_n 2, 1) := by decide +kernel
theorem dX3_prepare_75 : decode cX3_prepare 75 = .ok (.iload_n 2, 1) := by decide +kernel
theorem dX3_prepare_76 : decode cX3_prepare 76 = .ok (.invokestatic 47, 3) := by decide +kernel
theorem dX3_prepare_79 : decode cX3_prepare 79 = .ok (.iconst 1, 1) := by decide +kernel
theorem dX3_prepare_80 : decode cX3_prepare 80 = .ok (.if_icmp .ne 7, 3) := by decide +kernel
theorem dX3_prepare_87 : decode cX3_prepare 87 = .ok (.iconst (-1), 1) := by decide +kernel
theorem dX3_prepare_88 : decode cX3_prepare 88 = .ok (.iastore, 1) := by decide +kernel
theorem dX3_prepare_89 : decode cX3_prepare 89 = .ok (.iconst 0, 1) := by decide +kernel
theorem dX3_prepare_90 : decode cX3_prepare 90 = .ok (.istore_n 3, 1) := by decide +kernel
theorem dX3_prepare_91 : decode cX3_prepare 91 = .ok (.iload_n 3, 1) := by decide +kernel
theorem dX3_prepare_92 : decode cX3_prepare 92 = .ok (.iconst 4, 1) := by decide +kernel
theorem dX3_prepare_93 : decode cX3_prepare 93 = .ok (.if_icmp .ge 25, 3) := by decide +kernel
theorem dX3_prepare_118 : decode cX3_prepare 118 = .ok (.iinc 2 1, 3) := by decide +kernel
theorem dX3_prepare_121 : decode cX3_prepare 121 = .ok (.goto (-59), 3) := by decide +kernel
theorem dX3_prepare_96 : decode cX3_prepare 96 = .ok (.aload_n 0, 1) := by decide +kernel
theorem dX3_prepare_97 : decode cX3_prepare 97 = .ok (.getfield 15, 3) := by decide +kernel
theorem dX3_prepare_100 : decode cX3_prepare 100 = .ok (.iload_n 2, 1) := by decide +kernel
theorem dX3_prepare_101 : decode cX3_prepare 101 = .ok (.iconst 4, 1) := by decide +kernel
theorem dX3_prepare_102 : decode cX3_prepare 102 = .ok (.imul, 1) := by decide +kernel
theorem dX3_prepare_103 : decode cX3_prepare 103 = .ok (.iload_n 3, 1) := by decide +kernel
theorem dX3_prepare_104 : decode cX3_prepare 104 = .ok (.iadd, 1) := by decide +kernel
theorem dX3_prepare_105 : decode cX3_prepare 105 = .ok (.aload_n 1, 1) := by decide +kernel
theorem dX3_prepare_106 : decode cX3_prepare 106 = .ok (.iload_n 2, 1) := by decide +kernel
theorem dX3_prepare_107 : decode cX3_prepare 107 = .ok (.iload_n 3, 1) := by decide +kernel
theorem dX3_prepare_108 : decode cX3_prepare 108 = .ok (.invokevirtual 52, 3) := by decide +kernel
theorem dX3_prepare_111 : decode cX3_prepare 111 = .ok (.iastore, 1) := by decide +kernel
theorem dX3_prepare_112 : decode cX3_prepare 112 = .ok (.iinc 3 1, 3) := by decide +kernel
theorem dX3_prepare_115 : decode cX3_prepare 115 = .ok (.goto (-24), 3) := by decide +kernel
theorem dX3_prepare_83 : decode cX3_prepare 83 = .ok (.iconst 0, 1) := by decide +kernel
theorem dX3_prepare_84 : decode cX3_prepare 84 = .ok (.goto 4, 3) := by decide +kernel
theorem dX3_prepare_35 : decode cX3_prepare 35 = .ok (.aload_n 0, 1) := by decide +kernel
theorem dX3_prepare_36 : decode cX3_prepare 36 = .ok (.getfield 18, 3) := by decide +kernel
theorem dX3_prepare_39 : decode cX3_prepare 39 = .ok (.iload_n 2, 1) := by decide +kernel
theorem dX3_prepare_40 : decode cX3_prepare 40 = .ok (.aload_n 1, 1) := by decide +kernel
theorem dX3_prepare_41 : decode cX3_prepare 41 = .ok (.aload_n 0, 1) := by decide +kernel
theorem dX3_prepare_42 : decode cX3_prepare 42 = .ok (.getfield 37, 3) := by decide +kernel
theorem dX3_prepare_45 : decode cX3_prepare 45 = .ok (.aload_n 1, 1) := by decide +kernel
theorem dX3_prepare_46 : decode cX3_prepare 46 = .ok (.iload_n 2, 1) := by decide +kernel
theorem dX3_prepare_47 : decode cX3_prepare 47 = .ok (.invokevirtual 40, 3) := by decide +kernel
theorem dX3_prepare_50 : decode cX3_prepare 50 = .ok (.invokevirtual 44, 3) := by decide +kernel
theorem dX3_prepare_53 : decode cX3_prepare 53 = .ok (.iastore, 1) := by decide +kernel
theorem dX3_prepare_54 : decode cX3_prepare 54 = .ok (.iinc 2 1, 3) := by decide +kernel
theorem dX3_prepare_57 : decode cX3_prepare 57 = .ok (.goto (-28), 3) := by decide +kernel
theorem dX3_prepare_7 : decode cX3_prepare 7 = .ok (.return_, 1) := by decide +kernel
theorem dX0_swap_0 : decode cX0_swap 0 = .ok (.iload_n 1, 1) := by decide +kernel
theorem dX0_swap_1 : decode cX0_swap 1 = .ok (.ifCond .lt 17, 3) := by decide +kernel
theorem dX0_swap_18 : decode cX0_swap 18 = .ok (.return_, 1) := by decide +kernel
theorem dX0_swap_4 : decode cX0_swap 4 = .ok (.iload_n 2, 1) := by decide +kernel
theorem dX0_swap_5 : decode cX0_swap 5 = .ok (.ifCond .lt 13, 3) := by decide +kernel
theorem dX0_swap_8 : decode cX0_swap 8 = .ok (.iload_n 1, 1) := by decide +kernel
theorem dX0_swap_9 : decode cX0_swap 9 = .ok (.iconst 5, 1) := by decide +kernel
theorem dX0_swap_10 : decode cX0_swap 10 = .ok (.if_icmp .ge 8, 3) := by decide +kernel
theorem dX0_swap_13 : decode cX0_swap 13 = .ok (.iload_n 2, 1) := by decide +kernel
theorem dX0_swap_14 : decode cX0_swap 14 = .ok (.iconst 5, 1) := by decide +kernel
theorem dX0_swap_15 : decode cX0_swap 15 = .ok (.if_icmp .lt 4, 3) := by decide +kernel
theorem dX0_swap_19 : decode cX0_swap 19 = .ok (.aload_n 0, 1) := by decide +kernel
theorem dX0_swap_20 : decode cX0_swap 20 = .ok (.getfield 25, 3) := by decide +kernel
theorem dX0_swap_23 : decode cX0_swap 23 = .ok (.iload_n 1, 1) := by decide +kernel
theorem dX0_swap_24 : decode cX0_swap 24 = .ok (.iaload, 1) := by decide +kernel
theorem dX0_swap_25 : decode cX0_swap 25 = .ok (.istore_n 3, 1) := by decide +kernel
theorem dX0_swap_26 : decode cX0_swap 26 = .ok (.aload_n 0, 1) := by decide +kernel
theorem dX0_swap_27 : decode cX0_swap 27 = .ok (.getfield 25, 3) := by decide +kernel
theorem dX0_swap_30 : decode cX0_swap 30 = .ok (.iload_n 1, 1) := by decide +kernel
theorem dX0_swap_31 : decode cX0_swap 31 = .ok (.aload_n 0, 1) := by decide +kernel
theorem dX0_swap_32 : decode cX0_swap 32 = .ok (.getfield 25, 3) := by decide +kernel
theorem dX0_swap_35 : decode cX0_swap 35 = .ok (.iload_n 2, 1) := by decide +kernel
theorem dX0_swap_36 : decode cX0_swap 36 = .ok (.iaload, 1) := by decide +kernel
theorem dX0_swap_37 : decode cX0_swap 37 = .ok (.iastore, 1) := by decide +kernel
theorem dX0_swap_38 : decode cX0_swap 38 = .ok (.aload_n 0, 1) := by decide +kernel
theorem dX0_swap_39 : decode cX0_swap 39 = .ok (.getfield 25, 3) := by decide +kernel
theorem dX0_swap_42 : decode cX0_swap 42 = .ok (.iload_n 2, 1) := by decide +kernel
theorem dX0_swap_43 : decode cX0_swap 43 = .ok (.iload_n 3, 1) := by decide +kernel
theorem dX0_swap_44 : decode cX0_swap 44 = .ok (.iastore, 1) := by decide +kernel
theorem dX0_swap_45 : decode cX0_swap 45 = .ok (.return_, 1) := by decide +kernel
theorem dX0_nextOrder_0 : decode cX0_nextOrder 0 = .ok (.iload_n 1, 1) := by decide +kernel
theorem dX0_nextOrder_1 : decode cX0_nextOrder 1 = .ok (.iconst 2, 1) := by decide +kernel
theorem dX0_nextOrder_2 : decode cX0_nextOrder 2 = .ok (.isub, 1) := by decide +kernel
theorem dX0_nextOrder_3 : decode cX0_nextOrder 3 = .ok (.istore_n 2, 1) := by decide +kernel
theorem dX0_nextOrder_4 : decode cX0_nextOrder 4 = .ok (.iload_n 2, 1) := by decide +kernel
theorem dX0_nextOrder_5 : decode cX0_nextOrder 5 = .ok (.ifCond .lt 26, 3) := by decide +kernel
theorem dX0_nextOrder_31 : decode cX0_nextOrder 31 = .ok (.iload_n 2, 1) := by decide +kernel
theorem dX0_nextOrder_32 : decode cX0_nextOrder 32 = .ok (.ifCond .ge 5, 3) := by decide +kernel
theorem dX0_nextOrder_37 : decode cX0_nextOrder 37 = .ok (.iload_n 1, 1) := by decide +kernel
theorem dX0_nextOrder_38 : decode cX0_nextOrder 38 = .ok (.iconst 1, 1) := by decide +kernel
theorem dX0_nextOrder_39 : decode cX0_nextOrder 39 = .ok (.isub, 1) := by decide +kernel
theorem dX0_nextOrder_40 : decode cX0_nextOrder 40 = .ok (.istore_n 3, 1) := by decide +kernel
theorem dX0_nextOrder_41 : decode cX0_nextOrder 41 = .ok (.iload_n 3, 1) := by decide +kernel
theorem dX0_nextOrder_42 : decode cX0_nextOrder 42 = .ok (.iload_n 2, 1) := by decide +kernel
theorem dX0_nextOrder_43 : decode cX0_nextOrder 43 = .ok (.if_icmp .le 24, 3) := by decide +kernel
theorem dX0_nextOrder_67 : decode cX0_nextOrder 67 = .ok (.aload_n 0, 1) := by decide +kernel
theorem dX0_nextOrder_68 : decode cX0_nextOrder 68 = .ok (.iload_n 2, 1) := by decide +kernel
theorem dX0_nextOrder_69 : decode cX0_nextOrder 69 = .ok (.iload_n 3, 1) := by decide +kernel
theorem dX0_nextOrder_70 : decode cX0_nextOrder 70 = .ok (.invokevirtual 116, 3) := by decide +kernel
theorem dX0_nextOrder_73 : decode cX0_nextOrder 73 = .ok (.iload_n 2, 1) := by decide +kernel
theorem dX0_nextOrder_74 : decode cX0_nextOrder 74 = .ok (.iconst 1, 1) := by decide +kernel
theorem dX0_nextOrder_75 : decode cX0_nextOrder 75 = .ok (.iadd, 1) := by decide +kernel
theorem dX0_nextOrder_76 : decode cX0_nextOrder 76 = .ok (.istore 4, 2) := by decide +kernel
theorem dX0_nextOrder_78 : decode cX0_nextOrder 78 = .ok (.iload_n 1, 1) := by decide +kernel
theorem dX0_nextOrder_79 : decode cX0_nextOrder 79 = .ok (.iconst 1, 1) := by decide +kernel
theorem dX0_nextOrder_80 : decode cX0_nextOrder 80 = .ok (.isub, 1) := by decide +kernel
theorem dX0_nextOrder_81 : decode cX0_nextOrder 81 = .ok (.istore 5, 2) := by decide +kernel
theorem dX0_nextOrder_83 : decode cX0_nextOrder 83 = .ok (.iload 4, 2) := by decide +kernel
theorem dX0_nextOrder_85 : decode cX0_nextOrder 85 = .ok (.iload 5, 2) := by decide +kernel
theorem dX0_nextOrder_87 : decode cX0_nextOrder 87 = .ok (.if_icmp .ge 20, 3) := by decide +kernel
theorem dX0_nextOrder_107 : decode cX0_nextOrder 107 = .ok (.iconst 1, 1) := by decide +kernel
theorem dX0_nextOrder_108 : decode cX0_nextOrder 108 = .ok (.ireturn, 1) := by decide +kernel
theorem dX0_nextOrder_90 : decode cX0_nextOrder 90 = .ok (.aload_n 0, 1) := by decide +kernel
theorem dX0_nextOrder_91 : decode cX0_nextOrder 91 = .ok (.iload 4, 2) := by decide +kernel
theorem dX0_nextOrder_93 : decode cX0_nextOrder 93 = .ok (.iload 5, 2) := by decide +kernel
theorem dX0_nextOrder_95 : decode cX0_nextOrder 95 = .ok (.invokevirtual 116, 3) := by decide +kernel
theorem dX0_nextOrder_98 : decode cX0_nextOrder 98 = .ok (.iinc 4 1, 3) := by decide +kernel
theorem dX0_nextOrder_101 : decode cX0_nextOrder 101 = .ok (.iinc 5 (-1), 3) := by decide +kernel
theorem dX0_nextOrder_104 : decode cX0_nextOrder 104 = .ok (.goto (-21), 3) := by decide +kernel
theorem dX0_nextOrder_46 : decode cX0_nextOrder 46 = .ok (.aload_n 0, 1) := by decide +kernel
theorem dX0_nextOrder_47 : decode cX0_nextOrder 47 = .ok (.getfield 25, 3) := by decide +kernel
theorem dX0_nextOrder_50 : decode cX0_nextOrder 50 = .ok (.iload_n 3, 1) := by decide +kernel
theorem dX0_nextOrder_51 : decode cX0_nextOrder 51 = .ok (.iaload, 1) := by decide +kernel
theorem dX0_nextOrder_52 : decode cX0_nextOrder 52 = .ok (.aload_n 0, 1) := by decide +kernel
theorem dX0_nextOrder_53 : decode cX0_nextOrder 53 = .ok (.getfield 25, 3) := by decide +kernel
theorem dX0_nextOrder_56 : decode cX0_nextOrder 56 = .ok (.iload_n 2, 1) := by decide +kernel
theorem dX0_nextOrder_57 : decode cX0_nextOrder 57 = .ok (.iaload, 1) := by decide +kernel
theorem dX0_nextOrder_58 : decode cX0_nextOrder 58 = .ok (.if_icmp .ge 9, 3) := by decide +kernel
theorem dX0_nextOrder_61 : decode cX0_nextOrder 61 = .ok (.iinc 3 (-1), 3) := by decide +kernel
theorem dX0_nextOrder_64 : decode cX0_nextOrder 64 = .ok (.goto (-23), 3) := by decide +kernel
theorem dX0_nextOrder_35 : decode cX0_nextOrder 35 = .ok (.iconst 0, 1) := by decide +kernel
theorem dX0_nextOrder_36 : decode cX0_nextOrder 36 = .ok (.ireturn, 1) := by decide +kernel
theorem dX0_nextOrder_8 : decode cX0_nextOrder 8 = .ok (.aload_n 0, 1) := by decide +kernel
theorem dX0_nextOrder_9 : decode cX0_nextOrder 9 = .ok (.getfield 25, 3) := by decide +kernel
theorem dX0_nextOrder_12 : decode cX0_nextOrder 12 = .ok (.iload_n 2, 1) := by decide +kernel
theorem dX0_nextOrder_13 : decode cX0_nextOrder 13 = .ok (.iaload, 1) := by decide +kernel
theorem dX0_nextOrder_14 : decode cX0_nextOrder 14 = .ok (.aload_n 0, 1) := by decide +kernel
theorem dX0_nextOrder_15 : decode cX0_nextOrder 15 = .ok (.getfield 25, 3) := by decide +kernel
theorem dX0_nextOrder_18 : decode cX0_nextOrder 18 = .ok (.iload_n 2, 1) := by decide +kernel
theorem dX0_nextOrder_19 : decode cX0_nextOrder 19 = .ok (.iconst 1, 1) := by decide +kernel
theorem dX0_nextOrder_20 : decode cX0_nextOrder 20 = .ok (.iadd, 1) := by decide +kernel
theorem dX0_nextOrder_21 : decode cX0_nextOrder 21 = .ok (.iaload, 1) := by decide +kernel
theorem dX0_nextOrder_22 : decode cX0_nextOrder 22 = .ok (.if_icmp .le 9, 3) := by decide +kernel
theorem dX0_nextOrder_25 : decode cX0_nextOrder 25 = .ok (.iinc 2 (-1), 3) := by decide +kernel
theorem dX0_nextOrder_28 : decode cX0_nextOrder 28 = .ok (.goto (-24), 3) := by decide +kernel
theorem dX0_teach_0 : decode cX0_teach 0 = .ok (.iload_n 1, 1) := by decide +kernel
theorem dX0_teach_1 : decode cX0_teach 1 = .ok (.ifCond .lt 8, 3) := by decide +kernel
theorem dX0_teach_9 : decode cX0_teach 9 = .ok (.return_, 1) := by decide +kernel
theorem dX0_teach_4 : decode cX0_teach 4 = .ok (.iload_n 1, 1) := by decide +kernel
theorem dX0_teach_5 : decode cX0_teach 5 = .ok (.iconst 5, 1) := by decide +kernel
theorem dX0_teach_6 : decode cX0_teach 6 = .ok (.if_icmp .lt 4, 3) := by decide +kernel
theorem dX0_teach_10 : decode cX0_teach 10 = .ok (.aload_n 0, 1) := by decide +kernel
theorem dX0_teach_11 : decode cX0_teach 11 = .ok (.getfield 12, 3) := by decide +kernel
theorem dX0_teach_14 : decode cX0_teach 14 = .ok (.getfield 100, 3) := by decide +kernel
theorem dX0_teach_17 : decode cX0_teach 17 = .ok (.iload_n 1, 1) := by decide +kernel
theorem dX0_teach_18 : decode cX0_teach 18 = .ok (.iaload, 1) := by decide +kernel
theorem dX0_teach_19 : decode cX0_teach 19 = .ok (.istore_n 2, 1) := by decide +kernel
theorem dX0_teach_20 : decode cX0_teach 20 = .ok (.aload_n 0, 1) := by decide +kernel
theorem dX0_teach_21 : decode cX0_teach 21 = .ok (.getfield 12, 3) := by decide +kernel
theorem dX0_teach_24 : decode cX0_teach 24 = .ok (.getfield 103, 3) := by decide +kernel
theorem dX0_teach_27 : decode cX0_teach 27 = .ok (.iload_n 1, 1) := by decide +kernel
theorem dX0_teach_28 : decode cX0_teach 28 = .ok (.iaload, 1) := by decide +kernel
theorem dX0_teach_29 : decode cX0_teach 29 = .ok (.lookupswitch 60 #[(0, 27), (1, 39)], 27) := by decide +kernel
theorem dX0_teach_56 : decode cX0_teach 56 = .ok (.aload_n 0, 1) := by decide +kernel
theorem dX0_teach_57 : decode cX0_teach 57 = .ok (.getfield 12, 3) := by decide +kernel
theorem dX0_teach_60 : decode cX0_teach 60 = .ok (.iload_n 2, 1) := by decide +kernel
theorem dX0_teach_61 : decode cX0_teach 61 = .ok (.iconst 0, 1) := by decide +kernel
theorem dX0_teach_62 : decode cX0_teach 62 = .ok (.invokevirtual 106, 3) := by decide +kernel
theorem dX0_teach_65 : decode cX0_teach 65 = .ok (.goto 42, 3) := by decide +kernel
theorem dX0_teach_107 : decode cX0_teach 107 = .ok (.return_, 1) := by decide +kernel
theorem dX0_teach_68 : decode cX0_teach 68 = .ok (.aload_n 0, 1) := by decide +kernel
theorem dX0_teach_69 : decode cX0_teach 69 = .ok (.getfield 21, 3) := by decide +kernel
theorem dX0_teach_72 : decode cX0_teach 72 = .ok (.aload_n 0, 1) := by decide +kernel
theorem dX0_teach_73 : decode cX0_teach 73 = .ok (.getfield 21, 3) := by decide +kernel
theorem dX0_teach_76 : decode cX0_teach 76 = .ok (.getfield 72, 3) := by decide +kernel
theorem dX0_teach_79 : decode cX0_teach 79 = .ok (.iload_n 2, 1) := by decide +kernel
theorem dX0_teach_80 : decode cX0_teach 80 = .ok (.iadd, 1) := by decide +kernel
theorem dX0_teach_81 : decode cX0_teach 81 = .ok (.iconst 4, 1) := by decide +kernel
theorem dX0_teach_82 : decode cX0_teach 82 = .ok (.irem, 1) := by decide +kernel
theorem dX0_teach_83 : decode cX0_teach 83 = .ok (.putfield 72, 3) := by decide +kernel
theorem dX0_teach_86 : decode cX0_teach 86 = .ok (.goto 21, 3) := by decide +kernel
theorem dX0_teach_89 : decode cX0_teach 89 = .ok (.aload_n 0, 1) := by decide +kernel
theorem dX0_teach_90 : decode cX0_teach 90 = .ok (.getfield 12, 3) := by decide +kernel
theorem dX0_teach_93 : decode cX0_teach 93 = .ok (.iload_n 2, 1) := by decide +kernel
theorem dX0_teach_94 : decode cX0_teach 94 = .ok (.aload_n 0, 1) := by decide +kernel
theorem dX0_teach_95 : decode cX0_teach 95 = .ok (.getfield 12, 3) := by decide +kernel
theorem dX0_teach_98 : decode cX0_teach 98 = .ok (.getfield 110, 3) := by decide +kernel
theorem dX0_teach_101 : decode cX0_teach 101 = .ok (.iload_n 1, 1) := by decide +kernel
theorem dX0_teach_102 : decode cX0_teach 102 = .ok (.iaload, 1) := by decide +kernel
theorem dX0_teach_103 : decode cX0_teach 103 = .ok (.iload_n 2, 1) := by decide +kernel
theorem dX0_teach_104 : decode cX0_teach 104 = .ok (.invokevirtual 113, 3) := by decide +kernel
theorem dX0_tryOrder_0 : decode cX0_tryOrder 0 = .ok (.aload_n 0, 1) := by decide +kernel
theorem dX0_tryOrder_1 : decode cX0_tryOrder 1 = .ok (.getfield 12, 3) := by decide +kernel
theorem dX0_tryOrder_4 : decode cX0_tryOrder 4 = .ok (.aload_n 1, 1) := by decide +kernel
theorem dX0_tryOrder_5 : decode cX0_tryOrder 5 = .ok (.invokevirtual 62, 3) := by decide +kernel
theorem dX0_tryOrder_8 : decode cX0_tryOrder 8 = .ok (.aload_n 0, 1) := by decide +kernel
theorem dX0_tryOrder_9 : decode cX0_tryOrder 9 = .ok (.getfield 21, 3) := by decide +kernel
theorem dX0_tryOrder_12 : decode cX0_tryOrder 12 = .ok (.aload_n 2, 1) := by decide +kernel
theorem dX0_tryOrder_13 : decode cX0_tryOrder 13 = .ok (.getfield 66, 3) := by decide +kernel
theorem dX0_tryOrder_16 : decode cX0_tryOrder 16 = .ok (.aload_n 2, 1) := by decide +kernel
theorem dX0_tryOrder_17 : decode cX0_tryOrder 17 = .ok (.getfield 69, 3) := by decide +kernel
theorem dX0_tryOrder_20 : decode cX0_tryOrder 20 = .ok (.aload_n 2, 1) := by decide +kernel
theorem dX0_tryOrder_21 : decode cX0_tryOrder 21 = .ok (.getfield 72, 3) := by decide +kernel
theorem dX0_tryOrder_24 : decode cX0_tryOrder 24 = .ok (.invokevirtual 75, 3) := by decide +kernel
theorem dX0_tryOrder_27 : decode cX0_tryOrder 27 = .ok (.iconst 0, 1) := by decide +kernel
theorem dX0_tryOrder_28 : decode cX0_tryOrder 28 = .ok (.istore 5, 2) := by decide +kernel
theorem dX0_tryOrder_30 : decode cX0_tryOrder 30 = .ok (.iload 5, 2) := by decide +kernel
theorem dX0_tryOrder_32 : decode cX0_tryOrder 32 = .ok (.aload_n 0, 1) := by decide +kernel
theorem dX0_tryOrder_33 : decode cX0_tryOrder 33 = .ok (.getfield 12, 3) := by decide +kernel
theorem dX0_tryOrder_36 : decode cX0_tryOrder 36 = .ok (.getfield 32, 3) := by decide +kernel
theorem dX0_tryOrder_39 : decode cX0_tryOrder 39 = .ok (.if_icmp .ge 72, 3) := by decide +kernel
theorem dX0_tryOrder_111 : decode cX0_tryOrder 111 = .ok (.aload_n 0, 1) := by decide +kernel
theorem dX0_tryOrder_112 : decode cX0_tryOrder 112 = .ok (.getfield 21, 3) := by decide +kernel
theorem dX0_tryOrder_115 : decode cX0_tryOrder 115 = .ok (.invokevirtual 96, 3) := by decide +kernel
theorem dX0_tryOrder_118 : decode cX0_tryOrder 118 = .ok (.ireturn, 1) := by decide +kernel
theorem dX0_tryOrder_42 : decode cX0_tryOrder 42 = .ok (.iload 5, 2) := by decide +kernel
theorem dX0_tryOrder_44 : decode cX0_tryOrder 44 = .ok (.iconst 5, 1) := by decide +kernel
theorem dX0_tryOrder_45 : decode cX0_tryOrder 45 = .ok (.if_icmp .ge 66, 3) := by decide +kernel
theorem dX0_tryOrder_48 : decode cX0_tryOrder 48 = .ok (.aload_n 0, 1) := by decide +kernel
theorem dX0_tryOrder_49 : decode cX0_tryOrder 49 = .ok (.aload_n 0, 1) := by decide +kernel
theorem dX0_tryOrder_50 : decode cX0_tryOrder 50 = .ok (.getfield 25, 3) := by decide +kernel
theorem dX0_tryOrder_53 : decode cX0_tryOrder 53 = .ok (.iload 5, 2) := by decide +kernel
theorem dX0_tryOrder_55 : decode cX0_tryOrder 55 = .ok (.iaload, 1) := by decide +kernel
theorem dX0_tryOrder_56 : decode cX0_tryOrder 56 = .ok (.invokevirtual 79, 3) := by decide +kernel
theorem dX0_tryOrder_59 : decode cX0_tryOrder 59 = .ok (.iconst 0, 1) := by decide +kernel
theorem dX0_tryOrder_60 : decode cX0_tryOrder 60 = .ok (.istore 6, 2) := by decide +kernel
theorem dX0_tryOrder_62 : decode cX0_tryOrder 62 = .ok (.iload 6, 2) := by decide +kernel
theorem dX0_tryOrder_64 : decode cX0_tryOrder 64 = .ok (.aload_n 3, 1) := by decide +kernel
theorem dX0_tryOrder_65 : decode cX0_tryOrder 65 = .ok (.iload 4, 2) := by decide +kernel
theorem dX0_tryOrder_67 : decode cX0_tryOrder 67 = .ok (.invokevirtual 83, 3) := by decide +kernel
theorem dX0_tryOrder_70 : decode cX0_tryOrder 70 = .ok (.if_icmp .ge 35, 3) := by decide +kernel
theorem dX0_tryOrder_105 : decode cX0_tryOrder 105 = .ok (.iinc 5 1, 3) := by decide +kernel
theorem dX0_tryOrder_108 : decode cX0_tryOrder 108 = .ok (.goto (-78), 3) := by decide +kernel
theorem dX0_tryOrder_73 : decode cX0_tryOrder 73 = .ok (.iload 6, 2) := by decide +kernel
theorem dX0_tryOrder_75 : decode cX0_tryOrder 75 = .ok (.bipush 60, 2) := by decide +kernel
theorem dX0_tryOrder_77 : decode cX0_tryOrder 77 = .ok (.if_icmp .ge 28, 3) := by decide +kernel
theorem dX0_tryOrder_80 : decode cX0_tryOrder 80 = .ok (.aload_n 0, 1) := by decide +kernel
theorem dX0_tryOrder_81 : decode cX0_tryOrder 81 = .ok (.getfield 21, 3) := by decide +kernel
theorem dX0_tryOrder_84 : decode cX0_tryOrder 84 = .ok (.aload_n 0, 1) := by decide +kernel
theorem dX0_tryOrder_85 : decode cX0_tryOrder 85 = .ok (.getfield 12, 3) := by decide +kernel
theorem dX0_tryOrder_88 : decode cX0_tryOrder 88 = .ok (.aload_n 3, 1) := by decide +kernel
theorem dX0_tryOrder_89 : decode cX0_tryOrder 89 = .ok (.iload 4, 2) := by decide +kernel
theorem dX0_tryOrder_91 : decode cX0_tryOrder 91 = .ok (.iload 6, 2) := by decide +kernel
theorem dX0_tryOrder_93 : decode cX0_tryOrder 93 = .ok (.invokevirtual 89, 3) := by decide +kernel
theorem dX0_tryOrder_96 : decode cX0_tryOrder 96 = .ok (.invokevirtual 92, 3) := by decide +kernel
theorem dX0_tryOrder_99 : decode cX0_tryOrder 99 = .ok (.iinc 6 1, 3) := by decide +kernel
theorem dX0_tryOrder_102 : decode cX0_tryOrder 102 = .ok (.goto (-40), 3) := by decide +kernel
theorem dX0_tryAll_0 : decode cX0_tryAll 0 = .ok (.aload_n 1, 1) := by decide +kernel
theorem dX0_tryAll_1 : decode cX0_tryAll 1 = .ok (.getfield 32, 3) := by decide +kernel
theorem dX0_tryAll_4 : decode cX0_tryAll 4 = .ok (.iconst 5, 1) := by decide +kernel
theorem dX0_tryAll_5 : decode cX0_tryAll 5 = .ok (.invokestatic 36, 3) := by decide +kernel
theorem dX0_tryAll_8 : decode cX0_tryAll 8 = .ok (.istore 5, 2) := by decide +kernel
theorem dX0_tryAll_10 : decode cX0_tryAll 10 = .ok (.iconst 0, 1) := by decide +kernel
theorem dX0_tryAll_11 : decode cX0_tryAll 11 = .ok (.istore 6, 2) := by decide +kernel
theorem dX0_tryAll_13 : decode cX0_tryAll 13 = .ok (.iload 6, 2) := by decide +kernel
theorem dX0_tryAll_15 : decode cX0_tryAll 15 = .ok (.iconst 5, 1) := by decide +kernel
theorem dX0_tryAll_16 : decode cX0_tryAll 16 = .ok (.if_icmp .ge 18, 3) := by decide +kernel
theorem dX0_tryAll_34 : decode cX0_tryAll 34 = .ok (.aload_n 0, 1) := by decide +kernel
theorem dX0_tryAll_35 : decode cX0_tryAll 35 = .ok (.iconst (-1), 1) := by decide +kernel
theorem dX0_tryAll_36 : decode cX0_tryAll 36 = .ok (.putfield 42, 3) := by decide +kernel
theorem dX0_tryAll_39 : decode cX0_tryAll 39 = .ok (.aload_n 0, 1) := by decide +kernel
theorem dX0_tryAll_40 : decode cX0_tryAll 40 = .ok (.bipush 10, 2) := by decide +kernel
theorem dX0_tryAll_42 : decode cX0_tryAll 42 = .ok (.putfield 45, 3) := by decide +kernel
theorem dX0_tryAll_45 : decode cX0_tryAll 45 = .ok (.iconst 1, 1) := by decide +kernel
theorem dX0_tryAll_46 : decode cX0_tryAll 46 = .ok (.istore 6, 2) := by decide +kernel
theorem dX0_tryAll_48 : decode cX0_tryAll 48 = .ok (.iconst 0, 1) := by decide +kernel
theorem dX0_tryAll_49 : decode cX0_tryAll 49 = .ok (.istore 7, 2) := by decide +kernel
theorem dX0_tryAll_51 : decode cX0_tryAll 51 = .ok (.iload 7, 2) := by decide +kernel
theorem dX0_tryAll_53 : decode cX0_tryAll 53 = .ok (.sipush 200, 3) := by decide +kernel
theorem dX0_tryAll_56 : decode cX0_tryAll 56 = .ok (.if_icmp .ge 79, 3) := by decide +kernel
theorem dX0_tryAll_135 : decode cX0_tryAll 135 = .ok (.return_, 1) := by decide +kernel
theorem dX0_tryAll_59 : decode cX0_tryAll 59 = .ok (.iload 6, 2) := by decide +kernel
theorem dX0_tryAll_61 : decode cX0_tryAll 61 = .ok (.ifCond .eq 74, 3) := by decide +kernel
theorem dX0_tryAll_64 : decode cX0_tryAll 64 = .ok (.aload_n 0, 1) := by decide +kernel
theorem dX0_tryAll_65 : decode cX0_tryAll 65 = .ok (.aload_n 1, 1) := by decide +kernel
theorem dX0_tryAll_66 : decode cX0_tryAll 66 = .ok (.aload_n 2, 1) := by decide +kernel
theorem dX0_tryAll_67 : decode cX0_tryAll 67 = .ok (.aload_n 3, 1) := by decide +kernel
theorem dX0_tryAll_68 : decode cX0_tryAll 68 = .ok (.iload 4, 2) := by decide +kernel
theorem dX0_tryAll_70 : decode cX0_tryAll 70 = .ok (.invokevirtual 48, 3) := by decide +kernel
theorem dX0_tryAll_73 : decode cX0_tryAll 73 = .ok (.istore 8, 2) := by decide +kernel
theorem dX0_tryAll_75 : decode cX0_tryAll 75 = .ok (.iload 8, 2) := by decide +kernel
theorem dX0_tryAll_77 : decode cX0_tryAll 77 = .ok (.aload_n 0, 1) := by decide +kernel
theorem dX0_tryAll_78 : decode cX0_tryAll 78 = .ok (.getfield 42, 3) := by decide +kernel
theorem dX0_tryAll_81 : decode cX0_tryAll 81 = .ok (.if_icmp .le 27, 3) := by decide +kernel
theorem dX0_tryAll_108 : decode cX0_tryAll 108 = .ok (.aload_n 0, 1) := by decide +kernel
theorem dX0_tryAll_109 : decode cX0_tryAll 109 = .ok (.aload_n 0, 1) := by decide +kernel
theorem dX0_tryAll_110 : decode cX0_tryAll 110 = .ok (.getfield 45, 3) := by decide +kernel
theorem dX0_tryAll_113 : decode cX0_tryAll 113 = .ok (.iload 8, 2) := by decide +kernel
theorem dX0_tryAll_115 : decode cX0_tryAll 115 = .ok (.invokestatic 36, 3) := by decide +kernel
theorem dX0_tryAll_118 : decode cX0_tryAll 118 = .ok (.putfield 45, 3) := by decide +kernel
theorem dX0_tryAll_121 : decode cX0_tryAll 121 = .ok (.aload_n 0, 1) := by decide +kernel
theorem dX0_tryAll_122 : decode cX0_tryAll 122 = .ok (.iload 5, 2) := by decide +kernel
theorem dX0_tryAll_124 : decode cX0_tryAll 124 = .ok (.invokevirtual 58, 3) := by decide +kernel
theorem dX0_tryAll_127 : decode cX0_tryAll 127 = .ok (.istore 6, 2) := by decide +kernel
theorem dX0_tryAll_129 : decode cX0_tryAll 129 = .ok (.iinc 7 1, 3) := by decide +kernel
theorem dX0_tryAll_132 : decode cX0_tryAll 132 = .ok (.goto (-81), 3) := by decide +kernel
theorem dX0_tryAll_84 : decode cX0_tryAll 84 = .ok (.aload_n 0, 1) := by decide +kernel
theorem dX0_tryAll_85 : decode cX0_tryAll 85 = .ok (.iload 8, 2) := by decide +kernel
theorem dX0_tryAll_87 : decode cX0_tryAll 87 = .ok (.putfield 42, 3) := by decide +kernel
theorem dX0_tryAll_90 : decode cX0_tryAll 90 = .ok (.aload_n 0, 1) := by decide +kernel
theorem dX0_tryAll_91 : decode cX0_tryAll 91 = .ok (.getfield 25, 3) := by decide +kernel
theorem dX0_tryAll_94 : decode cX0_tryAll 94 = .ok (.iconst 0, 1) := by decide +kernel
theorem dX0_tryAll_95 : decode cX0_tryAll 95 = .ok (.aload_n 0, 1) := by decide +kernel
theorem dX0_tryAll_96 : decode cX0_tryAll 96 = .ok (.getfield 29, 3) := by decide +kernel
theorem dX0_tryAll_99 : decode cX0_tryAll 99 = .ok (.iconst 0, 1) := by decide +kernel
theorem dX0_tryAll_100 : decode cX0_tryAll 100 = .ok (.aload_n 0, 1) := by decide +kernel
theorem dX0_tryAll_101 : decode cX0_tryAll 101 = .ok (.getfield 29, 3) := by decide +kernel
theorem dX0_tryAll_104 : decode cX0_tryAll 104 = .ok (.arraylength, 1) := by decide +kernel
theorem dX0_tryAll_105 : decode cX0_tryAll 105 = .ok (.invokestatic 52, 3) := by decide +kernel
theorem dX0_tryAll_19 : decode cX0_tryAll 19 = .ok (.aload_n 0, 1) := by decide +kernel
theorem dX0_tryAll_20 : decode cX0_tryAll 20 = .ok (.getfield 25, 3) := by decide +kernel
theorem dX0_tryAll_23 : decode cX0_tryAll 23 = .ok (.iload 6, 2) := by decide +kernel
theorem dX0_tryAll_25 : decode cX0_tryAll 25 = .ok (.iload 6, 2) := by decide +kernel
theorem dX0_tryAll_27 : decode cX0_tryAll 27 = .ok (.iastore, 1) := by decide +kernel
theorem dX0_tryAll_28 : decode cX0_tryAll 28 = .ok (.iinc 6 1, 3) := by decide +kernel
theorem dX0_tryAll_31 : decode cX0_tryAll 31 = .ok (.goto (-18), 3) := by decide +kernel
theorem dX6_meetState_0 : decode cX6_meetState 0 = .ok (.iload_n 1, 1) := by decide +kernel
theorem dX6_meetState_1 : decode cX6_meetState 1 = .ok (.ifCond .lt 37, 3) := by decide +kernel
theorem dX6_meetState_38 : decode cX6_meetState 38 = .ok (.return_, 1) := by decide +kernel
theorem dX6_meetState_4 : decode cX6_meetState 4 = .ok (.iload_n 1, 1) := by decide +kernel
theorem dX6_meetState_5 : decode cX6_meetState 5 = .ok (.aload_n 0, 1) := by decide +kernel
theorem dX6_meetState_6 : decode cX6_meetState 6 = .ok (.getfield 21, 3) := by decide +kernel
theorem dX6_meetState_9 : decode cX6_meetState 9 = .ok (.arraylength, 1) := by decide +kernel
theorem dX6_meetState_10 : decode cX6_meetState 10 = .ok (.if_icmp .ge 28, 3) := by decide +kernel
theorem dX6_meetState_13 : decode cX6_meetState 13 = .ok (.aload_n 0, 1) := by decide +kernel
theorem dX6_meetState_14 : decode cX6_meetState 14 = .ok (.getfield 21, 3) := by decide +kernel
theorem dX6_meetState_17 : decode cX6_meetState 17 = .ok (.iload_n 1, 1) := by decide +kernel
theorem dX6_meetState_18 : decode cX6_meetState 18 = .ok (.iaload, 1) := by decide +kernel
theorem dX6_meetState_19 : decode cX6_meetState 19 = .ok (.aload_n 0, 1) := by decide +kernel
theorem dX6_meetState_20 : decode cX6_meetState 20 = .ok (.getfield 31, 3) := by decide +kernel
theorem dX6_meetState_23 : decode cX6_meetState 23 = .ok (.if_icmp .eq 15, 3) := by decide +kernel
theorem dX6_meetState_26 : decode cX6_meetState 26 = .ok (.aload_n 0, 1) := by decide +kernel
theorem dX6_meetState_27 : decode cX6_meetState 27 = .ok (.getfield 34, 3) := by decide +kernel
theorem dX6_meetState_30 : decode cX6_meetState 30 = .ok (.aload_n 0, 1) := by decide +kernel
theorem dX6_meetState_31 : decode cX6_meetState 31 = .ok (.getfield 25, 3) := by decide +kernel
theorem dX6_meetState_34 : decode cX6_meetState 34 = .ok (.arraylength, 1) := by decide +kernel
theorem dX6_meetState_35 : decode cX6_meetState 35 = .ok (.if_icmp .lt 4, 3) := by decide +kernel
theorem dX6_meetState_39 : decode cX6_meetState 39 = .ok (.aload_n 0, 1) := by decide +kernel
theorem dX6_meetState_40 : decode cX6_meetState 40 = .ok (.getfield 21, 3) := by decide +kernel
theorem dX6_meetState_43 : decode cX6_meetState 43 = .ok (.iload_n 1, 1) := by decide +kernel
theorem dX6_meetState_44 : decode cX6_meetState 44 = .ok (.aload_n 0, 1) := by decide +kernel
theorem dX6_meetState_45 : decode cX6_meetState 45 = .ok (.getfield 31, 3) := by decide +kernel
theorem dX6_meetState_48 : decode cX6_meetState 48 = .ok (.iastore, 1) := by decide +kernel
theorem dX6_meetState_49 : decode cX6_meetState 49 = .ok (.aload_n 0, 1) := by decide +kernel
theorem dX6_meetState_50 : decode cX6_meetState 50 = .ok (.getfield 25, 3) := by decide +kernel
theorem dX6_meetState_53 : decode cX6_meetState 53 = .ok (.aload_n 0, 1) := by decide +kernel
theorem dX6_meetState_54 : decode cX6_meetState 54 = .ok (.getfield 34, 3) := by decide +kernel
theorem dX6_meetState_57 : decode cX6_meetState 57 = .ok (.iload_n 1, 1) := by decide +kernel
theorem dX6_meetState_58 : decode cX6_meetState 58 = .ok (.iastore, 1) := by decide +kernel
theorem dX6_meetState_59 : decode cX6_meetState 59 = .ok (.aload_n 0, 1) := by decide +kernel
theorem dX6_meetState_60 : decode cX6_meetState 60 = .ok (.getfield 28, 3) := by decide +kernel
theorem dX6_meetState_63 : decode cX6_meetState 63 = .ok (.aload_n 0, 1) := by decide +kernel
theorem dX6_meetState_64 : decode cX6_meetState 64 = .ok (.getfield 34, 3) := by decide +kernel
theorem dX6_meetState_67 : decode cX6_meetState 67 = .ok (.iload_n 2, 1) := by decide +kernel
theorem dX6_meetState_68 : decode cX6_meetState 68 = .ok (.iastore, 1) := by decide +kernel
theorem dX6_meetState_69 : decode cX6_meetState 69 = .ok (.aload_n 0, 1) := by decide +kernel
theorem dX6_meetState_70 : decode cX6_meetState 70 = .ok (.dup, 1) := by decide +kernel
theorem dX6_meetState_71 : decode cX6_meetState 71 = .ok (.getfield 34, 3) := by decide +kernel
theorem dX6_meetState_74 : decode cX6_meetState 74 = .ok (.iconst 1, 1) := by decide +kernel
theorem dX6_meetState_75 : decode cX6_meetState 75 = .ok (.iadd, 1) := by decide +kernel
theorem dX6_meetState_76 : decode cX6_meetState 76 = .ok (.putfield 34, 3) := by decide +kernel
theorem dX6_meetState_79 : decode cX6_meetState 79 = .ok (.return_, 1) := by decide +kernel
theorem dX6_lengthTo_0 : decode cX6_lengthTo 0 = .ok (.iconst 0, 1) := by decide +kernel
theorem dX6_lengthTo_1 : decode cX6_lengthTo 1 = .ok (.istore_n 2, 1) := by decide +kernel
theorem dX6_lengthTo_2 : decode cX6_lengthTo 2 = .ok (.iload_n 1, 1) := by decide +kernel
theorem dX6_lengthTo_3 : decode cX6_lengthTo 3 = .ok (.istore_n 3, 1) := by decide +kernel
theorem dX6_lengthTo_4 : decode cX6_lengthTo 4 = .ok (.iconst 0, 1) := by decide +kernel
theorem dX6_lengthTo_5 : decode cX6_lengthTo 5 = .ok (.istore 4, 2) := by decide +kernel
theorem dX6_lengthTo_7 : decode cX6_lengthTo 7 = .ok (.iload 4, 2) := by decide +kernel
theorem dX6_lengthTo_9 : decode cX6_lengthTo 9 = .ok (.aload_n 0, 1) := by decide +kernel
theorem dX6_lengthTo_10 : decode cX6_lengthTo 10 = .ok (.getfield 28, 3) := by decide +kernel
theorem dX6_lengthTo_13 : decode cX6_lengthTo 13 = .ok (.arraylength, 1) := by decide +kernel
theorem dX6_lengthTo_14 : decode cX6_lengthTo 14 = .ok (.if_icmp .ge 34, 3) := by decide +kernel
theorem dX6_lengthTo_48 : decode cX6_lengthTo 48 = .ok (.iload_n 2, 1) := by decide +kernel
theorem dX6_lengthTo_49 : decode cX6_lengthTo 49 = .ok (.ireturn, 1) := by decide +kernel
theorem dX6_lengthTo_17 : decode cX6_lengthTo 17 = .ok (.iload_n 3, 1) := by decide +kernel
theorem dX6_lengthTo_18 : decode cX6_lengthTo 18 = .ok (.ifCond .le 30, 3) := by decide +kernel
theorem dX6_lengthTo_21 : decode cX6_lengthTo 21 = .ok (.iload_n 3, 1) := by decide +kernel
theorem dX6_lengthTo_22 : decode cX6_lengthTo 22 = .ok (.aload_n 0, 1) := by decide +kernel
theorem dX6_lengthTo_23 : decode cX6_lengthTo 23 = .ok (.getfield 28, 3) := by decide +kernel
theorem dX6_lengthTo_26 : decode cX6_lengthTo 26 = .ok (.arraylength, 1) := by decide +kernel
theorem dX6_lengthTo_27 : decode cX6_lengthTo 27 = .ok (.if_icmp .ge 21, 3) := by decide +kernel
theorem dX6_lengthTo_30 : decode cX6_lengthTo 30 = .ok (.aload_n 0, 1) := by decide +kernel
theorem dX6_lengthTo_31 : decode cX6_lengthTo 31 = .ok (.getfield 28, 3) := by decide +kernel
theorem dX6_lengthTo_34 : decode cX6_lengthTo 34 = .ok (.iload_n 3, 1) := by decide +kernel
theorem dX6_lengthTo_35 : decode cX6_lengthTo 35 = .ok (.iaload, 1) := by decide +kernel
theorem dX6_lengthTo_36 : decode cX6_lengthTo 36 = .ok (.iconst 4, 1) := by decide +kernel
theorem dX6_lengthTo_37 : decode cX6_lengthTo 37 = .ok (.idiv, 1) := by decide +kernel
theorem dX6_lengthTo_38 : decode cX6_lengthTo 38 = .ok (.istore_n 3, 1) := by decide +kernel
theorem dX6_lengthTo_39 : decode cX6_lengthTo 39 = .ok (.iinc 2 1, 3) := by decide +kernel
theorem dX6_lengthTo_42 : decode cX6_lengthTo 42 = .ok (.iinc 4 1, 3) := by decide +kernel
theorem dX6_lengthTo_45 : decode cX6_lengthTo 45 = .ok (.goto (-38), 3) := by decide +kernel
theorem dX6_goalLength_0 : decode cX6_goalLength 0 = .ok (.aload_n 0, 1) := by decide +kernel
theorem dX6_goalLength_1 : decode cX6_goalLength 1 = .ok (.getfield 9, 3) := by decide +kernel
theorem dX6_goalLength_4 : decode cX6_goalLength 4 = .ok (.iconst (-1), 1) := by decide +kernel
theorem dX6_goalLength_5 : decode cX6_goalLength 5 = .ok (.if_icmp .ne 7, 3) := by decide +kernel
theorem dX6_goalLength_12 : decode cX6_goalLength 12 = .ok (.aload_n 0, 1) := by decide +kernel
theorem dX6_goalLength_13 : decode cX6_goalLength 13 = .ok (.aload_n 0, 1) := by decide +kernel
theorem dX6_goalLength_14 : decode cX6_goalLength 14 = .ok (.getfield 9, 3) := by decide +kernel
theorem dX6_goalLength_17 : decode cX6_goalLength 17 = .ok (.invokevirtual 49, 3) := by decide +kernel
theorem dX6_goalLength_20 : decode cX6_goalLength 20 = .ok (.ireturn, 1) := by decide +kernel
theorem dX6_goalLength_8 : decode cX6_goalLength 8 = .ok (.iconst (-1), 1) := by decide +kernel
theorem dX6_goalLength_9 : decode cX6_goalLength 9 = .ok (.goto 11, 3) := by decide +kernel
theorem dX6_goalWind_0 : decode cX6_goalWind 0 = .ok (.aload_n 0, 1) := by decide +kernel
theorem dX6_goalWind_1 : decode cX6_goalWind 1 = .ok (.invokevirtual 53, 3) := by decide +kernel
theorem dX6_goalWind_4 : decode cX6_goalWind 4 = .ok (.istore_n 2, 1) := by decide +kernel
theorem dX6_goalWind_5 : decode cX6_goalWind 5 = .ok (.iload_n 1, 1) := by decide +kernel
theorem dX6_goalWind_6 : decode cX6_goalWind 6 = .ok (.ifCond .lt 8, 3) := by decide +kernel
theorem dX6_goalWind_14 : decode cX6_goalWind 14 = .ok (.iconst (-1), 1) := by decide +kernel
theorem dX6_goalWind_15 : decode cX6_goalWind 15 = .ok (.ireturn, 1) := by decide +kernel
theorem dX6_goalWind_9 : decode cX6_goalWind 9 = .ok (.iload_n 1, 1) := by decide +kernel
theorem dX6_goalWind_10 : decode cX6_goalWind 10 = .ok (.iload_n 2, 1) := by decide +kernel
theorem dX6_goalWind_11 : decode cX6_goalWind 11 = .ok (.if_icmp .lt 5, 3) := by decide +kernel
theorem dX6_goalWind_16 : decode cX6_goalWind 16 = .ok (.aload_n 0, 1) := by decide +kernel
theorem dX6_goalWind_17 : decode cX6_goalWind 17 = .ok (.getfield 9, 3) := by decide +kernel
theorem dX6_goalWind_20 : decode cX6_goalWind 20 = .ok (.istore_n 3, 1) := by decide +kernel
theorem dX6_goalWind_21 : decode cX6_goalWind 21 = .ok (.iload_n 2, 1) := by decide +kernel
theorem dX6_goalWind_22 : decode cX6_goalWind 22 = .ok (.iconst 1, 1) := by decide +kernel
theorem dX6_goalWind_23 : decode cX6_goalWind 23 = .ok (.isub, 1) := by decide +kernel
theorem dX6_goalWind_24 : decode cX6_goalWind 24 = .ok (.istore 4, 2) := by decide +kernel
theorem dX6_goalWind_26 : decode cX6_goalWind 26 = .ok (.iload 4, 2) := by decide +kernel
theorem dX6_goalWind_28 : decode cX6_goalWind 28 = .ok (.iload_n 1, 1) := by decide +kernel
theorem dX6_goalWind_29 : decode cX6_goalWind 29 = .ok (.if_icmp .le 31, 3) := by decide +kernel
theorem dX6_goalWind_60 : decode cX6_goalWind 60 = .ok (.iload_n 3, 1) := by decide +kernel
theorem dX6_goalWind_61 : decode cX6_goalWind 61 = .ok (.ifCond .le 23, 3) := by decide +kernel
theorem dX6_goalWind_84 : decode cX6_goalWind 84 = .ok (.iconst (-1), 1) := by decide +kernel
theorem dX6_goalWind_85 : decode cX6_goalWind 85 = .ok (.ireturn, 1) := by decide +kernel
theorem dX6_goalWind_64 : decode cX6_goalWind 64 = .ok (.iload_n 3, 1) := by decide +kernel
theorem dX6_goalWind_65 : decode cX6_goalWind 65 = .ok (.aload_n 0, 1) := by decide +kernel
theorem dX6_goalWind_66 : decode cX6_goalWind 66 = .ok (.getfield 28, 3) := by decide +kernel
theorem dX6_goalWind_69 : decode cX6_goalWind 69 = .ok (.arraylength, 1) := by decide +kernel
theorem dX6_goalWind_70 : decode cX6_goalWind 70 = .ok (.if_icmp .ge 14, 3) := by decide +kernel
theorem dX6_goalWind_73 : decode cX6_goalWind 73 = .ok (.aload_n 0, 1) := by decide +kernel
theorem dX6_goalWind_74 : decode cX6_goalWind 74 = .ok (.getfield 28, 3) := by decide +kernel
theorem dX6_goalWind_77 : decode cX6_goalWind 77 = .ok (.iload_n 3, 1) := by decide +kernel
theorem dX6_goalWind_78 : decode cX6_goalWind 78 = .ok (.iaload, 1) := by decide +kernel
theorem dX6_goalWind_79 : decode cX6_goalWind 79 = .ok (.iconst 4, 1) := by decide +kernel
theorem dX6_goalWind_80 : decode cX6_goalWind 80 = .ok (.irem, 1) := by decide +kernel
theorem dX6_goalWind_81 : decode cX6_goalWind 81 = .ok (.goto 4, 3) := by decide +kernel
theorem dX6_goalWind_32 : decode cX6_goalWind 32 = .ok (.iload_n 3, 1) := by decide +kernel
theorem dX6_goalWind_33 : decode cX6_goalWind 33 = .ok (.ifCond .le 27, 3) := by decide +kernel
theorem dX6_goalWind_36 : decode cX6_goalWind 36 = .ok (.iload_n 3, 1) := by decide +kernel
theorem dX6_goalWind_37 : decode cX6_goalWind 37 = .ok (.aload_n 0, 1) := by decide +kernel
theorem dX6_goalWind_38 : decode cX6_goalWind 38 = .ok (.getfield 28, 3) := by decide +kernel
theorem dX6_goalWind_41 : decode cX6_goalWind 41 = .ok (.arraylength, 1) := by decide +kernel
theorem dX6_goalWind_42 : decode cX6_goalWind 42 = .ok (.if_icmp .ge 18, 3) := by decide +kernel
theorem dX6_goalWind_45 : decode cX6_goalWind 45 = .ok (.aload_n 0, 1) := by decide +kernel
theorem dX6_goalWind_46 : decode cX6_goalWind 46 = .ok (.getfield 28, 3) := by decide +kernel
theorem dX6_goalWind_49 : decode cX6_goalWind 49 = .ok (.iload_n 3, 1) := by decide +kernel
theorem dX6_goalWind_50 : decode cX6_goalWind 50 = .ok (.iaload, 1) := by decide +kernel
theorem dX6_goalWind_51 : decode cX6_goalWind 51 = .ok (.iconst 4, 1) := by decide +kernel
theorem dX6_goalWind_52 : decode cX6_goalWind 52 = .ok (.idiv, 1) := by decide +kernel
theorem dX6_goalWind_53 : decode cX6_goalWind 53 = .ok (.istore_n 3, 1) := by decide +kernel
theorem dX6_goalWind_54 : decode cX6_goalWind 54 = .ok (.iinc 4 (-1), 3) := by decide +kernel
theorem dX6_goalWind_57 : decode cX6_goalWind 57 = .ok (.goto (-31), 3) := by decide +kernel
theorem dX1_aimAt_0 : decode cX1_aimAt 0 = .ok (.aload_n 0, 1) := by decide +kernel
theorem dX1_aimAt_1 : decode cX1_aimAt 1 = .ok (.iload_n 1, 1) := by decide +kernel
theorem dX1_aimAt_2 : decode cX1_aimAt 2 = .ok (.putfield 20, 3) := by decide +kernel
theorem dX1_aimAt_5 : decode cX1_aimAt 5 = .ok (.aload_n 0, 1) := by decide +kernel
theorem dX1_aimAt_6 : decode cX1_aimAt 6 = .ok (.iload_n 2, 1) := by decide +kernel
theorem dX1_aimAt_7 : decode cX1_aimAt 7 = .ok (.putfield 24, 3) := by decide +kernel
theorem dX1_aimAt_10 : decode cX1_aimAt 10 = .ok (.aload_n 0, 1) := by decide +kernel
theorem dX1_aimAt_11 : decode cX1_aimAt 11 = .ok (.iload_n 3, 1) := by decide +kernel
theorem dX1_aimAt_12 : decode cX1_aimAt 12 = .ok (.putfield 27, 3) := by decide +kernel
theorem dX1_aimAt_15 : decode cX1_aimAt 15 = .ok (.return_, 1) := by decide +kernel
theorem dX1_next_0 : decode cX1_next 0 = .ok (.aload_n 0, 1) := by decide +kernel
theorem dX1_next_1 : decode cX1_next 1 = .ok (.getfield 14, 3) := by decide +kernel
theorem dX1_next_4 : decode cX1_next 4 = .ok (.iload_n 2, 1) := by decide +kernel
theorem dX1_next_5 : decode cX1_next 5 = .ok (.sipush 1024, 3) := by decide +kernel
theorem dX1_next_8 : decode cX1_next 8 = .ok (.idiv, 1) := by decide +kernel
theorem dX1_next_9 : decode cX1_next 9 = .ok (.iload_n 2, 1) := by decide +kernel
theorem dX1_next_10 : decode cX1_next 10 = .ok (.sipush 1024, 3) := by decide +kernel
theorem dX1_next_13 : decode cX1_next 13 = .ok (.irem, 1) := by decide +kernel
theorem dX1_next_14 : decode cX1_next 14 = .ok (.aload_n 0, 1) := by decide +kernel
theorem dX1_next_15 : decode cX1_next 15 = .ok (.getfield 20, 3) := by decide +kernel
theorem dX1_next_18 : decode cX1_next 18 = .ok (.invokevirtual 30, 3) := by decide +kernel
theorem dX1_next_21 : decode cX1_next 21 = .ok (.aload_n 0, 1) := by decide +kernel
theorem dX1_next_22 : decode cX1_next 22 = .ok (.getfield 14, 3) := by decide +kernel
theorem dX1_next_25 : decode cX1_next 25 = .ok (.aload_n 1, 1) := by decide +kernel
theorem dX1_next_26 : decode cX1_next 26 = .ok (.iload_n 3, 1) := by decide +kernel
theorem dX1_next_27 : decode cX1_next 27 = .ok (.invokevirtual 34, 3) := by decide +kernel
theorem dX1_next_30 : decode cX1_next 30 = .ok (.aload_n 0, 1) := by decide +kernel
theorem dX1_next_31 : decode cX1_next 31 = .ok (.getfield 14, 3) := by decide +kernel
theorem dX1_next_34 : decode cX1_next 34 = .ok (.getfield 38, 3) := by decide +kernel
theorem dX1_next_37 : decode cX1_next 37 = .ok (.sipush 1024, 3) := by decide +kernel
theorem dX1_next_40 : decode cX1_next 40 = .ok (.imul, 1) := by decide +kernel
theorem dX1_next_41 : decode cX1_next 41 = .ok (.aload_n 0, 1) := by decide +kernel
theorem dX1_next_42 : decode cX1_next 42 = .ok (.getfield 14, 3) := by decide +kernel
theorem dX1_next_45 : decode cX1_next 45 = .ok (.getfield 41, 3) := by decide +kernel
theorem dX1_next_48 : decode cX1_next 48 = .ok (.iadd, 1) := by decide +kernel
theorem dX1_next_49 : decode cX1_next 49 = .ok (.ireturn, 1) := by decide +kernel
theorem dX1_ends_0 : decode cX1_ends 0 = .ok (.aload_n 0, 1) := by decide +kernel
theorem dX1_ends_1 : decode cX1_ends 1 = .ok (.getfield 14, 3) := by decide +kernel
theorem dX1_ends_4 : decode cX1_ends 4 = .ok (.iload_n 2, 1) := by decide +kernel
theorem dX1_ends_5 : decode cX1_ends 5 = .ok (.sipush 1024, 3) := by decide +kernel
theorem dX1_ends_8 : decode cX1_ends 8 = .ok (.idiv, 1) := by decide +kernel
theorem dX1_ends_9 : decode cX1_ends 9 = .ok (.iload_n 2, 1) := by decide +kernel
theorem dX1_ends_10 : decode cX1_ends 10 = .ok (.sipush 1024, 3) := by decide +kernel
theorem dX1_ends_13 : decode cX1_ends 13 = .ok (.irem, 1) := by decide +kernel
theorem dX1_ends_14 : decode cX1_ends 14 = .ok (.aload_n 0, 1) := by decide +kernel
theorem dX1_ends_15 : decode cX1_ends 15 = .ok (.getfield 20, 3) := by decide +kernel
theorem dX1_ends_18 : decode cX1_ends 18 = .ok (.invokevirtual 30, 3) := by decide +kernel
theorem dX1_ends_21 : decode cX1_ends 21 = .ok (.aload_n 0, 1) := by decide +kernel
theorem dX1_ends_22 : decode cX1_ends 22 = .ok (.getfield 24, 3) := by decide +kernel
theorem dX1_ends_25 : decode cX1_ends 25 = .ok (.tableswitch 63 1 3 #[27, 47, 55], 27) := by decide +kernel
theorem dX1_ends_52 : decode cX1_ends 52 = .ok (.aload_n 0, 1) := by decide +kernel
theorem dX1_ends_53 : decode cX1_ends 53 = .ok (.getfield 14, 3) := by decide +kernel
theorem dX1_ends_56 : decode cX1_ends 56 = .ok (.invokevirtual 44, 3) := by decide +kernel
theorem dX1_ends_59 : decode cX1_ends 59 = .ok (.aload_n 0, 1) := by decide +kernel
theorem dX1_ends_60 : decode cX1_ends 60 = .ok (.getfield 27, 3) := by decide +kernel
theorem dX1_ends_63 : decode cX1_ends 63 = .ok (.if_icmp .lt 7, 3) := by decide +kernel
theorem dX1_ends_70 : decode cX1_ends 70 = .ok (.iconst 0, 1) := by decide +kernel
theorem dX1_ends_71 : decode cX1_ends 71 = .ok (.ireturn, 1) := by decide +kernel
theorem dX1_ends_66 : decode cX1_ends 66 = .ok (.iconst 1, 1) := by decide +kernel
theorem dX1_ends_67 : decode cX1_ends 67 = .ok (.goto 4, 3) := by decide +kernel
theorem dX1_ends_72 : decode cX1_ends 72 = .ok (.aload_n 0, 1) := by decide +kernel
theorem dX1_ends_73 : decode cX1_ends 73 = .ok (.getfield 14, 3) := by decide +kernel
theorem dX1_ends_76 : decode cX1_ends 76 = .ok (.invokevirtual 48, 3) := by decide +kernel
theorem dX1_ends_79 : decode cX1_ends 79 = .ok (.ireturn, 1) := by decide +kernel
theorem dX1_ends_80 : decode cX1_ends 80 = .ok (.aload_n 0, 1) := by decide +kernel
theorem dX1_ends_81 : decode cX1_ends 81 = .ok (.getfield 14, 3) := by decide +kernel
theorem dX1_ends_84 : decode cX1_ends 84 = .ok (.invokevirtual 52, 3) := by decide +kernel
theorem dX1_ends_87 : decode cX1_ends 87 = .ok (.ireturn, 1) := by decide +kernel
theorem dX1_ends_88 : decode cX1_ends 88 = .ok (.iconst 0, 1) := by decide +kernel
theorem dX1_ends_89 : decode cX1_ends 89 = .ok (.ireturn, 1) := by decide +kernel
theorem dX7_next_0 : decode cX7_next 0 = .ok (.aload_n 1, 1) := by decide +kernel
theorem dX7_next_1 : decode cX7_next 1 = .ok (.iload_n 2, 1) := by decide +kernel
theorem dX7_next_2 : decode cX7_next 2 = .ok (.iload_n 3, 1) := by decide +kernel
theorem dX7_next_3 : decode cX7_next 3 = .ok (.invokevirtual 19, 3) := by decide +kernel
theorem dX7_next_6 : decode cX7_next 6 = .ok (.ireturn, 1) := by decide +kernel
theorem dX7_ends_0 : decode cX7_ends 0 = .ok (.aload_n 0, 1) := by decide +kernel
theorem dX7_ends_1 : decode cX7_ends 1 = .ok (.getfield 9, 3) := by decide +kernel
theorem dX7_ends_4 : decode cX7_ends 4 = .ok (.lookupswitch 57 #[(1, 28), (2, 42)], 28) := by decide +kernel
theorem dX7_ends_32 : decode cX7_ends 32 = .ok (.iload_n 2, 1) := by decide +kernel
theorem dX7_ends_33 : decode cX7_ends 33 = .ok (.invokestatic 25, 3) := by decide +kernel
theorem dX7_ends_36 : decode cX7_ends 36 = .ok (.iconst 1, 1) := by decide +kernel
theorem dX7_ends_37 : decode cX7_ends 37 = .ok (.if_icmp .ne 7, 3) := by decide +kernel
theorem dX7_ends_44 : decode cX7_ends 44 = .ok (.iconst 0, 1) := by decide +kernel
theorem dX7_ends_45 : decode cX7_ends 45 = .ok (.ireturn, 1) := by decide +kernel
theorem dX7_ends_40 : decode cX7_ends 40 = .ok (.iconst 1, 1) := by decide +kernel
theorem dX7_ends_41 : decode cX7_ends 41 = .ok (.goto 4, 3) := by decide +kernel
theorem dX7_ends_46 : decode cX7_ends 46 = .ok (.aload_n 1, 1) := by decide +kernel
theorem dX7_ends_47 : decode cX7_ends 47 = .ok (.iload_n 2, 1) := by decide +kernel
theorem dX7_ends_48 : decode cX7_ends 48 = .ok (.iconst 0, 1) := by decide +kernel
theorem dX7_ends_49 : decode cX7_ends 49 = .ok (.invokestatic 31, 3) := by decide +kernel
theorem dX7_ends_52 : decode cX7_ends 52 = .ok (.ifCond .ne 7, 3) := by decide +kernel
theorem dX7_ends_55 : decode cX7_ends 55 = .ok (.iconst 1, 1) := by decide +kernel
