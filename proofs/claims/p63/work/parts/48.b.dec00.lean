theorem dX12_meetPair_0 : decode cX12_meetPair 0 = .ok (.aload_n 0, 1) := by decide +kernel
theorem dX12_meetPair_1 : decode cX12_meetPair 1 = .ok (.getfield 37, 3) := by decide +kernel
theorem dX12_meetPair_4 : decode cX12_meetPair 4 = .ok (.iload_n 1, 1) := by decide +kernel
theorem dX12_meetPair_5 : decode cX12_meetPair 5 = .ok (.iaload, 1) := by decide +kernel
theorem dX12_meetPair_6 : decode cX12_meetPair 6 = .ok (.iconst (-1), 1) := by decide +kernel
theorem dX12_meetPair_7 : decode cX12_meetPair 7 = .ok (.if_icmp .eq 4, 3) := by decide +kernel
theorem dX12_meetPair_11 : decode cX12_meetPair 11 = .ok (.aload_n 0, 1) := by decide +kernel
theorem dX12_meetPair_12 : decode cX12_meetPair 12 = .ok (.getfield 37, 3) := by decide +kernel
theorem dX12_meetPair_15 : decode cX12_meetPair 15 = .ok (.iload_n 1, 1) := by decide +kernel
theorem dX12_meetPair_16 : decode cX12_meetPair 16 = .ok (.iload_n 2, 1) := by decide +kernel
theorem dX12_meetPair_17 : decode cX12_meetPair 17 = .ok (.iastore, 1) := by decide +kernel
theorem dX12_meetPair_18 : decode cX12_meetPair 18 = .ok (.aload_n 0, 1) := by decide +kernel
theorem dX12_meetPair_19 : decode cX12_meetPair 19 = .ok (.getfield 40, 3) := by decide +kernel
theorem dX12_meetPair_22 : decode cX12_meetPair 22 = .ok (.iload_n 1, 1) := by decide +kernel
theorem dX12_meetPair_23 : decode cX12_meetPair 23 = .ok (.iload_n 3, 1) := by decide +kernel
theorem dX12_meetPair_24 : decode cX12_meetPair 24 = .ok (.iastore, 1) := by decide +kernel
theorem dX12_meetPair_25 : decode cX12_meetPair 25 = .ok (.aload_n 0, 1) := by decide +kernel
theorem dX12_meetPair_26 : decode cX12_meetPair 26 = .ok (.getfield 43, 3) := by decide +kernel
theorem dX12_meetPair_29 : decode cX12_meetPair 29 = .ok (.iload_n 1, 1) := by decide +kernel
theorem dX12_meetPair_30 : decode cX12_meetPair 30 = .ok (.iload 4, 2) := by decide +kernel
theorem dX12_meetPair_32 : decode cX12_meetPair 32 = .ok (.iastore, 1) := by decide +kernel
theorem dX12_meetPair_33 : decode cX12_meetPair 33 = .ok (.aload_n 0, 1) := by decide +kernel
theorem dX12_meetPair_34 : decode cX12_meetPair 34 = .ok (.getfield 34, 3) := by decide +kernel
theorem dX12_meetPair_37 : decode cX12_meetPair 37 = .ok (.aload_n 0, 1) := by decide +kernel
theorem dX12_meetPair_38 : decode cX12_meetPair 38 = .ok (.getfield 360, 3) := by decide +kernel
theorem dX12_meetPair_41 : decode cX12_meetPair 41 = .ok (.iload_n 1, 1) := by decide +kernel
theorem dX12_meetPair_42 : decode cX12_meetPair 42 = .ok (.iastore, 1) := by decide +kernel
theorem dX12_meetPair_43 : decode cX12_meetPair 43 = .ok (.aload_n 0, 1) := by decide +kernel
theorem dX12_meetPair_44 : decode cX12_meetPair 44 = .ok (.dup, 1) := by decide +kernel
theorem dX12_meetPair_45 : decode cX12_meetPair 45 = .ok (.getfield 360, 3) := by decide +kernel
theorem dX12_meetPair_48 : decode cX12_meetPair 48 = .ok (.iconst 1, 1) := by decide +kernel
theorem dX12_meetPair_49 : decode cX12_meetPair 49 = .ok (.iadd, 1) := by decide +kernel
theorem dX12_meetPair_50 : decode cX12_meetPair 50 = .ok (.putfield 360, 3) := by decide +kernel
theorem dX12_meetPair_53 : decode cX12_meetPair 53 = .ok (.return_, 1) := by decide +kernel
theorem dX12_meetPair_10 : decode cX12_meetPair 10 = .ok (.return_, 1) := by decide +kernel
theorem dX12_goThrough_0 : decode cX12_goThrough 0 = .ok (.iconst 0, 1) := by decide +kernel
theorem dX12_goThrough_1 : decode cX12_goThrough 1 = .ok (.istore_n 2, 1) := by decide +kernel
theorem dX12_goThrough_2 : decode cX12_goThrough 2 = .ok (.iload_n 2, 1) := by decide +kernel
theorem dX12_goThrough_3 : decode cX12_goThrough 3 = .ok (.sipush 10240, 3) := by decide +kernel
theorem dX12_goThrough_6 : decode cX12_goThrough 6 = .ok (.if_icmp .ge 16, 3) := by decide +kernel
theorem dX12_goThrough_22 : decode cX12_goThrough 22 = .ok (.aload_n 0, 1) := by decide +kernel
theorem dX12_goThrough_23 : decode cX12_goThrough 23 = .ok (.iconst 0, 1) := by decide +kernel
theorem dX12_goThrough_24 : decode cX12_goThrough 24 = .ok (.putfield 360, 3) := by decide +kernel
theorem dX12_goThrough_27 : decode cX12_goThrough 27 = .ok (.aload_n 0, 1) := by decide +kernel
theorem dX12_goThrough_28 : decode cX12_goThrough 28 = .ok (.aload_n 0, 1) := by decide +kernel
theorem dX12_goThrough_29 : decode cX12_goThrough 29 = .ok (.iload_n 1, 1) := by decide +kernel
theorem dX12_goThrough_30 : decode cX12_goThrough 30 = .ok (.invokevirtual 305, 3) := by decide +kernel
theorem dX12_goThrough_33 : decode cX12_goThrough 33 = .ok (.putfield 308, 3) := by decide +kernel
theorem dX12_goThrough_36 : decode cX12_goThrough 36 = .ok (.aload_n 0, 1) := by decide +kernel
theorem dX12_goThrough_37 : decode cX12_goThrough 37 = .ok (.sipush 1024, 3) := by decide +kernel
theorem dX12_goThrough_40 : decode cX12_goThrough 40 = .ok (.aload_n 0, 1) := by decide +kernel
theorem dX12_goThrough_41 : decode cX12_goThrough 41 = .ok (.iload_n 1, 1) := by decide +kernel
theorem dX12_goThrough_42 : decode cX12_goThrough 42 = .ok (.invokevirtual 294, 3) := by decide +kernel
theorem dX12_goThrough_45 : decode cX12_goThrough 45 = .ok (.imul, 1) := by decide +kernel
theorem dX12_goThrough_46 : decode cX12_goThrough 46 = .ok (.aload_n 0, 1) := by decide +kernel
theorem dX12_goThrough_47 : decode cX12_goThrough 47 = .ok (.iload_n 1, 1) := by decide +kernel
theorem dX12_goThrough_48 : decode cX12_goThrough 48 = .ok (.invokevirtual 300, 3) := by decide +kernel
theorem dX12_goThrough_51 : decode cX12_goThrough 51 = .ok (.iadd, 1) := by decide +kernel
theorem dX12_goThrough_52 : decode cX12_goThrough 52 = .ok (.iconst 0, 1) := by decide +kernel
theorem dX12_goThrough_53 : decode cX12_goThrough 53 = .ok (.iconst (-1), 1) := by decide +kernel
theorem dX12_goThrough_54 : decode cX12_goThrough 54 = .ok (.iconst (-1), 1) := by decide +kernel
theorem dX12_goThrough_55 : decode cX12_goThrough 55 = .ok (.invokevirtual 363, 3) := by decide +kernel
theorem dX12_goThrough_58 : decode cX12_goThrough 58 = .ok (.iconst 0, 1) := by decide +kernel
theorem dX12_goThrough_59 : decode cX12_goThrough 59 = .ok (.istore_n 2, 1) := by decide +kernel
theorem dX12_goThrough_60 : decode cX12_goThrough 60 = .ok (.iload_n 2, 1) := by decide +kernel
theorem dX12_goThrough_61 : decode cX12_goThrough 61 = .ok (.aload_n 0, 1) := by decide +kernel
theorem dX12_goThrough_62 : decode cX12_goThrough 62 = .ok (.getfield 360, 3) := by decide +kernel
theorem dX12_goThrough_65 : decode cX12_goThrough 65 = .ok (.if_icmp .ge 92, 3) := by decide +kernel
theorem dX12_goThrough_157 : decode cX12_goThrough 157 = .ok (.return_, 1) := by decide +kernel
theorem dX12_goThrough_68 : decode cX12_goThrough 68 = .ok (.iconst 0, 1) := by decide +kernel
theorem dX12_goThrough_69 : decode cX12_goThrough 69 = .ok (.istore_n 3, 1) := by decide +kernel
theorem dX12_goThrough_70 : decode cX12_goThrough 70 = .ok (.iload_n 3, 1) := by decide +kernel
theorem dX12_goThrough_71 : decode cX12_goThrough 71 = .ok (.iconst 4, 1) := by decide +kernel
theorem dX12_goThrough_72 : decode cX12_goThrough 72 = .ok (.if_icmp .ge 79, 3) := by decide +kernel
theorem dX12_goThrough_151 : decode cX12_goThrough 151 = .ok (.iinc 2 1, 3) := by decide +kernel
theorem dX12_goThrough_154 : decode cX12_goThrough 154 = .ok (.goto (-94), 3) := by decide +kernel
theorem dX12_goThrough_75 : decode cX12_goThrough 75 = .ok (.aload_n 0, 1) := by decide +kernel
theorem dX12_goThrough_76 : decode cX12_goThrough 76 = .ok (.aload_n 0, 1) := by decide +kernel
theorem dX12_goThrough_77 : decode cX12_goThrough 77 = .ok (.getfield 34, 3) := by decide +kernel
theorem dX12_goThrough_80 : decode cX12_goThrough 80 = .ok (.iload_n 2, 1) := by decide +kernel
theorem dX12_goThrough_81 : decode cX12_goThrough 81 = .ok (.iaload, 1) := by decide +kernel
theorem dX12_goThrough_82 : decode cX12_goThrough 82 = .ok (.sipush 1024, 3) := by decide +kernel
theorem dX12_goThrough_85 : decode cX12_goThrough 85 = .ok (.idiv, 1) := by decide +kernel
theorem dX12_goThrough_86 : decode cX12_goThrough 86 = .ok (.putfield 297, 3) := by decide +kernel
theorem dX12_goThrough_89 : decode cX12_goThrough 89 = .ok (.aload_n 0, 1) := by decide +kernel
theorem dX12_goThrough_90 : decode cX12_goThrough 90 = .ok (.aload_n 0, 1) := by decide +kernel
theorem dX12_goThrough_91 : decode cX12_goThrough 91 = .ok (.getfield 34, 3) := by decide +kernel
theorem dX12_goThrough_94 : decode cX12_goThrough 94 = .ok (.iload_n 2, 1) := by decide +kernel
theorem dX12_goThrough_95 : decode cX12_goThrough 95 = .ok (.iaload, 1) := by decide +kernel
theorem dX12_goThrough_96 : decode cX12_goThrough 96 = .ok (.sipush 1024, 3) := by decide +kernel
theorem dX12_goThrough_99 : decode cX12_goThrough 99 = .ok (.irem, 1) := by decide +kernel
theorem dX12_goThrough_100 : decode cX12_goThrough 100 = .ok (.putfield 303, 3) := by decide +kernel
theorem dX12_goThrough_103 : decode cX12_goThrough 103 = .ok (.aload_n 0, 1) := by decide +kernel
theorem dX12_goThrough_104 : decode cX12_goThrough 104 = .ok (.iload_n 3, 1) := by decide +kernel
theorem dX12_goThrough_105 : decode cX12_goThrough 105 = .ok (.invokevirtual 325, 3) := by decide +kernel
theorem dX12_goThrough_108 : decode cX12_goThrough 108 = .ok (.aload_n 0, 1) := by decide +kernel
theorem dX12_goThrough_109 : decode cX12_goThrough 109 = .ok (.sipush 1024, 3) := by decide +kernel
theorem dX12_goThrough_112 : decode cX12_goThrough 112 = .ok (.aload_n 0, 1) := by decide +kernel
theorem dX12_goThrough_113 : decode cX12_goThrough 113 = .ok (.getfield 297, 3) := by decide +kernel
theorem dX12_goThrough_116 : decode cX12_goThrough 116 = .ok (.imul, 1) := by decide +kernel
theorem dX12_goThrough_117 : decode cX12_goThrough 117 = .ok (.aload_n 0, 1) := by decide +kernel
theorem dX12_goThrough_118 : decode cX12_goThrough 118 = .ok (.getfield 303, 3) := by decide +kernel
theorem dX12_goThrough_121 : decode cX12_goThrough 121 = .ok (.iadd, 1) := by decide +kernel
theorem dX12_goThrough_122 : decode cX12_goThrough 122 = .ok (.aload_n 0, 1) := by decide +kernel
theorem dX12_goThrough_123 : decode cX12_goThrough 123 = .ok (.getfield 37, 3) := by decide +kernel
theorem dX12_goThrough_126 : decode cX12_goThrough 126 = .ok (.aload_n 0, 1) := by decide +kernel
theorem dX12_goThrough_127 : decode cX12_goThrough 127 = .ok (.getfield 34, 3) := by decide +kernel
theorem dX12_goThrough_130 : decode cX12_goThrough 130 = .ok (.iload_n 2, 1) := by decide +kernel
theorem dX12_goThrough_131 : decode cX12_goThrough 131 = .ok (.iaload, 1) := by decide +kernel
theorem dX12_goThrough_132 : decode cX12_goThrough 132 = .ok (.iaload, 1) := by decide +kernel
theorem dX12_goThrough_133 : decode cX12_goThrough 133 = .ok (.iconst 1, 1) := by decide +kernel
theorem dX12_goThrough_134 : decode cX12_goThrough 134 = .ok (.iadd, 1) := by decide +kernel
theorem dX12_goThrough_135 : decode cX12_goThrough 135 = .ok (.iload_n 3, 1) := by decide +kernel
theorem dX12_goThrough_136 : decode cX12_goThrough 136 = .ok (.aload_n 0, 1) := by decide +kernel
theorem dX12_goThrough_137 : decode cX12_goThrough 137 = .ok (.getfield 34, 3) := by decide +kernel
theorem dX12_goThrough_140 : decode cX12_goThrough 140 = .ok (.iload_n 2, 1) := by decide +kernel
theorem dX12_goThrough_141 : decode cX12_goThrough 141 = .ok (.iaload, 1) := by decide +kernel
theorem dX12_goThrough_142 : decode cX12_goThrough 142 = .ok (.invokevirtual 363, 3) := by decide +kernel
theorem dX12_goThrough_145 : decode cX12_goThrough 145 = .ok (.iinc 3 1, 3) := by decide +kernel
theorem dX12_goThrough_148 : decode cX12_goThrough 148 = .ok (.goto (-78), 3) := by decide +kernel
theorem dX12_goThrough_9 : decode cX12_goThrough 9 = .ok (.aload_n 0, 1) := by decide +kernel
theorem dX12_goThrough_10 : decode cX12_goThrough 10 = .ok (.getfield 37, 3) := by decide +kernel
theorem dX12_goThrough_13 : decode cX12_goThrough 13 = .ok (.iload_n 2, 1) := by decide +kernel
theorem dX12_goThrough_14 : decode cX12_goThrough 14 = .ok (.iconst (-1), 1) := by decide +kernel
theorem dX12_goThrough_15 : decode cX12_goThrough 15 = .ok (.iastore, 1) := by decide +kernel
theorem dX12_goThrough_16 : decode cX12_goThrough 16 = .ok (.iinc 2 1, 3) := by decide +kernel
theorem dX12_goThrough_19 : decode cX12_goThrough 19 = .ok (.goto (-17), 3) := by decide +kernel
theorem dX12_findPair_0 : decode cX12_findPair 0 = .ok (.aload_n 0, 1) := by decide +kernel
theorem dX12_findPair_1 : decode cX12_findPair 1 = .ok (.iload_n 1, 1) := by decide +kernel
theorem dX12_findPair_2 : decode cX12_findPair 2 = .ok (.invokevirtual 367, 3) := by decide +kernel
theorem dX12_findPair_5 : decode cX12_findPair 5 = .ok (.iconst 0, 1) := by decide +kernel
theorem dX12_findPair_6 : decode cX12_findPair 6 = .ok (.istore 4, 2) := by decide +kernel
theorem dX12_findPair_8 : decode cX12_findPair 8 = .ok (.iload 4, 2) := by decide +kernel
theorem dX12_findPair_10 : decode cX12_findPair 10 = .ok (.aload_n 0, 1) := by decide +kernel
theorem dX12_findPair_11 : decode cX12_findPair 11 = .ok (.getfield 360, 3) := by decide +kernel
theorem dX12_findPair_14 : decode cX12_findPair 14 = .ok (.if_icmp .ge 87, 3) := by decide +kernel
theorem dX12_findPair_101 : decode cX12_findPair 101 = .ok (.iconst (-1), 1) := by decide +kernel
theorem dX12_findPair_102 : decode cX12_findPair 102 = .ok (.ireturn, 1) := by decide +kernel
theorem dX12_findPair_17 : decode cX12_findPair 17 = .ok (.aload_n 0, 1) := by decide +kernel
theorem dX12_findPair_18 : decode cX12_findPair 18 = .ok (.aload_n 0, 1) := by decide +kernel
theorem dX12_findPair_19 : decode cX12_findPair 19 = .ok (.getfield 34, 3) := by decide +kernel
theorem dX12_findPair_22 : decode cX12_findPair 22 = .ok (.iload 4, 2) := by decide +kernel
theorem dX12_findPair_24 : decode cX12_findPair 24 = .ok (.iaload, 1) := by decide +kernel
theorem dX12_findPair_25 : decode cX12_findPair 25 = .ok (.sipush 1024, 3) := by decide +kernel
theorem dX12_findPair_28 : decode cX12_findPair 28 = .ok (.idiv, 1) := by decide +kernel
theorem dX12_findPair_29 : decode cX12_findPair 29 = .ok (.putfield 297, 3) := by decide +kernel
theorem dX12_findPair_32 : decode cX12_findPair 32 = .ok (.aload_n 0, 1) := by decide +kernel
theorem dX12_findPair_33 : decode cX12_findPair 33 = .ok (.aload_n 0, 1) := by decide +kernel
theorem dX12_findPair_34 : decode cX12_findPair 34 = .ok (.getfield 34, 3) := by decide +kernel
theorem dX12_findPair_37 : decode cX12_findPair 37 = .ok (.iload 4, 2) := by decide +kernel
theorem dX12_findPair_39 : decode cX12_findPair 39 = .ok (.iaload, 1) := by decide +kernel
theorem dX12_findPair_40 : decode cX12_findPair 40 = .ok (.sipush 1024, 3) := by decide +kernel
theorem dX12_findPair_43 : decode cX12_findPair 43 = .ok (.irem, 1) := by decide +kernel
theorem dX12_findPair_44 : decode cX12_findPair 44 = .ok (.putfield 303, 3) := by decide +kernel
theorem dX12_findPair_47 : decode cX12_findPair 47 = .ok (.iload_n 2, 1) := by decide +kernel
theorem dX12_findPair_48 : decode cX12_findPair 48 = .ok (.ifCond .ne 17, 3) := by decide +kernel
theorem dX12_findPair_65 : decode cX12_findPair 65 = .ok (.iload_n 2, 1) := by decide +kernel
theorem dX12_findPair_66 : decode cX12_findPair 66 = .ok (.iconst 1, 1) := by decide +kernel
theorem dX12_findPair_67 : decode cX12_findPair 67 = .ok (.if_icmp .ne 13, 3) := by decide +kernel
theorem dX12_findPair_80 : decode cX12_findPair 80 = .ok (.aload_n 0, 1) := by decide +kernel
theorem dX12_findPair_81 : decode cX12_findPair 81 = .ok (.invokevirtual 319, 3) := by decide +kernel
theorem dX12_findPair_84 : decode cX12_findPair 84 = .ok (.ifCond .eq 11, 3) := by decide +kernel
theorem dX12_findPair_95 : decode cX12_findPair 95 = .ok (.iinc 4 1, 3) := by decide +kernel
theorem dX12_findPair_98 : decode cX12_findPair 98 = .ok (.goto (-90), 3) := by decide +kernel
theorem dX12_findPair_87 : decode cX12_findPair 87 = .ok (.aload_n 0, 1) := by decide +kernel
theorem dX12_findPair_88 : decode cX12_findPair 88 = .ok (.getfield 34, 3) := by decide +kernel
theorem dX12_findPair_91 : decode cX12_findPair 91 = .ok (.iload 4, 2) := by decide +kernel
theorem dX12_findPair_93 : decode cX12_findPair 93 = .ok (.iaload, 1) := by decide +kernel
theorem dX12_findPair_94 : decode cX12_findPair 94 = .ok (.ireturn, 1) := by decide +kernel
theorem dX12_findPair_70 : decode cX12_findPair 70 = .ok (.aload_n 0, 1) := by decide +kernel
theorem dX12_findPair_71 : decode cX12_findPair 71 = .ok (.invokevirtual 322, 3) := by decide +kernel
theorem dX12_findPair_74 : decode cX12_findPair 74 = .ok (.ifCond .eq 21, 3) := by decide +kernel
theorem dX12_findPair_77 : decode cX12_findPair 77 = .ok (.goto 10, 3) := by decide +kernel
theorem dX12_findPair_51 : decode cX12_findPair 51 = .ok (.aload_n 0, 1) := by decide +kernel
theorem dX12_findPair_52 : decode cX12_findPair 52 = .ok (.getfield 303, 3) := by decide +kernel
theorem dX12_findPair_55 : decode cX12_findPair 55 = .ok (.invokestatic 316, 3) := by decide +kernel
theorem dX12_findPair_58 : decode cX12_findPair 58 = .ok (.iload_n 3, 1) := by decide +kernel
theorem dX12_findPair_59 : decode cX12_findPair 59 = .ok (.if_icmp .lt 36, 3) := by decide +kernel
theorem dX12_findPair_62 : decode cX12_findPair 62 = .ok (.goto 25, 3) := by decide +kernel
theorem dX12_farTo_0 : decode cX12_farTo 0 = .ok (.iload_n 1, 1) := by decide +kernel
theorem dX12_farTo_1 : decode cX12_farTo 1 = .ok (.iconst (-1), 1) := by decide +kernel
theorem dX12_farTo_2 : decode cX12_farTo 2 = .ok (.if_icmp .ne 7, 3) := by decide +kernel
theorem dX12_farTo_9 : decode cX12_farTo 9 = .ok (.aload_n 0, 1) := by decide +kernel
theorem dX12_farTo_10 : decode cX12_farTo 10 = .ok (.getfield 37, 3) := by decide +kernel
theorem dX12_farTo_13 : decode cX12_farTo 13 = .ok (.iload_n 1, 1) := by decide +kernel
theorem dX12_farTo_14 : decode cX12_farTo 14 = .ok (.iaload, 1) := by decide +kernel
theorem dX12_farTo_15 : decode cX12_farTo 15 = .ok (.ireturn, 1) := by decide +kernel
theorem dX12_farTo_5 : decode cX12_farTo 5 = .ok (.iconst (-1), 1) := by decide +kernel
theorem dX12_farTo_6 : decode cX12_farTo 6 = .ok (.goto 9, 3) := by decide +kernel
theorem dX12_windTo_0 : decode cX12_windTo 0 = .ok (.iload_n 1, 1) := by decide +kernel
theorem dX12_windTo_1 : decode cX12_windTo 1 = .ok (.iconst (-1), 1) := by decide +kernel
theorem dX12_windTo_2 : decode cX12_windTo 2 = .ok (.if_icmp .eq 21, 3) := by decide +kernel
theorem dX12_windTo_23 : decode cX12_windTo 23 = .ok (.iconst (-1), 1) := by decide +kernel
theorem dX12_windTo_24 : decode cX12_windTo 24 = .ok (.ireturn, 1) := by decide +kernel
theorem dX12_windTo_5 : decode cX12_windTo 5 = .ok (.iload_n 2, 1) := by decide +kernel
theorem dX12_windTo_6 : decode cX12_windTo 6 = .ok (.i2l, 1) := by decide +kernel
theorem dX12_windTo_7 : decode cX12_windTo 7 = .ok (.lconst 0, 1) := by decide +kernel
theorem dX12_windTo_8 : decode cX12_windTo 8 = .ok (.aload_n 0, 1) := by decide +kernel
theorem dX12_windTo_9 : decode cX12_windTo 9 = .ok (.getfield 37, 3) := by decide +kernel
theorem dX12_windTo_12 : decode cX12_windTo 12 = .ok (.iload_n 1, 1) := by decide +kernel
theorem dX12_windTo_13 : decode cX12_windTo 13 = .ok (.iaload, 1) := by decide +kernel
theorem dX12_windTo_14 : decode cX12_windTo 14 = .ok (.iconst 1, 1) := by decide +kernel
theorem dX12_windTo_15 : decode cX12_windTo 15 = .ok (.isub, 1) := by decide +kernel
theorem dX12_windTo_16 : decode cX12_windTo 16 = .ok (.i2l, 1) := by decide +kernel
theorem dX12_windTo_17 : decode cX12_windTo 17 = .ok (.invokestatic 115, 3) := by decide +kernel
theorem dX12_windTo_20 : decode cX12_windTo 20 = .ok (.ifCond .ne 5, 3) := by decide +kernel
theorem dX12_windTo_25 : decode cX12_windTo 25 = .ok (.iload_n 1, 1) := by decide +kernel
theorem dX12_windTo_26 : decode cX12_windTo 26 = .ok (.istore_n 3, 1) := by decide +kernel
theorem dX12_windTo_27 : decode cX12_windTo 27 = .ok (.aload_n 0, 1) := by decide +kernel
theorem dX12_windTo_28 : decode cX12_windTo 28 = .ok (.getfield 37, 3) := by decide +kernel
theorem dX12_windTo_31 : decode cX12_windTo 31 = .ok (.iload_n 3, 1) := by decide +kernel
theorem dX12_windTo_32 : decode cX12_windTo 32 = .ok (.iaload, 1) := by decide +kernel
theorem dX12_windTo_33 : decode cX12_windTo 33 = .ok (.iload_n 2, 1) := by decide +kernel
theorem dX12_windTo_34 : decode cX12_windTo 34 = .ok (.iconst 1, 1) := by decide +kernel
theorem dX12_windTo_35 : decode cX12_windTo 35 = .ok (.iadd, 1) := by decide +kernel
theorem dX12_windTo_36 : decode cX12_windTo 36 = .ok (.if_icmp .le 13, 3) := by decide +kernel
theorem dX12_windTo_49 : decode cX12_windTo 49 = .ok (.aload_n 0, 1) := by decide +kernel
theorem dX12_windTo_50 : decode cX12_windTo 50 = .ok (.getfield 40, 3) := by decide +kernel
theorem dX12_windTo_53 : decode cX12_windTo 53 = .ok (.iload_n 3, 1) := by decide +kernel
theorem dX12_windTo_54 : decode cX12_windTo 54 = .ok (.iaload, 1) := by decide +kernel
theorem dX12_windTo_55 : decode cX12_windTo 55 = .ok (.ireturn, 1) := by decide +kernel
theorem dX12_windTo_39 : decode cX12_windTo 39 = .ok (.aload_n 0, 1) := by decide +kernel
theorem dX12_windTo_40 : decode cX12_windTo 40 = .ok (.getfield 43, 3) := by decide +kernel
theorem dX12_windTo_43 : decode cX12_windTo 43 = .ok (.iload_n 3, 1) := by decide +kernel
theorem dX12_windTo_44 : decode cX12_windTo 44 = .ok (.iaload, 1) := by decide +kernel
theorem dX12_windTo_45 : decode cX12_windTo 45 = .ok (.istore_n 3, 1) := by decide +kernel
theorem dX12_windTo_46 : decode cX12_windTo 46 = .ok (.goto (-19), 3) := by decide +kernel
theorem dX12_blur_0 : decode cX12_blur 0 = .ok (.aload_n 0, 1) := by decide +kernel
theorem dX12_blur_1 : decode cX12_blur 1 = .ok (.iload_n 1, 1) := by decide +kernel
theorem dX12_blur_2 : decode cX12_blur 2 = .ok (.invokevirtual 310, 3) := by decide +kernel
theorem dX12_blur_5 : decode cX12_blur 5 = .ok (.ifCond .eq 22, 3) := by decide +kernel
theorem dX12_blur_27 : decode cX12_blur 27 = .ok (.bipush (-2), 2) := by decide +kernel
theorem dX12_blur_29 : decode cX12_blur 29 = .ok (.ireturn, 1) := by decide +kernel
theorem dX12_blur_8 : decode cX12_blur 8 = .ok (.iload_n 2, 1) := by decide +kernel
theorem dX12_blur_9 : decode cX12_blur 9 = .ok (.iconst 1, 1) := by decide +kernel
theorem dX12_blur_10 : decode cX12_blur 10 = .ok (.if_icmp .lt 17, 3) := by decide +kernel
theorem dX12_blur_13 : decode cX12_blur 13 = .ok (.aload_n 0, 1) := by decide +kernel
theorem dX12_blur_14 : decode cX12_blur 14 = .ok (.aload_n 0, 1) := by decide +kernel
theorem dX12_blur_15 : decode cX12_blur 15 = .ok (.iload_n 1, 1) := by decide +kernel
theorem dX12_blur_16 : decode cX12_blur 16 = .ok (.iconst 0, 1) := by decide +kernel
theorem dX12_blur_17 : decode cX12_blur 17 = .ok (.iload_n 2, 1) := by decide +kernel
theorem dX12_blur_18 : decode cX12_blur 18 = .ok (.invokevirtual 370, 3) := by decide +kernel
theorem dX12_blur_21 : decode cX12_blur 21 = .ok (.invokevirtual 374, 3) := by decide +kernel
theorem dX12_blur_24 : decode cX12_blur 24 = .ok (.goto 5, 3) := by decide +kernel
theorem dX12_blurs_0 : decode cX12_blurs 0 = .ok (.aload_n 0, 1) := by decide +kernel
theorem dX12_blurs_1 : decode cX12_blurs 1 = .ok (.iload_n 1, 1) := by decide +kernel
theorem dX12_blurs_2 : decode cX12_blurs 2 = .ok (.invokevirtual 310, 3) := by decide +kernel
theorem dX12_blurs_5 : decode cX12_blurs 5 = .ok (.ifCond .eq 23, 3) := by decide +kernel
theorem dX12_blurs_28 : decode cX12_blurs 28 = .ok (.bipush (-2), 2) := by decide +kernel
theorem dX12_blurs_30 : decode cX12_blurs 30 = .ok (.ireturn, 1) := by decide +kernel
theorem dX12_blurs_8 : decode cX12_blurs 8 = .ok (.iload_n 2, 1) := by decide +kernel
theorem dX12_blurs_9 : decode cX12_blurs 9 = .ok (.iconst 1, 1) := by decide +kernel
theorem dX12_blurs_10 : decode cX12_blurs 10 = .ok (.if_icmp .lt 18, 3) := by decide +kernel
theorem dX12_blurs_13 : decode cX12_blurs 13 = .ok (.aload_n 0, 1) := by decide +kernel
theorem dX12_blurs_14 : decode cX12_blurs 14 = .ok (.aload_n 0, 1) := by decide +kernel
theorem dX12_blurs_15 : decode cX12_blurs 15 = .ok (.iload_n 1, 1) := by decide +kernel
theorem dX12_blurs_16 : decode cX12_blurs 16 = .ok (.iconst 0, 1) := by decide +kernel
theorem dX12_blurs_17 : decode cX12_blurs 17 = .ok (.iload_n 2, 1) := by decide +kernel
theorem dX12_blurs_18 : decode cX12_blurs 18 = .ok (.invokevirtual 370, 3) := by decide +kernel
theorem dX12_blurs_21 : decode cX12_blurs 21 = .ok (.iload_n 3, 1) := by decide +kernel
theorem dX12_blurs_22 : decode cX12_blurs 22 = .ok (.invokevirtual 377, 3) := by decide +kernel
theorem dX12_blurs_25 : decode cX12_blurs 25 = .ok (.goto 5, 3) := by decide +kernel
theorem dX12_stray_0 : decode cX12_stray 0 = .ok (.aload_n 0, 1) := by decide +kernel
theorem dX12_stray_1 : decode cX12_stray 1 = .ok (.iload_n 1, 1) := by decide +kernel
theorem dX12_stray_2 : decode cX12_stray 2 = .ok (.invokevirtual 310, 3) := by decide +kernel
theorem dX12_stray_5 : decode cX12_stray 5 = .ok (.ifCond .eq 17, 3) := by decide +kernel
theorem dX12_stray_22 : decode cX12_stray 22 = .ok (.bipush (-2), 2) := by decide +kernel
theorem dX12_stray_24 : decode cX12_stray 24 = .ok (.ireturn, 1) := by decide +kernel
theorem dX12_stray_8 : decode cX12_stray 8 = .ok (.aload_n 0, 1) := by decide +kernel
theorem dX12_stray_9 : decode cX12_stray 9 = .ok (.aload_n 0, 1) := by decide +kernel
theorem dX12_stray_10 : decode cX12_stray 10 = .ok (.iload_n 1, 1) := by decide +kernel
theorem dX12_stray_11 : decode cX12_stray 11 = .ok (.iconst 1, 1) := by decide +kernel
theorem dX12_stray_12 : decode cX12_stray 12 = .ok (.iconst 0, 1) := by decide +kernel
theorem dX12_stray_13 : decode cX12_stray 13 = .ok (.invokevirtual 370, 3) := by decide +kernel
theorem dX12_stray_16 : decode cX12_stray 16 = .ok (.invokevirtual 374, 3) := by decide +kernel
theorem dX12_stray_19 : decode cX12_stray 19 = .ok (.goto 5, 3) := by decide +kernel
theorem dX12_strays_0 : decode cX12_strays 0 = .ok (.aload_n 0, 1) := by decide +kernel
theorem dX12_strays_1 : decode cX12_strays 1 = .ok (.iload_n 1, 1) := by decide +kernel
theorem dX12_strays_2 : decode cX12_strays 2 = .ok (.invokevirtual 310, 3) := by decide +kernel
theorem dX12_strays_5 : decode cX12_strays 5 = .ok (.ifCond .eq 18, 3) := by decide +kernel
theorem dX12_strays_23 : decode cX12_strays 23 = .ok (.bipush (-2), 2) := by decide +kernel
theorem dX12_strays_25 : decode cX12_strays 25 = .ok (.ireturn, 1) := by decide +kernel
theorem dX12_strays_8 : decode cX12_strays 8 = .ok (.aload_n 0, 1) := by decide +kernel
theorem dX12_strays_9 : decode cX12_strays 9 = .ok (.aload_n 0, 1) := by decide +kernel
theorem dX12_strays_10 : decode cX12_strays 10 = .ok (.iload_n 1, 1) := by decide +kernel
theorem dX12_strays_11 : decode cX12_strays 11 = .ok (.iconst 1, 1) := by decide +kernel
theorem dX12_strays_12 : decode cX12_strays 12 = .ok (.iconst 0, 1) := by decide +kernel
theorem dX12_strays_13 : decode cX12_strays 13 = .ok (.invokevirtual 370, 3) := by decide +kernel
theorem dX12_strays_16 : decode cX12_strays 16 = .ok (.iload_n 2, 1) := by decide +kernel
theorem dX12_strays_17 : decode cX12_strays 17 = .ok (.invokevirtual 377, 3) := by decide +kernel
theorem dX12_strays_20 : decode cX12_strays 20 = .ok (.goto 5, 3) := by decide +kernel
theorem dX12_home_0 : decode cX12_home 0 = .ok (.aload_n 0, 1) := by decide +kernel
theorem dX12_home_1 : decode cX12_home 1 = .ok (.iload_n 1, 1) := by decide +kernel
theorem dX12_home_2 : decode cX12_home 2 = .ok (.invokevirtual 310, 3) := by decide +kernel
theorem dX12_home_5 : decode cX12_home 5 = .ok (.ifCond .eq 17, 3) := by decide +kernel
theorem dX12_home_22 : decode cX12_home 22 = .ok (.bipush (-2), 2) := by decide +kernel
theorem dX12_home_24 : decode cX12_home 24 = .ok (.ireturn, 1) := by decide +kernel
theorem dX12_home_8 : decode cX12_home 8 = .ok (.aload_n 0, 1) := by decide +kernel
theorem dX12_home_9 : decode cX12_home 9 = .ok (.aload_n 0, 1) := by decide +kernel
theorem dX12_home_10 : decode cX12_home 10 = .ok (.iload_n 1, 1) := by decide +kernel
theorem dX12_home_11 : decode cX12_home 11 = .ok (.iconst 2, 1) := by decide +kernel
theorem dX12_home_12 : decode cX12_home 12 = .ok (.iconst 0, 1) := by decide +kernel
theorem dX12_home_13 : decode cX12_home 13 = .ok (.invokevirtual 370, 3) := by decide +kernel
theorem dX12_home_16 : decode cX12_home 16 = .ok (.invokevirtual 374, 3) := by decide +kernel
theorem dX12_home_19 : decode cX12_home 19 = .ok (.goto 5, 3) := by decide +kernel
theorem dX12_homes_0 : decode cX12_homes 0 = .ok (.aload_n 0, 1) := by decide +kernel
theorem dX12_homes_1 : decode cX12_homes 1 = .ok (.iload_n 1, 1) := by decide +kernel
theorem dX12_homes_2 : decode cX12_homes 2 = .ok (.invokevirtual 310, 3) := by decide +kernel
theorem dX12_homes_5 : decode cX12_homes 5 = .ok (.ifCond .eq 18, 3) := by decide +kernel
theorem dX12_homes_23 : decode cX12_homes 23 = .ok (.bipush (-2), 2) := by decide +kernel
theorem dX12_homes_25 : decode cX12_homes 25 = .ok (.ireturn, 1) := by decide +kernel
theorem dX12_homes_8 : decode cX12_homes 8 = .ok (.aload_n 0, 1) := by decide +kernel
theorem dX12_homes_9 : decode cX12_homes 9 = .ok (.aload_n 0, 1) := by decide +kernel
theorem dX12_homes_10 : decode cX12_homes 10 = .ok (.iload_n 1, 1) := by decide +kernel
theorem dX12_homes_11 : decode cX12_homes 11 = .ok (.iconst 2, 1) := by decide +kernel
theorem dX12_homes_12 : decode cX12_homes 12 = .ok (.iconst 0, 1) := by decide +kernel
theorem dX12_homes_13 : decode cX12_homes 13 = .ok (.invokevirtual 370, 3) := by decide +kernel
theorem dX12_homes_16 : decode cX12_homes 16 = .ok (.iload_n 2, 1) := by decide +kernel
theorem dX12_homes_17 : decode cX12_homes 17 = .ok (.invokevirtual 377, 3) := by decide +kernel
theorem dX12_homes_20 : decode cX12_homes 20 = .ok (.goto 5, 3) := by decide +kernel
theorem dX12_states_0 : decode cX12_states 0 = .ok (.aload_n 0, 1) := by decide +kernel
theorem dX12_states_1 : decode cX12_states 1 = .ok (.iload_n 1, 1) := by decide +kernel
theorem dX12_states_2 : decode cX12_states 2 = .ok (.invokevirtual 310, 3) := by decide +kernel
theorem dX12_states_5 : decode cX12_states 5 = .ok (.ifCond .ne 6, 3) := by decide +kernel
theorem dX12_states_8 : decode cX12_states 8 = .ok (.bipush (-2), 2) := by decide +kernel
theorem dX12_states_10 : decode cX12_states 10 = .ok (.ireturn, 1) := by decide +kernel
theorem dX12_states_11 : decode cX12_states 11 = .ok (.aload_n 0, 1) := by decide +kernel
theorem dX12_states_12 : decode cX12_states 12 = .ok (.iload_n 1, 1) := by decide +kernel
theorem dX12_states_13 : decode cX12_states 13 = .ok (.invokevirtual 367, 3) := by decide +kernel
theorem dX12_states_16 : decode cX12_states 16 = .ok (.aload_n 0, 1) := by decide +kernel
theorem dX12_states_17 : decode cX12_states 17 = .ok (.getfield 360, 3) := by decide +kernel
theorem dX12_states_20 : decode cX12_states 20 = .ok (.ireturn, 1) := by decide +kernel
