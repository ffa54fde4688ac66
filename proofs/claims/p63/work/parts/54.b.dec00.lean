theorem dX12_apply_0 : decode cX12_apply 0 = .ok (.bipush 67, 2) := by decide +kernel
theorem dX12_apply_2 : decode cX12_apply 2 = .ok (.iconst 3, 1) := by decide +kernel
theorem dX12_apply_3 : decode cX12_apply 3 = .ok (.iload_n 1, 1) := by decide +kernel
theorem dX12_apply_4 : decode cX12_apply 4 = .ok (.imul, 1) := by decide +kernel
theorem dX12_apply_5 : decode cX12_apply 5 = .ok (.iadd, 1) := by decide +kernel
theorem dX12_apply_6 : decode cX12_apply 6 = .ok (.istore_n 2, 1) := by decide +kernel
theorem dX12_apply_7 : decode cX12_apply 7 = .ok (.aload_n 0, 1) := by decide +kernel
theorem dX12_apply_8 : decode cX12_apply 8 = .ok (.getfield 9, 3) := by decide +kernel
theorem dX12_apply_11 : decode cX12_apply 11 = .ok (.iload_n 2, 1) := by decide +kernel
theorem dX12_apply_12 : decode cX12_apply 12 = .ok (.iaload, 1) := by decide +kernel
theorem dX12_apply_13 : decode cX12_apply 13 = .ok (.ifCond .ne 23, 3) := by decide +kernel
theorem dX12_apply_36 : decode cX12_apply 36 = .ok (.aload_n 0, 1) := by decide +kernel
theorem dX12_apply_37 : decode cX12_apply 37 = .ok (.getfield 9, 3) := by decide +kernel
theorem dX12_apply_40 : decode cX12_apply 40 = .ok (.iload_n 2, 1) := by decide +kernel
theorem dX12_apply_41 : decode cX12_apply 41 = .ok (.iaload, 1) := by decide +kernel
theorem dX12_apply_42 : decode cX12_apply 42 = .ok (.iconst 1, 1) := by decide +kernel
theorem dX12_apply_43 : decode cX12_apply 43 = .ok (.if_icmp .ne 25, 3) := by decide +kernel
theorem dX12_apply_68 : decode cX12_apply 68 = .ok (.aload_n 0, 1) := by decide +kernel
theorem dX12_apply_69 : decode cX12_apply 69 = .ok (.getfield 9, 3) := by decide +kernel
theorem dX12_apply_72 : decode cX12_apply 72 = .ok (.iconst 5, 1) := by decide +kernel
theorem dX12_apply_73 : decode cX12_apply 73 = .ok (.iconst 4, 1) := by decide +kernel
theorem dX12_apply_74 : decode cX12_apply 74 = .ok (.aload_n 0, 1) := by decide +kernel
theorem dX12_apply_75 : decode cX12_apply 75 = .ok (.getfield 9, 3) := by decide +kernel
theorem dX12_apply_78 : decode cX12_apply 78 = .ok (.iload_n 2, 1) := by decide +kernel
theorem dX12_apply_79 : decode cX12_apply 79 = .ok (.iconst 1, 1) := by decide +kernel
theorem dX12_apply_80 : decode cX12_apply 80 = .ok (.iadd, 1) := by decide +kernel
theorem dX12_apply_81 : decode cX12_apply 81 = .ok (.iaload, 1) := by decide +kernel
theorem dX12_apply_82 : decode cX12_apply 82 = .ok (.imul, 1) := by decide +kernel
theorem dX12_apply_83 : decode cX12_apply 83 = .ok (.iadd, 1) := by decide +kernel
theorem dX12_apply_84 : decode cX12_apply 84 = .ok (.aload_n 0, 1) := by decide +kernel
theorem dX12_apply_85 : decode cX12_apply 85 = .ok (.getfield 9, 3) := by decide +kernel
theorem dX12_apply_88 : decode cX12_apply 88 = .ok (.iload_n 2, 1) := by decide +kernel
theorem dX12_apply_89 : decode cX12_apply 89 = .ok (.iconst 2, 1) := by decide +kernel
theorem dX12_apply_90 : decode cX12_apply 90 = .ok (.iadd, 1) := by decide +kernel
theorem dX12_apply_91 : decode cX12_apply 91 = .ok (.iaload, 1) := by decide +kernel
theorem dX12_apply_92 : decode cX12_apply 92 = .ok (.iadd, 1) := by decide +kernel
theorem dX12_apply_93 : decode cX12_apply 93 = .ok (.aload_n 0, 1) := by decide +kernel
theorem dX12_apply_94 : decode cX12_apply 94 = .ok (.getfield 9, 3) := by decide +kernel
theorem dX12_apply_97 : decode cX12_apply 97 = .ok (.iload_n 2, 1) := by decide +kernel
theorem dX12_apply_98 : decode cX12_apply 98 = .ok (.iconst 1, 1) := by decide +kernel
theorem dX12_apply_99 : decode cX12_apply 99 = .ok (.iadd, 1) := by decide +kernel
theorem dX12_apply_100 : decode cX12_apply 100 = .ok (.iaload, 1) := by decide +kernel
theorem dX12_apply_101 : decode cX12_apply 101 = .ok (.iastore, 1) := by decide +kernel
theorem dX12_apply_102 : decode cX12_apply 102 = .ok (.return_, 1) := by decide +kernel
theorem dX12_apply_46 : decode cX12_apply 46 = .ok (.aload_n 0, 1) := by decide +kernel
theorem dX12_apply_47 : decode cX12_apply 47 = .ok (.aload_n 0, 1) := by decide +kernel
theorem dX12_apply_48 : decode cX12_apply 48 = .ok (.getfield 308, 3) := by decide +kernel
theorem dX12_apply_51 : decode cX12_apply 51 = .ok (.aload_n 0, 1) := by decide +kernel
theorem dX12_apply_52 : decode cX12_apply 52 = .ok (.getfield 9, 3) := by decide +kernel
theorem dX12_apply_55 : decode cX12_apply 55 = .ok (.iload_n 2, 1) := by decide +kernel
theorem dX12_apply_56 : decode cX12_apply 56 = .ok (.iconst 1, 1) := by decide +kernel
theorem dX12_apply_57 : decode cX12_apply 57 = .ok (.iadd, 1) := by decide +kernel
theorem dX12_apply_58 : decode cX12_apply 58 = .ok (.iaload, 1) := by decide +kernel
theorem dX12_apply_59 : decode cX12_apply 59 = .ok (.iadd, 1) := by decide +kernel
theorem dX12_apply_60 : decode cX12_apply 60 = .ok (.iconst 4, 1) := by decide +kernel
theorem dX12_apply_61 : decode cX12_apply 61 = .ok (.irem, 1) := by decide +kernel
theorem dX12_apply_62 : decode cX12_apply 62 = .ok (.putfield 308, 3) := by decide +kernel
theorem dX12_apply_65 : decode cX12_apply 65 = .ok (.goto 37, 3) := by decide +kernel
theorem dX12_apply_16 : decode cX12_apply 16 = .ok (.aload_n 0, 1) := by decide +kernel
theorem dX12_apply_17 : decode cX12_apply 17 = .ok (.getfield 9, 3) := by decide +kernel
theorem dX12_apply_20 : decode cX12_apply 20 = .ok (.bipush 45, 2) := by decide +kernel
theorem dX12_apply_22 : decode cX12_apply 22 = .ok (.aload_n 0, 1) := by decide +kernel
theorem dX12_apply_23 : decode cX12_apply 23 = .ok (.getfield 9, 3) := by decide +kernel
theorem dX12_apply_26 : decode cX12_apply 26 = .ok (.iload_n 2, 1) := by decide +kernel
theorem dX12_apply_27 : decode cX12_apply 27 = .ok (.iconst 1, 1) := by decide +kernel
theorem dX12_apply_28 : decode cX12_apply 28 = .ok (.iadd, 1) := by decide +kernel
theorem dX12_apply_29 : decode cX12_apply 29 = .ok (.iaload, 1) := by decide +kernel
theorem dX12_apply_30 : decode cX12_apply 30 = .ok (.iadd, 1) := by decide +kernel
theorem dX12_apply_31 : decode cX12_apply 31 = .ok (.iconst 0, 1) := by decide +kernel
theorem dX12_apply_32 : decode cX12_apply 32 = .ok (.iastore, 1) := by decide +kernel
theorem dX12_apply_33 : decode cX12_apply 33 = .ok (.goto 69, 3) := by decide +kernel
theorem dX12_doubtBy_0 : decode cX12_doubtBy 0 = .ok (.iconst 0, 1) := by decide +kernel
theorem dX12_doubtBy_1 : decode cX12_doubtBy 1 = .ok (.istore_n 3, 1) := by decide +kernel
theorem dX12_doubtBy_2 : decode cX12_doubtBy 2 = .ok (.iload_n 3, 1) := by decide +kernel
theorem dX12_doubtBy_3 : decode cX12_doubtBy 3 = .ok (.aload_n 0, 1) := by decide +kernel
theorem dX12_doubtBy_4 : decode cX12_doubtBy 4 = .ok (.getfield 85, 3) := by decide +kernel
theorem dX12_doubtBy_7 : decode cX12_doubtBy 7 = .ok (.arraylength, 1) := by decide +kernel
theorem dX12_doubtBy_8 : decode cX12_doubtBy 8 = .ok (.if_icmp .ge 23, 3) := by decide +kernel
theorem dX12_doubtBy_31 : decode cX12_doubtBy 31 = .ok (.aload_n 0, 1) := by decide +kernel
theorem dX12_doubtBy_32 : decode cX12_doubtBy 32 = .ok (.iload_n 2, 1) := by decide +kernel
theorem dX12_doubtBy_33 : decode cX12_doubtBy 33 = .ok (.invokevirtual 313, 3) := by decide +kernel
theorem dX12_doubtBy_36 : decode cX12_doubtBy 36 = .ok (.iconst 0, 1) := by decide +kernel
theorem dX12_doubtBy_37 : decode cX12_doubtBy 37 = .ok (.istore_n 3, 1) := by decide +kernel
theorem dX12_doubtBy_38 : decode cX12_doubtBy 38 = .ok (.iload_n 3, 1) := by decide +kernel
theorem dX12_doubtBy_39 : decode cX12_doubtBy 39 = .ok (.aload_n 0, 1) := by decide +kernel
theorem dX12_doubtBy_40 : decode cX12_doubtBy 40 = .ok (.getfield 9, 3) := by decide +kernel
theorem dX12_doubtBy_43 : decode cX12_doubtBy 43 = .ok (.iconst 2, 1) := by decide +kernel
theorem dX12_doubtBy_44 : decode cX12_doubtBy 44 = .ok (.iaload, 1) := by decide +kernel
theorem dX12_doubtBy_45 : decode cX12_doubtBy 45 = .ok (.if_icmp .ge 51, 3) := by decide +kernel
theorem dX12_doubtBy_96 : decode cX12_doubtBy 96 = .ok (.iconst 0, 1) := by decide +kernel
theorem dX12_doubtBy_97 : decode cX12_doubtBy 97 = .ok (.istore_n 3, 1) := by decide +kernel
theorem dX12_doubtBy_98 : decode cX12_doubtBy 98 = .ok (.iload_n 3, 1) := by decide +kernel
theorem dX12_doubtBy_99 : decode cX12_doubtBy 99 = .ok (.aload_n 0, 1) := by decide +kernel
theorem dX12_doubtBy_100 : decode cX12_doubtBy 100 = .ok (.getfield 85, 3) := by decide +kernel
theorem dX12_doubtBy_103 : decode cX12_doubtBy 103 = .ok (.arraylength, 1) := by decide +kernel
theorem dX12_doubtBy_104 : decode cX12_doubtBy 104 = .ok (.if_icmp .ge 23, 3) := by decide +kernel
theorem dX12_doubtBy_127 : decode cX12_doubtBy 127 = .ok (.aload_n 0, 1) := by decide +kernel
theorem dX12_doubtBy_128 : decode cX12_doubtBy 128 = .ok (.getfield 303, 3) := by decide +kernel
theorem dX12_doubtBy_131 : decode cX12_doubtBy 131 = .ok (.invokestatic 316, 3) := by decide +kernel
theorem dX12_doubtBy_134 : decode cX12_doubtBy 134 = .ok (.ireturn, 1) := by decide +kernel
theorem dX12_doubtBy_107 : decode cX12_doubtBy 107 = .ok (.aload_n 0, 1) := by decide +kernel
theorem dX12_doubtBy_108 : decode cX12_doubtBy 108 = .ok (.getfield 9, 3) := by decide +kernel
theorem dX12_doubtBy_111 : decode cX12_doubtBy 111 = .ok (.iconst 5, 1) := by decide +kernel
theorem dX12_doubtBy_112 : decode cX12_doubtBy 112 = .ok (.iload_n 3, 1) := by decide +kernel
theorem dX12_doubtBy_113 : decode cX12_doubtBy 113 = .ok (.iadd, 1) := by decide +kernel
theorem dX12_doubtBy_114 : decode cX12_doubtBy 114 = .ok (.aload_n 0, 1) := by decide +kernel
theorem dX12_doubtBy_115 : decode cX12_doubtBy 115 = .ok (.getfield 85, 3) := by decide +kernel
theorem dX12_doubtBy_118 : decode cX12_doubtBy 118 = .ok (.iload_n 3, 1) := by decide +kernel
theorem dX12_doubtBy_119 : decode cX12_doubtBy 119 = .ok (.iaload, 1) := by decide +kernel
theorem dX12_doubtBy_120 : decode cX12_doubtBy 120 = .ok (.iastore, 1) := by decide +kernel
theorem dX12_doubtBy_121 : decode cX12_doubtBy 121 = .ok (.iinc 3 1, 3) := by decide +kernel
theorem dX12_doubtBy_124 : decode cX12_doubtBy 124 = .ok (.goto (-26), 3) := by decide +kernel
theorem dX12_doubtBy_48 : decode cX12_doubtBy 48 = .ok (.aload_n 0, 1) := by decide +kernel
theorem dX12_doubtBy_49 : decode cX12_doubtBy 49 = .ok (.aload_n 0, 1) := by decide +kernel
theorem dX12_doubtBy_50 : decode cX12_doubtBy 50 = .ok (.getfield 79, 3) := by decide +kernel
theorem dX12_doubtBy_53 : decode cX12_doubtBy 53 = .ok (.iload_n 3, 1) := by decide +kernel
theorem dX12_doubtBy_54 : decode cX12_doubtBy 54 = .ok (.iaload, 1) := by decide +kernel
theorem dX12_doubtBy_55 : decode cX12_doubtBy 55 = .ok (.invokevirtual 438, 3) := by decide +kernel
theorem dX12_doubtBy_58 : decode cX12_doubtBy 58 = .ok (.iconst 0, 1) := by decide +kernel
theorem dX12_doubtBy_59 : decode cX12_doubtBy 59 = .ok (.istore 4, 2) := by decide +kernel
theorem dX12_doubtBy_61 : decode cX12_doubtBy 61 = .ok (.iload 4, 2) := by decide +kernel
theorem dX12_doubtBy_63 : decode cX12_doubtBy 63 = .ok (.aload_n 0, 1) := by decide +kernel
theorem dX12_doubtBy_64 : decode cX12_doubtBy 64 = .ok (.getfield 97, 3) := by decide +kernel
theorem dX12_doubtBy_67 : decode cX12_doubtBy 67 = .ok (.iload_n 1, 1) := by decide +kernel
theorem dX12_doubtBy_68 : decode cX12_doubtBy 68 = .ok (.iaload, 1) := by decide +kernel
theorem dX12_doubtBy_69 : decode cX12_doubtBy 69 = .ok (.if_icmp .ge 21, 3) := by decide +kernel
theorem dX12_doubtBy_90 : decode cX12_doubtBy 90 = .ok (.iinc 3 1, 3) := by decide +kernel
theorem dX12_doubtBy_93 : decode cX12_doubtBy 93 = .ok (.goto (-55), 3) := by decide +kernel
theorem dX12_doubtBy_72 : decode cX12_doubtBy 72 = .ok (.aload_n 0, 1) := by decide +kernel
theorem dX12_doubtBy_73 : decode cX12_doubtBy 73 = .ok (.aload_n 0, 1) := by decide +kernel
theorem dX12_doubtBy_74 : decode cX12_doubtBy 74 = .ok (.iload_n 1, 1) := by decide +kernel
theorem dX12_doubtBy_75 : decode cX12_doubtBy 75 = .ok (.iload 4, 2) := by decide +kernel
theorem dX12_doubtBy_77 : decode cX12_doubtBy 77 = .ok (.invokevirtual 337, 3) := by decide +kernel
theorem dX12_doubtBy_80 : decode cX12_doubtBy 80 = .ok (.l2i, 1) := by decide +kernel
theorem dX12_doubtBy_81 : decode cX12_doubtBy 81 = .ok (.invokevirtual 325, 3) := by decide +kernel
theorem dX12_doubtBy_84 : decode cX12_doubtBy 84 = .ok (.iinc 4 1, 3) := by decide +kernel
theorem dX12_doubtBy_87 : decode cX12_doubtBy 87 = .ok (.goto (-26), 3) := by decide +kernel
theorem dX12_doubtBy_11 : decode cX12_doubtBy 11 = .ok (.aload_n 0, 1) := by decide +kernel
theorem dX12_doubtBy_12 : decode cX12_doubtBy 12 = .ok (.getfield 85, 3) := by decide +kernel
theorem dX12_doubtBy_15 : decode cX12_doubtBy 15 = .ok (.iload_n 3, 1) := by decide +kernel
theorem dX12_doubtBy_16 : decode cX12_doubtBy 16 = .ok (.aload_n 0, 1) := by decide +kernel
theorem dX12_doubtBy_17 : decode cX12_doubtBy 17 = .ok (.getfield 9, 3) := by decide +kernel
theorem dX12_doubtBy_20 : decode cX12_doubtBy 20 = .ok (.iconst 5, 1) := by decide +kernel
theorem dX12_doubtBy_21 : decode cX12_doubtBy 21 = .ok (.iload_n 3, 1) := by decide +kernel
theorem dX12_doubtBy_22 : decode cX12_doubtBy 22 = .ok (.iadd, 1) := by decide +kernel
theorem dX12_doubtBy_23 : decode cX12_doubtBy 23 = .ok (.iaload, 1) := by decide +kernel
theorem dX12_doubtBy_24 : decode cX12_doubtBy 24 = .ok (.iastore, 1) := by decide +kernel
theorem dX12_doubtBy_25 : decode cX12_doubtBy 25 = .ok (.iinc 3 1, 3) := by decide +kernel
theorem dX12_doubtBy_28 : decode cX12_doubtBy 28 = .ok (.goto (-26), 3) := by decide +kernel
theorem dX12_swap_0 : decode cX12_swap 0 = .ok (.aload_n 0, 1) := by decide +kernel
theorem dX12_swap_1 : decode cX12_swap 1 = .ok (.getfield 79, 3) := by decide +kernel
theorem dX12_swap_4 : decode cX12_swap 4 = .ok (.iload_n 1, 1) := by decide +kernel
theorem dX12_swap_5 : decode cX12_swap 5 = .ok (.iaload, 1) := by decide +kernel
theorem dX12_swap_6 : decode cX12_swap 6 = .ok (.istore_n 3, 1) := by decide +kernel
theorem dX12_swap_7 : decode cX12_swap 7 = .ok (.aload_n 0, 1) := by decide +kernel
theorem dX12_swap_8 : decode cX12_swap 8 = .ok (.getfield 79, 3) := by decide +kernel
theorem dX12_swap_11 : decode cX12_swap 11 = .ok (.iload_n 1, 1) := by decide +kernel
theorem dX12_swap_12 : decode cX12_swap 12 = .ok (.aload_n 0, 1) := by decide +kernel
theorem dX12_swap_13 : decode cX12_swap 13 = .ok (.getfield 79, 3) := by decide +kernel
theorem dX12_swap_16 : decode cX12_swap 16 = .ok (.iload_n 2, 1) := by decide +kernel
theorem dX12_swap_17 : decode cX12_swap 17 = .ok (.iaload, 1) := by decide +kernel
theorem dX12_swap_18 : decode cX12_swap 18 = .ok (.iastore, 1) := by decide +kernel
theorem dX12_swap_19 : decode cX12_swap 19 = .ok (.aload_n 0, 1) := by decide +kernel
theorem dX12_swap_20 : decode cX12_swap 20 = .ok (.getfield 79, 3) := by decide +kernel
theorem dX12_swap_23 : decode cX12_swap 23 = .ok (.iload_n 2, 1) := by decide +kernel
theorem dX12_swap_24 : decode cX12_swap 24 = .ok (.iload_n 3, 1) := by decide +kernel
theorem dX12_swap_25 : decode cX12_swap 25 = .ok (.iastore, 1) := by decide +kernel
theorem dX12_swap_26 : decode cX12_swap 26 = .ok (.return_, 1) := by decide +kernel
theorem dX12_nextOrder_0 : decode cX12_nextOrder 0 = .ok (.iload_n 1, 1) := by decide +kernel
theorem dX12_nextOrder_1 : decode cX12_nextOrder 1 = .ok (.iconst 2, 1) := by decide +kernel
theorem dX12_nextOrder_2 : decode cX12_nextOrder 2 = .ok (.isub, 1) := by decide +kernel
theorem dX12_nextOrder_3 : decode cX12_nextOrder 3 = .ok (.istore_n 2, 1) := by decide +kernel
theorem dX12_nextOrder_4 : decode cX12_nextOrder 4 = .ok (.iload_n 2, 1) := by decide +kernel
theorem dX12_nextOrder_5 : decode cX12_nextOrder 5 = .ok (.ifCond .lt 26, 3) := by decide +kernel
theorem dX12_nextOrder_31 : decode cX12_nextOrder 31 = .ok (.iload_n 2, 1) := by decide +kernel
theorem dX12_nextOrder_32 : decode cX12_nextOrder 32 = .ok (.ifCond .ge 5, 3) := by decide +kernel
theorem dX12_nextOrder_37 : decode cX12_nextOrder 37 = .ok (.iload_n 1, 1) := by decide +kernel
theorem dX12_nextOrder_38 : decode cX12_nextOrder 38 = .ok (.iconst 1, 1) := by decide +kernel
theorem dX12_nextOrder_39 : decode cX12_nextOrder 39 = .ok (.isub, 1) := by decide +kernel
theorem dX12_nextOrder_40 : decode cX12_nextOrder 40 = .ok (.istore_n 3, 1) := by decide +kernel
theorem dX12_nextOrder_41 : decode cX12_nextOrder 41 = .ok (.aload_n 0, 1) := by decide +kernel
theorem dX12_nextOrder_42 : decode cX12_nextOrder 42 = .ok (.getfield 79, 3) := by decide +kernel
theorem dX12_nextOrder_45 : decode cX12_nextOrder 45 = .ok (.iload_n 3, 1) := by decide +kernel
theorem dX12_nextOrder_46 : decode cX12_nextOrder 46 = .ok (.iaload, 1) := by decide +kernel
theorem dX12_nextOrder_47 : decode cX12_nextOrder 47 = .ok (.aload_n 0, 1) := by decide +kernel
theorem dX12_nextOrder_48 : decode cX12_nextOrder 48 = .ok (.getfield 79, 3) := by decide +kernel
theorem dX12_nextOrder_51 : decode cX12_nextOrder 51 = .ok (.iload_n 2, 1) := by decide +kernel
theorem dX12_nextOrder_52 : decode cX12_nextOrder 52 = .ok (.iaload, 1) := by decide +kernel
theorem dX12_nextOrder_53 : decode cX12_nextOrder 53 = .ok (.if_icmp .ge 9, 3) := by decide +kernel
theorem dX12_nextOrder_62 : decode cX12_nextOrder 62 = .ok (.aload_n 0, 1) := by decide +kernel
theorem dX12_nextOrder_63 : decode cX12_nextOrder 63 = .ok (.iload_n 2, 1) := by decide +kernel
theorem dX12_nextOrder_64 : decode cX12_nextOrder 64 = .ok (.iload_n 3, 1) := by decide +kernel
theorem dX12_nextOrder_65 : decode cX12_nextOrder 65 = .ok (.invokevirtual 441, 3) := by decide +kernel
theorem dX12_nextOrder_68 : decode cX12_nextOrder 68 = .ok (.iload_n 2, 1) := by decide +kernel
theorem dX12_nextOrder_69 : decode cX12_nextOrder 69 = .ok (.iconst 1, 1) := by decide +kernel
theorem dX12_nextOrder_70 : decode cX12_nextOrder 70 = .ok (.iadd, 1) := by decide +kernel
theorem dX12_nextOrder_71 : decode cX12_nextOrder 71 = .ok (.istore 4, 2) := by decide +kernel
theorem dX12_nextOrder_73 : decode cX12_nextOrder 73 = .ok (.iload_n 1, 1) := by decide +kernel
theorem dX12_nextOrder_74 : decode cX12_nextOrder 74 = .ok (.iconst 1, 1) := by decide +kernel
theorem dX12_nextOrder_75 : decode cX12_nextOrder 75 = .ok (.isub, 1) := by decide +kernel
theorem dX12_nextOrder_76 : decode cX12_nextOrder 76 = .ok (.istore 5, 2) := by decide +kernel
theorem dX12_nextOrder_78 : decode cX12_nextOrder 78 = .ok (.iload 4, 2) := by decide +kernel
theorem dX12_nextOrder_80 : decode cX12_nextOrder 80 = .ok (.iload 5, 2) := by decide +kernel
theorem dX12_nextOrder_82 : decode cX12_nextOrder 82 = .ok (.if_icmp .ge 20, 3) := by decide +kernel
theorem dX12_nextOrder_102 : decode cX12_nextOrder 102 = .ok (.iconst 1, 1) := by decide +kernel
theorem dX12_nextOrder_103 : decode cX12_nextOrder 103 = .ok (.ireturn, 1) := by decide +kernel
theorem dX12_nextOrder_85 : decode cX12_nextOrder 85 = .ok (.aload_n 0, 1) := by decide +kernel
theorem dX12_nextOrder_86 : decode cX12_nextOrder 86 = .ok (.iload 4, 2) := by decide +kernel
theorem dX12_nextOrder_88 : decode cX12_nextOrder 88 = .ok (.iload 5, 2) := by decide +kernel
theorem dX12_nextOrder_90 : decode cX12_nextOrder 90 = .ok (.invokevirtual 441, 3) := by decide +kernel
theorem dX12_nextOrder_93 : decode cX12_nextOrder 93 = .ok (.iinc 4 1, 3) := by decide +kernel
theorem dX12_nextOrder_96 : decode cX12_nextOrder 96 = .ok (.iinc 5 (-1), 3) := by decide +kernel
theorem dX12_nextOrder_99 : decode cX12_nextOrder 99 = .ok (.goto (-21), 3) := by decide +kernel
theorem dX12_nextOrder_56 : decode cX12_nextOrder 56 = .ok (.iinc 3 (-1), 3) := by decide +kernel
theorem dX12_nextOrder_59 : decode cX12_nextOrder 59 = .ok (.goto (-18), 3) := by decide +kernel
theorem dX12_nextOrder_35 : decode cX12_nextOrder 35 = .ok (.iconst 0, 1) := by decide +kernel
theorem dX12_nextOrder_36 : decode cX12_nextOrder 36 = .ok (.ireturn, 1) := by decide +kernel
theorem dX12_nextOrder_8 : decode cX12_nextOrder 8 = .ok (.aload_n 0, 1) := by decide +kernel
theorem dX12_nextOrder_9 : decode cX12_nextOrder 9 = .ok (.getfield 79, 3) := by decide +kernel
theorem dX12_nextOrder_12 : decode cX12_nextOrder 12 = .ok (.iload_n 2, 1) := by decide +kernel
theorem dX12_nextOrder_13 : decode cX12_nextOrder 13 = .ok (.iaload, 1) := by decide +kernel
theorem dX12_nextOrder_14 : decode cX12_nextOrder 14 = .ok (.aload_n 0, 1) := by decide +kernel
theorem dX12_nextOrder_15 : decode cX12_nextOrder 15 = .ok (.getfield 79, 3) := by decide +kernel
theorem dX12_nextOrder_18 : decode cX12_nextOrder 18 = .ok (.iload_n 2, 1) := by decide +kernel
theorem dX12_nextOrder_19 : decode cX12_nextOrder 19 = .ok (.iconst 1, 1) := by decide +kernel
theorem dX12_nextOrder_20 : decode cX12_nextOrder 20 = .ok (.iadd, 1) := by decide +kernel
theorem dX12_nextOrder_21 : decode cX12_nextOrder 21 = .ok (.iaload, 1) := by decide +kernel
theorem dX12_nextOrder_22 : decode cX12_nextOrder 22 = .ok (.if_icmp .le 9, 3) := by decide +kernel
theorem dX12_nextOrder_25 : decode cX12_nextOrder 25 = .ok (.iinc 2 (-1), 3) := by decide +kernel
theorem dX12_nextOrder_28 : decode cX12_nextOrder 28 = .ok (.goto (-24), 3) := by decide +kernel
theorem dX12_findCourse_0 : decode cX12_findCourse 0 = .ok (.iconst 0, 1) := by decide +kernel
theorem dX12_findCourse_1 : decode cX12_findCourse 1 = .ok (.istore_n 3, 1) := by decide +kernel
theorem dX12_findCourse_2 : decode cX12_findCourse 2 = .ok (.iload_n 3, 1) := by decide +kernel
theorem dX12_findCourse_3 : decode cX12_findCourse 3 = .ok (.iconst 5, 1) := by decide +kernel
theorem dX12_findCourse_4 : decode cX12_findCourse 4 = .ok (.if_icmp .ge 16, 3) := by decide +kernel
theorem dX12_findCourse_20 : decode cX12_findCourse 20 = .ok (.aload_n 0, 1) := by decide +kernel
theorem dX12_findCourse_21 : decode cX12_findCourse 21 = .ok (.iconst 0, 1) := by decide +kernel
theorem dX12_findCourse_22 : decode cX12_findCourse 22 = .ok (.putfield 444, 3) := by decide +kernel
theorem dX12_findCourse_25 : decode cX12_findCourse 25 = .ok (.aload_n 0, 1) := by decide +kernel
theorem dX12_findCourse_26 : decode cX12_findCourse 26 = .ok (.ldc_w 380, 3) := by decide +kernel
theorem dX12_findCourse_29 : decode cX12_findCourse 29 = .ok (.putfield 447, 3) := by decide +kernel
theorem dX12_findCourse_32 : decode cX12_findCourse 32 = .ok (.aload_n 0, 1) := by decide +kernel
theorem dX12_findCourse_33 : decode cX12_findCourse 33 = .ok (.iload_n 1, 1) := by decide +kernel
theorem dX12_findCourse_34 : decode cX12_findCourse 34 = .ok (.iload_n 2, 1) := by decide +kernel
theorem dX12_findCourse_35 : decode cX12_findCourse 35 = .ok (.invokevirtual 450, 3) := by decide +kernel
theorem dX12_findCourse_38 : decode cX12_findCourse 38 = .ok (.istore_n 3, 1) := by decide +kernel
theorem dX12_findCourse_39 : decode cX12_findCourse 39 = .ok (.aload_n 0, 1) := by decide +kernel
theorem dX12_findCourse_40 : decode cX12_findCourse 40 = .ok (.aload_n 0, 1) := by decide +kernel
theorem dX12_findCourse_41 : decode cX12_findCourse 41 = .ok (.getfield 447, 3) := by decide +kernel
theorem dX12_findCourse_44 : decode cX12_findCourse 44 = .ok (.iload_n 3, 1) := by decide +kernel
theorem dX12_findCourse_45 : decode cX12_findCourse 45 = .ok (.invokestatic 164, 3) := by decide +kernel
theorem dX12_findCourse_48 : decode cX12_findCourse 48 = .ok (.putfield 447, 3) := by decide +kernel
theorem dX12_findCourse_51 : decode cX12_findCourse 51 = .ok (.iload_n 3, 1) := by decide +kernel
theorem dX12_findCourse_52 : decode cX12_findCourse 52 = .ok (.aload_n 0, 1) := by decide +kernel
theorem dX12_findCourse_53 : decode cX12_findCourse 53 = .ok (.getfield 444, 3) := by decide +kernel
theorem dX12_findCourse_56 : decode cX12_findCourse 56 = .ok (.if_icmp .gt 6, 3) := by decide +kernel
theorem dX12_findCourse_62 : decode cX12_findCourse 62 = .ok (.aload_n 0, 1) := by decide +kernel
theorem dX12_findCourse_63 : decode cX12_findCourse 63 = .ok (.iload_n 3, 1) := by decide +kernel
theorem dX12_findCourse_64 : decode cX12_findCourse 64 = .ok (.putfield 444, 3) := by decide +kernel
theorem dX12_findCourse_67 : decode cX12_findCourse 67 = .ok (.iconst 0, 1) := by decide +kernel
theorem dX12_findCourse_68 : decode cX12_findCourse 68 = .ok (.istore 4, 2) := by decide +kernel
theorem dX12_findCourse_70 : decode cX12_findCourse 70 = .ok (.iload 4, 2) := by decide +kernel
theorem dX12_findCourse_72 : decode cX12_findCourse 72 = .ok (.iconst 5, 1) := by decide +kernel
theorem dX12_findCourse_73 : decode cX12_findCourse 73 = .ok (.if_icmp .ge 23, 3) := by decide +kernel
theorem dX12_findCourse_96 : decode cX12_findCourse 96 = .ok (.aload_n 0, 1) := by decide +kernel
theorem dX12_findCourse_97 : decode cX12_findCourse 97 = .ok (.aload_n 0, 1) := by decide +kernel
theorem dX12_findCourse_98 : decode cX12_findCourse 98 = .ok (.getfield 9, 3) := by decide +kernel
theorem dX12_findCourse_101 : decode cX12_findCourse 101 = .ok (.iconst 2, 1) := by decide +kernel
theorem dX12_findCourse_102 : decode cX12_findCourse 102 = .ok (.iaload, 1) := by decide +kernel
theorem dX12_findCourse_103 : decode cX12_findCourse 103 = .ok (.invokevirtual 453, 3) := by decide +kernel
theorem dX12_findCourse_106 : decode cX12_findCourse 106 = .ok (.ifCond .ne (-74), 3) := by decide +kernel
theorem dX12_findCourse_109 : decode cX12_findCourse 109 = .ok (.return_, 1) := by decide +kernel
theorem dX12_findCourse_76 : decode cX12_findCourse 76 = .ok (.aload_n 0, 1) := by decide +kernel
theorem dX12_findCourse_77 : decode cX12_findCourse 77 = .ok (.getfield 82, 3) := by decide +kernel
theorem dX12_findCourse_80 : decode cX12_findCourse 80 = .ok (.iload 4, 2) := by decide +kernel
theorem dX12_findCourse_82 : decode cX12_findCourse 82 = .ok (.aload_n 0, 1) := by decide +kernel
theorem dX12_findCourse_83 : decode cX12_findCourse 83 = .ok (.getfield 79, 3) := by decide +kernel
theorem dX12_findCourse_86 : decode cX12_findCourse 86 = .ok (.iload 4, 2) := by decide +kernel
theorem dX12_findCourse_88 : decode cX12_findCourse 88 = .ok (.iaload, 1) := by decide +kernel
theorem dX12_findCourse_89 : decode cX12_findCourse 89 = .ok (.iastore, 1) := by decide +kernel
theorem dX12_findCourse_90 : decode cX12_findCourse 90 = .ok (.iinc 4 1, 3) := by decide +kernel
theorem dX12_findCourse_93 : decode cX12_findCourse 93 = .ok (.goto (-23), 3) := by decide +kernel
theorem dX12_findCourse_59 : decode cX12_findCourse 59 = .ok (.goto 37, 3) := by decide +kernel
theorem dX12_findCourse_7 : decode cX12_findCourse 7 = .ok (.aload_n 0, 1) := by decide +kernel
theorem dX12_findCourse_8 : decode cX12_findCourse 8 = .ok (.getfield 79, 3) := by decide +kernel
theorem dX12_findCourse_11 : decode cX12_findCourse 11 = .ok (.iload_n 3, 1) := by decide +kernel
theorem dX12_findCourse_12 : decode cX12_findCourse 12 = .ok (.iload_n 3, 1) := by decide +kernel
theorem dX12_findCourse_13 : decode cX12_findCourse 13 = .ok (.iastore, 1) := by decide +kernel
theorem dX12_findCourse_14 : decode cX12_findCourse 14 = .ok (.iinc 3 1, 3) := by decide +kernel
theorem dX12_findCourse_17 : decode cX12_findCourse 17 = .ok (.goto (-15), 3) := by decide +kernel
theorem dX12_course_0 : decode cX12_course 0 = .ok (.aload_n 0, 1) := by decide +kernel
theorem dX12_course_1 : decode cX12_course 1 = .ok (.iload_n 1, 1) := by decide +kernel
theorem dX12_course_2 : decode cX12_course 2 = .ok (.iload_n 2, 1) := by decide +kernel
theorem dX12_course_3 : decode cX12_course 3 = .ok (.invokevirtual 353, 3) := by decide +kernel
theorem dX12_course_6 : decode cX12_course 6 = .ok (.istore_n 3, 1) := by decide +kernel
theorem dX12_course_7 : decode cX12_course 7 = .ok (.iload_n 3, 1) := by decide +kernel
theorem dX12_course_8 : decode cX12_course 8 = .ok (.ifCond .ge 5, 3) := by decide +kernel
theorem dX12_course_11 : decode cX12_course 11 = .ok (.iload_n 3, 1) := by decide +kernel
theorem dX12_course_12 : decode cX12_course 12 = .ok (.ireturn, 1) := by decide +kernel
theorem dX12_course_13 : decode cX12_course 13 = .ok (.aload_n 0, 1) := by decide +kernel
theorem dX12_course_14 : decode cX12_course 14 = .ok (.iload_n 1, 1) := by decide +kernel
theorem dX12_course_15 : decode cX12_course 15 = .ok (.iload_n 2, 1) := by decide +kernel
theorem dX12_course_16 : decode cX12_course 16 = .ok (.invokevirtual 456, 3) := by decide +kernel
theorem dX12_course_19 : decode cX12_course 19 = .ok (.aload_n 0, 1) := by decide +kernel
theorem dX12_course_20 : decode cX12_course 20 = .ok (.getfield 444, 3) := by decide +kernel
theorem dX12_course_23 : decode cX12_course 23 = .ok (.ireturn, 1) := by decide +kernel
theorem dX12_lesson_0 : decode cX12_lesson 0 = .ok (.aload_n 0, 1) := by decide +kernel
theorem dX12_lesson_1 : decode cX12_lesson 1 = .ok (.iload_n 1, 1) := by decide +kernel
theorem dX12_lesson_2 : decode cX12_lesson 2 = .ok (.iload_n 2, 1) := by decide +kernel
theorem dX12_lesson_3 : decode cX12_lesson 3 = .ok (.invokevirtual 353, 3) := by decide +kernel
theorem dX12_lesson_6 : decode cX12_lesson 6 = .ok (.istore 4, 2) := by decide +kernel
theorem dX12_lesson_8 : decode cX12_lesson 8 = .ok (.iload 4, 2) := by decide +kernel
theorem dX12_lesson_10 : decode cX12_lesson 10 = .ok (.ifCond .ge 6, 3) := by decide +kernel
theorem dX12_lesson_13 : decode cX12_lesson 13 = .ok (.iload 4, 2) := by decide +kernel
theorem dX12_lesson_15 : decode cX12_lesson 15 = .ok (.ireturn, 1) := by decide +kernel
theorem dX12_lesson_16 : decode cX12_lesson 16 = .ok (.aload_n 0, 1) := by decide +kernel
theorem dX12_lesson_17 : decode cX12_lesson 17 = .ok (.iload_n 1, 1) := by decide +kernel
theorem dX12_lesson_18 : decode cX12_lesson 18 = .ok (.iload_n 2, 1) := by decide +kernel
theorem dX12_lesson_19 : decode cX12_lesson 19 = .ok (.invokevirtual 456, 3) := by decide +kernel
theorem dX12_lesson_22 : decode cX12_lesson 22 = .ok (.iload_n 3, 1) := by decide +kernel
theorem dX12_lesson_23 : decode cX12_lesson 23 = .ok (.i2l, 1) := by decide +kernel
theorem dX12_lesson_24 : decode cX12_lesson 24 = .ok (.lconst 0, 1) := by decide +kernel
theorem dX12_lesson_25 : decode cX12_lesson 25 = .ok (.aload_n 0, 1) := by decide +kernel
theorem dX12_lesson_26 : decode cX12_lesson 26 = .ok (.getfield 9, 3) := by decide +kernel
theorem dX12_lesson_29 : decode cX12_lesson 29 = .ok (.iconst 2, 1) := by decide +kernel
theorem dX12_lesson_30 : decode cX12_lesson 30 = .ok (.iaload, 1) := by decide +kernel
theorem dX12_lesson_31 : decode cX12_lesson 31 = .ok (.iconst 1, 1) := by decide +kernel
theorem dX12_lesson_32 : decode cX12_lesson 32 = .ok (.isub, 1) := by decide +kernel
theorem dX12_lesson_33 : decode cX12_lesson 33 = .ok (.i2l, 1) := by decide +kernel
theorem dX12_lesson_34 : decode cX12_lesson 34 = .ok (.invokestatic 115, 3) := by decide +kernel
theorem dX12_lesson_37 : decode cX12_lesson 37 = .ok (.ifCond .eq 12, 3) := by decide +kernel
theorem dX12_lesson_49 : decode cX12_lesson 49 = .ok (.iconst (-1), 1) := by decide +kernel
theorem dX12_lesson_50 : decode cX12_lesson 50 = .ok (.ireturn, 1) := by decide +kernel
theorem dX12_lesson_40 : decode cX12_lesson 40 = .ok (.aload_n 0, 1) := by decide +kernel
theorem dX12_lesson_41 : decode cX12_lesson 41 = .ok (.getfield 82, 3) := by decide +kernel
theorem dX12_lesson_44 : decode cX12_lesson 44 = .ok (.iload_n 3, 1) := by decide +kernel
theorem dX12_lesson_45 : decode cX12_lesson 45 = .ok (.iaload, 1) := by decide +kernel
theorem dX12_lesson_46 : decode cX12_lesson 46 = .ok (.goto 4, 3) := by decide +kernel
theorem dX12_spoilt_0 : decode cX12_spoilt 0 = .ok (.aload_n 0, 1) := by decide +kernel
theorem dX12_spoilt_1 : decode cX12_spoilt 1 = .ok (.iload_n 1, 1) := by decide +kernel
theorem dX12_spoilt_2 : decode cX12_spoilt 2 = .ok (.iload_n 2, 1) := by decide +kernel
theorem dX12_spoilt_3 : decode cX12_spoilt 3 = .ok (.invokevirtual 353, 3) := by decide +kernel
theorem dX12_spoilt_6 : decode cX12_spoilt 6 = .ok (.istore_n 3, 1) := by decide +kernel
theorem dX12_spoilt_7 : decode cX12_spoilt 7 = .ok (.iload_n 3, 1) := by decide +kernel
theorem dX12_spoilt_8 : decode cX12_spoilt 8 = .ok (.ifCond .ge 5, 3) := by decide +kernel
theorem dX12_spoilt_11 : decode cX12_spoilt 11 = .ok (.iload_n 3, 1) := by decide +kernel
theorem dX12_spoilt_12 : decode cX12_spoilt 12 = .ok (.ireturn, 1) := by decide +kernel
theorem dX12_spoilt_13 : decode cX12_spoilt 13 = .ok (.aload_n 0, 1) := by decide +kernel
theorem dX12_spoilt_14 : decode cX12_spoilt 14 = .ok (.iload_n 1, 1) := by decide +kernel
theorem dX12_spoilt_15 : decode cX12_spoilt 15 = .ok (.iload_n 2, 1) := by decide +kernel
theorem dX12_spoilt_16 : decode cX12_spoilt 16 = .ok (.invokevirtual 456, 3) := by decide +kernel
theorem dX12_spoilt_19 : decode cX12_spoilt 19 = .ok (.aload_n 0, 1) := by decide +kernel
theorem dX12_spoilt_20 : decode cX12_spoilt 20 = .ok (.getfield 447, 3) := by decide +kernel
theorem dX12_spoilt_23 : decode cX12_spoilt 23 = .ok (.ireturn, 1) := by decide +kernel
