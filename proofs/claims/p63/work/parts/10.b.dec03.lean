theorem dX7_ends_56 : decode cX7_ends 56 = .ok (.goto 4, 3) := by decide +kernel
theorem dX7_ends_60 : decode cX7_ends 60 = .ok (.ireturn, 1) := by decide +kernel
theorem dX7_ends_59 : decode cX7_ends 59 = .ok (.iconst 0, 1) := by decide +kernel
theorem dX7_ends_61 : decode cX7_ends 61 = .ok (.iconst 0, 1) := by decide +kernel
theorem dX7_ends_62 : decode cX7_ends 62 = .ok (.ireturn, 1) := by decide +kernel
theorem dX6_explore_0 : decode cX6_explore 0 = .ok (.aload_n 0, 1) := by decide +kernel
theorem dX6_explore_1 : decode cX6_explore 1 = .ok (.dup, 1) := by decide +kernel
theorem dX6_explore_2 : decode cX6_explore 2 = .ok (.getfield 31, 3) := by decide +kernel
theorem dX6_explore_5 : decode cX6_explore 5 = .ok (.iconst 1, 1) := by decide +kernel
theorem dX6_explore_6 : decode cX6_explore 6 = .ok (.iadd, 1) := by decide +kernel
theorem dX6_explore_7 : decode cX6_explore 7 = .ok (.putfield 31, 3) := by decide +kernel
theorem dX6_explore_10 : decode cX6_explore 10 = .ok (.aload_n 0, 1) := by decide +kernel
theorem dX6_explore_11 : decode cX6_explore 11 = .ok (.iconst 0, 1) := by decide +kernel
theorem dX6_explore_12 : decode cX6_explore 12 = .ok (.putfield 34, 3) := by decide +kernel
theorem dX6_explore_15 : decode cX6_explore 15 = .ok (.aload_n 0, 1) := by decide +kernel
theorem dX6_explore_16 : decode cX6_explore 16 = .ok (.iconst (-1), 1) := by decide +kernel
theorem dX6_explore_17 : decode cX6_explore 17 = .ok (.putfield 9, 3) := by decide +kernel
theorem dX6_explore_20 : decode cX6_explore 20 = .ok (.aload_n 0, 1) := by decide +kernel
theorem dX6_explore_21 : decode cX6_explore 21 = .ok (.iload_n 2, 1) := by decide +kernel
theorem dX6_explore_22 : decode cX6_explore 22 = .ok (.iconst 0, 1) := by decide +kernel
theorem dX6_explore_23 : decode cX6_explore 23 = .ok (.invokevirtual 37, 3) := by decide +kernel
theorem dX6_explore_26 : decode cX6_explore 26 = .ok (.iconst 0, 1) := by decide +kernel
theorem dX6_explore_27 : decode cX6_explore 27 = .ok (.istore_n 3, 1) := by decide +kernel
theorem dX6_explore_28 : decode cX6_explore 28 = .ok (.iload_n 3, 1) := by decide +kernel
theorem dX6_explore_29 : decode cX6_explore 29 = .ok (.aload_n 0, 1) := by decide +kernel
theorem dX6_explore_30 : decode cX6_explore 30 = .ok (.getfield 34, 3) := by decide +kernel
theorem dX6_explore_33 : decode cX6_explore 33 = .ok (.if_icmp .ge 76, 3) := by decide +kernel
theorem dX6_explore_109 : decode cX6_explore 109 = .ok (.return_, 1) := by decide +kernel
theorem dX6_explore_36 : decode cX6_explore 36 = .ok (.iload_n 3, 1) := by decide +kernel
theorem dX6_explore_37 : decode cX6_explore 37 = .ok (.aload_n 0, 1) := by decide +kernel
theorem dX6_explore_38 : decode cX6_explore 38 = .ok (.getfield 25, 3) := by decide +kernel
theorem dX6_explore_41 : decode cX6_explore 41 = .ok (.arraylength, 1) := by decide +kernel
theorem dX6_explore_42 : decode cX6_explore 42 = .ok (.if_icmp .ge 67, 3) := by decide +kernel
theorem dX6_explore_45 : decode cX6_explore 45 = .ok (.aload_n 0, 1) := by decide +kernel
theorem dX6_explore_46 : decode cX6_explore 46 = .ok (.aload_n 1, 1) := by decide +kernel
theorem dX6_explore_47 : decode cX6_explore 47 = .ok (.aload_n 0, 1) := by decide +kernel
theorem dX6_explore_48 : decode cX6_explore 48 = .ok (.getfield 25, 3) := by decide +kernel
theorem dX6_explore_51 : decode cX6_explore 51 = .ok (.iload_n 3, 1) := by decide +kernel
theorem dX6_explore_52 : decode cX6_explore 52 = .ok (.iaload, 1) := by decide +kernel
theorem dX6_explore_53 : decode cX6_explore 53 = .ok (.invokevirtual 41, 3) := by decide +kernel
theorem dX6_explore_56 : decode cX6_explore 56 = .ok (.ifCond .eq 9, 3) := by decide +kernel
theorem dX6_explore_65 : decode cX6_explore 65 = .ok (.iconst 0, 1) := by decide +kernel
theorem dX6_explore_66 : decode cX6_explore 66 = .ok (.istore 4, 2) := by decide +kernel
theorem dX6_explore_68 : decode cX6_explore 68 = .ok (.iload 4, 2) := by decide +kernel
theorem dX6_explore_70 : decode cX6_explore 70 = .ok (.iconst 4, 1) := by decide +kernel
theorem dX6_explore_71 : decode cX6_explore 71 = .ok (.if_icmp .ge 32, 3) := by decide +kernel
theorem dX6_explore_103 : decode cX6_explore 103 = .ok (.iinc 3 1, 3) := by decide +kernel
theorem dX6_explore_106 : decode cX6_explore 106 = .ok (.goto (-78), 3) := by decide +kernel
theorem dX6_explore_74 : decode cX6_explore 74 = .ok (.aload_n 0, 1) := by decide +kernel
theorem dX6_explore_75 : decode cX6_explore 75 = .ok (.aload_n 0, 1) := by decide +kernel
theorem dX6_explore_76 : decode cX6_explore 76 = .ok (.aload_n 1, 1) := by decide +kernel
theorem dX6_explore_77 : decode cX6_explore 77 = .ok (.aload_n 0, 1) := by decide +kernel
theorem dX6_explore_78 : decode cX6_explore 78 = .ok (.getfield 25, 3) := by decide +kernel
theorem dX6_explore_81 : decode cX6_explore 81 = .ok (.iload_n 3, 1) := by decide +kernel
theorem dX6_explore_82 : decode cX6_explore 82 = .ok (.iaload, 1) := by decide +kernel
theorem dX6_explore_83 : decode cX6_explore 83 = .ok (.iload 4, 2) := by decide +kernel
theorem dX6_explore_85 : decode cX6_explore 85 = .ok (.invokevirtual 45, 3) := by decide +kernel
theorem dX6_explore_88 : decode cX6_explore 88 = .ok (.iload_n 3, 1) := by decide +kernel
theorem dX6_explore_89 : decode cX6_explore 89 = .ok (.iconst 4, 1) := by decide +kernel
theorem dX6_explore_90 : decode cX6_explore 90 = .ok (.imul, 1) := by decide +kernel
theorem dX6_explore_91 : decode cX6_explore 91 = .ok (.iload 4, 2) := by decide +kernel
theorem dX6_explore_93 : decode cX6_explore 93 = .ok (.iadd, 1) := by decide +kernel
theorem dX6_explore_94 : decode cX6_explore 94 = .ok (.invokevirtual 37, 3) := by decide +kernel
theorem dX6_explore_97 : decode cX6_explore 97 = .ok (.iinc 4 1, 3) := by decide +kernel
theorem dX6_explore_100 : decode cX6_explore 100 = .ok (.goto (-32), 3) := by decide +kernel
theorem dX6_explore_59 : decode cX6_explore 59 = .ok (.aload_n 0, 1) := by decide +kernel
theorem dX6_explore_60 : decode cX6_explore 60 = .ok (.iload_n 3, 1) := by decide +kernel
theorem dX6_explore_61 : decode cX6_explore 61 = .ok (.putfield 9, 3) := by decide +kernel
theorem dX6_explore_64 : decode cX6_explore 64 = .ok (.return_, 1) := by decide +kernel
theorem dX7_seek_0 : decode cX7_seek 0 = .ok (.aload_n 0, 1) := by decide +kernel
theorem dX7_seek_1 : decode cX7_seek 1 = .ok (.iload_n 3, 1) := by decide +kernel
theorem dX7_seek_2 : decode cX7_seek 2 = .ok (.putfield 9, 3) := by decide +kernel
theorem dX7_seek_5 : decode cX7_seek 5 = .ok (.aload_n 0, 1) := by decide +kernel
theorem dX7_seek_6 : decode cX7_seek 6 = .ok (.aload_n 1, 1) := by decide +kernel
theorem dX7_seek_7 : decode cX7_seek 7 = .ok (.iload_n 2, 1) := by decide +kernel
theorem dX7_seek_8 : decode cX7_seek 8 = .ok (.invokevirtual 15, 3) := by decide +kernel
theorem dX7_seek_11 : decode cX7_seek 11 = .ok (.return_, 1) := by decide +kernel
theorem dX7_allShowOne_0 : decode cX7_allShowOne 0 = .ok (.iconst 0, 1) := by decide +kernel
theorem dX7_allShowOne_1 : decode cX7_allShowOne 1 = .ok (.istore_n 3, 1) := by decide +kernel
theorem dX7_allShowOne_2 : decode cX7_allShowOne 2 = .ok (.iload_n 3, 1) := by decide +kernel
theorem dX7_allShowOne_3 : decode cX7_allShowOne 3 = .ok (.aload_n 0, 1) := by decide +kernel
theorem dX7_allShowOne_4 : decode cX7_allShowOne 4 = .ok (.getfield 41, 3) := by decide +kernel
theorem dX7_allShowOne_7 : decode cX7_allShowOne 7 = .ok (.if_icmp .ge 34, 3) := by decide +kernel
theorem dX7_allShowOne_41 : decode cX7_allShowOne 41 = .ok (.iconst 1, 1) := by decide +kernel
theorem dX7_allShowOne_42 : decode cX7_allShowOne 42 = .ok (.ireturn, 1) := by decide +kernel
theorem dX7_allShowOne_10 : decode cX7_allShowOne 10 = .ok (.iload_n 3, 1) := by decide +kernel
theorem dX7_allShowOne_11 : decode cX7_allShowOne 11 = .ok (.aload_n 0, 1) := by decide +kernel
theorem dX7_allShowOne_12 : decode cX7_allShowOne 12 = .ok (.getfield 44, 3) := by decide +kernel
theorem dX7_allShowOne_15 : decode cX7_allShowOne 15 = .ok (.arraylength, 1) := by decide +kernel
theorem dX7_allShowOne_16 : decode cX7_allShowOne 16 = .ok (.if_icmp .ge 25, 3) := by decide +kernel
theorem dX7_allShowOne_19 : decode cX7_allShowOne 19 = .ok (.aload_n 1, 1) := by decide +kernel
theorem dX7_allShowOne_20 : decode cX7_allShowOne 20 = .ok (.aload_n 0, 1) := by decide +kernel
theorem dX7_allShowOne_21 : decode cX7_allShowOne 21 = .ok (.getfield 44, 3) := by decide +kernel
theorem dX7_allShowOne_24 : decode cX7_allShowOne 24 = .ok (.iload_n 3, 1) := by decide +kernel
theorem dX7_allShowOne_25 : decode cX7_allShowOne 25 = .ok (.iaload, 1) := by decide +kernel
theorem dX7_allShowOne_26 : decode cX7_allShowOne 26 = .ok (.iload_n 2, 1) := by decide +kernel
theorem dX7_allShowOne_27 : decode cX7_allShowOne 27 = .ok (.invokestatic 31, 3) := by decide +kernel
theorem dX7_allShowOne_30 : decode cX7_allShowOne 30 = .ok (.ifCond .ne 5, 3) := by decide +kernel
theorem dX7_allShowOne_33 : decode cX7_allShowOne 33 = .ok (.iconst 0, 1) := by decide +kernel
theorem dX7_allShowOne_34 : decode cX7_allShowOne 34 = .ok (.ireturn, 1) := by decide +kernel
theorem dX7_allShowOne_35 : decode cX7_allShowOne 35 = .ok (.iinc 3 1, 3) := by decide +kernel
theorem dX7_allShowOne_38 : decode cX7_allShowOne 38 = .ok (.goto (-36), 3) := by decide +kernel
theorem dX7_leastGathered_0 : decode cX7_leastGathered 0 = .ok (.aload_n 0, 1) := by decide +kernel
theorem dX7_leastGathered_1 : decode cX7_leastGathered 1 = .ok (.aload_n 1, 1) := by decide +kernel
theorem dX7_leastGathered_2 : decode cX7_leastGathered 2 = .ok (.iload_n 2, 1) := by decide +kernel
theorem dX7_leastGathered_3 : decode cX7_leastGathered 3 = .ok (.iconst 1, 1) := by decide +kernel
theorem dX7_leastGathered_4 : decode cX7_leastGathered 4 = .ok (.invokevirtual 48, 3) := by decide +kernel
theorem dX7_leastGathered_7 : decode cX7_leastGathered 7 = .ok (.aload_n 0, 1) := by decide +kernel
theorem dX7_leastGathered_8 : decode cX7_leastGathered 8 = .ok (.invokevirtual 52, 3) := by decide +kernel
theorem dX7_leastGathered_11 : decode cX7_leastGathered 11 = .ok (.istore_n 3, 1) := by decide +kernel
theorem dX7_leastGathered_12 : decode cX7_leastGathered 12 = .ok (.iload_n 3, 1) := by decide +kernel
theorem dX7_leastGathered_13 : decode cX7_leastGathered 13 = .ok (.iconst (-1), 1) := by decide +kernel
theorem dX7_leastGathered_14 : decode cX7_leastGathered 14 = .ok (.if_icmp .ne 5, 3) := by decide +kernel
theorem dX7_leastGathered_17 : decode cX7_leastGathered 17 = .ok (.iconst (-1), 1) := by decide +kernel
theorem dX7_leastGathered_18 : decode cX7_leastGathered 18 = .ok (.ireturn, 1) := by decide +kernel
theorem dX7_leastGathered_19 : decode cX7_leastGathered 19 = .ok (.bipush 10, 2) := by decide +kernel
theorem dX7_leastGathered_21 : decode cX7_leastGathered 21 = .ok (.istore 4, 2) := by decide +kernel
theorem dX7_leastGathered_23 : decode cX7_leastGathered 23 = .ok (.iconst 0, 1) := by decide +kernel
theorem dX7_leastGathered_24 : decode cX7_leastGathered 24 = .ok (.istore 5, 2) := by decide +kernel
theorem dX7_leastGathered_26 : decode cX7_leastGathered 26 = .ok (.iload 5, 2) := by decide +kernel
theorem dX7_leastGathered_28 : decode cX7_leastGathered 28 = .ok (.aload_n 0, 1) := by decide +kernel
theorem dX7_leastGathered_29 : decode cX7_leastGathered 29 = .ok (.getfield 41, 3) := by decide +kernel
theorem dX7_leastGathered_32 : decode cX7_leastGathered 32 = .ok (.if_icmp .ge 60, 3) := by decide +kernel
theorem dX7_leastGathered_92 : decode cX7_leastGathered 92 = .ok (.iload 4, 2) := by decide +kernel
theorem dX7_leastGathered_94 : decode cX7_leastGathered 94 = .ok (.ireturn, 1) := by decide +kernel
theorem dX7_leastGathered_35 : decode cX7_leastGathered 35 = .ok (.iload 5, 2) := by decide +kernel
theorem dX7_leastGathered_37 : decode cX7_leastGathered 37 = .ok (.aload_n 0, 1) := by decide +kernel
theorem dX7_leastGathered_38 : decode cX7_leastGathered 38 = .ok (.getfield 44, 3) := by decide +kernel
theorem dX7_leastGathered_41 : decode cX7_leastGathered 41 = .ok (.arraylength, 1) := by decide +kernel
theorem dX7_leastGathered_42 : decode cX7_leastGathered 42 = .ok (.if_icmp .ge 50, 3) := by decide +kernel
theorem dX7_leastGathered_45 : decode cX7_leastGathered 45 = .ok (.aload_n 0, 1) := by decide +kernel
theorem dX7_leastGathered_46 : decode cX7_leastGathered 46 = .ok (.getfield 44, 3) := by decide +kernel
theorem dX7_leastGathered_49 : decode cX7_leastGathered 49 = .ok (.iload 5, 2) := by decide +kernel
theorem dX7_leastGathered_51 : decode cX7_leastGathered 51 = .ok (.iaload, 1) := by decide +kernel
theorem dX7_leastGathered_52 : decode cX7_leastGathered 52 = .ok (.invokestatic 25, 3) := by decide +kernel
theorem dX7_leastGathered_55 : decode cX7_leastGathered 55 = .ok (.iconst 1, 1) := by decide +kernel
theorem dX7_leastGathered_56 : decode cX7_leastGathered 56 = .ok (.if_icmp .ne 30, 3) := by decide +kernel
theorem dX7_leastGathered_86 : decode cX7_leastGathered 86 = .ok (.iinc 5 1, 3) := by decide +kernel
theorem dX7_leastGathered_89 : decode cX7_leastGathered 89 = .ok (.goto (-63), 3) := by decide +kernel
theorem dX7_leastGathered_59 : decode cX7_leastGathered 59 = .ok (.aload_n 0, 1) := by decide +kernel
theorem dX7_leastGathered_60 : decode cX7_leastGathered 60 = .ok (.iload 5, 2) := by decide +kernel
theorem dX7_leastGathered_62 : decode cX7_leastGathered 62 = .ok (.invokevirtual 56, 3) := by decide +kernel
theorem dX7_leastGathered_65 : decode cX7_leastGathered 65 = .ok (.iload_n 3, 1) := by decide +kernel
theorem dX7_leastGathered_66 : decode cX7_leastGathered 66 = .ok (.if_icmp .ne 20, 3) := by decide +kernel
theorem dX7_leastGathered_69 : decode cX7_leastGathered 69 = .ok (.iload 4, 2) := by decide +kernel
theorem dX7_leastGathered_71 : decode cX7_leastGathered 71 = .ok (.aload_n 0, 1) := by decide +kernel
theorem dX7_leastGathered_72 : decode cX7_leastGathered 72 = .ok (.getfield 44, 3) := by decide +kernel
theorem dX7_leastGathered_75 : decode cX7_leastGathered 75 = .ok (.iload 5, 2) := by decide +kernel
theorem dX7_leastGathered_77 : decode cX7_leastGathered 77 = .ok (.iaload, 1) := by decide +kernel
theorem dX7_leastGathered_78 : decode cX7_leastGathered 78 = .ok (.invokestatic 59, 3) := by decide +kernel
theorem dX7_leastGathered_81 : decode cX7_leastGathered 81 = .ok (.invokestatic 62, 3) := by decide +kernel
theorem dX7_leastGathered_84 : decode cX7_leastGathered 84 = .ok (.istore 4, 2) := by decide +kernel
