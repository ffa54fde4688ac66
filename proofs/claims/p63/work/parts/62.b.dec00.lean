theorem dX12_sameOn_0 : decode cX12_sameOn 0 = .ok (.aload_n 0, 1) := by decide +kernel
theorem dX12_sameOn_1 : decode cX12_sameOn 1 = .ok (.getfield 49, 3) := by decide +kernel
theorem dX12_sameOn_4 : decode cX12_sameOn 4 = .ok (.iload_n 1, 1) := by decide +kernel
theorem dX12_sameOn_5 : decode cX12_sameOn 5 = .ok (.iaload, 1) := by decide +kernel
theorem dX12_sameOn_6 : decode cX12_sameOn 6 = .ok (.aload_n 0, 1) := by decide +kernel
theorem dX12_sameOn_7 : decode cX12_sameOn 7 = .ok (.getfield 49, 3) := by decide +kernel
theorem dX12_sameOn_10 : decode cX12_sameOn 10 = .ok (.iload_n 2, 1) := by decide +kernel
theorem dX12_sameOn_11 : decode cX12_sameOn 11 = .ok (.iaload, 1) := by decide +kernel
theorem dX12_sameOn_12 : decode cX12_sameOn 12 = .ok (.if_icmp .ne 7, 3) := by decide +kernel
theorem dX12_sameOn_19 : decode cX12_sameOn 19 = .ok (.iconst 0, 1) := by decide +kernel
theorem dX12_sameOn_20 : decode cX12_sameOn 20 = .ok (.istore_n 3, 1) := by decide +kernel
theorem dX12_sameOn_21 : decode cX12_sameOn 21 = .ok (.iconst 0, 1) := by decide +kernel
theorem dX12_sameOn_22 : decode cX12_sameOn 22 = .ok (.istore 4, 2) := by decide +kernel
theorem dX12_sameOn_24 : decode cX12_sameOn 24 = .ok (.iload 4, 2) := by decide +kernel
theorem dX12_sameOn_26 : decode cX12_sameOn 26 = .ok (.iconst 4, 1) := by decide +kernel
theorem dX12_sameOn_27 : decode cX12_sameOn 27 = .ok (.if_icmp .ge 46, 3) := by decide +kernel
theorem dX12_sameOn_73 : decode cX12_sameOn 73 = .ok (.iload_n 3, 1) := by decide +kernel
theorem dX12_sameOn_74 : decode cX12_sameOn 74 = .ok (.ireturn, 1) := by decide +kernel
theorem dX12_sameOn_30 : decode cX12_sameOn 30 = .ok (.iload_n 3, 1) := by decide +kernel
theorem dX12_sameOn_31 : decode cX12_sameOn 31 = .ok (.ifCond .eq 42, 3) := by decide +kernel
theorem dX12_sameOn_34 : decode cX12_sameOn 34 = .ok (.aload_n 0, 1) := by decide +kernel
theorem dX12_sameOn_35 : decode cX12_sameOn 35 = .ok (.getfield 49, 3) := by decide +kernel
theorem dX12_sameOn_38 : decode cX12_sameOn 38 = .ok (.aload_n 0, 1) := by decide +kernel
theorem dX12_sameOn_39 : decode cX12_sameOn 39 = .ok (.iload_n 1, 1) := by decide +kernel
theorem dX12_sameOn_40 : decode cX12_sameOn 40 = .ok (.iload 4, 2) := by decide +kernel
theorem dX12_sameOn_42 : decode cX12_sameOn 42 = .ok (.invokevirtual 273, 3) := by decide +kernel
theorem dX12_sameOn_45 : decode cX12_sameOn 45 = .ok (.iaload, 1) := by decide +kernel
theorem dX12_sameOn_46 : decode cX12_sameOn 46 = .ok (.aload_n 0, 1) := by decide +kernel
theorem dX12_sameOn_47 : decode cX12_sameOn 47 = .ok (.getfield 49, 3) := by decide +kernel
theorem dX12_sameOn_50 : decode cX12_sameOn 50 = .ok (.aload_n 0, 1) := by decide +kernel
theorem dX12_sameOn_51 : decode cX12_sameOn 51 = .ok (.iload_n 2, 1) := by decide +kernel
theorem dX12_sameOn_52 : decode cX12_sameOn 52 = .ok (.iload 4, 2) := by decide +kernel
theorem dX12_sameOn_54 : decode cX12_sameOn 54 = .ok (.invokevirtual 273, 3) := by decide +kernel
theorem dX12_sameOn_57 : decode cX12_sameOn 57 = .ok (.iaload, 1) := by decide +kernel
theorem dX12_sameOn_58 : decode cX12_sameOn 58 = .ok (.if_icmp .ne 7, 3) := by decide +kernel
theorem dX12_sameOn_65 : decode cX12_sameOn 65 = .ok (.iconst 0, 1) := by decide +kernel
theorem dX12_sameOn_66 : decode cX12_sameOn 66 = .ok (.istore_n 3, 1) := by decide +kernel
theorem dX12_sameOn_67 : decode cX12_sameOn 67 = .ok (.iinc 4 1, 3) := by decide +kernel
theorem dX12_sameOn_70 : decode cX12_sameOn 70 = .ok (.goto (-46), 3) := by decide +kernel
theorem dX12_sameOn_61 : decode cX12_sameOn 61 = .ok (.iconst 1, 1) := by decide +kernel
theorem dX12_sameOn_62 : decode cX12_sameOn 62 = .ok (.goto 4, 3) := by decide +kernel
theorem dX12_sameOn_15 : decode cX12_sameOn 15 = .ok (.iconst 1, 1) := by decide +kernel
theorem dX12_sameOn_16 : decode cX12_sameOn 16 = .ok (.goto 4, 3) := by decide +kernel
theorem dX12_fillKinds_0 : decode cX12_fillKinds 0 = .ok (.iconst 0, 1) := by decide +kernel
theorem dX12_fillKinds_1 : decode cX12_fillKinds 1 = .ok (.istore_n 2, 1) := by decide +kernel
theorem dX12_fillKinds_2 : decode cX12_fillKinds 2 = .ok (.iload_n 2, 1) := by decide +kernel
theorem dX12_fillKinds_3 : decode cX12_fillKinds 3 = .ok (.aload_n 0, 1) := by decide +kernel
theorem dX12_fillKinds_4 : decode cX12_fillKinds 4 = .ok (.getfield 9, 3) := by decide +kernel
theorem dX12_fillKinds_7 : decode cX12_fillKinds 7 = .ok (.iconst 0, 1) := by decide +kernel
theorem dX12_fillKinds_8 : decode cX12_fillKinds 8 = .ok (.iaload, 1) := by decide +kernel
theorem dX12_fillKinds_9 : decode cX12_fillKinds 9 = .ok (.if_icmp .ge 33, 3) := by decide +kernel
theorem dX12_fillKinds_42 : decode cX12_fillKinds 42 = .ok (.iconst 0, 1) := by decide +kernel
theorem dX12_fillKinds_43 : decode cX12_fillKinds 43 = .ok (.istore_n 2, 1) := by decide +kernel
theorem dX12_fillKinds_44 : decode cX12_fillKinds 44 = .ok (.iconst 0, 1) := by decide +kernel
theorem dX12_fillKinds_45 : decode cX12_fillKinds 45 = .ok (.istore_n 3, 1) := by decide +kernel
theorem dX12_fillKinds_46 : decode cX12_fillKinds 46 = .ok (.iconst 0, 1) := by decide +kernel
theorem dX12_fillKinds_47 : decode cX12_fillKinds 47 = .ok (.istore 4, 2) := by decide +kernel
theorem dX12_fillKinds_49 : decode cX12_fillKinds 49 = .ok (.iload 4, 2) := by decide +kernel
theorem dX12_fillKinds_51 : decode cX12_fillKinds 51 = .ok (.aload_n 0, 1) := by decide +kernel
theorem dX12_fillKinds_52 : decode cX12_fillKinds 52 = .ok (.getfield 9, 3) := by decide +kernel
theorem dX12_fillKinds_55 : decode cX12_fillKinds 55 = .ok (.iconst 0, 1) := by decide +kernel
theorem dX12_fillKinds_56 : decode cX12_fillKinds 56 = .ok (.iaload, 1) := by decide +kernel
theorem dX12_fillKinds_57 : decode cX12_fillKinds 57 = .ok (.if_icmp .ge 76, 3) := by decide +kernel
theorem dX12_fillKinds_133 : decode cX12_fillKinds 133 = .ok (.iconst 0, 1) := by decide +kernel
theorem dX12_fillKinds_134 : decode cX12_fillKinds 134 = .ok (.istore 4, 2) := by decide +kernel
theorem dX12_fillKinds_136 : decode cX12_fillKinds 136 = .ok (.iload 4, 2) := by decide +kernel
theorem dX12_fillKinds_138 : decode cX12_fillKinds 138 = .ok (.aload_n 0, 1) := by decide +kernel
theorem dX12_fillKinds_139 : decode cX12_fillKinds 139 = .ok (.getfield 9, 3) := by decide +kernel
theorem dX12_fillKinds_142 : decode cX12_fillKinds 142 = .ok (.iconst 0, 1) := by decide +kernel
theorem dX12_fillKinds_143 : decode cX12_fillKinds 143 = .ok (.iaload, 1) := by decide +kernel
theorem dX12_fillKinds_144 : decode cX12_fillKinds 144 = .ok (.if_icmp .ge 23, 3) := by decide +kernel
theorem dX12_fillKinds_167 : decode cX12_fillKinds 167 = .ok (.iload_n 3, 1) := by decide +kernel
theorem dX12_fillKinds_168 : decode cX12_fillKinds 168 = .ok (.iload_n 2, 1) := by decide +kernel
theorem dX12_fillKinds_169 : decode cX12_fillKinds 169 = .ok (.if_icmp .ne 5, 3) := by decide +kernel
theorem dX12_fillKinds_174 : decode cX12_fillKinds 174 = .ok (.iload_n 3, 1) := by decide +kernel
theorem dX12_fillKinds_175 : decode cX12_fillKinds 175 = .ok (.istore_n 2, 1) := by decide +kernel
theorem dX12_fillKinds_176 : decode cX12_fillKinds 176 = .ok (.goto (-132), 3) := by decide +kernel
theorem dX12_fillKinds_172 : decode cX12_fillKinds 172 = .ok (.iload_n 2, 1) := by decide +kernel
theorem dX12_fillKinds_173 : decode cX12_fillKinds 173 = .ok (.ireturn, 1) := by decide +kernel
theorem dX12_fillKinds_147 : decode cX12_fillKinds 147 = .ok (.aload_n 0, 1) := by decide +kernel
theorem dX12_fillKinds_148 : decode cX12_fillKinds 148 = .ok (.getfield 49, 3) := by decide +kernel
theorem dX12_fillKinds_151 : decode cX12_fillKinds 151 = .ok (.iload 4, 2) := by decide +kernel
theorem dX12_fillKinds_153 : decode cX12_fillKinds 153 = .ok (.aload_n 0, 1) := by decide +kernel
theorem dX12_fillKinds_154 : decode cX12_fillKinds 154 = .ok (.getfield 52, 3) := by decide +kernel
theorem dX12_fillKinds_157 : decode cX12_fillKinds 157 = .ok (.iload 4, 2) := by decide +kernel
theorem dX12_fillKinds_159 : decode cX12_fillKinds 159 = .ok (.iaload, 1) := by decide +kernel
theorem dX12_fillKinds_160 : decode cX12_fillKinds 160 = .ok (.iastore, 1) := by decide +kernel
theorem dX12_fillKinds_161 : decode cX12_fillKinds 161 = .ok (.iinc 4 1, 3) := by decide +kernel
theorem dX12_fillKinds_164 : decode cX12_fillKinds 164 = .ok (.goto (-28), 3) := by decide +kernel
theorem dX12_fillKinds_60 : decode cX12_fillKinds 60 = .ok (.iconst 0, 1) := by decide +kernel
theorem dX12_fillKinds_61 : decode cX12_fillKinds 61 = .ok (.istore 5, 2) := by decide +kernel
theorem dX12_fillKinds_63 : decode cX12_fillKinds 63 = .ok (.iload 5, 2) := by decide +kernel
theorem dX12_fillKinds_65 : decode cX12_fillKinds 65 = .ok (.iload 4, 2) := by decide +kernel
theorem dX12_fillKinds_67 : decode cX12_fillKinds 67 = .ok (.if_icmp .ge 20, 3) := by decide +kernel
theorem dX12_fillKinds_87 : decode cX12_fillKinds 87 = .ok (.aload_n 0, 1) := by decide +kernel
theorem dX12_fillKinds_88 : decode cX12_fillKinds 88 = .ok (.getfield 52, 3) := by decide +kernel
theorem dX12_fillKinds_91 : decode cX12_fillKinds 91 = .ok (.iload 4, 2) := by decide +kernel
theorem dX12_fillKinds_93 : decode cX12_fillKinds 93 = .ok (.iload 5, 2) := by decide +kernel
theorem dX12_fillKinds_95 : decode cX12_fillKinds 95 = .ok (.iload 4, 2) := by decide +kernel
theorem dX12_fillKinds_97 : decode cX12_fillKinds 97 = .ok (.if_icmp .ge 13, 3) := by decide +kernel
theorem dX12_fillKinds_110 : decode cX12_fillKinds 110 = .ok (.iload_n 3, 1) := by decide +kernel
theorem dX12_fillKinds_111 : decode cX12_fillKinds 111 = .ok (.iastore, 1) := by decide +kernel
theorem dX12_fillKinds_112 : decode cX12_fillKinds 112 = .ok (.iload_n 3, 1) := by decide +kernel
theorem dX12_fillKinds_113 : decode cX12_fillKinds 113 = .ok (.iload 5, 2) := by decide +kernel
theorem dX12_fillKinds_115 : decode cX12_fillKinds 115 = .ok (.iload 4, 2) := by decide +kernel
theorem dX12_fillKinds_117 : decode cX12_fillKinds 117 = .ok (.if_icmp .ge 7, 3) := by decide +kernel
theorem dX12_fillKinds_124 : decode cX12_fillKinds 124 = .ok (.iconst 1, 1) := by decide +kernel
theorem dX12_fillKinds_125 : decode cX12_fillKinds 125 = .ok (.iadd, 1) := by decide +kernel
theorem dX12_fillKinds_126 : decode cX12_fillKinds 126 = .ok (.istore_n 3, 1) := by decide +kernel
theorem dX12_fillKinds_127 : decode cX12_fillKinds 127 = .ok (.iinc 4 1, 3) := by decide +kernel
theorem dX12_fillKinds_130 : decode cX12_fillKinds 130 = .ok (.goto (-81), 3) := by decide +kernel
theorem dX12_fillKinds_120 : decode cX12_fillKinds 120 = .ok (.iconst 0, 1) := by decide +kernel
theorem dX12_fillKinds_121 : decode cX12_fillKinds 121 = .ok (.goto 4, 3) := by decide +kernel
theorem dX12_fillKinds_100 : decode cX12_fillKinds 100 = .ok (.aload_n 0, 1) := by decide +kernel
theorem dX12_fillKinds_101 : decode cX12_fillKinds 101 = .ok (.getfield 52, 3) := by decide +kernel
theorem dX12_fillKinds_104 : decode cX12_fillKinds 104 = .ok (.iload 5, 2) := by decide +kernel
theorem dX12_fillKinds_106 : decode cX12_fillKinds 106 = .ok (.iaload, 1) := by decide +kernel
theorem dX12_fillKinds_107 : decode cX12_fillKinds 107 = .ok (.goto 4, 3) := by decide +kernel
theorem dX12_fillKinds_70 : decode cX12_fillKinds 70 = .ok (.aload_n 0, 1) := by decide +kernel
theorem dX12_fillKinds_71 : decode cX12_fillKinds 71 = .ok (.iload 5, 2) := by decide +kernel
theorem dX12_fillKinds_73 : decode cX12_fillKinds 73 = .ok (.iload 4, 2) := by decide +kernel
theorem dX12_fillKinds_75 : decode cX12_fillKinds 75 = .ok (.invokevirtual 390, 3) := by decide +kernel
theorem dX12_fillKinds_78 : decode cX12_fillKinds 78 = .ok (.ifCond .ne 9, 3) := by decide +kernel
theorem dX12_fillKinds_81 : decode cX12_fillKinds 81 = .ok (.iinc 5 1, 3) := by decide +kernel
theorem dX12_fillKinds_84 : decode cX12_fillKinds 84 = .ok (.goto (-21), 3) := by decide +kernel
theorem dX12_fillKinds_12 : decode cX12_fillKinds 12 = .ok (.aload_n 0, 1) := by decide +kernel
theorem dX12_fillKinds_13 : decode cX12_fillKinds 13 = .ok (.getfield 49, 3) := by decide +kernel
theorem dX12_fillKinds_16 : decode cX12_fillKinds 16 = .ok (.iload_n 2, 1) := by decide +kernel
theorem dX12_fillKinds_17 : decode cX12_fillKinds 17 = .ok (.iload_n 1, 1) := by decide +kernel
theorem dX12_fillKinds_18 : decode cX12_fillKinds 18 = .ok (.iload_n 2, 1) := by decide +kernel
theorem dX12_fillKinds_19 : decode cX12_fillKinds 19 = .ok (.invokestatic 270, 3) := by decide +kernel
theorem dX12_fillKinds_22 : decode cX12_fillKinds 22 = .ok (.iconst 1, 1) := by decide +kernel
theorem dX12_fillKinds_23 : decode cX12_fillKinds 23 = .ok (.if_icmp .ne 7, 3) := by decide +kernel
theorem dX12_fillKinds_30 : decode cX12_fillKinds 30 = .ok (.aload_n 0, 1) := by decide +kernel
theorem dX12_fillKinds_31 : decode cX12_fillKinds 31 = .ok (.iload_n 2, 1) := by decide +kernel
theorem dX12_fillKinds_32 : decode cX12_fillKinds 32 = .ok (.invokevirtual 276, 3) := by decide +kernel
theorem dX12_fillKinds_35 : decode cX12_fillKinds 35 = .ok (.iastore, 1) := by decide +kernel
theorem dX12_fillKinds_36 : decode cX12_fillKinds 36 = .ok (.iinc 2 1, 3) := by decide +kernel
theorem dX12_fillKinds_39 : decode cX12_fillKinds 39 = .ok (.goto (-37), 3) := by decide +kernel
theorem dX12_fillKinds_26 : decode cX12_fillKinds 26 = .ok (.iconst 0, 1) := by decide +kernel
theorem dX12_fillKinds_27 : decode cX12_fillKinds 27 = .ok (.goto 8, 3) := by decide +kernel
theorem dX12_alike_0 : decode cX12_alike 0 = .ok (.aload_n 0, 1) := by decide +kernel
theorem dX12_alike_1 : decode cX12_alike 1 = .ok (.iload_n 1, 1) := by decide +kernel
theorem dX12_alike_2 : decode cX12_alike 2 = .ok (.iload_n 2, 1) := by decide +kernel
theorem dX12_alike_3 : decode cX12_alike 3 = .ok (.invokevirtual 394, 3) := by decide +kernel
theorem dX12_alike_6 : decode cX12_alike 6 = .ok (.ifCond .ne 6, 3) := by decide +kernel
theorem dX12_alike_9 : decode cX12_alike 9 = .ok (.bipush (-2), 2) := by decide +kernel
theorem dX12_alike_11 : decode cX12_alike 11 = .ok (.ireturn, 1) := by decide +kernel
theorem dX12_alike_12 : decode cX12_alike 12 = .ok (.aload_n 0, 1) := by decide +kernel
theorem dX12_alike_13 : decode cX12_alike 13 = .ok (.iconst 0, 1) := by decide +kernel
theorem dX12_alike_14 : decode cX12_alike 14 = .ok (.invokevirtual 397, 3) := by decide +kernel
theorem dX12_alike_17 : decode cX12_alike 17 = .ok (.pop, 1) := by decide +kernel
theorem dX12_alike_18 : decode cX12_alike 18 = .ok (.aload_n 0, 1) := by decide +kernel
theorem dX12_alike_19 : decode cX12_alike 19 = .ok (.getfield 49, 3) := by decide +kernel
theorem dX12_alike_22 : decode cX12_alike 22 = .ok (.iload_n 1, 1) := by decide +kernel
theorem dX12_alike_23 : decode cX12_alike 23 = .ok (.iaload, 1) := by decide +kernel
theorem dX12_alike_24 : decode cX12_alike 24 = .ok (.aload_n 0, 1) := by decide +kernel
theorem dX12_alike_25 : decode cX12_alike 25 = .ok (.getfield 49, 3) := by decide +kernel
theorem dX12_alike_28 : decode cX12_alike 28 = .ok (.iload_n 2, 1) := by decide +kernel
theorem dX12_alike_29 : decode cX12_alike 29 = .ok (.iaload, 1) := by decide +kernel
theorem dX12_alike_30 : decode cX12_alike 30 = .ok (.if_icmp .ne 7, 3) := by decide +kernel
theorem dX12_alike_37 : decode cX12_alike 37 = .ok (.iconst 0, 1) := by decide +kernel
theorem dX12_alike_38 : decode cX12_alike 38 = .ok (.ireturn, 1) := by decide +kernel
theorem dX12_alike_33 : decode cX12_alike 33 = .ok (.iconst 1, 1) := by decide +kernel
theorem dX12_alike_34 : decode cX12_alike 34 = .ok (.goto 4, 3) := by decide +kernel
theorem dX12_kinds_0 : decode cX12_kinds 0 = .ok (.aload_n 0, 1) := by decide +kernel
theorem dX12_kinds_1 : decode cX12_kinds 1 = .ok (.invokevirtual 125, 3) := by decide +kernel
theorem dX12_kinds_4 : decode cX12_kinds 4 = .ok (.ifCond .eq 11, 3) := by decide +kernel
theorem dX12_kinds_15 : decode cX12_kinds 15 = .ok (.bipush (-2), 2) := by decide +kernel
theorem dX12_kinds_17 : decode cX12_kinds 17 = .ok (.ireturn, 1) := by decide +kernel
theorem dX12_kinds_7 : decode cX12_kinds 7 = .ok (.aload_n 0, 1) := by decide +kernel
theorem dX12_kinds_8 : decode cX12_kinds 8 = .ok (.iconst 0, 1) := by decide +kernel
theorem dX12_kinds_9 : decode cX12_kinds 9 = .ok (.invokevirtual 397, 3) := by decide +kernel
theorem dX12_kinds_12 : decode cX12_kinds 12 = .ok (.goto 5, 3) := by decide +kernel
theorem dX12_baredOf_0 : decode cX12_baredOf 0 = .ok (.iconst 0, 1) := by decide +kernel
theorem dX12_baredOf_1 : decode cX12_baredOf 1 = .ok (.istore_n 3, 1) := by decide +kernel
theorem dX12_baredOf_2 : decode cX12_baredOf 2 = .ok (.iconst 0, 1) := by decide +kernel
theorem dX12_baredOf_3 : decode cX12_baredOf 3 = .ok (.istore 4, 2) := by decide +kernel
theorem dX12_baredOf_5 : decode cX12_baredOf 5 = .ok (.iload 4, 2) := by decide +kernel
theorem dX12_baredOf_7 : decode cX12_baredOf 7 = .ok (.aload_n 0, 1) := by decide +kernel
theorem dX12_baredOf_8 : decode cX12_baredOf 8 = .ok (.getfield 9, 3) := by decide +kernel
theorem dX12_baredOf_11 : decode cX12_baredOf 11 = .ok (.iconst 0, 1) := by decide +kernel
theorem dX12_baredOf_12 : decode cX12_baredOf 12 = .ok (.iaload, 1) := by decide +kernel
theorem dX12_baredOf_13 : decode cX12_baredOf 13 = .ok (.if_icmp .ge 29, 3) := by decide +kernel
theorem dX12_baredOf_42 : decode cX12_baredOf 42 = .ok (.iload_n 3, 1) := by decide +kernel
theorem dX12_baredOf_43 : decode cX12_baredOf 43 = .ok (.istore 4, 2) := by decide +kernel
theorem dX12_baredOf_45 : decode cX12_baredOf 45 = .ok (.iload_n 3, 1) := by decide +kernel
theorem dX12_baredOf_46 : decode cX12_baredOf 46 = .ok (.istore 5, 2) := by decide +kernel
theorem dX12_baredOf_48 : decode cX12_baredOf 48 = .ok (.iload 5, 2) := by decide +kernel
theorem dX12_baredOf_50 : decode cX12_baredOf 50 = .ok (.ifCond .lt 65, 3) := by decide +kernel
theorem dX12_baredOf_115 : decode cX12_baredOf 115 = .ok (.iload 4, 2) := by decide +kernel
theorem dX12_baredOf_117 : decode cX12_baredOf 117 = .ok (.ireturn, 1) := by decide +kernel
theorem dX12_baredOf_53 : decode cX12_baredOf 53 = .ok (.iload 5, 2) := by decide +kernel
theorem dX12_baredOf_55 : decode cX12_baredOf 55 = .ok (.iload_n 3, 1) := by decide +kernel
theorem dX12_baredOf_56 : decode cX12_baredOf 56 = .ok (.iconst (-1), 1) := by decide +kernel
theorem dX12_baredOf_57 : decode cX12_baredOf 57 = .ok (.ixor, 1) := by decide +kernel
theorem dX12_baredOf_58 : decode cX12_baredOf 58 = .ok (.iand, 1) := by decide +kernel
theorem dX12_baredOf_59 : decode cX12_baredOf 59 = .ok (.ifCond .ne 50, 3) := by decide +kernel
theorem dX12_baredOf_109 : decode cX12_baredOf 109 = .ok (.iinc 5 (-1), 3) := by decide +kernel
theorem dX12_baredOf_112 : decode cX12_baredOf 112 = .ok (.goto (-64), 3) := by decide +kernel
theorem dX12_baredOf_62 : decode cX12_baredOf 62 = .ok (.iload 5, 2) := by decide +kernel
theorem dX12_baredOf_64 : decode cX12_baredOf 64 = .ok (.invokestatic 316, 3) := by decide +kernel
theorem dX12_baredOf_67 : decode cX12_baredOf 67 = .ok (.iload 4, 2) := by decide +kernel
theorem dX12_baredOf_69 : decode cX12_baredOf 69 = .ok (.invokestatic 316, 3) := by decide +kernel
theorem dX12_baredOf_72 : decode cX12_baredOf 72 = .ok (.if_icmp .le 6, 3) := by decide +kernel
theorem dX12_baredOf_78 : decode cX12_baredOf 78 = .ok (.aload_n 0, 1) := by decide +kernel
theorem dX12_baredOf_79 : decode cX12_baredOf 79 = .ok (.iload 5, 2) := by decide +kernel
theorem dX12_baredOf_81 : decode cX12_baredOf 81 = .ok (.invokevirtual 397, 3) := by decide +kernel
theorem dX12_baredOf_84 : decode cX12_baredOf 84 = .ok (.pop, 1) := by decide +kernel
theorem dX12_baredOf_85 : decode cX12_baredOf 85 = .ok (.aload_n 0, 1) := by decide +kernel
theorem dX12_baredOf_86 : decode cX12_baredOf 86 = .ok (.getfield 49, 3) := by decide +kernel
theorem dX12_baredOf_89 : decode cX12_baredOf 89 = .ok (.iload_n 1, 1) := by decide +kernel
theorem dX12_baredOf_90 : decode cX12_baredOf 90 = .ok (.iaload, 1) := by decide +kernel
theorem dX12_baredOf_91 : decode cX12_baredOf 91 = .ok (.aload_n 0, 1) := by decide +kernel
theorem dX12_baredOf_92 : decode cX12_baredOf 92 = .ok (.getfield 49, 3) := by decide +kernel
theorem dX12_baredOf_95 : decode cX12_baredOf 95 = .ok (.iload_n 2, 1) := by decide +kernel
theorem dX12_baredOf_96 : decode cX12_baredOf 96 = .ok (.iaload, 1) := by decide +kernel
theorem dX12_baredOf_97 : decode cX12_baredOf 97 = .ok (.if_icmp .ne 8, 3) := by decide +kernel
theorem dX12_baredOf_105 : decode cX12_baredOf 105 = .ok (.iload 4, 2) := by decide +kernel
theorem dX12_baredOf_107 : decode cX12_baredOf 107 = .ok (.istore 4, 2) := by decide +kernel
theorem dX12_baredOf_100 : decode cX12_baredOf 100 = .ok (.iload 5, 2) := by decide +kernel
theorem dX12_baredOf_102 : decode cX12_baredOf 102 = .ok (.goto 5, 3) := by decide +kernel
theorem dX12_baredOf_75 : decode cX12_baredOf 75 = .ok (.goto 34, 3) := by decide +kernel
theorem dX12_baredOf_16 : decode cX12_baredOf 16 = .ok (.iload_n 3, 1) := by decide +kernel
theorem dX12_baredOf_17 : decode cX12_baredOf 17 = .ok (.aload_n 0, 1) := by decide +kernel
theorem dX12_baredOf_18 : decode cX12_baredOf 18 = .ok (.iload 4, 2) := by decide +kernel
theorem dX12_baredOf_20 : decode cX12_baredOf 20 = .ok (.invokevirtual 276, 3) := by decide +kernel
theorem dX12_baredOf_23 : decode cX12_baredOf 23 = .ok (.ifCond .le 10, 3) := by decide +kernel
theorem dX12_baredOf_33 : decode cX12_baredOf 33 = .ok (.iconst 0, 1) := by decide +kernel
theorem dX12_baredOf_34 : decode cX12_baredOf 34 = .ok (.ior, 1) := by decide +kernel
theorem dX12_baredOf_35 : decode cX12_baredOf 35 = .ok (.istore_n 3, 1) := by decide +kernel
theorem dX12_baredOf_36 : decode cX12_baredOf 36 = .ok (.iinc 4 1, 3) := by decide +kernel
theorem dX12_baredOf_39 : decode cX12_baredOf 39 = .ok (.goto (-34), 3) := by decide +kernel
theorem dX12_baredOf_26 : decode cX12_baredOf 26 = .ok (.iconst 1, 1) := by decide +kernel
theorem dX12_baredOf_27 : decode cX12_baredOf 27 = .ok (.iload 4, 2) := by decide +kernel
theorem dX12_baredOf_29 : decode cX12_baredOf 29 = .ok (.ishl, 1) := by decide +kernel
theorem dX12_baredOf_30 : decode cX12_baredOf 30 = .ok (.goto 4, 3) := by decide +kernel
theorem dX12_bares_0 : decode cX12_bares 0 = .ok (.aload_n 0, 1) := by decide +kernel
theorem dX12_bares_1 : decode cX12_bares 1 = .ok (.iload_n 1, 1) := by decide +kernel
theorem dX12_bares_2 : decode cX12_bares 2 = .ok (.iload_n 2, 1) := by decide +kernel
theorem dX12_bares_3 : decode cX12_bares 3 = .ok (.invokevirtual 394, 3) := by decide +kernel
theorem dX12_bares_6 : decode cX12_bares 6 = .ok (.ifCond .eq 15, 3) := by decide +kernel
theorem dX12_bares_21 : decode cX12_bares 21 = .ok (.bipush (-2), 2) := by decide +kernel
theorem dX12_bares_23 : decode cX12_bares 23 = .ok (.ireturn, 1) := by decide +kernel
theorem dX12_bares_9 : decode cX12_bares 9 = .ok (.aload_n 0, 1) := by decide +kernel
theorem dX12_bares_10 : decode cX12_bares 10 = .ok (.iload_n 1, 1) := by decide +kernel
theorem dX12_bares_11 : decode cX12_bares 11 = .ok (.iload_n 2, 1) := by decide +kernel
theorem dX12_bares_12 : decode cX12_bares 12 = .ok (.invokevirtual 403, 3) := by decide +kernel
theorem dX12_bares_15 : decode cX12_bares 15 = .ok (.invokestatic 316, 3) := by decide +kernel
theorem dX12_bares_18 : decode cX12_bares 18 = .ok (.goto 5, 3) := by decide +kernel
theorem dX12_bared_0 : decode cX12_bared 0 = .ok (.aload_n 0, 1) := by decide +kernel
theorem dX12_bared_1 : decode cX12_bared 1 = .ok (.iload_n 1, 1) := by decide +kernel
theorem dX12_bared_2 : decode cX12_bared 2 = .ok (.iload_n 2, 1) := by decide +kernel
theorem dX12_bared_3 : decode cX12_bared 3 = .ok (.invokevirtual 394, 3) := by decide +kernel
theorem dX12_bared_6 : decode cX12_bared 6 = .ok (.ifCond .eq 12, 3) := by decide +kernel
theorem dX12_bared_18 : decode cX12_bared 18 = .ok (.bipush (-2), 2) := by decide +kernel
theorem dX12_bared_20 : decode cX12_bared 20 = .ok (.ireturn, 1) := by decide +kernel
theorem dX12_bared_9 : decode cX12_bared 9 = .ok (.aload_n 0, 1) := by decide +kernel
theorem dX12_bared_10 : decode cX12_bared 10 = .ok (.iload_n 1, 1) := by decide +kernel
theorem dX12_bared_11 : decode cX12_bared 11 = .ok (.iload_n 2, 1) := by decide +kernel
theorem dX12_bared_12 : decode cX12_bared 12 = .ok (.invokevirtual 403, 3) := by decide +kernel
theorem dX12_bared_15 : decode cX12_bared 15 = .ok (.goto 5, 3) := by decide +kernel
theorem dX12_image_0 : decode cX12_image 0 = .ok (.iload_n 1, 1) := by decide +kernel
theorem dX12_image_1 : decode cX12_image 1 = .ok (.i2l, 1) := by decide +kernel
theorem dX12_image_2 : decode cX12_image 2 = .ok (.lconst 0, 1) := by decide +kernel
theorem dX12_image_3 : decode cX12_image 3 = .ok (.ldc2_w 113, 3) := by decide +kernel
theorem dX12_image_6 : decode cX12_image 6 = .ok (.invokestatic 115, 3) := by decide +kernel
theorem dX12_image_9 : decode cX12_image 9 = .ok (.ifCond .ne 6, 3) := by decide +kernel
theorem dX12_image_12 : decode cX12_image 12 = .ok (.bipush (-2), 2) := by decide +kernel
theorem dX12_image_14 : decode cX12_image 14 = .ok (.ireturn, 1) := by decide +kernel
theorem dX12_image_15 : decode cX12_image 15 = .ok (.iconst 0, 1) := by decide +kernel
theorem dX12_image_16 : decode cX12_image 16 = .ok (.istore_n 2, 1) := by decide +kernel
theorem dX12_image_17 : decode cX12_image 17 = .ok (.iload_n 2, 1) := by decide +kernel
theorem dX12_image_18 : decode cX12_image 18 = .ok (.sipush 262, 3) := by decide +kernel
theorem dX12_image_21 : decode cX12_image 21 = .ok (.if_icmp .ge 27, 3) := by decide +kernel
theorem dX12_image_48 : decode cX12_image 48 = .ok (.aload_n 0, 1) := by decide +kernel
theorem dX12_image_49 : decode cX12_image 49 = .ok (.getfield 16, 3) := by decide +kernel
theorem dX12_image_52 : decode cX12_image 52 = .ok (.iload_n 1, 1) := by decide +kernel
theorem dX12_image_53 : decode cX12_image 53 = .ok (.iconst 1, 1) := by decide +kernel
theorem dX12_image_54 : decode cX12_image 54 = .ok (.bastore, 1) := by decide +kernel
theorem dX12_image_55 : decode cX12_image 55 = .ok (.iconst 0, 1) := by decide +kernel
theorem dX12_image_56 : decode cX12_image 56 = .ok (.ireturn, 1) := by decide +kernel
theorem dX12_image_24 : decode cX12_image 24 = .ok (.aload_n 0, 1) := by decide +kernel
theorem dX12_image_25 : decode cX12_image 25 = .ok (.getfield 13, 3) := by decide +kernel
theorem dX12_image_28 : decode cX12_image 28 = .ok (.sipush 262, 3) := by decide +kernel
theorem dX12_image_31 : decode cX12_image 31 = .ok (.iload_n 1, 1) := by decide +kernel
theorem dX12_image_32 : decode cX12_image 32 = .ok (.imul, 1) := by decide +kernel
theorem dX12_image_33 : decode cX12_image 33 = .ok (.iload_n 2, 1) := by decide +kernel
theorem dX12_image_34 : decode cX12_image 34 = .ok (.iadd, 1) := by decide +kernel
theorem dX12_image_35 : decode cX12_image 35 = .ok (.aload_n 0, 1) := by decide +kernel
theorem dX12_image_36 : decode cX12_image 36 = .ok (.getfield 9, 3) := by decide +kernel
theorem dX12_image_39 : decode cX12_image 39 = .ok (.iload_n 2, 1) := by decide +kernel
theorem dX12_image_40 : decode cX12_image 40 = .ok (.iaload, 1) := by decide +kernel
theorem dX12_image_41 : decode cX12_image 41 = .ok (.iastore, 1) := by decide +kernel
theorem dX12_image_42 : decode cX12_image 42 = .ok (.iinc 2 1, 3) := by decide +kernel
theorem dX12_image_45 : decode cX12_image 45 = .ok (.goto (-28), 3) := by decide +kernel
theorem dX12_back_0 : decode cX12_back 0 = .ok (.iload_n 1, 1) := by decide +kernel
theorem dX12_back_1 : decode cX12_back 1 = .ok (.i2l, 1) := by decide +kernel
theorem dX12_back_2 : decode cX12_back 2 = .ok (.lconst 0, 1) := by decide +kernel
theorem dX12_back_3 : decode cX12_back 3 = .ok (.ldc2_w 113, 3) := by decide +kernel
theorem dX12_back_6 : decode cX12_back 6 = .ok (.invokestatic 115, 3) := by decide +kernel
theorem dX12_back_9 : decode cX12_back 9 = .ok (.ifCond .ne 6, 3) := by decide +kernel
theorem dX12_back_12 : decode cX12_back 12 = .ok (.bipush (-2), 2) := by decide +kernel
theorem dX12_back_14 : decode cX12_back 14 = .ok (.ireturn, 1) := by decide +kernel
theorem dX12_back_15 : decode cX12_back 15 = .ok (.aload_n 0, 1) := by decide +kernel
theorem dX12_back_16 : decode cX12_back 16 = .ok (.getfield 16, 3) := by decide +kernel
theorem dX12_back_19 : decode cX12_back 19 = .ok (.iload_n 1, 1) := by decide +kernel
theorem dX12_back_20 : decode cX12_back 20 = .ok (.baload, 1) := by decide +kernel
theorem dX12_back_21 : decode cX12_back 21 = .ok (.ifCond .ne 6, 3) := by decide +kernel
theorem dX12_back_27 : decode cX12_back 27 = .ok (.iconst 0, 1) := by decide +kernel
theorem dX12_back_28 : decode cX12_back 28 = .ok (.istore_n 2, 1) := by decide +kernel
theorem dX12_back_29 : decode cX12_back 29 = .ok (.iload_n 2, 1) := by decide +kernel
theorem dX12_back_30 : decode cX12_back 30 = .ok (.sipush 262, 3) := by decide +kernel
theorem dX12_back_33 : decode cX12_back 33 = .ok (.if_icmp .ge 27, 3) := by decide +kernel
theorem dX12_back_60 : decode cX12_back 60 = .ok (.iconst 0, 1) := by decide +kernel
theorem dX12_back_61 : decode cX12_back 61 = .ok (.ireturn, 1) := by decide +kernel
theorem dX12_back_36 : decode cX12_back 36 = .ok (.aload_n 0, 1) := by decide +kernel
theorem dX12_back_37 : decode cX12_back 37 = .ok (.getfield 9, 3) := by decide +kernel
theorem dX12_back_40 : decode cX12_back 40 = .ok (.iload_n 2, 1) := by decide +kernel
theorem dX12_back_41 : decode cX12_back 41 = .ok (.aload_n 0, 1) := by decide +kernel
theorem dX12_back_42 : decode cX12_back 42 = .ok (.getfield 13, 3) := by decide +kernel
theorem dX12_back_45 : decode cX12_back 45 = .ok (.sipush 262, 3) := by decide +kernel
theorem dX12_back_48 : decode cX12_back 48 = .ok (.iload_n 1, 1) := by decide +kernel
theorem dX12_back_49 : decode cX12_back 49 = .ok (.imul, 1) := by decide +kernel
theorem dX12_back_50 : decode cX12_back 50 = .ok (.iload_n 2, 1) := by decide +kernel
theorem dX12_back_51 : decode cX12_back 51 = .ok (.iadd, 1) := by decide +kernel
theorem dX12_back_52 : decode cX12_back 52 = .ok (.iaload, 1) := by decide +kernel
theorem dX12_back_53 : decode cX12_back 53 = .ok (.iastore, 1) := by decide +kernel
theorem dX12_back_54 : decode cX12_back 54 = .ok (.iinc 2 1, 3) := by decide +kernel
theorem dX12_back_57 : decode cX12_back 57 = .ok (.goto (-28), 3) := by decide +kernel
theorem dX12_back_24 : decode cX12_back 24 = .ok (.bipush (-6), 2) := by decide +kernel
theorem dX12_back_26 : decode cX12_back 26 = .ok (.ireturn, 1) := by decide +kernel
