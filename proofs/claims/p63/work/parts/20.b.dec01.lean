theorem dX4_takeLine_18 : decode cX4_takeLine 18 = .ok (.invokevirtual 83, 3) := by decide +kernel
theorem dX4_takeLine_21 : decode cX4_takeLine 21 = .ok (.ifCond .eq 8, 3) := by decide +kernel
theorem dX4_takeLine_29 : decode cX4_takeLine 29 = .ok (.aload_n 0, 1) := by decide +kernel
theorem dX4_takeLine_30 : decode cX4_takeLine 30 = .ok (.ldc 110, 2) := by decide +kernel
theorem dX4_takeLine_32 : decode cX4_takeLine 32 = .ok (.invokevirtual 83, 3) := by decide +kernel
theorem dX4_takeLine_35 : decode cX4_takeLine 35 = .ok (.ifCond .eq 8, 3) := by decide +kernel
theorem dX4_takeLine_43 : decode cX4_takeLine 43 = .ok (.aload_n 0, 1) := by decide +kernel
theorem dX4_takeLine_44 : decode cX4_takeLine 44 = .ok (.ldc 115, 2) := by decide +kernel
theorem dX4_takeLine_46 : decode cX4_takeLine 46 = .ok (.invokevirtual 83, 3) := by decide +kernel
theorem dX4_takeLine_49 : decode cX4_takeLine 49 = .ok (.ifCond .eq 8, 3) := by decide +kernel
theorem dX4_takeLine_57 : decode cX4_takeLine 57 = .ok (.aload_n 0, 1) := by decide +kernel
theorem dX4_takeLine_58 : decode cX4_takeLine 58 = .ok (.ldc 120, 2) := by decide +kernel
theorem dX4_takeLine_60 : decode cX4_takeLine 60 = .ok (.invokevirtual 83, 3) := by decide +kernel
theorem dX4_takeLine_63 : decode cX4_takeLine 63 = .ok (.ifCond .eq 8, 3) := by decide +kernel
theorem dX4_takeLine_71 : decode cX4_takeLine 71 = .ok (.aload_n 0, 1) := by decide +kernel
theorem dX4_takeLine_72 : decode cX4_takeLine 72 = .ok (.iconst 1, 1) := by decide +kernel
theorem dX4_takeLine_73 : decode cX4_takeLine 73 = .ok (.invokevirtual 87, 3) := by decide +kernel
theorem dX4_takeLine_76 : decode cX4_takeLine 76 = .ok (.ireturn, 1) := by decide +kernel
theorem dX4_takeLine_66 : decode cX4_takeLine 66 = .ok (.aload_n 0, 1) := by decide +kernel
theorem dX4_takeLine_67 : decode cX4_takeLine 67 = .ok (.invokevirtual 122, 3) := by decide +kernel
theorem dX4_takeLine_70 : decode cX4_takeLine 70 = .ok (.ireturn, 1) := by decide +kernel
theorem dX4_takeLine_52 : decode cX4_takeLine 52 = .ok (.aload_n 0, 1) := by decide +kernel
theorem dX4_takeLine_53 : decode cX4_takeLine 53 = .ok (.invokevirtual 117, 3) := by decide +kernel
theorem dX4_takeLine_56 : decode cX4_takeLine 56 = .ok (.ireturn, 1) := by decide +kernel
theorem dX4_takeLine_38 : decode cX4_takeLine 38 = .ok (.aload_n 0, 1) := by decide +kernel
theorem dX4_takeLine_39 : decode cX4_takeLine 39 = .ok (.invokevirtual 112, 3) := by decide +kernel
theorem dX4_takeLine_42 : decode cX4_takeLine 42 = .ok (.ireturn, 1) := by decide +kernel
theorem dX4_takeLine_24 : decode cX4_takeLine 24 = .ok (.aload_n 0, 1) := by decide +kernel
theorem dX4_takeLine_25 : decode cX4_takeLine 25 = .ok (.invokevirtual 107, 3) := by decide +kernel
theorem dX4_takeLine_28 : decode cX4_takeLine 28 = .ok (.ireturn, 1) := by decide +kernel
theorem dX4_takeLine_10 : decode cX4_takeLine 10 = .ok (.aload_n 0, 1) := by decide +kernel
theorem dX4_takeLine_11 : decode cX4_takeLine 11 = .ok (.invokevirtual 102, 3) := by decide +kernel
theorem dX4_takeLine_14 : decode cX4_takeLine 14 = .ok (.ireturn, 1) := by decide +kernel
theorem dX4_parse_0 : decode cX4_parse 0 = .ok (.aload_n 0, 1) := by decide +kernel
theorem dX4_parse_1 : decode cX4_parse 1 = .ok (.getfield 22, 3) := by decide +kernel
theorem dX4_parse_4 : decode cX4_parse 4 = .ok (.invokevirtual 29, 3) := by decide +kernel
theorem dX4_parse_7 : decode cX4_parse 7 = .ok (.aload_n 0, 1) := by decide +kernel
theorem dX4_parse_8 : decode cX4_parse 8 = .ok (.iconst 0, 1) := by decide +kernel
theorem dX4_parse_9 : decode cX4_parse 9 = .ok (.putfield 32, 3) := by decide +kernel
theorem dX4_parse_12 : decode cX4_parse 12 = .ok (.aload_n 0, 1) := by decide +kernel
theorem dX4_parse_13 : decode cX4_parse 13 = .ok (.iconst (-1), 1) := by decide +kernel
theorem dX4_parse_14 : decode cX4_parse 14 = .ok (.putfield 15, 3) := by decide +kernel
theorem dX4_parse_17 : decode cX4_parse 17 = .ok (.aload_n 0, 1) := by decide +kernel
theorem dX4_parse_18 : decode cX4_parse 18 = .ok (.iconst 0, 1) := by decide +kernel
theorem dX4_parse_19 : decode cX4_parse 19 = .ok (.putfield 35, 3) := by decide +kernel
theorem dX4_parse_22 : decode cX4_parse 22 = .ok (.aload_n 0, 1) := by decide +kernel
theorem dX4_parse_23 : decode cX4_parse 23 = .ok (.invokevirtual 38, 3) := by decide +kernel
theorem dX4_parse_26 : decode cX4_parse 26 = .ok (.iconst 0, 1) := by decide +kernel
theorem dX4_parse_27 : decode cX4_parse 27 = .ok (.istore_n 1, 1) := by decide +kernel
theorem dX4_parse_28 : decode cX4_parse 28 = .ok (.iload_n 1, 1) := by decide +kernel
theorem dX4_parse_29 : decode cX4_parse 29 = .ok (.sipush 1000, 3) := by decide +kernel
theorem dX4_parse_32 : decode cX4_parse 32 = .ok (.if_icmp .gt 43, 3) := by decide +kernel
theorem dX4_parse_75 : decode cX4_parse 75 = .ok (.aload_n 0, 1) := by decide +kernel
theorem dX4_parse_76 : decode cX4_parse 76 = .ok (.getfield 32, 3) := by decide +kernel
theorem dX4_parse_79 : decode cX4_parse 79 = .ok (.ifCond .ne 7, 3) := by decide +kernel
theorem dX4_parse_86 : decode cX4_parse 86 = .ok (.iconst 0, 1) := by decide +kernel
theorem dX4_parse_87 : decode cX4_parse 87 = .ok (.ireturn, 1) := by decide +kernel
theorem dX4_parse_82 : decode cX4_parse 82 = .ok (.iconst 1, 1) := by decide +kernel
theorem dX4_parse_83 : decode cX4_parse 83 = .ok (.goto 4, 3) := by decide +kernel
theorem dX4_parse_35 : decode cX4_parse 35 = .ok (.aload_n 0, 1) := by decide +kernel
theorem dX4_parse_36 : decode cX4_parse 36 = .ok (.getfield 41, 3) := by decide +kernel
theorem dX4_parse_39 : decode cX4_parse 39 = .ok (.ifCond .eq 36, 3) := by decide +kernel
theorem dX4_parse_42 : decode cX4_parse 42 = .ok (.aload_n 0, 1) := by decide +kernel
theorem dX4_parse_43 : decode cX4_parse 43 = .ok (.invokevirtual 44, 3) := by decide +kernel
theorem dX4_parse_46 : decode cX4_parse 46 = .ok (.ifCond .eq 29, 3) := by decide +kernel
theorem dX4_parse_49 : decode cX4_parse 49 = .ok (.aload_n 0, 1) := by decide +kernel
theorem dX4_parse_50 : decode cX4_parse 50 = .ok (.invokevirtual 48, 3) := by decide +kernel
theorem dX4_parse_53 : decode cX4_parse 53 = .ok (.ifCond .eq 22, 3) := by decide +kernel
theorem dX4_parse_56 : decode cX4_parse 56 = .ok (.aload_n 0, 1) := by decide +kernel
theorem dX4_parse_57 : decode cX4_parse 57 = .ok (.getfield 22, 3) := by decide +kernel
theorem dX4_parse_60 : decode cX4_parse 60 = .ok (.dup, 1) := by decide +kernel
theorem dX4_parse_61 : decode cX4_parse 61 = .ok (.getfield 51, 3) := by decide +kernel
theorem dX4_parse_64 : decode cX4_parse 64 = .ok (.iconst 1, 1) := by decide +kernel
theorem dX4_parse_65 : decode cX4_parse 65 = .ok (.iadd, 1) := by decide +kernel
theorem dX4_parse_66 : decode cX4_parse 66 = .ok (.putfield 51, 3) := by decide +kernel
theorem dX4_parse_69 : decode cX4_parse 69 = .ok (.iinc 1 1, 3) := by decide +kernel
theorem dX4_parse_72 : decode cX4_parse 72 = .ok (.goto (-44), 3) := by decide +kernel
