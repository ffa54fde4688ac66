theorem dX12_is_0 : decode cX12_is 0 = .ok (.aload_n 0, 1) := by decide +kernel
theorem dX12_is_1 : decode cX12_is 1 = .ok (.invokevirtual 173, 3) := by decide +kernel
theorem dX12_is_4 : decode cX12_is 4 = .ok (.ifCond .eq 31, 3) := by decide +kernel
theorem dX12_is_7 : decode cX12_is 7 = .ok (.aload_n 0, 1) := by decide +kernel
theorem dX12_is_8 : decode cX12_is 8 = .ok (.getfield 149, 3) := by decide +kernel
theorem dX12_is_11 : decode cX12_is 11 = .ok (.iconst 1, 1) := by decide +kernel
theorem dX12_is_12 : decode cX12_is 12 = .ok (.if_icmp .ne 23, 3) := by decide +kernel
theorem dX12_is_35 : decode cX12_is 35 = .ok (.iconst 0, 1) := by decide +kernel
theorem dX12_is_36 : decode cX12_is 36 = .ok (.istore_n 2, 1) := by decide +kernel
theorem dX12_is_37 : decode cX12_is 37 = .ok (.iconst 0, 1) := by decide +kernel
theorem dX12_is_38 : decode cX12_is 38 = .ok (.istore_n 3, 1) := by decide +kernel
theorem dX12_is_39 : decode cX12_is 39 = .ok (.iload_n 3, 1) := by decide +kernel
theorem dX12_is_40 : decode cX12_is 40 = .ok (.aload_n 1, 1) := by decide +kernel
theorem dX12_is_41 : decode cX12_is 41 = .ok (.invokevirtual 176, 3) := by decide +kernel
theorem dX12_is_44 : decode cX12_is 44 = .ok (.if_icmp .ge 38, 3) := by decide +kernel
theorem dX12_is_82 : decode cX12_is 82 = .ok (.iload_n 2, 1) := by decide +kernel
theorem dX12_is_83 : decode cX12_is 83 = .ok (.ireturn, 1) := by decide +kernel
theorem dX12_is_47 : decode cX12_is 47 = .ok (.iload_n 2, 1) := by decide +kernel
theorem dX12_is_48 : decode cX12_is 48 = .ok (.ifCond .eq 34, 3) := by decide +kernel
theorem dX12_is_51 : decode cX12_is 51 = .ok (.aload_n 0, 1) := by decide +kernel
theorem dX12_is_52 : decode cX12_is 52 = .ok (.getfield 20, 3) := by decide +kernel
theorem dX12_is_55 : decode cX12_is 55 = .ok (.aload_n 0, 1) := by decide +kernel
theorem dX12_is_56 : decode cX12_is 56 = .ok (.getfield 146, 3) := by decide +kernel
theorem dX12_is_59 : decode cX12_is 59 = .ok (.iload_n 3, 1) := by decide +kernel
theorem dX12_is_60 : decode cX12_is 60 = .ok (.iadd, 1) := by decide +kernel
theorem dX12_is_61 : decode cX12_is 61 = .ok (.baload, 1) := by decide +kernel
theorem dX12_is_62 : decode cX12_is 62 = .ok (.aload_n 1, 1) := by decide +kernel
theorem dX12_is_63 : decode cX12_is 63 = .ok (.iload_n 3, 1) := by decide +kernel
theorem dX12_is_64 : decode cX12_is 64 = .ok (.invokevirtual 181, 3) := by decide +kernel
theorem dX12_is_67 : decode cX12_is 67 = .ok (.if_icmp .ne 7, 3) := by decide +kernel
theorem dX12_is_74 : decode cX12_is 74 = .ok (.iconst 0, 1) := by decide +kernel
theorem dX12_is_75 : decode cX12_is 75 = .ok (.istore_n 2, 1) := by decide +kernel
theorem dX12_is_76 : decode cX12_is 76 = .ok (.iinc 3 1, 3) := by decide +kernel
theorem dX12_is_79 : decode cX12_is 79 = .ok (.goto (-40), 3) := by decide +kernel
theorem dX12_is_70 : decode cX12_is 70 = .ok (.iconst 1, 1) := by decide +kernel
theorem dX12_is_71 : decode cX12_is 71 = .ok (.goto 4, 3) := by decide +kernel
theorem dX12_is_15 : decode cX12_is 15 = .ok (.aload_n 0, 1) := by decide +kernel
theorem dX12_is_16 : decode cX12_is 16 = .ok (.getfield 139, 3) := by decide +kernel
theorem dX12_is_19 : decode cX12_is 19 = .ok (.aload_n 0, 1) := by decide +kernel
theorem dX12_is_20 : decode cX12_is 20 = .ok (.getfield 146, 3) := by decide +kernel
theorem dX12_is_23 : decode cX12_is 23 = .ok (.isub, 1) := by decide +kernel
theorem dX12_is_24 : decode cX12_is 24 = .ok (.aload_n 1, 1) := by decide +kernel
theorem dX12_is_25 : decode cX12_is 25 = .ok (.invokevirtual 176, 3) := by decide +kernel
theorem dX12_is_28 : decode cX12_is 28 = .ok (.if_icmp .ne 7, 3) := by decide +kernel
theorem dX12_is_31 : decode cX12_is 31 = .ok (.iconst 1, 1) := by decide +kernel
theorem dX12_is_32 : decode cX12_is 32 = .ok (.goto 4, 3) := by decide +kernel
theorem dX12_takes_0 : decode cX12_takes 0 = .ok (.aload_n 0, 1) := by decide +kernel
theorem dX12_takes_1 : decode cX12_takes 1 = .ok (.aload_n 1, 1) := by decide +kernel
theorem dX12_takes_2 : decode cX12_takes 2 = .ok (.invokevirtual 185, 3) := by decide +kernel
theorem dX12_takes_5 : decode cX12_takes 5 = .ok (.istore_n 2, 1) := by decide +kernel
theorem dX12_takes_6 : decode cX12_takes 6 = .ok (.iload_n 2, 1) := by decide +kernel
theorem dX12_takes_7 : decode cX12_takes 7 = .ok (.ifCond .eq 7, 3) := by decide +kernel
theorem dX12_takes_14 : decode cX12_takes 14 = .ok (.iload_n 2, 1) := by decide +kernel
theorem dX12_takes_15 : decode cX12_takes 15 = .ok (.ireturn, 1) := by decide +kernel
theorem dX12_takes_10 : decode cX12_takes 10 = .ok (.aload_n 0, 1) := by decide +kernel
theorem dX12_takes_11 : decode cX12_takes 11 = .ok (.invokevirtual 189, 3) := by decide +kernel
theorem dX12_needs_0 : decode cX12_needs 0 = .ok (.aload_n 0, 1) := by decide +kernel
theorem dX12_needs_1 : decode cX12_needs 1 = .ok (.aload_n 1, 1) := by decide +kernel
theorem dX12_needs_2 : decode cX12_needs 2 = .ok (.invokevirtual 192, 3) := by decide +kernel
theorem dX12_needs_5 : decode cX12_needs 5 = .ok (.ifCond .ne 8, 3) := by decide +kernel
theorem dX12_needs_8 : decode cX12_needs 8 = .ok (.aload_n 0, 1) := by decide +kernel
theorem dX12_needs_9 : decode cX12_needs 9 = .ok (.iconst 1, 1) := by decide +kernel
theorem dX12_needs_10 : decode cX12_needs 10 = .ok (.invokevirtual 195, 3) := by decide +kernel
theorem dX12_needs_13 : decode cX12_needs 13 = .ok (.return_, 1) := by decide +kernel
theorem dX12_number_0 : decode cX12_number 0 = .ok (.aload_n 0, 1) := by decide +kernel
theorem dX12_number_1 : decode cX12_number 1 = .ok (.invokevirtual 173, 3) := by decide +kernel
theorem dX12_number_4 : decode cX12_number 4 = .ok (.ifCond .eq 16, 3) := by decide +kernel
theorem dX12_number_7 : decode cX12_number 7 = .ok (.aload_n 0, 1) := by decide +kernel
theorem dX12_number_8 : decode cX12_number 8 = .ok (.getfield 149, 3) := by decide +kernel
theorem dX12_number_11 : decode cX12_number 11 = .ok (.iconst 2, 1) := by decide +kernel
theorem dX12_number_12 : decode cX12_number 12 = .ok (.if_icmp .eq 8, 3) := by decide +kernel
theorem dX12_number_20 : decode cX12_number 20 = .ok (.aload_n 0, 1) := by decide +kernel
theorem dX12_number_21 : decode cX12_number 21 = .ok (.invokevirtual 173, 3) := by decide +kernel
theorem dX12_number_24 : decode cX12_number 24 = .ok (.ifCond .eq 23, 3) := by decide +kernel
theorem dX12_number_27 : decode cX12_number 27 = .ok (.aload_n 0, 1) := by decide +kernel
theorem dX12_number_28 : decode cX12_number 28 = .ok (.getfield 160, 3) := by decide +kernel
theorem dX12_number_31 : decode cX12_number 31 = .ok (.i2l, 1) := by decide +kernel
theorem dX12_number_32 : decode cX12_number 32 = .ok (.iload_n 1, 1) := by decide +kernel
theorem dX12_number_33 : decode cX12_number 33 = .ok (.i2l, 1) := by decide +kernel
theorem dX12_number_34 : decode cX12_number 34 = .ok (.iload_n 2, 1) := by decide +kernel
theorem dX12_number_35 : decode cX12_number 35 = .ok (.i2l, 1) := by decide +kernel
theorem dX12_number_36 : decode cX12_number 36 = .ok (.invokestatic 115, 3) := by decide +kernel
theorem dX12_number_39 : decode cX12_number 39 = .ok (.ifCond .ne 8, 3) := by decide +kernel
theorem dX12_number_42 : decode cX12_number 42 = .ok (.aload_n 0, 1) := by decide +kernel
theorem dX12_number_43 : decode cX12_number 43 = .ok (.iconst 2, 1) := by decide +kernel
theorem dX12_number_44 : decode cX12_number 44 = .ok (.invokevirtual 195, 3) := by decide +kernel
theorem dX12_number_47 : decode cX12_number 47 = .ok (.aload_n 0, 1) := by decide +kernel
theorem dX12_number_48 : decode cX12_number 48 = .ok (.invokevirtual 173, 3) := by decide +kernel
theorem dX12_number_51 : decode cX12_number 51 = .ok (.ifCond .ne 5, 3) := by decide +kernel
theorem dX12_number_56 : decode cX12_number 56 = .ok (.aload_n 0, 1) := by decide +kernel
theorem dX12_number_57 : decode cX12_number 57 = .ok (.getfield 160, 3) := by decide +kernel
theorem dX12_number_60 : decode cX12_number 60 = .ok (.istore_n 3, 1) := by decide +kernel
theorem dX12_number_61 : decode cX12_number 61 = .ok (.aload_n 0, 1) := by decide +kernel
theorem dX12_number_62 : decode cX12_number 62 = .ok (.invokevirtual 189, 3) := by decide +kernel
theorem dX12_number_65 : decode cX12_number 65 = .ok (.iload_n 3, 1) := by decide +kernel
theorem dX12_number_66 : decode cX12_number 66 = .ok (.ireturn, 1) := by decide +kernel
theorem dX12_number_54 : decode cX12_number 54 = .ok (.iconst 0, 1) := by decide +kernel
theorem dX12_number_55 : decode cX12_number 55 = .ok (.ireturn, 1) := by decide +kernel
theorem dX12_number_15 : decode cX12_number 15 = .ok (.aload_n 0, 1) := by decide +kernel
theorem dX12_number_16 : decode cX12_number 16 = .ok (.iconst 1, 1) := by decide +kernel
theorem dX12_number_17 : decode cX12_number 17 = .ok (.invokevirtual 195, 3) := by decide +kernel
theorem dX12_told_0 : decode cX12_told 0 = .ok (.aload_n 0, 1) := by decide +kernel
theorem dX12_told_1 : decode cX12_told 1 = .ok (.aload_n 1, 1) := by decide +kernel
theorem dX12_told_2 : decode cX12_told 2 = .ok (.invokevirtual 199, 3) := by decide +kernel
theorem dX12_told_5 : decode cX12_told 5 = .ok (.aload_n 0, 1) := by decide +kernel
theorem dX12_told_6 : decode cX12_told 6 = .ok (.iload_n 2, 1) := by decide +kernel
theorem dX12_told_7 : decode cX12_told 7 = .ok (.iload_n 3, 1) := by decide +kernel
theorem dX12_told_8 : decode cX12_told 8 = .ok (.invokevirtual 203, 3) := by decide +kernel
theorem dX12_told_11 : decode cX12_told 11 = .ok (.ireturn, 1) := by decide +kernel
theorem dX12_freshPlace_0 : decode cX12_freshPlace 0 = .ok (.aload_n 0, 1) := by decide +kernel
theorem dX12_freshPlace_1 : decode cX12_freshPlace 1 = .ok (.iconst 0, 1) := by decide +kernel
theorem dX12_freshPlace_2 : decode cX12_freshPlace 2 = .ok (.aload_n 0, 1) := by decide +kernel
theorem dX12_freshPlace_3 : decode cX12_freshPlace 3 = .ok (.getfield 31, 3) := by decide +kernel
theorem dX12_freshPlace_6 : decode cX12_freshPlace 6 = .ok (.iconst 0, 1) := by decide +kernel
theorem dX12_freshPlace_7 : decode cX12_freshPlace 7 = .ok (.iaload, 1) := by decide +kernel
theorem dX12_freshPlace_8 : decode cX12_freshPlace 8 = .ok (.iconst 1, 1) := by decide +kernel
theorem dX12_freshPlace_9 : decode cX12_freshPlace 9 = .ok (.isub, 1) := by decide +kernel
theorem dX12_freshPlace_10 : decode cX12_freshPlace 10 = .ok (.invokevirtual 203, 3) := by decide +kernel
theorem dX12_freshPlace_13 : decode cX12_freshPlace 13 = .ok (.ireturn, 1) := by decide +kernel
theorem dX12_freshWind_0 : decode cX12_freshWind 0 = .ok (.aload_n 0, 1) := by decide +kernel
theorem dX12_freshWind_1 : decode cX12_freshWind 1 = .ok (.ldc 206, 2) := by decide +kernel
theorem dX12_freshWind_3 : decode cX12_freshWind 3 = .ok (.invokevirtual 192, 3) := by decide +kernel
theorem dX12_freshWind_6 : decode cX12_freshWind 6 = .ok (.ifCond .eq 5, 3) := by decide +kernel
theorem dX12_freshWind_11 : decode cX12_freshWind 11 = .ok (.aload_n 0, 1) := by decide +kernel
theorem dX12_freshWind_12 : decode cX12_freshWind 12 = .ok (.ldc 208, 2) := by decide +kernel
theorem dX12_freshWind_14 : decode cX12_freshWind 14 = .ok (.invokevirtual 192, 3) := by decide +kernel
theorem dX12_freshWind_17 : decode cX12_freshWind 17 = .ok (.ifCond .eq 5, 3) := by decide +kernel
theorem dX12_freshWind_22 : decode cX12_freshWind 22 = .ok (.aload_n 0, 1) := by decide +kernel
theorem dX12_freshWind_23 : decode cX12_freshWind 23 = .ok (.ldc 210, 2) := by decide +kernel
theorem dX12_freshWind_25 : decode cX12_freshWind 25 = .ok (.invokevirtual 192, 3) := by decide +kernel
theorem dX12_freshWind_28 : decode cX12_freshWind 28 = .ok (.ifCond .eq 5, 3) := by decide +kernel
theorem dX12_freshWind_33 : decode cX12_freshWind 33 = .ok (.aload_n 0, 1) := by decide +kernel
theorem dX12_freshWind_34 : decode cX12_freshWind 34 = .ok (.ldc 212, 2) := by decide +kernel
theorem dX12_freshWind_36 : decode cX12_freshWind 36 = .ok (.invokevirtual 199, 3) := by decide +kernel
theorem dX12_freshWind_39 : decode cX12_freshWind 39 = .ok (.iconst 3, 1) := by decide +kernel
theorem dX12_freshWind_40 : decode cX12_freshWind 40 = .ok (.ireturn, 1) := by decide +kernel
theorem dX12_freshWind_31 : decode cX12_freshWind 31 = .ok (.iconst 2, 1) := by decide +kernel
theorem dX12_freshWind_32 : decode cX12_freshWind 32 = .ok (.ireturn, 1) := by decide +kernel
theorem dX12_freshWind_20 : decode cX12_freshWind 20 = .ok (.iconst 1, 1) := by decide +kernel
theorem dX12_freshWind_21 : decode cX12_freshWind 21 = .ok (.ireturn, 1) := by decide +kernel
theorem dX12_freshWind_9 : decode cX12_freshWind 9 = .ok (.iconst 0, 1) := by decide +kernel
theorem dX12_freshWind_10 : decode cX12_freshWind 10 = .ok (.ireturn, 1) := by decide +kernel
theorem dX12_readFirst_0 : decode cX12_readFirst 0 = .ok (.aload_n 0, 1) := by decide +kernel
theorem dX12_readFirst_1 : decode cX12_readFirst 1 = .ok (.ldc 214, 2) := by decide +kernel
theorem dX12_readFirst_3 : decode cX12_readFirst 3 = .ok (.invokevirtual 199, 3) := by decide +kernel
theorem dX12_readFirst_6 : decode cX12_readFirst 6 = .ok (.aload_n 0, 1) := by decide +kernel
theorem dX12_readFirst_7 : decode cX12_readFirst 7 = .ok (.getfield 31, 3) := by decide +kernel
theorem dX12_readFirst_10 : decode cX12_readFirst 10 = .ok (.iconst 0, 1) := by decide +kernel
theorem dX12_readFirst_11 : decode cX12_readFirst 11 = .ok (.aload_n 0, 1) := by decide +kernel
theorem dX12_readFirst_12 : decode cX12_readFirst 12 = .ok (.ldc 216, 2) := by decide +kernel
theorem dX12_readFirst_14 : decode cX12_readFirst 14 = .ok (.iconst 2, 1) := by decide +kernel
theorem dX12_readFirst_15 : decode cX12_readFirst 15 = .ok (.bipush 10, 2) := by decide +kernel
theorem dX12_readFirst_17 : decode cX12_readFirst 17 = .ok (.invokevirtual 218, 3) := by decide +kernel
theorem dX12_readFirst_20 : decode cX12_readFirst 20 = .ok (.iastore, 1) := by decide +kernel
theorem dX12_readFirst_21 : decode cX12_readFirst 21 = .ok (.iconst 0, 1) := by decide +kernel
theorem dX12_readFirst_22 : decode cX12_readFirst 22 = .ok (.istore_n 1, 1) := by decide +kernel
theorem dX12_readFirst_23 : decode cX12_readFirst 23 = .ok (.iload_n 1, 1) := by decide +kernel
theorem dX12_readFirst_24 : decode cX12_readFirst 24 = .ok (.bipush 10, 2) := by decide +kernel
theorem dX12_readFirst_26 : decode cX12_readFirst 26 = .ok (.if_icmp .ge 35, 3) := by decide +kernel
theorem dX12_readFirst_61 : decode cX12_readFirst 61 = .ok (.return_, 1) := by decide +kernel
theorem dX12_readFirst_29 : decode cX12_readFirst 29 = .ok (.iconst 0, 1) := by decide +kernel
theorem dX12_readFirst_30 : decode cX12_readFirst 30 = .ok (.istore_n 2, 1) := by decide +kernel
theorem dX12_readFirst_31 : decode cX12_readFirst 31 = .ok (.iload_n 2, 1) := by decide +kernel
theorem dX12_readFirst_32 : decode cX12_readFirst 32 = .ok (.iconst 4, 1) := by decide +kernel
theorem dX12_readFirst_33 : decode cX12_readFirst 33 = .ok (.if_icmp .ge 22, 3) := by decide +kernel
theorem dX12_readFirst_55 : decode cX12_readFirst 55 = .ok (.iinc 1 1, 3) := by decide +kernel
theorem dX12_readFirst_58 : decode cX12_readFirst 58 = .ok (.goto (-35), 3) := by decide +kernel
theorem dX12_readFirst_36 : decode cX12_readFirst 36 = .ok (.aload_n 0, 1) := by decide +kernel
theorem dX12_readFirst_37 : decode cX12_readFirst 37 = .ok (.getfield 31, 3) := by decide +kernel
theorem dX12_readFirst_40 : decode cX12_readFirst 40 = .ok (.iconst 5, 1) := by decide +kernel
theorem dX12_readFirst_41 : decode cX12_readFirst 41 = .ok (.iconst 4, 1) := by decide +kernel
theorem dX12_readFirst_42 : decode cX12_readFirst 42 = .ok (.iload_n 1, 1) := by decide +kernel
theorem dX12_readFirst_43 : decode cX12_readFirst 43 = .ok (.imul, 1) := by decide +kernel
theorem dX12_readFirst_44 : decode cX12_readFirst 44 = .ok (.iadd, 1) := by decide +kernel
theorem dX12_readFirst_45 : decode cX12_readFirst 45 = .ok (.iload_n 2, 1) := by decide +kernel
theorem dX12_readFirst_46 : decode cX12_readFirst 46 = .ok (.iadd, 1) := by decide +kernel
theorem dX12_readFirst_47 : decode cX12_readFirst 47 = .ok (.iload_n 1, 1) := by decide +kernel
theorem dX12_readFirst_48 : decode cX12_readFirst 48 = .ok (.iastore, 1) := by decide +kernel
theorem dX12_readFirst_49 : decode cX12_readFirst 49 = .ok (.iinc 2 1, 3) := by decide +kernel
theorem dX12_readFirst_52 : decode cX12_readFirst 52 = .ok (.goto (-21), 3) := by decide +kernel
theorem dX12_readWay_0 : decode cX12_readWay 0 = .ok (.aload_n 0, 1) := by decide +kernel
theorem dX12_readWay_1 : decode cX12_readWay 1 = .ok (.invokevirtual 222, 3) := by decide +kernel
theorem dX12_readWay_4 : decode cX12_readWay 4 = .ok (.istore_n 1, 1) := by decide +kernel
theorem dX12_readWay_5 : decode cX12_readWay 5 = .ok (.aload_n 0, 1) := by decide +kernel
theorem dX12_readWay_6 : decode cX12_readWay 6 = .ok (.invokevirtual 225, 3) := by decide +kernel
theorem dX12_readWay_9 : decode cX12_readWay 9 = .ok (.istore_n 2, 1) := by decide +kernel
theorem dX12_readWay_10 : decode cX12_readWay 10 = .ok (.aload_n 0, 1) := by decide +kernel
theorem dX12_readWay_11 : decode cX12_readWay 11 = .ok (.ldc 228, 2) := by decide +kernel
theorem dX12_readWay_13 : decode cX12_readWay 13 = .ok (.invokevirtual 199, 3) := by decide +kernel
theorem dX12_readWay_16 : decode cX12_readWay 16 = .ok (.aload_n 0, 1) := by decide +kernel
theorem dX12_readWay_17 : decode cX12_readWay 17 = .ok (.invokevirtual 222, 3) := by decide +kernel
theorem dX12_readWay_20 : decode cX12_readWay 20 = .ok (.istore_n 3, 1) := by decide +kernel
theorem dX12_readWay_21 : decode cX12_readWay 21 = .ok (.aload_n 0, 1) := by decide +kernel
theorem dX12_readWay_22 : decode cX12_readWay 22 = .ok (.ldc 230, 2) := by decide +kernel
theorem dX12_readWay_24 : decode cX12_readWay 24 = .ok (.invokevirtual 192, 3) := by decide +kernel
theorem dX12_readWay_27 : decode cX12_readWay 27 = .ok (.istore 4, 2) := by decide +kernel
theorem dX12_readWay_29 : decode cX12_readWay 29 = .ok (.aload_n 0, 1) := by decide +kernel
theorem dX12_readWay_30 : decode cX12_readWay 30 = .ok (.invokevirtual 173, 3) := by decide +kernel
theorem dX12_readWay_33 : decode cX12_readWay 33 = .ok (.ifCond .ne 4, 3) := by decide +kernel
theorem dX12_readWay_37 : decode cX12_readWay 37 = .ok (.aload_n 0, 1) := by decide +kernel
theorem dX12_readWay_38 : decode cX12_readWay 38 = .ok (.getfield 31, 3) := by decide +kernel
theorem dX12_readWay_41 : decode cX12_readWay 41 = .ok (.iconst 5, 1) := by decide +kernel
theorem dX12_readWay_42 : decode cX12_readWay 42 = .ok (.iconst 4, 1) := by decide +kernel
theorem dX12_readWay_43 : decode cX12_readWay 43 = .ok (.iload_n 1, 1) := by decide +kernel
theorem dX12_readWay_44 : decode cX12_readWay 44 = .ok (.imul, 1) := by decide +kernel
theorem dX12_readWay_45 : decode cX12_readWay 45 = .ok (.iadd, 1) := by decide +kernel
theorem dX12_readWay_46 : decode cX12_readWay 46 = .ok (.iload_n 2, 1) := by decide +kernel
theorem dX12_readWay_47 : decode cX12_readWay 47 = .ok (.iadd, 1) := by decide +kernel
theorem dX12_readWay_48 : decode cX12_readWay 48 = .ok (.iload_n 3, 1) := by decide +kernel
theorem dX12_readWay_49 : decode cX12_readWay 49 = .ok (.iastore, 1) := by decide +kernel
theorem dX12_readWay_50 : decode cX12_readWay 50 = .ok (.iload 4, 2) := by decide +kernel
theorem dX12_readWay_52 : decode cX12_readWay 52 = .ok (.ifCond .eq 20, 3) := by decide +kernel
theorem dX12_readWay_72 : decode cX12_readWay 72 = .ok (.return_, 1) := by decide +kernel
theorem dX12_readWay_36 : decode cX12_readWay 36 = .ok (.return_, 1) := by decide +kernel
theorem dX12_readWay_55 : decode cX12_readWay 55 = .ok (.aload_n 0, 1) := by decide +kernel
theorem dX12_readWay_56 : decode cX12_readWay 56 = .ok (.getfield 31, 3) := by decide +kernel
theorem dX12_readWay_59 : decode cX12_readWay 59 = .ok (.iconst 5, 1) := by decide +kernel
theorem dX12_readWay_60 : decode cX12_readWay 60 = .ok (.iconst 4, 1) := by decide +kernel
theorem dX12_readWay_61 : decode cX12_readWay 61 = .ok (.iload_n 3, 1) := by decide +kernel
theorem dX12_readWay_62 : decode cX12_readWay 62 = .ok (.imul, 1) := by decide +kernel
theorem dX12_readWay_63 : decode cX12_readWay 63 = .ok (.iadd, 1) := by decide +kernel
theorem dX12_readWay_64 : decode cX12_readWay 64 = .ok (.iload_n 2, 1) := by decide +kernel
theorem dX12_readWay_65 : decode cX12_readWay 65 = .ok (.iconst 2, 1) := by decide +kernel
theorem dX12_readWay_66 : decode cX12_readWay 66 = .ok (.iadd, 1) := by decide +kernel
theorem dX12_readWay_67 : decode cX12_readWay 67 = .ok (.iconst 4, 1) := by decide +kernel
theorem dX12_readWay_68 : decode cX12_readWay 68 = .ok (.irem, 1) := by decide +kernel
theorem dX12_readWay_69 : decode cX12_readWay 69 = .ok (.iadd, 1) := by decide +kernel
theorem dX12_readWay_70 : decode cX12_readWay 70 = .ok (.iload_n 1, 1) := by decide +kernel
theorem dX12_readWay_71 : decode cX12_readWay 71 = .ok (.iastore, 1) := by decide +kernel
theorem dX12_readMark_0 : decode cX12_readMark 0 = .ok (.aload_n 0, 1) := by decide +kernel
theorem dX12_readMark_1 : decode cX12_readMark 1 = .ok (.invokevirtual 222, 3) := by decide +kernel
theorem dX12_readMark_4 : decode cX12_readMark 4 = .ok (.istore_n 1, 1) := by decide +kernel
theorem dX12_readMark_5 : decode cX12_readMark 5 = .ok (.aload_n 0, 1) := by decide +kernel
theorem dX12_readMark_6 : decode cX12_readMark 6 = .ok (.iconst 0, 1) := by decide +kernel
theorem dX12_readMark_7 : decode cX12_readMark 7 = .ok (.bipush 9, 2) := by decide +kernel
theorem dX12_readMark_9 : decode cX12_readMark 9 = .ok (.invokevirtual 203, 3) := by decide +kernel
theorem dX12_readMark_12 : decode cX12_readMark 12 = .ok (.istore_n 2, 1) := by decide +kernel
theorem dX12_readMark_13 : decode cX12_readMark 13 = .ok (.aload_n 0, 1) := by decide +kernel
theorem dX12_readMark_14 : decode cX12_readMark 14 = .ok (.invokevirtual 173, 3) := by decide +kernel
theorem dX12_readMark_17 : decode cX12_readMark 17 = .ok (.ifCond .eq 13, 3) := by decide +kernel
theorem dX12_readMark_20 : decode cX12_readMark 20 = .ok (.aload_n 0, 1) := by decide +kernel
theorem dX12_readMark_21 : decode cX12_readMark 21 = .ok (.getfield 31, 3) := by decide +kernel
theorem dX12_readMark_24 : decode cX12_readMark 24 = .ok (.bipush 45, 2) := by decide +kernel
theorem dX12_readMark_26 : decode cX12_readMark 26 = .ok (.iload_n 1, 1) := by decide +kernel
theorem dX12_readMark_27 : decode cX12_readMark 27 = .ok (.iadd, 1) := by decide +kernel
theorem dX12_readMark_28 : decode cX12_readMark 28 = .ok (.iload_n 2, 1) := by decide +kernel
theorem dX12_readMark_29 : decode cX12_readMark 29 = .ok (.iastore, 1) := by decide +kernel
theorem dX12_readMark_30 : decode cX12_readMark 30 = .ok (.return_, 1) := by decide +kernel
theorem dX12_readPupil_0 : decode cX12_readPupil 0 = .ok (.bipush 55, 2) := by decide +kernel
theorem dX12_readPupil_2 : decode cX12_readPupil 2 = .ok (.iconst 3, 1) := by decide +kernel
theorem dX12_readPupil_3 : decode cX12_readPupil 3 = .ok (.aload_n 0, 1) := by decide +kernel
theorem dX12_readPupil_4 : decode cX12_readPupil 4 = .ok (.getfield 31, 3) := by decide +kernel
theorem dX12_readPupil_7 : decode cX12_readPupil 7 = .ok (.iconst 1, 1) := by decide +kernel
theorem dX12_readPupil_8 : decode cX12_readPupil 8 = .ok (.iaload, 1) := by decide +kernel
theorem dX12_readPupil_9 : decode cX12_readPupil 9 = .ok (.imul, 1) := by decide +kernel
theorem dX12_readPupil_10 : decode cX12_readPupil 10 = .ok (.iadd, 1) := by decide +kernel
theorem dX12_readPupil_11 : decode cX12_readPupil 11 = .ok (.istore_n 1, 1) := by decide +kernel
theorem dX12_readPupil_12 : decode cX12_readPupil 12 = .ok (.aload_n 0, 1) := by decide +kernel
theorem dX12_readPupil_13 : decode cX12_readPupil 13 = .ok (.ldc 232, 2) := by decide +kernel
theorem dX12_readPupil_15 : decode cX12_readPupil 15 = .ok (.invokevirtual 199, 3) := by decide +kernel
theorem dX12_readPupil_18 : decode cX12_readPupil 18 = .ok (.aload_n 0, 1) := by decide +kernel
theorem dX12_readPupil_19 : decode cX12_readPupil 19 = .ok (.getfield 31, 3) := by decide +kernel
theorem dX12_readPupil_22 : decode cX12_readPupil 22 = .ok (.iload_n 1, 1) := by decide +kernel
theorem dX12_readPupil_23 : decode cX12_readPupil 23 = .ok (.aload_n 0, 1) := by decide +kernel
theorem dX12_readPupil_24 : decode cX12_readPupil 24 = .ok (.invokevirtual 222, 3) := by decide +kernel
theorem dX12_readPupil_27 : decode cX12_readPupil 27 = .ok (.iastore, 1) := by decide +kernel
theorem dX12_readPupil_28 : decode cX12_readPupil 28 = .ok (.aload_n 0, 1) := by decide +kernel
theorem dX12_readPupil_29 : decode cX12_readPupil 29 = .ok (.getfield 31, 3) := by decide +kernel
theorem dX12_readPupil_32 : decode cX12_readPupil 32 = .ok (.iload_n 1, 1) := by decide +kernel
theorem dX12_readPupil_33 : decode cX12_readPupil 33 = .ok (.iconst 2, 1) := by decide +kernel
theorem dX12_readPupil_34 : decode cX12_readPupil 34 = .ok (.iadd, 1) := by decide +kernel
theorem dX12_readPupil_35 : decode cX12_readPupil 35 = .ok (.aload_n 0, 1) := by decide +kernel
theorem dX12_readPupil_36 : decode cX12_readPupil 36 = .ok (.ldc 233, 2) := by decide +kernel
theorem dX12_readPupil_38 : decode cX12_readPupil 38 = .ok (.iconst 0, 1) := by decide +kernel
theorem dX12_readPupil_39 : decode cX12_readPupil 39 = .ok (.iconst 3, 1) := by decide +kernel
theorem dX12_readPupil_40 : decode cX12_readPupil 40 = .ok (.invokevirtual 218, 3) := by decide +kernel
theorem dX12_readPupil_43 : decode cX12_readPupil 43 = .ok (.iastore, 1) := by decide +kernel
theorem dX12_readPupil_44 : decode cX12_readPupil 44 = .ok (.aload_n 0, 1) := by decide +kernel
theorem dX12_readPupil_45 : decode cX12_readPupil 45 = .ok (.ldc 235, 2) := by decide +kernel
theorem dX12_readPupil_47 : decode cX12_readPupil 47 = .ok (.invokevirtual 199, 3) := by decide +kernel
theorem dX12_readPupil_50 : decode cX12_readPupil 50 = .ok (.iconst 0, 1) := by decide +kernel
theorem dX12_readPupil_51 : decode cX12_readPupil 51 = .ok (.istore_n 2, 1) := by decide +kernel
theorem dX12_readPupil_52 : decode cX12_readPupil 52 = .ok (.aload_n 0, 1) := by decide +kernel
theorem dX12_readPupil_53 : decode cX12_readPupil 53 = .ok (.invokevirtual 222, 3) := by decide +kernel
theorem dX12_readPupil_56 : decode cX12_readPupil 56 = .ok (.istore_n 3, 1) := by decide +kernel
theorem dX12_readPupil_57 : decode cX12_readPupil 57 = .ok (.aload_n 0, 1) := by decide +kernel
theorem dX12_readPupil_58 : decode cX12_readPupil 58 = .ok (.invokevirtual 173, 3) := by decide +kernel
theorem dX12_readPupil_61 : decode cX12_readPupil 61 = .ok (.ifCond .ne 4, 3) := by decide +kernel
theorem dX12_readPupil_65 : decode cX12_readPupil 65 = .ok (.iload_n 2, 1) := by decide +kernel
theorem dX12_readPupil_66 : decode cX12_readPupil 66 = .ok (.iconst 1, 1) := by decide +kernel
theorem dX12_readPupil_67 : decode cX12_readPupil 67 = .ok (.iload_n 3, 1) := by decide +kernel
theorem dX12_readPupil_68 : decode cX12_readPupil 68 = .ok (.ishl, 1) := by decide +kernel
theorem dX12_readPupil_69 : decode cX12_readPupil 69 = .ok (.ior, 1) := by decide +kernel
theorem dX12_readPupil_70 : decode cX12_readPupil 70 = .ok (.istore_n 2, 1) := by decide +kernel
theorem dX12_readPupil_71 : decode cX12_readPupil 71 = .ok (.aload_n 0, 1) := by decide +kernel
theorem dX12_readPupil_72 : decode cX12_readPupil 72 = .ok (.getfield 149, 3) := by decide +kernel
theorem dX12_readPupil_75 : decode cX12_readPupil 75 = .ok (.iconst 3, 1) := by decide +kernel
theorem dX12_readPupil_76 : decode cX12_readPupil 76 = .ok (.if_icmp .ne (-24), 3) := by decide +kernel
theorem dX12_readPupil_79 : decode cX12_readPupil 79 = .ok (.aload_n 0, 1) := by decide +kernel
theorem dX12_readPupil_80 : decode cX12_readPupil 80 = .ok (.getfield 31, 3) := by decide +kernel
theorem dX12_readPupil_83 : decode cX12_readPupil 83 = .ok (.iload_n 1, 1) := by decide +kernel
theorem dX12_readPupil_84 : decode cX12_readPupil 84 = .ok (.iconst 1, 1) := by decide +kernel
theorem dX12_readPupil_85 : decode cX12_readPupil 85 = .ok (.iadd, 1) := by decide +kernel
theorem dX12_readPupil_86 : decode cX12_readPupil 86 = .ok (.iload_n 2, 1) := by decide +kernel
theorem dX12_readPupil_87 : decode cX12_readPupil 87 = .ok (.iastore, 1) := by decide +kernel
theorem dX12_readPupil_88 : decode cX12_readPupil 88 = .ok (.aload_n 0, 1) := by decide +kernel
theorem dX12_readPupil_89 : decode cX12_readPupil 89 = .ok (.getfield 31, 3) := by decide +kernel
theorem dX12_readPupil_92 : decode cX12_readPupil 92 = .ok (.iconst 1, 1) := by decide +kernel
theorem dX12_readPupil_93 : decode cX12_readPupil 93 = .ok (.dup2, 1) := by decide +kernel
theorem dX12_readPupil_94 : decode cX12_readPupil 94 = .ok (.iaload, 1) := by decide +kernel
theorem dX12_readPupil_95 : decode cX12_readPupil 95 = .ok (.iconst 1, 1) := by decide +kernel
theorem dX12_readPupil_96 : decode cX12_readPupil 96 = .ok (.iadd, 1) := by decide +kernel
theorem dX12_readPupil_97 : decode cX12_readPupil 97 = .ok (.iastore, 1) := by decide +kernel
theorem dX12_readPupil_98 : decode cX12_readPupil 98 = .ok (.return_, 1) := by decide +kernel
theorem dX12_readPupil_64 : decode cX12_readPupil 64 = .ok (.return_, 1) := by decide +kernel
theorem dX12_readLesson_0 : decode cX12_readLesson 0 = .ok (.bipush 67, 2) := by decide +kernel
theorem dX12_readLesson_2 : decode cX12_readLesson 2 = .ok (.iconst 3, 1) := by decide +kernel
theorem dX12_readLesson_3 : decode cX12_readLesson 3 = .ok (.aload_n 0, 1) := by decide +kernel
theorem dX12_readLesson_4 : decode cX12_readLesson 4 = .ok (.getfield 31, 3) := by decide +kernel
theorem dX12_readLesson_7 : decode cX12_readLesson 7 = .ok (.iconst 2, 1) := by decide +kernel
theorem dX12_readLesson_8 : decode cX12_readLesson 8 = .ok (.iaload, 1) := by decide +kernel
theorem dX12_readLesson_9 : decode cX12_readLesson 9 = .ok (.imul, 1) := by decide +kernel
theorem dX12_readLesson_10 : decode cX12_readLesson 10 = .ok (.iadd, 1) := by decide +kernel
theorem dX12_readLesson_11 : decode cX12_readLesson 11 = .ok (.istore_n 1, 1) := by decide +kernel
theorem dX12_readLesson_12 : decode cX12_readLesson 12 = .ok (.aload_n 0, 1) := by decide +kernel
theorem dX12_readLesson_13 : decode cX12_readLesson 13 = .ok (.ldc 237, 2) := by decide +kernel
theorem dX12_readLesson_15 : decode cX12_readLesson 15 = .ok (.invokevirtual 192, 3) := by decide +kernel
theorem dX12_readLesson_18 : decode cX12_readLesson 18 = .ok (.ifCond .eq 25, 3) := by decide +kernel
theorem dX12_readLesson_43 : decode cX12_readLesson 43 = .ok (.aload_n 0, 1) := by decide +kernel
theorem dX12_readLesson_44 : decode cX12_readLesson 44 = .ok (.ldc 233, 2) := by decide +kernel
theorem dX12_readLesson_46 : decode cX12_readLesson 46 = .ok (.invokevirtual 192, 3) := by decide +kernel
theorem dX12_readLesson_49 : decode cX12_readLesson 49 = .ok (.ifCond .eq 27, 3) := by decide +kernel
theorem dX12_readLesson_76 : decode cX12_readLesson 76 = .ok (.aload_n 0, 1) := by decide +kernel
theorem dX12_readLesson_77 : decode cX12_readLesson 77 = .ok (.ldc 239, 2) := by decide +kernel
theorem dX12_readLesson_79 : decode cX12_readLesson 79 = .ok (.invokevirtual 199, 3) := by decide +kernel
theorem dX12_readLesson_82 : decode cX12_readLesson 82 = .ok (.aload_n 0, 1) := by decide +kernel
theorem dX12_readLesson_83 : decode cX12_readLesson 83 = .ok (.getfield 31, 3) := by decide +kernel
theorem dX12_readLesson_86 : decode cX12_readLesson 86 = .ok (.iload_n 1, 1) := by decide +kernel
theorem dX12_readLesson_87 : decode cX12_readLesson 87 = .ok (.iconst 2, 1) := by decide +kernel
theorem dX12_readLesson_88 : decode cX12_readLesson 88 = .ok (.iastore, 1) := by decide +kernel
theorem dX12_readLesson_89 : decode cX12_readLesson 89 = .ok (.aload_n 0, 1) := by decide +kernel
theorem dX12_readLesson_90 : decode cX12_readLesson 90 = .ok (.getfield 31, 3) := by decide +kernel
theorem dX12_readLesson_93 : decode cX12_readLesson 93 = .ok (.iload_n 1, 1) := by decide +kernel
theorem dX12_readLesson_94 : decode cX12_readLesson 94 = .ok (.iconst 1, 1) := by decide +kernel
theorem dX12_readLesson_95 : decode cX12_readLesson 95 = .ok (.iadd, 1) := by decide +kernel
theorem dX12_readLesson_96 : decode cX12_readLesson 96 = .ok (.aload_n 0, 1) := by decide +kernel
theorem dX12_readLesson_97 : decode cX12_readLesson 97 = .ok (.invokevirtual 222, 3) := by decide +kernel
theorem dX12_readLesson_100 : decode cX12_readLesson 100 = .ok (.iastore, 1) := by decide +kernel
theorem dX12_readLesson_101 : decode cX12_readLesson 101 = .ok (.aload_n 0, 1) := by decide +kernel
theorem dX12_readLesson_102 : decode cX12_readLesson 102 = .ok (.getfield 31, 3) := by decide +kernel
theorem dX12_readLesson_105 : decode cX12_readLesson 105 = .ok (.iload_n 1, 1) := by decide +kernel
theorem dX12_readLesson_106 : decode cX12_readLesson 106 = .ok (.iconst 2, 1) := by decide +kernel
theorem dX12_readLesson_107 : decode cX12_readLesson 107 = .ok (.iadd, 1) := by decide +kernel
theorem dX12_readLesson_108 : decode cX12_readLesson 108 = .ok (.aload_n 0, 1) := by decide +kernel
theorem dX12_readLesson_109 : decode cX12_readLesson 109 = .ok (.invokevirtual 225, 3) := by decide +kernel
theorem dX12_readLesson_112 : decode cX12_readLesson 112 = .ok (.iastore, 1) := by decide +kernel
theorem dX12_readLesson_113 : decode cX12_readLesson 113 = .ok (.aload_n 0, 1) := by decide +kernel
theorem dX12_readLesson_114 : decode cX12_readLesson 114 = .ok (.getfield 31, 3) := by decide +kernel
theorem dX12_readLesson_117 : decode cX12_readLesson 117 = .ok (.iconst 2, 1) := by decide +kernel
theorem dX12_readLesson_118 : decode cX12_readLesson 118 = .ok (.dup2, 1) := by decide +kernel
theorem dX12_readLesson_119 : decode cX12_readLesson 119 = .ok (.iaload, 1) := by decide +kernel
theorem dX12_readLesson_120 : decode cX12_readLesson 120 = .ok (.iconst 1, 1) := by decide +kernel
theorem dX12_readLesson_121 : decode cX12_readLesson 121 = .ok (.iadd, 1) := by decide +kernel
theorem dX12_readLesson_122 : decode cX12_readLesson 122 = .ok (.iastore, 1) := by decide +kernel
theorem dX12_readLesson_123 : decode cX12_readLesson 123 = .ok (.return_, 1) := by decide +kernel
theorem dX12_readLesson_52 : decode cX12_readLesson 52 = .ok (.aload_n 0, 1) := by decide +kernel
theorem dX12_readLesson_53 : decode cX12_readLesson 53 = .ok (.getfield 31, 3) := by decide +kernel
theorem dX12_readLesson_56 : decode cX12_readLesson 56 = .ok (.iload_n 1, 1) := by decide +kernel
theorem dX12_readLesson_57 : decode cX12_readLesson 57 = .ok (.iconst 1, 1) := by decide +kernel
theorem dX12_readLesson_58 : decode cX12_readLesson 58 = .ok (.iastore, 1) := by decide +kernel
theorem dX12_readLesson_59 : decode cX12_readLesson 59 = .ok (.aload_n 0, 1) := by decide +kernel
theorem dX12_readLesson_60 : decode cX12_readLesson 60 = .ok (.getfield 31, 3) := by decide +kernel
theorem dX12_readLesson_63 : decode cX12_readLesson 63 = .ok (.iload_n 1, 1) := by decide +kernel
theorem dX12_readLesson_64 : decode cX12_readLesson 64 = .ok (.iconst 1, 1) := by decide +kernel
theorem dX12_readLesson_65 : decode cX12_readLesson 65 = .ok (.iadd, 1) := by decide +kernel
theorem dX12_readLesson_66 : decode cX12_readLesson 66 = .ok (.aload_n 0, 1) := by decide +kernel
theorem dX12_readLesson_67 : decode cX12_readLesson 67 = .ok (.iconst 1, 1) := by decide +kernel
theorem dX12_readLesson_68 : decode cX12_readLesson 68 = .ok (.iconst 3, 1) := by decide +kernel
theorem dX12_readLesson_69 : decode cX12_readLesson 69 = .ok (.invokevirtual 203, 3) := by decide +kernel
theorem dX12_readLesson_72 : decode cX12_readLesson 72 = .ok (.iastore, 1) := by decide +kernel
theorem dX12_readLesson_73 : decode cX12_readLesson 73 = .ok (.goto 40, 3) := by decide +kernel
theorem dX12_readLesson_21 : decode cX12_readLesson 21 = .ok (.aload_n 0, 1) := by decide +kernel
theorem dX12_readLesson_22 : decode cX12_readLesson 22 = .ok (.getfield 31, 3) := by decide +kernel
theorem dX12_readLesson_25 : decode cX12_readLesson 25 = .ok (.iload_n 1, 1) := by decide +kernel
theorem dX12_readLesson_26 : decode cX12_readLesson 26 = .ok (.iconst 0, 1) := by decide +kernel
theorem dX12_readLesson_27 : decode cX12_readLesson 27 = .ok (.iastore, 1) := by decide +kernel
theorem dX12_readLesson_28 : decode cX12_readLesson 28 = .ok (.aload_n 0, 1) := by decide +kernel
theorem dX12_readLesson_29 : decode cX12_readLesson 29 = .ok (.getfield 31, 3) := by decide +kernel
theorem dX12_readLesson_32 : decode cX12_readLesson 32 = .ok (.iload_n 1, 1) := by decide +kernel
theorem dX12_readLesson_33 : decode cX12_readLesson 33 = .ok (.iconst 1, 1) := by decide +kernel
theorem dX12_readLesson_34 : decode cX12_readLesson 34 = .ok (.iadd, 1) := by decide +kernel
theorem dX12_readLesson_35 : decode cX12_readLesson 35 = .ok (.aload_n 0, 1) := by decide +kernel
theorem dX12_readLesson_36 : decode cX12_readLesson 36 = .ok (.invokevirtual 222, 3) := by decide +kernel
theorem dX12_readLesson_39 : decode cX12_readLesson 39 = .ok (.iastore, 1) := by decide +kernel
theorem dX12_readLesson_40 : decode cX12_readLesson 40 = .ok (.goto 73, 3) := by decide +kernel
theorem dX12_readNext_0 : decode cX12_readNext 0 = .ok (.aload_n 0, 1) := by decide +kernel
theorem dX12_readNext_1 : decode cX12_readNext 1 = .ok (.ldc 241, 2) := by decide +kernel
theorem dX12_readNext_3 : decode cX12_readNext 3 = .ok (.invokevirtual 185, 3) := by decide +kernel
theorem dX12_readNext_6 : decode cX12_readNext 6 = .ok (.ifCond .ne 30, 3) := by decide +kernel
theorem dX12_readNext_9 : decode cX12_readNext 9 = .ok (.aload_n 0, 1) := by decide +kernel
theorem dX12_readNext_10 : decode cX12_readNext 10 = .ok (.ldc 243, 2) := by decide +kernel
theorem dX12_readNext_12 : decode cX12_readNext 12 = .ok (.invokevirtual 185, 3) := by decide +kernel
theorem dX12_readNext_15 : decode cX12_readNext 15 = .ok (.ifCond .ne 21, 3) := by decide +kernel
theorem dX12_readNext_18 : decode cX12_readNext 18 = .ok (.aload_n 0, 1) := by decide +kernel
theorem dX12_readNext_19 : decode cX12_readNext 19 = .ok (.ldc 245, 2) := by decide +kernel
theorem dX12_readNext_21 : decode cX12_readNext 21 = .ok (.invokevirtual 185, 3) := by decide +kernel
theorem dX12_readNext_24 : decode cX12_readNext 24 = .ok (.ifCond .ne 12, 3) := by decide +kernel
theorem dX12_readNext_27 : decode cX12_readNext 27 = .ok (.aload_n 0, 1) := by decide +kernel
theorem dX12_readNext_28 : decode cX12_readNext 28 = .ok (.ldc 247, 2) := by decide +kernel
theorem dX12_readNext_30 : decode cX12_readNext 30 = .ok (.invokevirtual 185, 3) := by decide +kernel
theorem dX12_readNext_33 : decode cX12_readNext 33 = .ok (.ifCond .eq 7, 3) := by decide +kernel
theorem dX12_readNext_40 : decode cX12_readNext 40 = .ok (.iconst 0, 1) := by decide +kernel
theorem dX12_readNext_41 : decode cX12_readNext 41 = .ok (.istore_n 1, 1) := by decide +kernel
theorem dX12_readNext_42 : decode cX12_readNext 42 = .ok (.iload_n 1, 1) := by decide +kernel
theorem dX12_readNext_43 : decode cX12_readNext 43 = .ok (.ifCond .ne 8, 3) := by decide +kernel
theorem dX12_readNext_46 : decode cX12_readNext 46 = .ok (.aload_n 0, 1) := by decide +kernel
theorem dX12_readNext_47 : decode cX12_readNext 47 = .ok (.iconst 1, 1) := by decide +kernel
theorem dX12_readNext_48 : decode cX12_readNext 48 = .ok (.invokevirtual 195, 3) := by decide +kernel
theorem dX12_readNext_51 : decode cX12_readNext 51 = .ok (.aload_n 0, 1) := by decide +kernel
theorem dX12_readNext_52 : decode cX12_readNext 52 = .ok (.ldc 245, 2) := by decide +kernel
theorem dX12_readNext_54 : decode cX12_readNext 54 = .ok (.invokevirtual 185, 3) := by decide +kernel
theorem dX12_readNext_57 : decode cX12_readNext 57 = .ok (.ifCond .eq 13, 3) := by decide +kernel
theorem dX12_readNext_70 : decode cX12_readNext 70 = .ok (.aload_n 0, 1) := by decide +kernel
theorem dX12_readNext_71 : decode cX12_readNext 71 = .ok (.ldc 247, 2) := by decide +kernel
theorem dX12_readNext_73 : decode cX12_readNext 73 = .ok (.invokevirtual 185, 3) := by decide +kernel
theorem dX12_readNext_76 : decode cX12_readNext 76 = .ok (.ifCond .eq 18, 3) := by decide +kernel
theorem dX12_readNext_94 : decode cX12_readNext 94 = .ok (.aload_n 0, 1) := by decide +kernel
theorem dX12_readNext_95 : decode cX12_readNext 95 = .ok (.invokevirtual 173, 3) := by decide +kernel
theorem dX12_readNext_98 : decode cX12_readNext 98 = .ok (.ifCond .ne 4, 3) := by decide +kernel
theorem dX12_readNext_102 : decode cX12_readNext 102 = .ok (.aload_n 0, 1) := by decide +kernel
theorem dX12_readNext_103 : decode cX12_readNext 103 = .ok (.ldc 241, 2) := by decide +kernel
theorem dX12_readNext_105 : decode cX12_readNext 105 = .ok (.invokevirtual 192, 3) := by decide +kernel
theorem dX12_readNext_108 : decode cX12_readNext 108 = .ok (.ifCond .eq 10, 3) := by decide +kernel
theorem dX12_readNext_118 : decode cX12_readNext 118 = .ok (.aload_n 0, 1) := by decide +kernel
theorem dX12_readNext_119 : decode cX12_readNext 119 = .ok (.ldc 243, 2) := by decide +kernel
theorem dX12_readNext_121 : decode cX12_readNext 121 = .ok (.invokevirtual 192, 3) := by decide +kernel
theorem dX12_readNext_124 : decode cX12_readNext 124 = .ok (.ifCond .eq 10, 3) := by decide +kernel
theorem dX12_readNext_134 : decode cX12_readNext 134 = .ok (.aload_n 0, 1) := by decide +kernel
theorem dX12_readNext_135 : decode cX12_readNext 135 = .ok (.ldc 245, 2) := by decide +kernel
theorem dX12_readNext_137 : decode cX12_readNext 137 = .ok (.invokevirtual 192, 3) := by decide +kernel
theorem dX12_readNext_140 : decode cX12_readNext 140 = .ok (.ifCond .eq 10, 3) := by decide +kernel
theorem dX12_readNext_150 : decode cX12_readNext 150 = .ok (.aload_n 0, 1) := by decide +kernel
theorem dX12_readNext_151 : decode cX12_readNext 151 = .ok (.invokevirtual 189, 3) := by decide +kernel
theorem dX12_readNext_154 : decode cX12_readNext 154 = .ok (.aload_n 0, 1) := by decide +kernel
theorem dX12_readNext_155 : decode cX12_readNext 155 = .ok (.invokevirtual 258, 3) := by decide +kernel
theorem dX12_readNext_158 : decode cX12_readNext 158 = .ok (.return_, 1) := by decide +kernel
theorem dX12_readNext_143 : decode cX12_readNext 143 = .ok (.aload_n 0, 1) := by decide +kernel
theorem dX12_readNext_144 : decode cX12_readNext 144 = .ok (.invokevirtual 255, 3) := by decide +kernel
theorem dX12_readNext_147 : decode cX12_readNext 147 = .ok (.goto 11, 3) := by decide +kernel
theorem dX12_readNext_127 : decode cX12_readNext 127 = .ok (.aload_n 0, 1) := by decide +kernel
theorem dX12_readNext_128 : decode cX12_readNext 128 = .ok (.invokevirtual 252, 3) := by decide +kernel
theorem dX12_readNext_131 : decode cX12_readNext 131 = .ok (.goto 27, 3) := by decide +kernel
theorem dX12_readNext_111 : decode cX12_readNext 111 = .ok (.aload_n 0, 1) := by decide +kernel
theorem dX12_readNext_112 : decode cX12_readNext 112 = .ok (.invokevirtual 249, 3) := by decide +kernel
theorem dX12_readNext_115 : decode cX12_readNext 115 = .ok (.goto 43, 3) := by decide +kernel
theorem dX12_readNext_101 : decode cX12_readNext 101 = .ok (.return_, 1) := by decide +kernel
theorem dX12_readNext_79 : decode cX12_readNext 79 = .ok (.aload_n 0, 1) := by decide +kernel
theorem dX12_readNext_80 : decode cX12_readNext 80 = .ok (.getfield 31, 3) := by decide +kernel
theorem dX12_readNext_83 : decode cX12_readNext 83 = .ok (.iconst 2, 1) := by decide +kernel
theorem dX12_readNext_84 : decode cX12_readNext 84 = .ok (.iaload, 1) := by decide +kernel
theorem dX12_readNext_85 : decode cX12_readNext 85 = .ok (.iconst 5, 1) := by decide +kernel
theorem dX12_readNext_86 : decode cX12_readNext 86 = .ok (.if_icmp .ne 8, 3) := by decide +kernel
theorem dX12_readNext_89 : decode cX12_readNext 89 = .ok (.aload_n 0, 1) := by decide +kernel
theorem dX12_readNext_90 : decode cX12_readNext 90 = .ok (.iconst 3, 1) := by decide +kernel
theorem dX12_readNext_91 : decode cX12_readNext 91 = .ok (.invokevirtual 195, 3) := by decide +kernel
theorem dX12_readNext_60 : decode cX12_readNext 60 = .ok (.aload_n 0, 1) := by decide +kernel
theorem dX12_readNext_61 : decode cX12_readNext 61 = .ok (.getfield 31, 3) := by decide +kernel
theorem dX12_readNext_64 : decode cX12_readNext 64 = .ok (.iconst 1, 1) := by decide +kernel
theorem dX12_readNext_65 : decode cX12_readNext 65 = .ok (.iaload, 1) := by decide +kernel
theorem dX12_readNext_66 : decode cX12_readNext 66 = .ok (.iconst 4, 1) := by decide +kernel
theorem dX12_readNext_67 : decode cX12_readNext 67 = .ok (.if_icmp .eq 22, 3) := by decide +kernel
theorem dX12_readNext_36 : decode cX12_readNext 36 = .ok (.iconst 1, 1) := by decide +kernel
theorem dX12_readNext_37 : decode cX12_readNext 37 = .ok (.goto 4, 3) := by decide +kernel
theorem dX12_readLine_0 : decode cX12_readLine 0 = .ok (.aload_n 0, 1) := by decide +kernel
theorem dX12_readLine_1 : decode cX12_readLine 1 = .ok (.getfield 31, 3) := by decide +kernel
theorem dX12_readLine_4 : decode cX12_readLine 4 = .ok (.iconst 3, 1) := by decide +kernel
theorem dX12_readLine_5 : decode cX12_readLine 5 = .ok (.iaload, 1) := by decide +kernel
theorem dX12_readLine_6 : decode cX12_readLine 6 = .ok (.ifCond .ne 10, 3) := by decide +kernel
theorem dX12_readLine_16 : decode cX12_readLine 16 = .ok (.aload_n 0, 1) := by decide +kernel
theorem dX12_readLine_17 : decode cX12_readLine 17 = .ok (.invokevirtual 264, 3) := by decide +kernel
theorem dX12_readLine_20 : decode cX12_readLine 20 = .ok (.aload_n 0, 1) := by decide +kernel
theorem dX12_readLine_21 : decode cX12_readLine 21 = .ok (.invokevirtual 173, 3) := by decide +kernel
theorem dX12_readLine_24 : decode cX12_readLine 24 = .ok (.ifCond .eq 16, 3) := by decide +kernel
theorem dX12_readLine_27 : decode cX12_readLine 27 = .ok (.aload_n 0, 1) := by decide +kernel
theorem dX12_readLine_28 : decode cX12_readLine 28 = .ok (.getfield 149, 3) := by decide +kernel
theorem dX12_readLine_31 : decode cX12_readLine 31 = .ok (.iconst 3, 1) := by decide +kernel
theorem dX12_readLine_32 : decode cX12_readLine 32 = .ok (.if_icmp .eq 8, 3) := by decide +kernel
theorem dX12_readLine_40 : decode cX12_readLine 40 = .ok (.aload_n 0, 1) := by decide +kernel
theorem dX12_readLine_41 : decode cX12_readLine 41 = .ok (.invokevirtual 173, 3) := by decide +kernel
theorem dX12_readLine_44 : decode cX12_readLine 44 = .ok (.ifCond .eq 7, 3) := by decide +kernel
theorem dX12_readLine_47 : decode cX12_readLine 47 = .ok (.aload_n 0, 1) := by decide +kernel
theorem dX12_readLine_48 : decode cX12_readLine 48 = .ok (.invokevirtual 189, 3) := by decide +kernel
theorem dX12_readLine_51 : decode cX12_readLine 51 = .ok (.aload_n 0, 1) := by decide +kernel
theorem dX12_readLine_52 : decode cX12_readLine 52 = .ok (.getfield 31, 3) := by decide +kernel
theorem dX12_readLine_55 : decode cX12_readLine 55 = .ok (.iconst 3, 1) := by decide +kernel
theorem dX12_readLine_56 : decode cX12_readLine 56 = .ok (.dup2, 1) := by decide +kernel
theorem dX12_readLine_57 : decode cX12_readLine 57 = .ok (.iaload, 1) := by decide +kernel
theorem dX12_readLine_58 : decode cX12_readLine 58 = .ok (.iconst 1, 1) := by decide +kernel
theorem dX12_readLine_59 : decode cX12_readLine 59 = .ok (.iadd, 1) := by decide +kernel
theorem dX12_readLine_60 : decode cX12_readLine 60 = .ok (.iastore, 1) := by decide +kernel
theorem dX12_readLine_61 : decode cX12_readLine 61 = .ok (.return_, 1) := by decide +kernel
theorem dX12_readLine_35 : decode cX12_readLine 35 = .ok (.aload_n 0, 1) := by decide +kernel
theorem dX12_readLine_36 : decode cX12_readLine 36 = .ok (.iconst 1, 1) := by decide +kernel
theorem dX12_readLine_37 : decode cX12_readLine 37 = .ok (.invokevirtual 195, 3) := by decide +kernel
theorem dX12_readLine_9 : decode cX12_readLine 9 = .ok (.aload_n 0, 1) := by decide +kernel
theorem dX12_readLine_10 : decode cX12_readLine 10 = .ok (.invokevirtual 261, 3) := by decide +kernel
theorem dX12_readLine_13 : decode cX12_readLine 13 = .ok (.goto 7, 3) := by decide +kernel
