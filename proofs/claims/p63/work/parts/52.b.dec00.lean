theorem dX12_onward_0 : decode cX12_onward 0 = .ok (.iconst 0, 1) := by decide +kernel
theorem dX12_onward_1 : decode cX12_onward 1 = .ok (.istore_n 2, 1) := by decide +kernel
theorem dX12_onward_2 : decode cX12_onward 2 = .ok (.iconst 0, 1) := by decide +kernel
theorem dX12_onward_3 : decode cX12_onward 3 = .ok (.istore_n 3, 1) := by decide +kernel
theorem dX12_onward_4 : decode cX12_onward 4 = .ok (.iload_n 3, 1) := by decide +kernel
theorem dX12_onward_5 : decode cX12_onward 5 = .ok (.iconst 4, 1) := by decide +kernel
theorem dX12_onward_6 : decode cX12_onward 6 = .ok (.if_icmp .ge 18, 3) := by decide +kernel
theorem dX12_onward_24 : decode cX12_onward 24 = .ok (.iload_n 2, 1) := by decide +kernel
theorem dX12_onward_25 : decode cX12_onward 25 = .ok (.ireturn, 1) := by decide +kernel
theorem dX12_onward_9 : decode cX12_onward 9 = .ok (.iload_n 2, 1) := by decide +kernel
theorem dX12_onward_10 : decode cX12_onward 10 = .ok (.aload_n 0, 1) := by decide +kernel
theorem dX12_onward_11 : decode cX12_onward 11 = .ok (.iload_n 1, 1) := by decide +kernel
theorem dX12_onward_12 : decode cX12_onward 12 = .ok (.iload_n 3, 1) := by decide +kernel
theorem dX12_onward_13 : decode cX12_onward 13 = .ok (.invokevirtual 286, 3) := by decide +kernel
theorem dX12_onward_16 : decode cX12_onward 16 = .ok (.ior, 1) := by decide +kernel
theorem dX12_onward_17 : decode cX12_onward 17 = .ok (.istore_n 2, 1) := by decide +kernel
theorem dX12_onward_18 : decode cX12_onward 18 = .ok (.iinc 3 1, 3) := by decide +kernel
theorem dX12_onward_21 : decode cX12_onward 21 = .ok (.goto (-17), 3) := by decide +kernel
theorem dX12_findMeet_0 : decode cX12_findMeet 0 = .ok (.iconst 1, 1) := by decide +kernel
theorem dX12_findMeet_1 : decode cX12_findMeet 1 = .ok (.iload_n 1, 1) := by decide +kernel
theorem dX12_findMeet_2 : decode cX12_findMeet 2 = .ok (.ishl, 1) := by decide +kernel
theorem dX12_findMeet_3 : decode cX12_findMeet 3 = .ok (.istore_n 3, 1) := by decide +kernel
theorem dX12_findMeet_4 : decode cX12_findMeet 4 = .ok (.iconst 1, 1) := by decide +kernel
theorem dX12_findMeet_5 : decode cX12_findMeet 5 = .ok (.iload_n 2, 1) := by decide +kernel
theorem dX12_findMeet_6 : decode cX12_findMeet 6 = .ok (.ishl, 1) := by decide +kernel
theorem dX12_findMeet_7 : decode cX12_findMeet 7 = .ok (.istore 4, 2) := by decide +kernel
theorem dX12_findMeet_9 : decode cX12_findMeet 9 = .ok (.aload_n 0, 1) := by decide +kernel
theorem dX12_findMeet_10 : decode cX12_findMeet 10 = .ok (.iconst (-1), 1) := by decide +kernel
theorem dX12_findMeet_11 : decode cX12_findMeet 11 = .ok (.putfield 412, 3) := by decide +kernel
theorem dX12_findMeet_14 : decode cX12_findMeet 14 = .ok (.aload_n 0, 1) := by decide +kernel
theorem dX12_findMeet_15 : decode cX12_findMeet 15 = .ok (.iconst 0, 1) := by decide +kernel
theorem dX12_findMeet_16 : decode cX12_findMeet 16 = .ok (.putfield 415, 3) := by decide +kernel
theorem dX12_findMeet_19 : decode cX12_findMeet 19 = .ok (.iconst 0, 1) := by decide +kernel
theorem dX12_findMeet_20 : decode cX12_findMeet 20 = .ok (.istore 5, 2) := by decide +kernel
theorem dX12_findMeet_22 : decode cX12_findMeet 22 = .ok (.iload 5, 2) := by decide +kernel
theorem dX12_findMeet_24 : decode cX12_findMeet 24 = .ok (.bipush 100, 2) := by decide +kernel
theorem dX12_findMeet_26 : decode cX12_findMeet 26 = .ok (.if_icmp .gt 45, 3) := by decide +kernel
theorem dX12_findMeet_71 : decode cX12_findMeet 71 = .ok (.return_, 1) := by decide +kernel
theorem dX12_findMeet_29 : decode cX12_findMeet 29 = .ok (.iload_n 3, 1) := by decide +kernel
theorem dX12_findMeet_30 : decode cX12_findMeet 30 = .ok (.iload 4, 2) := by decide +kernel
theorem dX12_findMeet_32 : decode cX12_findMeet 32 = .ok (.iand, 1) := by decide +kernel
theorem dX12_findMeet_33 : decode cX12_findMeet 33 = .ok (.ifCond .eq 18, 3) := by decide +kernel
theorem dX12_findMeet_51 : decode cX12_findMeet 51 = .ok (.aload_n 0, 1) := by decide +kernel
theorem dX12_findMeet_52 : decode cX12_findMeet 52 = .ok (.iload_n 3, 1) := by decide +kernel
theorem dX12_findMeet_53 : decode cX12_findMeet 53 = .ok (.invokevirtual 418, 3) := by decide +kernel
theorem dX12_findMeet_56 : decode cX12_findMeet 56 = .ok (.istore_n 3, 1) := by decide +kernel
theorem dX12_findMeet_57 : decode cX12_findMeet 57 = .ok (.aload_n 0, 1) := by decide +kernel
theorem dX12_findMeet_58 : decode cX12_findMeet 58 = .ok (.iload 4, 2) := by decide +kernel
theorem dX12_findMeet_60 : decode cX12_findMeet 60 = .ok (.invokevirtual 418, 3) := by decide +kernel
theorem dX12_findMeet_63 : decode cX12_findMeet 63 = .ok (.istore 4, 2) := by decide +kernel
theorem dX12_findMeet_65 : decode cX12_findMeet 65 = .ok (.iinc 5 1, 3) := by decide +kernel
theorem dX12_findMeet_68 : decode cX12_findMeet 68 = .ok (.goto (-46), 3) := by decide +kernel
theorem dX12_findMeet_36 : decode cX12_findMeet 36 = .ok (.aload_n 0, 1) := by decide +kernel
theorem dX12_findMeet_37 : decode cX12_findMeet 37 = .ok (.iload 5, 2) := by decide +kernel
theorem dX12_findMeet_39 : decode cX12_findMeet 39 = .ok (.putfield 412, 3) := by decide +kernel
theorem dX12_findMeet_42 : decode cX12_findMeet 42 = .ok (.aload_n 0, 1) := by decide +kernel
theorem dX12_findMeet_43 : decode cX12_findMeet 43 = .ok (.iload_n 3, 1) := by decide +kernel
theorem dX12_findMeet_44 : decode cX12_findMeet 44 = .ok (.iload 4, 2) := by decide +kernel
theorem dX12_findMeet_46 : decode cX12_findMeet 46 = .ok (.iand, 1) := by decide +kernel
theorem dX12_findMeet_47 : decode cX12_findMeet 47 = .ok (.putfield 415, 3) := by decide +kernel
theorem dX12_findMeet_50 : decode cX12_findMeet 50 = .ok (.return_, 1) := by decide +kernel
theorem dX12_meet_0 : decode cX12_meet 0 = .ok (.aload_n 0, 1) := by decide +kernel
theorem dX12_meet_1 : decode cX12_meet 1 = .ok (.iload_n 1, 1) := by decide +kernel
theorem dX12_meet_2 : decode cX12_meet 2 = .ok (.iload_n 2, 1) := by decide +kernel
theorem dX12_meet_3 : decode cX12_meet 3 = .ok (.invokevirtual 394, 3) := by decide +kernel
theorem dX12_meet_6 : decode cX12_meet 6 = .ok (.ifCond .ne 6, 3) := by decide +kernel
theorem dX12_meet_9 : decode cX12_meet 9 = .ok (.bipush (-2), 2) := by decide +kernel
theorem dX12_meet_11 : decode cX12_meet 11 = .ok (.ireturn, 1) := by decide +kernel
theorem dX12_meet_12 : decode cX12_meet 12 = .ok (.aload_n 0, 1) := by decide +kernel
theorem dX12_meet_13 : decode cX12_meet 13 = .ok (.iload_n 1, 1) := by decide +kernel
theorem dX12_meet_14 : decode cX12_meet 14 = .ok (.iload_n 2, 1) := by decide +kernel
theorem dX12_meet_15 : decode cX12_meet 15 = .ok (.invokevirtual 421, 3) := by decide +kernel
theorem dX12_meet_18 : decode cX12_meet 18 = .ok (.aload_n 0, 1) := by decide +kernel
theorem dX12_meet_19 : decode cX12_meet 19 = .ok (.getfield 412, 3) := by decide +kernel
theorem dX12_meet_22 : decode cX12_meet 22 = .ok (.ireturn, 1) := by decide +kernel
theorem dX12_met_0 : decode cX12_met 0 = .ok (.aload_n 0, 1) := by decide +kernel
theorem dX12_met_1 : decode cX12_met 1 = .ok (.iload_n 1, 1) := by decide +kernel
theorem dX12_met_2 : decode cX12_met 2 = .ok (.iload_n 2, 1) := by decide +kernel
theorem dX12_met_3 : decode cX12_met 3 = .ok (.invokevirtual 394, 3) := by decide +kernel
theorem dX12_met_6 : decode cX12_met 6 = .ok (.ifCond .ne 6, 3) := by decide +kernel
theorem dX12_met_9 : decode cX12_met 9 = .ok (.bipush (-2), 2) := by decide +kernel
theorem dX12_met_11 : decode cX12_met 11 = .ok (.ireturn, 1) := by decide +kernel
theorem dX12_met_12 : decode cX12_met 12 = .ok (.aload_n 0, 1) := by decide +kernel
theorem dX12_met_13 : decode cX12_met 13 = .ok (.iload_n 1, 1) := by decide +kernel
theorem dX12_met_14 : decode cX12_met 14 = .ok (.iload_n 2, 1) := by decide +kernel
theorem dX12_met_15 : decode cX12_met 15 = .ok (.invokevirtual 421, 3) := by decide +kernel
theorem dX12_met_18 : decode cX12_met 18 = .ok (.iconst 0, 1) := by decide +kernel
theorem dX12_met_19 : decode cX12_met 19 = .ok (.istore_n 3, 1) := by decide +kernel
theorem dX12_met_20 : decode cX12_met 20 = .ok (.aload_n 0, 1) := by decide +kernel
theorem dX12_met_21 : decode cX12_met 21 = .ok (.getfield 415, 3) := by decide +kernel
theorem dX12_met_24 : decode cX12_met 24 = .ok (.ifCond .eq 20, 3) := by decide +kernel
theorem dX12_met_44 : decode cX12_met 44 = .ok (.aload_n 0, 1) := by decide +kernel
theorem dX12_met_45 : decode cX12_met 45 = .ok (.getfield 415, 3) := by decide +kernel
theorem dX12_met_48 : decode cX12_met 48 = .ok (.ifCond .ne 7, 3) := by decide +kernel
theorem dX12_met_55 : decode cX12_met 55 = .ok (.iload_n 3, 1) := by decide +kernel
theorem dX12_met_56 : decode cX12_met 56 = .ok (.ireturn, 1) := by decide +kernel
theorem dX12_met_51 : decode cX12_met 51 = .ok (.iconst (-1), 1) := by decide +kernel
theorem dX12_met_52 : decode cX12_met 52 = .ok (.goto 4, 3) := by decide +kernel
theorem dX12_met_27 : decode cX12_met 27 = .ok (.aload_n 0, 1) := by decide +kernel
theorem dX12_met_28 : decode cX12_met 28 = .ok (.getfield 415, 3) := by decide +kernel
theorem dX12_met_31 : decode cX12_met 31 = .ok (.iload_n 3, 1) := by decide +kernel
theorem dX12_met_32 : decode cX12_met 32 = .ok (.invokestatic 270, 3) := by decide +kernel
theorem dX12_met_35 : decode cX12_met 35 = .ok (.ifCond .ne 9, 3) := by decide +kernel
theorem dX12_met_38 : decode cX12_met 38 = .ok (.iinc 3 1, 3) := by decide +kernel
theorem dX12_met_41 : decode cX12_met 41 = .ok (.goto (-21), 3) := by decide +kernel
theorem dX12_asksRead_0 : decode cX12_asksRead 0 = .ok (.iload_n 1, 1) := by decide +kernel
theorem dX12_asksRead_1 : decode cX12_asksRead 1 = .ok (.invokestatic 334, 3) := by decide +kernel
theorem dX12_asksRead_4 : decode cX12_asksRead 4 = .ok (.ifCond .eq 10, 3) := by decide +kernel
theorem dX12_asksRead_14 : decode cX12_asksRead 14 = .ok (.bipush (-2), 2) := by decide +kernel
theorem dX12_asksRead_16 : decode cX12_asksRead 16 = .ok (.ireturn, 1) := by decide +kernel
theorem dX12_asksRead_7 : decode cX12_asksRead 7 = .ok (.aload_n 0, 1) := by decide +kernel
theorem dX12_asksRead_8 : decode cX12_asksRead 8 = .ok (.invokevirtual 125, 3) := by decide +kernel
theorem dX12_asksRead_11 : decode cX12_asksRead 11 = .ok (.ifCond .ne 6, 3) := by decide +kernel
theorem dX12_asksRead_17 : decode cX12_asksRead 17 = .ok (.aload_n 0, 1) := by decide +kernel
theorem dX12_asksRead_18 : decode cX12_asksRead 18 = .ok (.getfield 97, 3) := by decide +kernel
theorem dX12_asksRead_21 : decode cX12_asksRead 21 = .ok (.iload_n 1, 1) := by decide +kernel
theorem dX12_asksRead_22 : decode cX12_asksRead 22 = .ok (.iaload, 1) := by decide +kernel
theorem dX12_asksRead_23 : decode cX12_asksRead 23 = .ok (.iconst (-1), 1) := by decide +kernel
theorem dX12_asksRead_24 : decode cX12_asksRead 24 = .ok (.if_icmp .ne 6, 3) := by decide +kernel
theorem dX12_asksRead_30 : decode cX12_asksRead 30 = .ok (.aload_n 0, 1) := by decide +kernel
theorem dX12_asksRead_31 : decode cX12_asksRead 31 = .ok (.getfield 97, 3) := by decide +kernel
theorem dX12_asksRead_34 : decode cX12_asksRead 34 = .ok (.iload_n 1, 1) := by decide +kernel
theorem dX12_asksRead_35 : decode cX12_asksRead 35 = .ok (.iaload, 1) := by decide +kernel
theorem dX12_asksRead_36 : decode cX12_asksRead 36 = .ok (.iconst 2, 1) := by decide +kernel
theorem dX12_asksRead_37 : decode cX12_asksRead 37 = .ok (.irem, 1) := by decide +kernel
theorem dX12_asksRead_38 : decode cX12_asksRead 38 = .ok (.ifCond .eq 6, 3) := by decide +kernel
theorem dX12_asksRead_44 : decode cX12_asksRead 44 = .ok (.iconst 0, 1) := by decide +kernel
theorem dX12_asksRead_45 : decode cX12_asksRead 45 = .ok (.istore_n 2, 1) := by decide +kernel
theorem dX12_asksRead_46 : decode cX12_asksRead 46 = .ok (.iload_n 2, 1) := by decide +kernel
theorem dX12_asksRead_47 : decode cX12_asksRead 47 = .ok (.aload_n 0, 1) := by decide +kernel
theorem dX12_asksRead_48 : decode cX12_asksRead 48 = .ok (.getfield 97, 3) := by decide +kernel
theorem dX12_asksRead_51 : decode cX12_asksRead 51 = .ok (.iload_n 1, 1) := by decide +kernel
theorem dX12_asksRead_52 : decode cX12_asksRead 52 = .ok (.iaload, 1) := by decide +kernel
theorem dX12_asksRead_53 : decode cX12_asksRead 53 = .ok (.if_icmp .ge 46, 3) := by decide +kernel
theorem dX12_asksRead_99 : decode cX12_asksRead 99 = .ok (.iconst 0, 1) := by decide +kernel
theorem dX12_asksRead_100 : decode cX12_asksRead 100 = .ok (.ireturn, 1) := by decide +kernel
theorem dX12_asksRead_56 : decode cX12_asksRead 56 = .ok (.aload_n 0, 1) := by decide +kernel
theorem dX12_asksRead_57 : decode cX12_asksRead 57 = .ok (.iload_n 1, 1) := by decide +kernel
theorem dX12_asksRead_58 : decode cX12_asksRead 58 = .ok (.iload_n 2, 1) := by decide +kernel
theorem dX12_asksRead_59 : decode cX12_asksRead 59 = .ok (.invokevirtual 337, 3) := by decide +kernel
theorem dX12_asksRead_62 : decode cX12_asksRead 62 = .ok (.lconst 0, 1) := by decide +kernel
theorem dX12_asksRead_63 : decode cX12_asksRead 63 = .ok (.ldc2_w 424, 3) := by decide +kernel
theorem dX12_asksRead_66 : decode cX12_asksRead 66 = .ok (.invokestatic 115, 3) := by decide +kernel
theorem dX12_asksRead_69 : decode cX12_asksRead 69 = .ok (.ifCond .eq 21, 3) := by decide +kernel
theorem dX12_asksRead_90 : decode cX12_asksRead 90 = .ok (.bipush (-2), 2) := by decide +kernel
theorem dX12_asksRead_92 : decode cX12_asksRead 92 = .ok (.ireturn, 1) := by decide +kernel
theorem dX12_asksRead_72 : decode cX12_asksRead 72 = .ok (.aload_n 0, 1) := by decide +kernel
theorem dX12_asksRead_73 : decode cX12_asksRead 73 = .ok (.iload_n 1, 1) := by decide +kernel
theorem dX12_asksRead_74 : decode cX12_asksRead 74 = .ok (.iload_n 2, 1) := by decide +kernel
theorem dX12_asksRead_75 : decode cX12_asksRead 75 = .ok (.iconst 1, 1) := by decide +kernel
theorem dX12_asksRead_76 : decode cX12_asksRead 76 = .ok (.iadd, 1) := by decide +kernel
theorem dX12_asksRead_77 : decode cX12_asksRead 77 = .ok (.invokevirtual 337, 3) := by decide +kernel
theorem dX12_asksRead_80 : decode cX12_asksRead 80 = .ok (.lconst 0, 1) := by decide +kernel
theorem dX12_asksRead_81 : decode cX12_asksRead 81 = .ok (.ldc2_w 289, 3) := by decide +kernel
theorem dX12_asksRead_84 : decode cX12_asksRead 84 = .ok (.invokestatic 115, 3) := by decide +kernel
theorem dX12_asksRead_87 : decode cX12_asksRead 87 = .ok (.ifCond .ne 6, 3) := by decide +kernel
theorem dX12_asksRead_93 : decode cX12_asksRead 93 = .ok (.iinc 2 2, 3) := by decide +kernel
theorem dX12_asksRead_96 : decode cX12_asksRead 96 = .ok (.goto (-50), 3) := by decide +kernel
theorem dX12_asksRead_41 : decode cX12_asksRead 41 = .ok (.bipush (-2), 2) := by decide +kernel
theorem dX12_asksRead_43 : decode cX12_asksRead 43 = .ok (.ireturn, 1) := by decide +kernel
theorem dX12_asksRead_27 : decode cX12_asksRead 27 = .ok (.bipush (-6), 2) := by decide +kernel
theorem dX12_asksRead_29 : decode cX12_asksRead 29 = .ok (.ireturn, 1) := by decide +kernel
theorem dX12_readFrom_0 : decode cX12_readFrom 0 = .ok (.iload_n 2, 1) := by decide +kernel
theorem dX12_readFrom_1 : decode cX12_readFrom 1 = .ok (.istore_n 3, 1) := by decide +kernel
theorem dX12_readFrom_2 : decode cX12_readFrom 2 = .ok (.iconst 0, 1) := by decide +kernel
theorem dX12_readFrom_3 : decode cX12_readFrom 3 = .ok (.istore 4, 2) := by decide +kernel
theorem dX12_readFrom_5 : decode cX12_readFrom 5 = .ok (.iload 4, 2) := by decide +kernel
theorem dX12_readFrom_7 : decode cX12_readFrom 7 = .ok (.aload_n 0, 1) := by decide +kernel
theorem dX12_readFrom_8 : decode cX12_readFrom 8 = .ok (.getfield 97, 3) := by decide +kernel
theorem dX12_readFrom_11 : decode cX12_readFrom 11 = .ok (.iload_n 1, 1) := by decide +kernel
theorem dX12_readFrom_12 : decode cX12_readFrom 12 = .ok (.iaload, 1) := by decide +kernel
theorem dX12_readFrom_13 : decode cX12_readFrom 13 = .ok (.if_icmp .ge 51, 3) := by decide +kernel
theorem dX12_readFrom_64 : decode cX12_readFrom 64 = .ok (.iload_n 3, 1) := by decide +kernel
theorem dX12_readFrom_65 : decode cX12_readFrom 65 = .ok (.ireturn, 1) := by decide +kernel
theorem dX12_readFrom_16 : decode cX12_readFrom 16 = .ok (.aload_n 0, 1) := by decide +kernel
theorem dX12_readFrom_17 : decode cX12_readFrom 17 = .ok (.iload_n 1, 1) := by decide +kernel
theorem dX12_readFrom_18 : decode cX12_readFrom 18 = .ok (.iload 4, 2) := by decide +kernel
theorem dX12_readFrom_20 : decode cX12_readFrom 20 = .ok (.invokevirtual 337, 3) := by decide +kernel
theorem dX12_readFrom_23 : decode cX12_readFrom 23 = .ok (.l2i, 1) := by decide +kernel
theorem dX12_readFrom_24 : decode cX12_readFrom 24 = .ok (.istore 5, 2) := by decide +kernel
theorem dX12_readFrom_26 : decode cX12_readFrom 26 = .ok (.aload_n 0, 1) := by decide +kernel
theorem dX12_readFrom_27 : decode cX12_readFrom 27 = .ok (.iload 5, 2) := by decide +kernel
theorem dX12_readFrom_29 : decode cX12_readFrom 29 = .ok (.iconst 4, 1) := by decide +kernel
theorem dX12_readFrom_30 : decode cX12_readFrom 30 = .ok (.if_icmp .ne 7, 3) := by decide +kernel
theorem dX12_readFrom_37 : decode cX12_readFrom 37 = .ok (.aload_n 0, 1) := by decide +kernel
theorem dX12_readFrom_38 : decode cX12_readFrom 38 = .ok (.iload_n 3, 1) := by decide +kernel
theorem dX12_readFrom_39 : decode cX12_readFrom 39 = .ok (.iload 5, 2) := by decide +kernel
theorem dX12_readFrom_41 : decode cX12_readFrom 41 = .ok (.invokevirtual 286, 3) := by decide +kernel
theorem dX12_readFrom_44 : decode cX12_readFrom 44 = .ok (.aload_n 0, 1) := by decide +kernel
theorem dX12_readFrom_45 : decode cX12_readFrom 45 = .ok (.iload_n 1, 1) := by decide +kernel
theorem dX12_readFrom_46 : decode cX12_readFrom 46 = .ok (.iload 4, 2) := by decide +kernel
theorem dX12_readFrom_48 : decode cX12_readFrom 48 = .ok (.iconst 1, 1) := by decide +kernel
theorem dX12_readFrom_49 : decode cX12_readFrom 49 = .ok (.iadd, 1) := by decide +kernel
theorem dX12_readFrom_50 : decode cX12_readFrom 50 = .ok (.invokevirtual 337, 3) := by decide +kernel
theorem dX12_readFrom_53 : decode cX12_readFrom 53 = .ok (.l2i, 1) := by decide +kernel
theorem dX12_readFrom_54 : decode cX12_readFrom 54 = .ok (.invokevirtual 291, 3) := by decide +kernel
theorem dX12_readFrom_57 : decode cX12_readFrom 57 = .ok (.istore_n 3, 1) := by decide +kernel
theorem dX12_readFrom_58 : decode cX12_readFrom 58 = .ok (.iinc 4 2, 3) := by decide +kernel
theorem dX12_readFrom_61 : decode cX12_readFrom 61 = .ok (.goto (-56), 3) := by decide +kernel
theorem dX12_readFrom_33 : decode cX12_readFrom 33 = .ok (.iload_n 3, 1) := by decide +kernel
theorem dX12_readFrom_34 : decode cX12_readFrom 34 = .ok (.goto 10, 3) := by decide +kernel
theorem dX12_read_0 : decode cX12_read 0 = .ok (.aload_n 0, 1) := by decide +kernel
theorem dX12_read_1 : decode cX12_read 1 = .ok (.iload_n 1, 1) := by decide +kernel
theorem dX12_read_2 : decode cX12_read 2 = .ok (.invokevirtual 426, 3) := by decide +kernel
theorem dX12_read_5 : decode cX12_read 5 = .ok (.istore_n 2, 1) := by decide +kernel
theorem dX12_read_6 : decode cX12_read 6 = .ok (.iload_n 2, 1) := by decide +kernel
theorem dX12_read_7 : decode cX12_read 7 = .ok (.ifCond .ge 7, 3) := by decide +kernel
theorem dX12_read_10 : decode cX12_read 10 = .ok (.iload_n 2, 1) := by decide +kernel
theorem dX12_read_11 : decode cX12_read 11 = .ok (.goto 12, 3) := by decide +kernel
theorem dX12_read_23 : decode cX12_read 23 = .ok (.ireturn, 1) := by decide +kernel
theorem dX12_read_14 : decode cX12_read 14 = .ok (.aload_n 0, 1) := by decide +kernel
theorem dX12_read_15 : decode cX12_read 15 = .ok (.iload_n 1, 1) := by decide +kernel
theorem dX12_read_16 : decode cX12_read 16 = .ok (.aload_n 0, 1) := by decide +kernel
theorem dX12_read_17 : decode cX12_read 17 = .ok (.invokevirtual 129, 3) := by decide +kernel
theorem dX12_read_20 : decode cX12_read 20 = .ok (.invokevirtual 429, 3) := by decide +kernel
theorem dX12_began_0 : decode cX12_began 0 = .ok (.aload_n 0, 1) := by decide +kernel
theorem dX12_began_1 : decode cX12_began 1 = .ok (.iload_n 1, 1) := by decide +kernel
theorem dX12_began_2 : decode cX12_began 2 = .ok (.invokevirtual 426, 3) := by decide +kernel
theorem dX12_began_5 : decode cX12_began 5 = .ok (.istore_n 2, 1) := by decide +kernel
theorem dX12_began_6 : decode cX12_began 6 = .ok (.iload_n 2, 1) := by decide +kernel
theorem dX12_began_7 : decode cX12_began 7 = .ok (.ifCond .ge 5, 3) := by decide +kernel
theorem dX12_began_10 : decode cX12_began 10 = .ok (.iload_n 2, 1) := by decide +kernel
theorem dX12_began_11 : decode cX12_began 11 = .ok (.ireturn, 1) := by decide +kernel
theorem dX12_began_12 : decode cX12_began 12 = .ok (.iconst 0, 1) := by decide +kernel
theorem dX12_began_13 : decode cX12_began 13 = .ok (.istore_n 3, 1) := by decide +kernel
theorem dX12_began_14 : decode cX12_began 14 = .ok (.iconst 0, 1) := by decide +kernel
theorem dX12_began_15 : decode cX12_began 15 = .ok (.istore 4, 2) := by decide +kernel
theorem dX12_began_17 : decode cX12_began 17 = .ok (.iload 4, 2) := by decide +kernel
theorem dX12_began_19 : decode cX12_began 19 = .ok (.aload_n 0, 1) := by decide +kernel
theorem dX12_began_20 : decode cX12_began 20 = .ok (.getfield 9, 3) := by decide +kernel
theorem dX12_began_23 : decode cX12_began 23 = .ok (.iconst 0, 1) := by decide +kernel
theorem dX12_began_24 : decode cX12_began 24 = .ok (.iaload, 1) := by decide +kernel
theorem dX12_began_25 : decode cX12_began 25 = .ok (.if_icmp .ge 32, 3) := by decide +kernel
theorem dX12_began_57 : decode cX12_began 57 = .ok (.iload_n 3, 1) := by decide +kernel
theorem dX12_began_58 : decode cX12_began 58 = .ok (.ireturn, 1) := by decide +kernel
theorem dX12_began_28 : decode cX12_began 28 = .ok (.iload_n 3, 1) := by decide +kernel
theorem dX12_began_29 : decode cX12_began 29 = .ok (.aload_n 0, 1) := by decide +kernel
theorem dX12_began_30 : decode cX12_began 30 = .ok (.iload_n 1, 1) := by decide +kernel
theorem dX12_began_31 : decode cX12_began 31 = .ok (.iconst 1, 1) := by decide +kernel
theorem dX12_began_32 : decode cX12_began 32 = .ok (.iload 4, 2) := by decide +kernel
theorem dX12_began_34 : decode cX12_began 34 = .ok (.ishl, 1) := by decide +kernel
theorem dX12_began_35 : decode cX12_began 35 = .ok (.invokevirtual 429, 3) := by decide +kernel
theorem dX12_began_38 : decode cX12_began 38 = .ok (.ifCond .eq 10, 3) := by decide +kernel
theorem dX12_began_48 : decode cX12_began 48 = .ok (.iconst 0, 1) := by decide +kernel
theorem dX12_began_49 : decode cX12_began 49 = .ok (.ior, 1) := by decide +kernel
theorem dX12_began_50 : decode cX12_began 50 = .ok (.istore_n 3, 1) := by decide +kernel
theorem dX12_began_51 : decode cX12_began 51 = .ok (.iinc 4 1, 3) := by decide +kernel
theorem dX12_began_54 : decode cX12_began 54 = .ok (.goto (-37), 3) := by decide +kernel
theorem dX12_began_41 : decode cX12_began 41 = .ok (.iconst 1, 1) := by decide +kernel
theorem dX12_began_42 : decode cX12_began 42 = .ok (.iload 4, 2) := by decide +kernel
theorem dX12_began_44 : decode cX12_began 44 = .ok (.ishl, 1) := by decide +kernel
theorem dX12_began_45 : decode cX12_began 45 = .ok (.goto 4, 3) := by decide +kernel
theorem dX12_worstBy_0 : decode cX12_worstBy 0 = .ok (.iconst 0, 1) := by decide +kernel
theorem dX12_worstBy_1 : decode cX12_worstBy 1 = .ok (.istore_n 3, 1) := by decide +kernel
theorem dX12_worstBy_2 : decode cX12_worstBy 2 = .ok (.iconst 0, 1) := by decide +kernel
theorem dX12_worstBy_3 : decode cX12_worstBy 3 = .ok (.istore 4, 2) := by decide +kernel
theorem dX12_worstBy_5 : decode cX12_worstBy 5 = .ok (.iload 4, 2) := by decide +kernel
theorem dX12_worstBy_7 : decode cX12_worstBy 7 = .ok (.bipush 9, 2) := by decide +kernel
theorem dX12_worstBy_9 : decode cX12_worstBy 9 = .ok (.if_icmp .gt 29, 3) := by decide +kernel
theorem dX12_worstBy_38 : decode cX12_worstBy 38 = .ok (.iload_n 3, 1) := by decide +kernel
theorem dX12_worstBy_39 : decode cX12_worstBy 39 = .ok (.ireturn, 1) := by decide +kernel
theorem dX12_worstBy_12 : decode cX12_worstBy 12 = .ok (.iload_n 3, 1) := by decide +kernel
theorem dX12_worstBy_13 : decode cX12_worstBy 13 = .ok (.aload_n 0, 1) := by decide +kernel
theorem dX12_worstBy_14 : decode cX12_worstBy 14 = .ok (.aload_n 0, 1) := by decide +kernel
theorem dX12_worstBy_15 : decode cX12_worstBy 15 = .ok (.iload_n 1, 1) := by decide +kernel
theorem dX12_worstBy_16 : decode cX12_worstBy 16 = .ok (.iload_n 2, 1) := by decide +kernel
theorem dX12_worstBy_17 : decode cX12_worstBy 17 = .ok (.invokevirtual 286, 3) := by decide +kernel
theorem dX12_worstBy_20 : decode cX12_worstBy 20 = .ok (.iload 4, 2) := by decide +kernel
theorem dX12_worstBy_22 : decode cX12_worstBy 22 = .ok (.invokevirtual 291, 3) := by decide +kernel
theorem dX12_worstBy_25 : decode cX12_worstBy 25 = .ok (.invokestatic 316, 3) := by decide +kernel
theorem dX12_worstBy_28 : decode cX12_worstBy 28 = .ok (.invokestatic 328, 3) := by decide +kernel
theorem dX12_worstBy_31 : decode cX12_worstBy 31 = .ok (.istore_n 3, 1) := by decide +kernel
theorem dX12_worstBy_32 : decode cX12_worstBy 32 = .ok (.iinc 4 1, 3) := by decide +kernel
theorem dX12_worstBy_35 : decode cX12_worstBy 35 = .ok (.goto (-30), 3) := by decide +kernel
theorem dX12_askOf_0 : decode cX12_askOf 0 = .ok (.iconst 0, 1) := by decide +kernel
theorem dX12_askOf_1 : decode cX12_askOf 1 = .ok (.istore_n 2, 1) := by decide +kernel
theorem dX12_askOf_2 : decode cX12_askOf 2 = .ok (.iconst 1, 1) := by decide +kernel
theorem dX12_askOf_3 : decode cX12_askOf 3 = .ok (.istore_n 3, 1) := by decide +kernel
theorem dX12_askOf_4 : decode cX12_askOf 4 = .ok (.iload_n 3, 1) := by decide +kernel
theorem dX12_askOf_5 : decode cX12_askOf 5 = .ok (.iconst 4, 1) := by decide +kernel
theorem dX12_askOf_6 : decode cX12_askOf 6 = .ok (.if_icmp .ge 30, 3) := by decide +kernel
theorem dX12_askOf_36 : decode cX12_askOf 36 = .ok (.iload_n 2, 1) := by decide +kernel
theorem dX12_askOf_37 : decode cX12_askOf 37 = .ok (.ireturn, 1) := by decide +kernel
theorem dX12_askOf_9 : decode cX12_askOf 9 = .ok (.aload_n 0, 1) := by decide +kernel
theorem dX12_askOf_10 : decode cX12_askOf 10 = .ok (.iload_n 1, 1) := by decide +kernel
theorem dX12_askOf_11 : decode cX12_askOf 11 = .ok (.iload_n 3, 1) := by decide +kernel
theorem dX12_askOf_12 : decode cX12_askOf 12 = .ok (.invokevirtual 432, 3) := by decide +kernel
theorem dX12_askOf_15 : decode cX12_askOf 15 = .ok (.aload_n 0, 1) := by decide +kernel
theorem dX12_askOf_16 : decode cX12_askOf 16 = .ok (.iload_n 1, 1) := by decide +kernel
theorem dX12_askOf_17 : decode cX12_askOf 17 = .ok (.iload_n 2, 1) := by decide +kernel
theorem dX12_askOf_18 : decode cX12_askOf 18 = .ok (.invokevirtual 432, 3) := by decide +kernel
theorem dX12_askOf_21 : decode cX12_askOf 21 = .ok (.if_icmp .ge 7, 3) := by decide +kernel
theorem dX12_askOf_28 : decode cX12_askOf 28 = .ok (.iload_n 2, 1) := by decide +kernel
theorem dX12_askOf_29 : decode cX12_askOf 29 = .ok (.istore_n 2, 1) := by decide +kernel
theorem dX12_askOf_30 : decode cX12_askOf 30 = .ok (.iinc 3 1, 3) := by decide +kernel
theorem dX12_askOf_33 : decode cX12_askOf 33 = .ok (.goto (-29), 3) := by decide +kernel
theorem dX12_askOf_24 : decode cX12_askOf 24 = .ok (.iload_n 3, 1) := by decide +kernel
theorem dX12_askOf_25 : decode cX12_askOf 25 = .ok (.goto 4, 3) := by decide +kernel
theorem dX12_ask_0 : decode cX12_ask 0 = .ok (.aload_n 0, 1) := by decide +kernel
theorem dX12_ask_1 : decode cX12_ask 1 = .ok (.iload_n 1, 1) := by decide +kernel
theorem dX12_ask_2 : decode cX12_ask 2 = .ok (.invokevirtual 426, 3) := by decide +kernel
theorem dX12_ask_5 : decode cX12_ask 5 = .ok (.istore_n 2, 1) := by decide +kernel
theorem dX12_ask_6 : decode cX12_ask 6 = .ok (.iload_n 2, 1) := by decide +kernel
theorem dX12_ask_7 : decode cX12_ask 7 = .ok (.ifCond .ge 7, 3) := by decide +kernel
theorem dX12_ask_10 : decode cX12_ask 10 = .ok (.iload_n 2, 1) := by decide +kernel
theorem dX12_ask_11 : decode cX12_ask 11 = .ok (.goto 16, 3) := by decide +kernel
theorem dX12_ask_27 : decode cX12_ask 27 = .ok (.ireturn, 1) := by decide +kernel
theorem dX12_ask_14 : decode cX12_ask 14 = .ok (.aload_n 0, 1) := by decide +kernel
theorem dX12_ask_15 : decode cX12_ask 15 = .ok (.aload_n 0, 1) := by decide +kernel
theorem dX12_ask_16 : decode cX12_ask 16 = .ok (.iload_n 1, 1) := by decide +kernel
theorem dX12_ask_17 : decode cX12_ask 17 = .ok (.aload_n 0, 1) := by decide +kernel
theorem dX12_ask_18 : decode cX12_ask 18 = .ok (.invokevirtual 129, 3) := by decide +kernel
theorem dX12_ask_21 : decode cX12_ask 21 = .ok (.invokevirtual 429, 3) := by decide +kernel
theorem dX12_ask_24 : decode cX12_ask 24 = .ok (.invokevirtual 435, 3) := by decide +kernel
theorem dX12_leaves_0 : decode cX12_leaves 0 = .ok (.aload_n 0, 1) := by decide +kernel
theorem dX12_leaves_1 : decode cX12_leaves 1 = .ok (.iload_n 1, 1) := by decide +kernel
theorem dX12_leaves_2 : decode cX12_leaves 2 = .ok (.invokevirtual 426, 3) := by decide +kernel
theorem dX12_leaves_5 : decode cX12_leaves 5 = .ok (.istore_n 2, 1) := by decide +kernel
theorem dX12_leaves_6 : decode cX12_leaves 6 = .ok (.iload_n 2, 1) := by decide +kernel
theorem dX12_leaves_7 : decode cX12_leaves 7 = .ok (.ifCond .ge 5, 3) := by decide +kernel
theorem dX12_leaves_10 : decode cX12_leaves 10 = .ok (.iload_n 2, 1) := by decide +kernel
theorem dX12_leaves_11 : decode cX12_leaves 11 = .ok (.ireturn, 1) := by decide +kernel
theorem dX12_leaves_12 : decode cX12_leaves 12 = .ok (.aload_n 0, 1) := by decide +kernel
theorem dX12_leaves_13 : decode cX12_leaves 13 = .ok (.iload_n 1, 1) := by decide +kernel
theorem dX12_leaves_14 : decode cX12_leaves 14 = .ok (.aload_n 0, 1) := by decide +kernel
theorem dX12_leaves_15 : decode cX12_leaves 15 = .ok (.invokevirtual 129, 3) := by decide +kernel
theorem dX12_leaves_18 : decode cX12_leaves 18 = .ok (.invokevirtual 429, 3) := by decide +kernel
theorem dX12_leaves_21 : decode cX12_leaves 21 = .ok (.istore_n 3, 1) := by decide +kernel
theorem dX12_leaves_22 : decode cX12_leaves 22 = .ok (.aload_n 0, 1) := by decide +kernel
theorem dX12_leaves_23 : decode cX12_leaves 23 = .ok (.iload_n 3, 1) := by decide +kernel
theorem dX12_leaves_24 : decode cX12_leaves 24 = .ok (.aload_n 0, 1) := by decide +kernel
theorem dX12_leaves_25 : decode cX12_leaves 25 = .ok (.iload_n 3, 1) := by decide +kernel
theorem dX12_leaves_26 : decode cX12_leaves 26 = .ok (.invokevirtual 435, 3) := by decide +kernel
theorem dX12_leaves_29 : decode cX12_leaves 29 = .ok (.invokevirtual 432, 3) := by decide +kernel
theorem dX12_leaves_32 : decode cX12_leaves 32 = .ok (.ireturn, 1) := by decide +kernel
