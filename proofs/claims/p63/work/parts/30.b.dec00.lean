theorem dX11_arePlaces_0 : decode cX11_arePlaces 0 = .ok (.aload_n 0, 1) := by decide +kernel
theorem dX11_arePlaces_1 : decode cX11_arePlaces 1 = .ok (.getfield 19, 3) := by decide +kernel
theorem dX11_arePlaces_4 : decode cX11_arePlaces 4 = .ok (.iload_n 1, 1) := by decide +kernel
theorem dX11_arePlaces_5 : decode cX11_arePlaces 5 = .ok (.invokevirtual 126, 3) := by decide +kernel
theorem dX11_arePlaces_8 : decode cX11_arePlaces 8 = .ok (.ifCond .eq 18, 3) := by decide +kernel
theorem dX11_arePlaces_26 : decode cX11_arePlaces 26 = .ok (.iconst 0, 1) := by decide +kernel
theorem dX11_arePlaces_27 : decode cX11_arePlaces 27 = .ok (.ireturn, 1) := by decide +kernel
theorem dX11_arePlaces_11 : decode cX11_arePlaces 11 = .ok (.aload_n 0, 1) := by decide +kernel
theorem dX11_arePlaces_12 : decode cX11_arePlaces 12 = .ok (.getfield 19, 3) := by decide +kernel
theorem dX11_arePlaces_15 : decode cX11_arePlaces 15 = .ok (.iload_n 2, 1) := by decide +kernel
theorem dX11_arePlaces_16 : decode cX11_arePlaces 16 = .ok (.invokevirtual 126, 3) := by decide +kernel
theorem dX11_arePlaces_19 : decode cX11_arePlaces 19 = .ok (.ifCond .eq 7, 3) := by decide +kernel
theorem dX11_arePlaces_22 : decode cX11_arePlaces 22 = .ok (.iconst 1, 1) := by decide +kernel
theorem dX11_arePlaces_23 : decode cX11_arePlaces 23 = .ok (.goto 4, 3) := by decide +kernel
theorem dX11_stand_0 : decode cX11_stand 0 = .ok (.aload_n 0, 1) := by decide +kernel
theorem dX11_stand_1 : decode cX11_stand 1 = .ok (.getfield 19, 3) := by decide +kernel
theorem dX11_stand_4 : decode cX11_stand 4 = .ok (.iload_n 1, 1) := by decide +kernel
theorem dX11_stand_5 : decode cX11_stand 5 = .ok (.invokevirtual 334, 3) := by decide +kernel
theorem dX11_stand_8 : decode cX11_stand 8 = .ok (.ifCond .ne 5, 3) := by decide +kernel
theorem dX11_stand_11 : decode cX11_stand 11 = .ok (.iconst 0, 1) := by decide +kernel
theorem dX11_stand_12 : decode cX11_stand 12 = .ok (.ireturn, 1) := by decide +kernel
theorem dX11_stand_13 : decode cX11_stand 13 = .ok (.aload_n 0, 1) := by decide +kernel
theorem dX11_stand_14 : decode cX11_stand 14 = .ok (.getfield 33, 3) := by decide +kernel
theorem dX11_stand_17 : decode cX11_stand 17 = .ok (.aload_n 0, 1) := by decide +kernel
theorem dX11_stand_18 : decode cX11_stand 18 = .ok (.getfield 26, 3) := by decide +kernel
theorem dX11_stand_21 : decode cX11_stand 21 = .ok (.getfield 376, 3) := by decide +kernel
theorem dX11_stand_24 : decode cX11_stand 24 = .ok (.iload_n 1, 1) := by decide +kernel
theorem dX11_stand_25 : decode cX11_stand 25 = .ok (.iaload, 1) := by decide +kernel
theorem dX11_stand_26 : decode cX11_stand 26 = .ok (.aload_n 0, 1) := by decide +kernel
theorem dX11_stand_27 : decode cX11_stand 27 = .ok (.getfield 26, 3) := by decide +kernel
theorem dX11_stand_30 : decode cX11_stand 30 = .ok (.getfield 378, 3) := by decide +kernel
theorem dX11_stand_33 : decode cX11_stand 33 = .ok (.iload_n 1, 1) := by decide +kernel
theorem dX11_stand_34 : decode cX11_stand 34 = .ok (.iaload, 1) := by decide +kernel
theorem dX11_stand_35 : decode cX11_stand 35 = .ok (.aload_n 0, 1) := by decide +kernel
theorem dX11_stand_36 : decode cX11_stand 36 = .ok (.getfield 19, 3) := by decide +kernel
theorem dX11_stand_39 : decode cX11_stand 39 = .ok (.getfield 380, 3) := by decide +kernel
theorem dX11_stand_42 : decode cX11_stand 42 = .ok (.iload_n 1, 1) := by decide +kernel
theorem dX11_stand_43 : decode cX11_stand 43 = .ok (.iaload, 1) := by decide +kernel
theorem dX11_stand_44 : decode cX11_stand 44 = .ok (.invokevirtual 383, 3) := by decide +kernel
theorem dX11_stand_47 : decode cX11_stand 47 = .ok (.iconst 1, 1) := by decide +kernel
theorem dX11_stand_48 : decode cX11_stand 48 = .ok (.ireturn, 1) := by decide +kernel
theorem dX11_refuseWalk_0 : decode cX11_refuseWalk 0 = .ok (.iload_n 1, 1) := by decide +kernel
theorem dX11_refuseWalk_1 : decode cX11_refuseWalk 1 = .ok (.invokestatic 352, 3) := by decide +kernel
theorem dX11_refuseWalk_4 : decode cX11_refuseWalk 4 = .ok (.ifCond .eq 11, 3) := by decide +kernel
theorem dX11_refuseWalk_15 : decode cX11_refuseWalk 15 = .ok (.bipush (-2), 2) := by decide +kernel
theorem dX11_refuseWalk_17 : decode cX11_refuseWalk 17 = .ok (.ireturn, 1) := by decide +kernel
theorem dX11_refuseWalk_7 : decode cX11_refuseWalk 7 = .ok (.aload_n 0, 1) := by decide +kernel
theorem dX11_refuseWalk_8 : decode cX11_refuseWalk 8 = .ok (.iload_n 2, 1) := by decide +kernel
theorem dX11_refuseWalk_9 : decode cX11_refuseWalk 9 = .ok (.invokevirtual 152, 3) := by decide +kernel
theorem dX11_refuseWalk_12 : decode cX11_refuseWalk 12 = .ok (.ifCond .ne 6, 3) := by decide +kernel
theorem dX11_refuseWalk_18 : decode cX11_refuseWalk 18 = .ok (.aload_n 0, 1) := by decide +kernel
theorem dX11_refuseWalk_19 : decode cX11_refuseWalk 19 = .ok (.getfield 40, 3) := by decide +kernel
theorem dX11_refuseWalk_22 : decode cX11_refuseWalk 22 = .ok (.iload_n 1, 1) := by decide +kernel
theorem dX11_refuseWalk_23 : decode cX11_refuseWalk 23 = .ok (.invokevirtual 358, 3) := by decide +kernel
theorem dX11_refuseWalk_26 : decode cX11_refuseWalk 26 = .ok (.ifCond .ne 6, 3) := by decide +kernel
theorem dX11_refuseWalk_29 : decode cX11_refuseWalk 29 = .ok (.bipush (-6), 2) := by decide +kernel
theorem dX11_refuseWalk_31 : decode cX11_refuseWalk 31 = .ok (.ireturn, 1) := by decide +kernel
theorem dX11_refuseWalk_32 : decode cX11_refuseWalk 32 = .ok (.iconst 0, 1) := by decide +kernel
theorem dX11_refuseWalk_33 : decode cX11_refuseWalk 33 = .ok (.istore_n 3, 1) := by decide +kernel
theorem dX11_refuseWalk_34 : decode cX11_refuseWalk 34 = .ok (.iload_n 3, 1) := by decide +kernel
theorem dX11_refuseWalk_35 : decode cX11_refuseWalk 35 = .ok (.aload_n 0, 1) := by decide +kernel
theorem dX11_refuseWalk_36 : decode cX11_refuseWalk 36 = .ok (.getfield 40, 3) := by decide +kernel
theorem dX11_refuseWalk_39 : decode cX11_refuseWalk 39 = .ok (.iload_n 1, 1) := by decide +kernel
theorem dX11_refuseWalk_40 : decode cX11_refuseWalk 40 = .ok (.invokevirtual 201, 3) := by decide +kernel
theorem dX11_refuseWalk_43 : decode cX11_refuseWalk 43 = .ok (.if_icmp .ge 31, 3) := by decide +kernel
theorem dX11_refuseWalk_74 : decode cX11_refuseWalk 74 = .ok (.iconst 0, 1) := by decide +kernel
theorem dX11_refuseWalk_75 : decode cX11_refuseWalk 75 = .ok (.ireturn, 1) := by decide +kernel
theorem dX11_refuseWalk_46 : decode cX11_refuseWalk 46 = .ok (.iload_n 3, 1) := by decide +kernel
theorem dX11_refuseWalk_47 : decode cX11_refuseWalk 47 = .ok (.bipush 60, 2) := by decide +kernel
theorem dX11_refuseWalk_49 : decode cX11_refuseWalk 49 = .ok (.if_icmp .ge 25, 3) := by decide +kernel
theorem dX11_refuseWalk_52 : decode cX11_refuseWalk 52 = .ok (.aload_n 0, 1) := by decide +kernel
theorem dX11_refuseWalk_53 : decode cX11_refuseWalk 53 = .ok (.getfield 40, 3) := by decide +kernel
theorem dX11_refuseWalk_56 : decode cX11_refuseWalk 56 = .ok (.iload_n 1, 1) := by decide +kernel
theorem dX11_refuseWalk_57 : decode cX11_refuseWalk 57 = .ok (.iload_n 3, 1) := by decide +kernel
theorem dX11_refuseWalk_58 : decode cX11_refuseWalk 58 = .ok (.iconst 4, 1) := by decide +kernel
theorem dX11_refuseWalk_59 : decode cX11_refuseWalk 59 = .ok (.invokevirtual 386, 3) := by decide +kernel
theorem dX11_refuseWalk_62 : decode cX11_refuseWalk 62 = .ok (.ifCond .ne 6, 3) := by decide +kernel
theorem dX11_refuseWalk_65 : decode cX11_refuseWalk 65 = .ok (.bipush (-2), 2) := by decide +kernel
theorem dX11_refuseWalk_67 : decode cX11_refuseWalk 67 = .ok (.ireturn, 1) := by decide +kernel
theorem dX11_refuseWalk_68 : decode cX11_refuseWalk 68 = .ok (.iinc 3 1, 3) := by decide +kernel
theorem dX11_refuseWalk_71 : decode cX11_refuseWalk 71 = .ok (.goto (-37), 3) := by decide +kernel
theorem dX11_walkRow_0 : decode cX11_walkRow 0 = .ok (.iconst 0, 1) := by decide +kernel
theorem dX11_walkRow_1 : decode cX11_walkRow 1 = .ok (.istore_n 2, 1) := by decide +kernel
theorem dX11_walkRow_2 : decode cX11_walkRow 2 = .ok (.iload_n 2, 1) := by decide +kernel
theorem dX11_walkRow_3 : decode cX11_walkRow 3 = .ok (.aload_n 0, 1) := by decide +kernel
theorem dX11_walkRow_4 : decode cX11_walkRow 4 = .ok (.getfield 40, 3) := by decide +kernel
theorem dX11_walkRow_7 : decode cX11_walkRow 7 = .ok (.iload_n 1, 1) := by decide +kernel
theorem dX11_walkRow_8 : decode cX11_walkRow 8 = .ok (.invokevirtual 201, 3) := by decide +kernel
theorem dX11_walkRow_11 : decode cX11_walkRow 11 = .ok (.if_icmp .ge 35, 3) := by decide +kernel
theorem dX11_walkRow_46 : decode cX11_walkRow 46 = .ok (.return_, 1) := by decide +kernel
theorem dX11_walkRow_14 : decode cX11_walkRow 14 = .ok (.iload_n 2, 1) := by decide +kernel
theorem dX11_walkRow_15 : decode cX11_walkRow 15 = .ok (.bipush 60, 2) := by decide +kernel
theorem dX11_walkRow_17 : decode cX11_walkRow 17 = .ok (.if_icmp .ge 29, 3) := by decide +kernel
theorem dX11_walkRow_20 : decode cX11_walkRow 20 = .ok (.aload_n 0, 1) := by decide +kernel
theorem dX11_walkRow_21 : decode cX11_walkRow 21 = .ok (.getfield 33, 3) := by decide +kernel
theorem dX11_walkRow_24 : decode cX11_walkRow 24 = .ok (.aload_n 0, 1) := by decide +kernel
theorem dX11_walkRow_25 : decode cX11_walkRow 25 = .ok (.getfield 19, 3) := by decide +kernel
theorem dX11_walkRow_28 : decode cX11_walkRow 28 = .ok (.aload_n 0, 1) := by decide +kernel
theorem dX11_walkRow_29 : decode cX11_walkRow 29 = .ok (.getfield 40, 3) := by decide +kernel
theorem dX11_walkRow_32 : decode cX11_walkRow 32 = .ok (.iload_n 1, 1) := by decide +kernel
theorem dX11_walkRow_33 : decode cX11_walkRow 33 = .ok (.iload_n 2, 1) := by decide +kernel
theorem dX11_walkRow_34 : decode cX11_walkRow 34 = .ok (.invokevirtual 204, 3) := by decide +kernel
theorem dX11_walkRow_37 : decode cX11_walkRow 37 = .ok (.invokevirtual 177, 3) := by decide +kernel
theorem dX11_walkRow_40 : decode cX11_walkRow 40 = .ok (.iinc 2 1, 3) := by decide +kernel
theorem dX11_walkRow_43 : decode cX11_walkRow 43 = .ok (.goto (-41), 3) := by decide +kernel
theorem dX11_stepsUntil_0 : decode cX11_stepsUntil 0 = .ok (.aload_n 0, 1) := by decide +kernel
theorem dX11_stepsUntil_1 : decode cX11_stepsUntil 1 = .ok (.getfield 40, 3) := by decide +kernel
theorem dX11_stepsUntil_4 : decode cX11_stepsUntil 4 = .ok (.iload_n 1, 1) := by decide +kernel
theorem dX11_stepsUntil_5 : decode cX11_stepsUntil 5 = .ok (.invokevirtual 201, 3) := by decide +kernel
theorem dX11_stepsUntil_8 : decode cX11_stepsUntil 8 = .ok (.bipush 60, 2) := by decide +kernel
theorem dX11_stepsUntil_10 : decode cX11_stepsUntil 10 = .ok (.invokestatic 317, 3) := by decide +kernel
theorem dX11_stepsUntil_13 : decode cX11_stepsUntil 13 = .ok (.istore_n 3, 1) := by decide +kernel
theorem dX11_stepsUntil_14 : decode cX11_stepsUntil 14 = .ok (.iconst 0, 1) := by decide +kernel
theorem dX11_stepsUntil_15 : decode cX11_stepsUntil 15 = .ok (.istore 4, 2) := by decide +kernel
theorem dX11_stepsUntil_17 : decode cX11_stepsUntil 17 = .ok (.iload 4, 2) := by decide +kernel
theorem dX11_stepsUntil_19 : decode cX11_stepsUntil 19 = .ok (.iload_n 3, 1) := by decide +kernel
theorem dX11_stepsUntil_20 : decode cX11_stepsUntil 20 = .ok (.if_icmp .gt 66, 3) := by decide +kernel
theorem dX11_stepsUntil_86 : decode cX11_stepsUntil 86 = .ok (.iconst (-1), 1) := by decide +kernel
theorem dX11_stepsUntil_87 : decode cX11_stepsUntil 87 = .ok (.ireturn, 1) := by decide +kernel
theorem dX11_stepsUntil_23 : decode cX11_stepsUntil 23 = .ok (.iload_n 2, 1) := by decide +kernel
theorem dX11_stepsUntil_24 : decode cX11_stepsUntil 24 = .ok (.ifCond .eq 16, 3) := by decide +kernel
theorem dX11_stepsUntil_40 : decode cX11_stepsUntil 40 = .ok (.aload_n 0, 1) := by decide +kernel
theorem dX11_stepsUntil_41 : decode cX11_stepsUntil 41 = .ok (.getfield 33, 3) := by decide +kernel
theorem dX11_stepsUntil_44 : decode cX11_stepsUntil 44 = .ok (.invokevirtual 171, 3) := by decide +kernel
theorem dX11_stepsUntil_47 : decode cX11_stepsUntil 47 = .ok (.ifCond .eq 6, 3) := by decide +kernel
theorem dX11_stepsUntil_53 : decode cX11_stepsUntil 53 = .ok (.iload 4, 2) := by decide +kernel
theorem dX11_stepsUntil_55 : decode cX11_stepsUntil 55 = .ok (.iload_n 3, 1) := by decide +kernel
theorem dX11_stepsUntil_56 : decode cX11_stepsUntil 56 = .ok (.if_icmp .ge 24, 3) := by decide +kernel
theorem dX11_stepsUntil_80 : decode cX11_stepsUntil 80 = .ok (.iinc 4 1, 3) := by decide +kernel
theorem dX11_stepsUntil_83 : decode cX11_stepsUntil 83 = .ok (.goto (-66), 3) := by decide +kernel
theorem dX11_stepsUntil_59 : decode cX11_stepsUntil 59 = .ok (.aload_n 0, 1) := by decide +kernel
theorem dX11_stepsUntil_60 : decode cX11_stepsUntil 60 = .ok (.getfield 33, 3) := by decide +kernel
theorem dX11_stepsUntil_63 : decode cX11_stepsUntil 63 = .ok (.aload_n 0, 1) := by decide +kernel
theorem dX11_stepsUntil_64 : decode cX11_stepsUntil 64 = .ok (.getfield 19, 3) := by decide +kernel
theorem dX11_stepsUntil_67 : decode cX11_stepsUntil 67 = .ok (.aload_n 0, 1) := by decide +kernel
theorem dX11_stepsUntil_68 : decode cX11_stepsUntil 68 = .ok (.getfield 40, 3) := by decide +kernel
theorem dX11_stepsUntil_71 : decode cX11_stepsUntil 71 = .ok (.iload_n 1, 1) := by decide +kernel
theorem dX11_stepsUntil_72 : decode cX11_stepsUntil 72 = .ok (.iload 4, 2) := by decide +kernel
theorem dX11_stepsUntil_74 : decode cX11_stepsUntil 74 = .ok (.invokevirtual 204, 3) := by decide +kernel
theorem dX11_stepsUntil_77 : decode cX11_stepsUntil 77 = .ok (.invokevirtual 177, 3) := by decide +kernel
theorem dX11_stepsUntil_50 : decode cX11_stepsUntil 50 = .ok (.iload 4, 2) := by decide +kernel
theorem dX11_stepsUntil_52 : decode cX11_stepsUntil 52 = .ok (.ireturn, 1) := by decide +kernel
theorem dX11_stepsUntil_27 : decode cX11_stepsUntil 27 = .ok (.aload_n 0, 1) := by decide +kernel
theorem dX11_stepsUntil_28 : decode cX11_stepsUntil 28 = .ok (.getfield 33, 3) := by decide +kernel
theorem dX11_stepsUntil_31 : decode cX11_stepsUntil 31 = .ok (.invokevirtual 168, 3) := by decide +kernel
theorem dX11_stepsUntil_34 : decode cX11_stepsUntil 34 = .ok (.ifCond .eq 19, 3) := by decide +kernel
theorem dX11_stepsUntil_37 : decode cX11_stepsUntil 37 = .ok (.goto 13, 3) := by decide +kernel
theorem dX11_seek_0 : decode cX11_seek 0 = .ok (.aload_n 0, 1) := by decide +kernel
theorem dX11_seek_1 : decode cX11_seek 1 = .ok (.iload_n 1, 1) := by decide +kernel
theorem dX11_seek_2 : decode cX11_seek 2 = .ok (.invokevirtual 152, 3) := by decide +kernel
theorem dX11_seek_5 : decode cX11_seek 5 = .ok (.ifCond .ne 5, 3) := by decide +kernel
theorem dX11_seek_8 : decode cX11_seek 8 = .ok (.iconst 0, 1) := by decide +kernel
theorem dX11_seek_9 : decode cX11_seek 9 = .ok (.ireturn, 1) := by decide +kernel
theorem dX11_seek_10 : decode cX11_seek 10 = .ok (.aload_n 0, 1) := by decide +kernel
theorem dX11_seek_11 : decode cX11_seek 11 = .ok (.getfield 47, 3) := by decide +kernel
theorem dX11_seek_14 : decode cX11_seek 14 = .ok (.aload_n 0, 1) := by decide +kernel
theorem dX11_seek_15 : decode cX11_seek 15 = .ok (.getfield 33, 3) := by decide +kernel
theorem dX11_seek_18 : decode cX11_seek 18 = .ok (.getfield 161, 3) := by decide +kernel
theorem dX11_seek_21 : decode cX11_seek 21 = .ok (.iload_n 2, 1) := by decide +kernel
theorem dX11_seek_22 : decode cX11_seek 22 = .ok (.iload_n 3, 1) := by decide +kernel
theorem dX11_seek_23 : decode cX11_seek 23 = .ok (.invokevirtual 389, 3) := by decide +kernel
theorem dX11_seek_26 : decode cX11_seek 26 = .ok (.aload_n 0, 1) := by decide +kernel
theorem dX11_seek_27 : decode cX11_seek 27 = .ok (.getfield 47, 3) := by decide +kernel
theorem dX11_seek_30 : decode cX11_seek 30 = .ok (.aload_n 0, 1) := by decide +kernel
theorem dX11_seek_31 : decode cX11_seek 31 = .ok (.getfield 19, 3) := by decide +kernel
theorem dX11_seek_34 : decode cX11_seek 34 = .ok (.aload_n 0, 1) := by decide +kernel
theorem dX11_seek_35 : decode cX11_seek 35 = .ok (.getfield 33, 3) := by decide +kernel
theorem dX11_seek_38 : decode cX11_seek 38 = .ok (.getfield 155, 3) := by decide +kernel
theorem dX11_seek_41 : decode cX11_seek 41 = .ok (.sipush 1024, 3) := by decide +kernel
theorem dX11_seek_44 : decode cX11_seek 44 = .ok (.imul, 1) := by decide +kernel
theorem dX11_seek_45 : decode cX11_seek 45 = .ok (.aload_n 0, 1) := by decide +kernel
theorem dX11_seek_46 : decode cX11_seek 46 = .ok (.getfield 33, 3) := by decide +kernel
theorem dX11_seek_49 : decode cX11_seek 49 = .ok (.getfield 158, 3) := by decide +kernel
theorem dX11_seek_52 : decode cX11_seek 52 = .ok (.iadd, 1) := by decide +kernel
theorem dX11_seek_53 : decode cX11_seek 53 = .ok (.invokevirtual 392, 3) := by decide +kernel
theorem dX11_seek_56 : decode cX11_seek 56 = .ok (.iconst 1, 1) := by decide +kernel
theorem dX11_seek_57 : decode cX11_seek 57 = .ok (.ireturn, 1) := by decide +kernel
theorem dX11_lookSame_0 : decode cX11_lookSame 0 = .ok (.aload_n 0, 1) := by decide +kernel
theorem dX11_lookSame_1 : decode cX11_lookSame 1 = .ok (.getfield 54, 3) := by decide +kernel
theorem dX11_lookSame_4 : decode cX11_lookSame 4 = .ok (.aload_n 0, 1) := by decide +kernel
theorem dX11_lookSame_5 : decode cX11_lookSame 5 = .ok (.getfield 19, 3) := by decide +kernel
theorem dX11_lookSame_8 : decode cX11_lookSame 8 = .ok (.iconst 1, 1) := by decide +kernel
theorem dX11_lookSame_9 : decode cX11_lookSame 9 = .ok (.iload_n 1, 1) := by decide +kernel
theorem dX11_lookSame_10 : decode cX11_lookSame 10 = .ok (.ishl, 1) := by decide +kernel
theorem dX11_lookSame_11 : decode cX11_lookSame 11 = .ok (.iconst 1, 1) := by decide +kernel
theorem dX11_lookSame_12 : decode cX11_lookSame 12 = .ok (.iload_n 2, 1) := by decide +kernel
theorem dX11_lookSame_13 : decode cX11_lookSame 13 = .ok (.ishl, 1) := by decide +kernel
theorem dX11_lookSame_14 : decode cX11_lookSame 14 = .ok (.ior, 1) := by decide +kernel
theorem dX11_lookSame_15 : decode cX11_lookSame 15 = .ok (.iconst 2, 1) := by decide +kernel
theorem dX11_lookSame_16 : decode cX11_lookSame 16 = .ok (.invokevirtual 243, 3) := by decide +kernel
theorem dX11_lookSame_19 : decode cX11_lookSame 19 = .ok (.aload_n 0, 1) := by decide +kernel
theorem dX11_lookSame_20 : decode cX11_lookSame 20 = .ok (.getfield 54, 3) := by decide +kernel
theorem dX11_lookSame_23 : decode cX11_lookSame 23 = .ok (.getfield 395, 3) := by decide +kernel
theorem dX11_lookSame_26 : decode cX11_lookSame 26 = .ok (.iconst (-1), 1) := by decide +kernel
theorem dX11_lookSame_27 : decode cX11_lookSame 27 = .ok (.if_icmp .ne 7, 3) := by decide +kernel
theorem dX11_lookSame_34 : decode cX11_lookSame 34 = .ok (.iconst 0, 1) := by decide +kernel
theorem dX11_lookSame_35 : decode cX11_lookSame 35 = .ok (.ireturn, 1) := by decide +kernel
theorem dX11_lookSame_30 : decode cX11_lookSame 30 = .ok (.iconst 1, 1) := by decide +kernel
theorem dX11_lookSame_31 : decode cX11_lookSame 31 = .ok (.goto 4, 3) := by decide +kernel
theorem dX11_leastBare_0 : decode cX11_leastBare 0 = .ok (.aload_n 0, 1) := by decide +kernel
theorem dX11_leastBare_1 : decode cX11_leastBare 1 = .ok (.getfield 54, 3) := by decide +kernel
theorem dX11_leastBare_4 : decode cX11_leastBare 4 = .ok (.aload_n 0, 1) := by decide +kernel
theorem dX11_leastBare_5 : decode cX11_leastBare 5 = .ok (.getfield 19, 3) := by decide +kernel
theorem dX11_leastBare_8 : decode cX11_leastBare 8 = .ok (.iconst 1, 1) := by decide +kernel
theorem dX11_leastBare_9 : decode cX11_leastBare 9 = .ok (.iload_n 1, 1) := by decide +kernel
theorem dX11_leastBare_10 : decode cX11_leastBare 10 = .ok (.ishl, 1) := by decide +kernel
theorem dX11_leastBare_11 : decode cX11_leastBare 11 = .ok (.iconst 1, 1) := by decide +kernel
theorem dX11_leastBare_12 : decode cX11_leastBare 12 = .ok (.iload_n 2, 1) := by decide +kernel
theorem dX11_leastBare_13 : decode cX11_leastBare 13 = .ok (.ishl, 1) := by decide +kernel
theorem dX11_leastBare_14 : decode cX11_leastBare 14 = .ok (.ior, 1) := by decide +kernel
theorem dX11_leastBare_15 : decode cX11_leastBare 15 = .ok (.iconst 0, 1) := by decide +kernel
theorem dX11_leastBare_16 : decode cX11_leastBare 16 = .ok (.invokevirtual 243, 3) := by decide +kernel
theorem dX11_leastBare_19 : decode cX11_leastBare 19 = .ok (.aload_n 0, 1) := by decide +kernel
theorem dX11_leastBare_20 : decode cX11_leastBare 20 = .ok (.getfield 19, 3) := by decide +kernel
theorem dX11_leastBare_23 : decode cX11_leastBare 23 = .ok (.invokevirtual 340, 3) := by decide +kernel
theorem dX11_leastBare_26 : decode cX11_leastBare 26 = .ok (.istore_n 3, 1) := by decide +kernel
theorem dX11_leastBare_27 : decode cX11_leastBare 27 = .ok (.iload_n 3, 1) := by decide +kernel
theorem dX11_leastBare_28 : decode cX11_leastBare 28 = .ok (.istore 4, 2) := by decide +kernel
theorem dX11_leastBare_30 : decode cX11_leastBare 30 = .ok (.iconst 0, 1) := by decide +kernel
theorem dX11_leastBare_31 : decode cX11_leastBare 31 = .ok (.istore 5, 2) := by decide +kernel
theorem dX11_leastBare_33 : decode cX11_leastBare 33 = .ok (.iload 5, 2) := by decide +kernel
theorem dX11_leastBare_35 : decode cX11_leastBare 35 = .ok (.iload_n 3, 1) := by decide +kernel
theorem dX11_leastBare_36 : decode cX11_leastBare 36 = .ok (.if_icmp .ge 63, 3) := by decide +kernel
theorem dX11_leastBare_99 : decode cX11_leastBare 99 = .ok (.iload 4, 2) := by decide +kernel
theorem dX11_leastBare_101 : decode cX11_leastBare 101 = .ok (.ireturn, 1) := by decide +kernel
theorem dX11_leastBare_39 : decode cX11_leastBare 39 = .ok (.iload 5, 2) := by decide +kernel
theorem dX11_leastBare_41 : decode cX11_leastBare 41 = .ok (.invokestatic 251, 3) := by decide +kernel
theorem dX11_leastBare_44 : decode cX11_leastBare 44 = .ok (.iload 4, 2) := by decide +kernel
theorem dX11_leastBare_46 : decode cX11_leastBare 46 = .ok (.invokestatic 251, 3) := by decide +kernel
theorem dX11_leastBare_49 : decode cX11_leastBare 49 = .ok (.if_icmp .ge 7, 3) := by decide +kernel
theorem dX11_leastBare_56 : decode cX11_leastBare 56 = .ok (.iconst 0, 1) := by decide +kernel
theorem dX11_leastBare_57 : decode cX11_leastBare 57 = .ok (.istore 6, 2) := by decide +kernel
theorem dX11_leastBare_59 : decode cX11_leastBare 59 = .ok (.iload 5, 2) := by decide +kernel
theorem dX11_leastBare_61 : decode cX11_leastBare 61 = .ok (.iload_n 3, 1) := by decide +kernel
theorem dX11_leastBare_62 : decode cX11_leastBare 62 = .ok (.iconst (-1), 1) := by decide +kernel
theorem dX11_leastBare_63 : decode cX11_leastBare 63 = .ok (.ixor, 1) := by decide +kernel
theorem dX11_leastBare_64 : decode cX11_leastBare 64 = .ok (.iand, 1) := by decide +kernel
theorem dX11_leastBare_65 : decode cX11_leastBare 65 = .ok (.ifCond .ne 28, 3) := by decide +kernel
theorem dX11_leastBare_93 : decode cX11_leastBare 93 = .ok (.iinc 5 1, 3) := by decide +kernel
theorem dX11_leastBare_96 : decode cX11_leastBare 96 = .ok (.goto (-63), 3) := by decide +kernel
theorem dX11_leastBare_68 : decode cX11_leastBare 68 = .ok (.iload 6, 2) := by decide +kernel
theorem dX11_leastBare_70 : decode cX11_leastBare 70 = .ok (.ifCond .eq 23, 3) := by decide +kernel
theorem dX11_leastBare_52 : decode cX11_leastBare 52 = .ok (.iconst 1, 1) := by decide +kernel
theorem dX11_leastBare_53 : decode cX11_leastBare 53 = .ok (.goto 4, 3) := by decide +kernel
theorem dX11_leastBare_73 : decode cX11_leastBare 73 = .ok (.aload_n 0, 1) := by decide +kernel
theorem dX11_leastBare_74 : decode cX11_leastBare 74 = .ok (.getfield 54, 3) := by decide +kernel
theorem dX11_leastBare_77 : decode cX11_leastBare 77 = .ok (.aload_n 0, 1) := by decide +kernel
theorem dX11_leastBare_78 : decode cX11_leastBare 78 = .ok (.getfield 19, 3) := by decide +kernel
theorem dX11_leastBare_81 : decode cX11_leastBare 81 = .ok (.iload 5, 2) := by decide +kernel
theorem dX11_leastBare_83 : decode cX11_leastBare 83 = .ok (.invokevirtual 398, 3) := by decide +kernel
theorem dX11_leastBare_86 : decode cX11_leastBare 86 = .ok (.ifCond .eq 7, 3) := by decide +kernel
theorem dX11_leastBare_89 : decode cX11_leastBare 89 = .ok (.iload 5, 2) := by decide +kernel
theorem dX11_leastBare_91 : decode cX11_leastBare 91 = .ok (.istore 4, 2) := by decide +kernel
theorem dX11_reach_0 : decode cX11_reach 0 = .ok (.iconst 1, 1) := by decide +kernel
theorem dX11_reach_1 : decode cX11_reach 1 = .ok (.iload_n 1, 1) := by decide +kernel
theorem dX11_reach_2 : decode cX11_reach 2 = .ok (.ishl, 1) := by decide +kernel
theorem dX11_reach_3 : decode cX11_reach 3 = .ok (.istore_n 3, 1) := by decide +kernel
theorem dX11_reach_4 : decode cX11_reach 4 = .ok (.iconst 0, 1) := by decide +kernel
theorem dX11_reach_5 : decode cX11_reach 5 = .ok (.istore 4, 2) := by decide +kernel
theorem dX11_reach_7 : decode cX11_reach 7 = .ok (.iload 4, 2) := by decide +kernel
theorem dX11_reach_9 : decode cX11_reach 9 = .ok (.iload_n 2, 1) := by decide +kernel
theorem dX11_reach_10 : decode cX11_reach 10 = .ok (.if_icmp .ge 18, 3) := by decide +kernel
theorem dX11_reach_28 : decode cX11_reach 28 = .ok (.iload_n 3, 1) := by decide +kernel
theorem dX11_reach_29 : decode cX11_reach 29 = .ok (.ireturn, 1) := by decide +kernel
theorem dX11_reach_13 : decode cX11_reach 13 = .ok (.aload_n 0, 1) := by decide +kernel
theorem dX11_reach_14 : decode cX11_reach 14 = .ok (.getfield 19, 3) := by decide +kernel
theorem dX11_reach_17 : decode cX11_reach 17 = .ok (.iload_n 3, 1) := by decide +kernel
theorem dX11_reach_18 : decode cX11_reach 18 = .ok (.invokevirtual 402, 3) := by decide +kernel
theorem dX11_reach_21 : decode cX11_reach 21 = .ok (.istore_n 3, 1) := by decide +kernel
theorem dX11_reach_22 : decode cX11_reach 22 = .ok (.iinc 4 1, 3) := by decide +kernel
theorem dX11_reach_25 : decode cX11_reach 25 = .ok (.goto (-18), 3) := by decide +kernel
theorem dX11_stepsToMeet_0 : decode cX11_stepsToMeet 0 = .ok (.iconst 1, 1) := by decide +kernel
theorem dX11_stepsToMeet_1 : decode cX11_stepsToMeet 1 = .ok (.iload_n 1, 1) := by decide +kernel
theorem dX11_stepsToMeet_2 : decode cX11_stepsToMeet 2 = .ok (.ishl, 1) := by decide +kernel
theorem dX11_stepsToMeet_3 : decode cX11_stepsToMeet 3 = .ok (.istore_n 3, 1) := by decide +kernel
theorem dX11_stepsToMeet_4 : decode cX11_stepsToMeet 4 = .ok (.iconst 1, 1) := by decide +kernel
theorem dX11_stepsToMeet_5 : decode cX11_stepsToMeet 5 = .ok (.iload_n 2, 1) := by decide +kernel
theorem dX11_stepsToMeet_6 : decode cX11_stepsToMeet 6 = .ok (.ishl, 1) := by decide +kernel
theorem dX11_stepsToMeet_7 : decode cX11_stepsToMeet 7 = .ok (.istore 4, 2) := by decide +kernel
theorem dX11_stepsToMeet_9 : decode cX11_stepsToMeet 9 = .ok (.iconst 0, 1) := by decide +kernel
theorem dX11_stepsToMeet_10 : decode cX11_stepsToMeet 10 = .ok (.istore 5, 2) := by decide +kernel
theorem dX11_stepsToMeet_12 : decode cX11_stepsToMeet 12 = .ok (.iload 5, 2) := by decide +kernel
theorem dX11_stepsToMeet_14 : decode cX11_stepsToMeet 14 = .ok (.bipush 100, 2) := by decide +kernel
theorem dX11_stepsToMeet_16 : decode cX11_stepsToMeet 16 = .ok (.if_icmp .gt 39, 3) := by decide +kernel
theorem dX11_stepsToMeet_55 : decode cX11_stepsToMeet 55 = .ok (.iconst (-1), 1) := by decide +kernel
theorem dX11_stepsToMeet_56 : decode cX11_stepsToMeet 56 = .ok (.ireturn, 1) := by decide +kernel
theorem dX11_stepsToMeet_19 : decode cX11_stepsToMeet 19 = .ok (.iload_n 3, 1) := by decide +kernel
theorem dX11_stepsToMeet_20 : decode cX11_stepsToMeet 20 = .ok (.iload 4, 2) := by decide +kernel
theorem dX11_stepsToMeet_22 : decode cX11_stepsToMeet 22 = .ok (.iand, 1) := by decide +kernel
theorem dX11_stepsToMeet_23 : decode cX11_stepsToMeet 23 = .ok (.ifCond .eq 6, 3) := by decide +kernel
theorem dX11_stepsToMeet_29 : decode cX11_stepsToMeet 29 = .ok (.aload_n 0, 1) := by decide +kernel
theorem dX11_stepsToMeet_30 : decode cX11_stepsToMeet 30 = .ok (.getfield 19, 3) := by decide +kernel
theorem dX11_stepsToMeet_33 : decode cX11_stepsToMeet 33 = .ok (.iload_n 3, 1) := by decide +kernel
theorem dX11_stepsToMeet_34 : decode cX11_stepsToMeet 34 = .ok (.invokevirtual 402, 3) := by decide +kernel
theorem dX11_stepsToMeet_37 : decode cX11_stepsToMeet 37 = .ok (.istore_n 3, 1) := by decide +kernel
theorem dX11_stepsToMeet_38 : decode cX11_stepsToMeet 38 = .ok (.aload_n 0, 1) := by decide +kernel
theorem dX11_stepsToMeet_39 : decode cX11_stepsToMeet 39 = .ok (.getfield 19, 3) := by decide +kernel
theorem dX11_stepsToMeet_42 : decode cX11_stepsToMeet 42 = .ok (.iload 4, 2) := by decide +kernel
theorem dX11_stepsToMeet_44 : decode cX11_stepsToMeet 44 = .ok (.invokevirtual 402, 3) := by decide +kernel
theorem dX11_stepsToMeet_47 : decode cX11_stepsToMeet 47 = .ok (.istore 4, 2) := by decide +kernel
theorem dX11_stepsToMeet_49 : decode cX11_stepsToMeet 49 = .ok (.iinc 5 1, 3) := by decide +kernel
theorem dX11_stepsToMeet_52 : decode cX11_stepsToMeet 52 = .ok (.goto (-40), 3) := by decide +kernel
theorem dX11_stepsToMeet_26 : decode cX11_stepsToMeet 26 = .ok (.iload 5, 2) := by decide +kernel
theorem dX11_stepsToMeet_28 : decode cX11_stepsToMeet 28 = .ok (.ireturn, 1) := by decide +kernel
theorem dX11_refuseReading_0 : decode cX11_refuseReading 0 = .ok (.iload_n 1, 1) := by decide +kernel
theorem dX11_refuseReading_1 : decode cX11_refuseReading 1 = .ok (.invokestatic 352, 3) := by decide +kernel
theorem dX11_refuseReading_4 : decode cX11_refuseReading 4 = .ok (.ifCond .eq 13, 3) := by decide +kernel
theorem dX11_refuseReading_17 : decode cX11_refuseReading 17 = .ok (.bipush (-2), 2) := by decide +kernel
theorem dX11_refuseReading_19 : decode cX11_refuseReading 19 = .ok (.ireturn, 1) := by decide +kernel
theorem dX11_refuseReading_7 : decode cX11_refuseReading 7 = .ok (.aload_n 0, 1) := by decide +kernel
theorem dX11_refuseReading_8 : decode cX11_refuseReading 8 = .ok (.getfield 19, 3) := by decide +kernel
theorem dX11_refuseReading_11 : decode cX11_refuseReading 11 = .ok (.invokevirtual 185, 3) := by decide +kernel
theorem dX11_refuseReading_14 : decode cX11_refuseReading 14 = .ok (.ifCond .ne 6, 3) := by decide +kernel
theorem dX11_refuseReading_20 : decode cX11_refuseReading 20 = .ok (.aload_n 0, 1) := by decide +kernel
theorem dX11_refuseReading_21 : decode cX11_refuseReading 21 = .ok (.getfield 40, 3) := by decide +kernel
theorem dX11_refuseReading_24 : decode cX11_refuseReading 24 = .ok (.iload_n 1, 1) := by decide +kernel
theorem dX11_refuseReading_25 : decode cX11_refuseReading 25 = .ok (.invokevirtual 358, 3) := by decide +kernel
theorem dX11_refuseReading_28 : decode cX11_refuseReading 28 = .ok (.ifCond .ne 6, 3) := by decide +kernel
theorem dX11_refuseReading_31 : decode cX11_refuseReading 31 = .ok (.bipush (-6), 2) := by decide +kernel
theorem dX11_refuseReading_33 : decode cX11_refuseReading 33 = .ok (.ireturn, 1) := by decide +kernel
theorem dX11_refuseReading_34 : decode cX11_refuseReading 34 = .ok (.aload_n 0, 1) := by decide +kernel
theorem dX11_refuseReading_35 : decode cX11_refuseReading 35 = .ok (.getfield 40, 3) := by decide +kernel
theorem dX11_refuseReading_38 : decode cX11_refuseReading 38 = .ok (.iload_n 1, 1) := by decide +kernel
theorem dX11_refuseReading_39 : decode cX11_refuseReading 39 = .ok (.invokevirtual 201, 3) := by decide +kernel
theorem dX11_refuseReading_42 : decode cX11_refuseReading 42 = .ok (.iconst 2, 1) := by decide +kernel
theorem dX11_refuseReading_43 : decode cX11_refuseReading 43 = .ok (.irem, 1) := by decide +kernel
theorem dX11_refuseReading_44 : decode cX11_refuseReading 44 = .ok (.ifCond .eq 6, 3) := by decide +kernel
theorem dX11_refuseReading_50 : decode cX11_refuseReading 50 = .ok (.iconst 0, 1) := by decide +kernel
theorem dX11_refuseReading_51 : decode cX11_refuseReading 51 = .ok (.istore_n 2, 1) := by decide +kernel
theorem dX11_refuseReading_52 : decode cX11_refuseReading 52 = .ok (.iload_n 2, 1) := by decide +kernel
theorem dX11_refuseReading_53 : decode cX11_refuseReading 53 = .ok (.aload_n 0, 1) := by decide +kernel
theorem dX11_refuseReading_54 : decode cX11_refuseReading 54 = .ok (.getfield 40, 3) := by decide +kernel
theorem dX11_refuseReading_57 : decode cX11_refuseReading 57 = .ok (.iload_n 1, 1) := by decide +kernel
theorem dX11_refuseReading_58 : decode cX11_refuseReading 58 = .ok (.invokevirtual 201, 3) := by decide +kernel
theorem dX11_refuseReading_61 : decode cX11_refuseReading 61 = .ok (.if_icmp .ge 42, 3) := by decide +kernel
theorem dX11_refuseReading_103 : decode cX11_refuseReading 103 = .ok (.iconst 0, 1) := by decide +kernel
theorem dX11_refuseReading_104 : decode cX11_refuseReading 104 = .ok (.ireturn, 1) := by decide +kernel
theorem dX11_refuseReading_64 : decode cX11_refuseReading 64 = .ok (.iload_n 2, 1) := by decide +kernel
theorem dX11_refuseReading_65 : decode cX11_refuseReading 65 = .ok (.bipush 60, 2) := by decide +kernel
theorem dX11_refuseReading_67 : decode cX11_refuseReading 67 = .ok (.if_icmp .ge 36, 3) := by decide +kernel
theorem dX11_refuseReading_70 : decode cX11_refuseReading 70 = .ok (.aload_n 0, 1) := by decide +kernel
theorem dX11_refuseReading_71 : decode cX11_refuseReading 71 = .ok (.getfield 40, 3) := by decide +kernel
theorem dX11_refuseReading_74 : decode cX11_refuseReading 74 = .ok (.iload_n 1, 1) := by decide +kernel
theorem dX11_refuseReading_75 : decode cX11_refuseReading 75 = .ok (.iload_n 2, 1) := by decide +kernel
theorem dX11_refuseReading_76 : decode cX11_refuseReading 76 = .ok (.iload_n 2, 1) := by decide +kernel
theorem dX11_refuseReading_77 : decode cX11_refuseReading 77 = .ok (.iconst 2, 1) := by decide +kernel
theorem dX11_refuseReading_78 : decode cX11_refuseReading 78 = .ok (.irem, 1) := by decide +kernel
theorem dX11_refuseReading_79 : decode cX11_refuseReading 79 = .ok (.ifCond .ne 7, 3) := by decide +kernel
theorem dX11_refuseReading_86 : decode cX11_refuseReading 86 = .ok (.bipush 10, 2) := by decide +kernel
theorem dX11_refuseReading_88 : decode cX11_refuseReading 88 = .ok (.invokevirtual 386, 3) := by decide +kernel
theorem dX11_refuseReading_91 : decode cX11_refuseReading 91 = .ok (.ifCond .ne 6, 3) := by decide +kernel
theorem dX11_refuseReading_94 : decode cX11_refuseReading 94 = .ok (.bipush (-2), 2) := by decide +kernel
theorem dX11_refuseReading_96 : decode cX11_refuseReading 96 = .ok (.ireturn, 1) := by decide +kernel
theorem dX11_refuseReading_97 : decode cX11_refuseReading 97 = .ok (.iinc 2 1, 3) := by decide +kernel
theorem dX11_refuseReading_100 : decode cX11_refuseReading 100 = .ok (.goto (-48), 3) := by decide +kernel
theorem dX11_refuseReading_82 : decode cX11_refuseReading 82 = .ok (.iconst 5, 1) := by decide +kernel
theorem dX11_refuseReading_83 : decode cX11_refuseReading 83 = .ok (.goto 5, 3) := by decide +kernel
theorem dX11_refuseReading_47 : decode cX11_refuseReading 47 = .ok (.bipush (-2), 2) := by decide +kernel
theorem dX11_refuseReading_49 : decode cX11_refuseReading 49 = .ok (.ireturn, 1) := by decide +kernel
theorem dX11_fitting_0 : decode cX11_fitting 0 = .ok (.iload_n 2, 1) := by decide +kernel
theorem dX11_fitting_1 : decode cX11_fitting 1 = .ok (.istore_n 3, 1) := by decide +kernel
theorem dX11_fitting_2 : decode cX11_fitting 2 = .ok (.iconst 0, 1) := by decide +kernel
theorem dX11_fitting_3 : decode cX11_fitting 3 = .ok (.istore 4, 2) := by decide +kernel
theorem dX11_fitting_5 : decode cX11_fitting 5 = .ok (.iload 4, 2) := by decide +kernel
theorem dX11_fitting_7 : decode cX11_fitting 7 = .ok (.iconst 1, 1) := by decide +kernel
theorem dX11_fitting_8 : decode cX11_fitting 8 = .ok (.iadd, 1) := by decide +kernel
theorem dX11_fitting_9 : decode cX11_fitting 9 = .ok (.aload_n 0, 1) := by decide +kernel
theorem dX11_fitting_10 : decode cX11_fitting 10 = .ok (.getfield 40, 3) := by decide +kernel
theorem dX11_fitting_13 : decode cX11_fitting 13 = .ok (.iload_n 1, 1) := by decide +kernel
theorem dX11_fitting_14 : decode cX11_fitting 14 = .ok (.invokevirtual 201, 3) := by decide +kernel
theorem dX11_fitting_17 : decode cX11_fitting 17 = .ok (.if_icmp .ge 72, 3) := by decide +kernel
theorem dX11_fitting_89 : decode cX11_fitting 89 = .ok (.iload_n 3, 1) := by decide +kernel
theorem dX11_fitting_90 : decode cX11_fitting 90 = .ok (.ireturn, 1) := by decide +kernel
theorem dX11_fitting_20 : decode cX11_fitting 20 = .ok (.iload 4, 2) := by decide +kernel
theorem dX11_fitting_22 : decode cX11_fitting 22 = .ok (.bipush 60, 2) := by decide +kernel
theorem dX11_fitting_24 : decode cX11_fitting 24 = .ok (.if_icmp .ge 65, 3) := by decide +kernel
theorem dX11_fitting_27 : decode cX11_fitting 27 = .ok (.aload_n 0, 1) := by decide +kernel
theorem dX11_fitting_28 : decode cX11_fitting 28 = .ok (.getfield 40, 3) := by decide +kernel
theorem dX11_fitting_31 : decode cX11_fitting 31 = .ok (.iload_n 1, 1) := by decide +kernel
theorem dX11_fitting_32 : decode cX11_fitting 32 = .ok (.iload 4, 2) := by decide +kernel
theorem dX11_fitting_34 : decode cX11_fitting 34 = .ok (.invokevirtual 204, 3) := by decide +kernel
theorem dX11_fitting_37 : decode cX11_fitting 37 = .ok (.istore 5, 2) := by decide +kernel
theorem dX11_fitting_39 : decode cX11_fitting 39 = .ok (.iload 5, 2) := by decide +kernel
theorem dX11_fitting_41 : decode cX11_fitting 41 = .ok (.iconst 4, 1) := by decide +kernel
theorem dX11_fitting_42 : decode cX11_fitting 42 = .ok (.if_icmp .ne 7, 3) := by decide +kernel
theorem dX11_fitting_49 : decode cX11_fitting 49 = .ok (.aload_n 0, 1) := by decide +kernel
theorem dX11_fitting_50 : decode cX11_fitting 50 = .ok (.getfield 19, 3) := by decide +kernel
theorem dX11_fitting_53 : decode cX11_fitting 53 = .ok (.iload_n 3, 1) := by decide +kernel
theorem dX11_fitting_54 : decode cX11_fitting 54 = .ok (.iload 5, 2) := by decide +kernel
theorem dX11_fitting_56 : decode cX11_fitting 56 = .ok (.invokevirtual 143, 3) := by decide +kernel
theorem dX11_fitting_59 : decode cX11_fitting 59 = .ok (.istore 6, 2) := by decide +kernel
theorem dX11_fitting_61 : decode cX11_fitting 61 = .ok (.aload_n 0, 1) := by decide +kernel
theorem dX11_fitting_62 : decode cX11_fitting 62 = .ok (.getfield 19, 3) := by decide +kernel
theorem dX11_fitting_65 : decode cX11_fitting 65 = .ok (.iload 6, 2) := by decide +kernel
theorem dX11_fitting_67 : decode cX11_fitting 67 = .ok (.aload_n 0, 1) := by decide +kernel
theorem dX11_fitting_68 : decode cX11_fitting 68 = .ok (.getfield 40, 3) := by decide +kernel
theorem dX11_fitting_71 : decode cX11_fitting 71 = .ok (.iload_n 1, 1) := by decide +kernel
theorem dX11_fitting_72 : decode cX11_fitting 72 = .ok (.iload 4, 2) := by decide +kernel
theorem dX11_fitting_74 : decode cX11_fitting 74 = .ok (.iconst 1, 1) := by decide +kernel
theorem dX11_fitting_75 : decode cX11_fitting 75 = .ok (.iadd, 1) := by decide +kernel
theorem dX11_fitting_76 : decode cX11_fitting 76 = .ok (.invokevirtual 204, 3) := by decide +kernel
theorem dX11_fitting_79 : decode cX11_fitting 79 = .ok (.invokevirtual 149, 3) := by decide +kernel
theorem dX11_fitting_82 : decode cX11_fitting 82 = .ok (.istore_n 3, 1) := by decide +kernel
theorem dX11_fitting_83 : decode cX11_fitting 83 = .ok (.iinc 4 2, 3) := by decide +kernel
theorem dX11_fitting_86 : decode cX11_fitting 86 = .ok (.goto (-81), 3) := by decide +kernel
theorem dX11_fitting_45 : decode cX11_fitting 45 = .ok (.iload_n 3, 1) := by decide +kernel
theorem dX11_fitting_46 : decode cX11_fitting 46 = .ok (.goto 13, 3) := by decide +kernel
theorem dX11_worstLeft_0 : decode cX11_worstLeft 0 = .ok (.iconst 0, 1) := by decide +kernel
theorem dX11_worstLeft_1 : decode cX11_worstLeft 1 = .ok (.istore_n 2, 1) := by decide +kernel
theorem dX11_worstLeft_2 : decode cX11_worstLeft 2 = .ok (.iconst 0, 1) := by decide +kernel
theorem dX11_worstLeft_3 : decode cX11_worstLeft 3 = .ok (.istore_n 3, 1) := by decide +kernel
theorem dX11_worstLeft_4 : decode cX11_worstLeft 4 = .ok (.iload_n 3, 1) := by decide +kernel
theorem dX11_worstLeft_5 : decode cX11_worstLeft 5 = .ok (.bipush 10, 2) := by decide +kernel
theorem dX11_worstLeft_7 : decode cX11_worstLeft 7 = .ok (.if_icmp .ge 26, 3) := by decide +kernel
theorem dX11_worstLeft_33 : decode cX11_worstLeft 33 = .ok (.iload_n 2, 1) := by decide +kernel
theorem dX11_worstLeft_34 : decode cX11_worstLeft 34 = .ok (.ireturn, 1) := by decide +kernel
theorem dX11_worstLeft_10 : decode cX11_worstLeft 10 = .ok (.iload_n 2, 1) := by decide +kernel
theorem dX11_worstLeft_11 : decode cX11_worstLeft 11 = .ok (.aload_n 0, 1) := by decide +kernel
theorem dX11_worstLeft_12 : decode cX11_worstLeft 12 = .ok (.getfield 19, 3) := by decide +kernel
theorem dX11_worstLeft_15 : decode cX11_worstLeft 15 = .ok (.iload_n 1, 1) := by decide +kernel
theorem dX11_worstLeft_16 : decode cX11_worstLeft 16 = .ok (.iload_n 3, 1) := by decide +kernel
theorem dX11_worstLeft_17 : decode cX11_worstLeft 17 = .ok (.invokevirtual 149, 3) := by decide +kernel
theorem dX11_worstLeft_20 : decode cX11_worstLeft 20 = .ok (.invokestatic 251, 3) := by decide +kernel
theorem dX11_worstLeft_23 : decode cX11_worstLeft 23 = .ok (.invokestatic 207, 3) := by decide +kernel
theorem dX11_worstLeft_26 : decode cX11_worstLeft 26 = .ok (.istore_n 2, 1) := by decide +kernel
theorem dX11_worstLeft_27 : decode cX11_worstLeft 27 = .ok (.iinc 3 1, 3) := by decide +kernel
theorem dX11_worstLeft_30 : decode cX11_worstLeft 30 = .ok (.goto (-26), 3) := by decide +kernel
theorem dX11_bestWind_0 : decode cX11_bestWind 0 = .ok (.iconst 0, 1) := by decide +kernel
theorem dX11_bestWind_1 : decode cX11_bestWind 1 = .ok (.istore_n 2, 1) := by decide +kernel
theorem dX11_bestWind_2 : decode cX11_bestWind 2 = .ok (.iconst 1, 1) := by decide +kernel
theorem dX11_bestWind_3 : decode cX11_bestWind 3 = .ok (.istore_n 3, 1) := by decide +kernel
theorem dX11_bestWind_4 : decode cX11_bestWind 4 = .ok (.iload_n 3, 1) := by decide +kernel
theorem dX11_bestWind_5 : decode cX11_bestWind 5 = .ok (.iconst 4, 1) := by decide +kernel
theorem dX11_bestWind_6 : decode cX11_bestWind 6 = .ok (.if_icmp .ge 40, 3) := by decide +kernel
theorem dX11_bestWind_46 : decode cX11_bestWind 46 = .ok (.iload_n 2, 1) := by decide +kernel
theorem dX11_bestWind_47 : decode cX11_bestWind 47 = .ok (.ireturn, 1) := by decide +kernel
theorem dX11_bestWind_9 : decode cX11_bestWind 9 = .ok (.aload_n 0, 1) := by decide +kernel
theorem dX11_bestWind_10 : decode cX11_bestWind 10 = .ok (.aload_n 0, 1) := by decide +kernel
theorem dX11_bestWind_11 : decode cX11_bestWind 11 = .ok (.getfield 19, 3) := by decide +kernel
theorem dX11_bestWind_14 : decode cX11_bestWind 14 = .ok (.iload_n 1, 1) := by decide +kernel
theorem dX11_bestWind_15 : decode cX11_bestWind 15 = .ok (.iload_n 3, 1) := by decide +kernel
theorem dX11_bestWind_16 : decode cX11_bestWind 16 = .ok (.invokevirtual 143, 3) := by decide +kernel
theorem dX11_bestWind_19 : decode cX11_bestWind 19 = .ok (.invokevirtual 281, 3) := by decide +kernel
theorem dX11_bestWind_22 : decode cX11_bestWind 22 = .ok (.aload_n 0, 1) := by decide +kernel
theorem dX11_bestWind_23 : decode cX11_bestWind 23 = .ok (.aload_n 0, 1) := by decide +kernel
theorem dX11_bestWind_24 : decode cX11_bestWind 24 = .ok (.getfield 19, 3) := by decide +kernel
theorem dX11_bestWind_27 : decode cX11_bestWind 27 = .ok (.iload_n 1, 1) := by decide +kernel
theorem dX11_bestWind_28 : decode cX11_bestWind 28 = .ok (.iload_n 2, 1) := by decide +kernel
theorem dX11_bestWind_29 : decode cX11_bestWind 29 = .ok (.invokevirtual 143, 3) := by decide +kernel
theorem dX11_bestWind_32 : decode cX11_bestWind 32 = .ok (.invokevirtual 281, 3) := by decide +kernel
theorem dX11_bestWind_35 : decode cX11_bestWind 35 = .ok (.if_icmp .ge 5, 3) := by decide +kernel
theorem dX11_bestWind_40 : decode cX11_bestWind 40 = .ok (.iinc 3 1, 3) := by decide +kernel
theorem dX11_bestWind_43 : decode cX11_bestWind 43 = .ok (.goto (-39), 3) := by decide +kernel
theorem dX11_bestWind_38 : decode cX11_bestWind 38 = .ok (.iload_n 3, 1) := by decide +kernel
theorem dX11_bestWind_39 : decode cX11_bestWind 39 = .ok (.istore_n 2, 1) := by decide +kernel
theorem dX11_drawWalk_0 : decode cX11_drawWalk 0 = .ok (.iload_n 1, 1) := by decide +kernel
theorem dX11_drawWalk_1 : decode cX11_drawWalk 1 = .ok (.i2l, 1) := by decide +kernel
theorem dX11_drawWalk_2 : decode cX11_drawWalk 2 = .ok (.lstore_n 3, 1) := by decide +kernel
theorem dX11_drawWalk_3 : decode cX11_drawWalk 3 = .ok (.aload_n 0, 1) := by decide +kernel
theorem dX11_drawWalk_4 : decode cX11_drawWalk 4 = .ok (.getfield 33, 3) := by decide +kernel
theorem dX11_drawWalk_7 : decode cX11_drawWalk 7 = .ok (.invokevirtual 168, 3) := by decide +kernel
theorem dX11_drawWalk_10 : decode cX11_drawWalk 10 = .ok (.ifCond .eq 7, 3) := by decide +kernel
theorem dX11_drawWalk_17 : decode cX11_drawWalk 17 = .ok (.iconst 0, 1) := by decide +kernel
theorem dX11_drawWalk_18 : decode cX11_drawWalk 18 = .ok (.istore 5, 2) := by decide +kernel
theorem dX11_drawWalk_20 : decode cX11_drawWalk 20 = .ok (.iconst 0, 1) := by decide +kernel
theorem dX11_drawWalk_21 : decode cX11_drawWalk 21 = .ok (.istore 6, 2) := by decide +kernel
theorem dX11_drawWalk_23 : decode cX11_drawWalk 23 = .ok (.iload 6, 2) := by decide +kernel
theorem dX11_drawWalk_25 : decode cX11_drawWalk 25 = .ok (.iload_n 2, 1) := by decide +kernel
theorem dX11_drawWalk_26 : decode cX11_drawWalk 26 = .ok (.if_icmp .ge 61, 3) := by decide +kernel
theorem dX11_drawWalk_87 : decode cX11_drawWalk 87 = .ok (.iload 5, 2) := by decide +kernel
theorem dX11_drawWalk_89 : decode cX11_drawWalk 89 = .ok (.ireturn, 1) := by decide +kernel
theorem dX11_drawWalk_29 : decode cX11_drawWalk 29 = .ok (.ldc2_w 405, 3) := by decide +kernel
theorem dX11_drawWalk_32 : decode cX11_drawWalk 32 = .ok (.lload_n 3, 1) := by decide +kernel
theorem dX11_drawWalk_33 : decode cX11_drawWalk 33 = .ok (.lmul, 1) := by decide +kernel
theorem dX11_drawWalk_34 : decode cX11_drawWalk 34 = .ok (.ldc2_w 407, 3) := by decide +kernel
theorem dX11_drawWalk_37 : decode cX11_drawWalk 37 = .ok (.ladd, 1) := by decide +kernel
theorem dX11_drawWalk_38 : decode cX11_drawWalk 38 = .ok (.ldc2_w 409, 3) := by decide +kernel
theorem dX11_drawWalk_41 : decode cX11_drawWalk 41 = .ok (.land, 1) := by decide +kernel
theorem dX11_drawWalk_42 : decode cX11_drawWalk 42 = .ok (.lstore_n 3, 1) := by decide +kernel
theorem dX11_drawWalk_43 : decode cX11_drawWalk 43 = .ok (.aload_n 0, 1) := by decide +kernel
theorem dX11_drawWalk_44 : decode cX11_drawWalk 44 = .ok (.getfield 33, 3) := by decide +kernel
theorem dX11_drawWalk_47 : decode cX11_drawWalk 47 = .ok (.aload_n 0, 1) := by decide +kernel
theorem dX11_drawWalk_48 : decode cX11_drawWalk 48 = .ok (.getfield 19, 3) := by decide +kernel
theorem dX11_drawWalk_51 : decode cX11_drawWalk 51 = .ok (.lload_n 3, 1) := by decide +kernel
theorem dX11_drawWalk_52 : decode cX11_drawWalk 52 = .ok (.bipush 16, 2) := by decide +kernel
theorem dX11_drawWalk_54 : decode cX11_drawWalk 54 = .ok (.lshr, 1) := by decide +kernel
theorem dX11_drawWalk_55 : decode cX11_drawWalk 55 = .ok (.l2i, 1) := by decide +kernel
theorem dX11_drawWalk_56 : decode cX11_drawWalk 56 = .ok (.iconst 3, 1) := by decide +kernel
theorem dX11_drawWalk_57 : decode cX11_drawWalk 57 = .ok (.iand, 1) := by decide +kernel
theorem dX11_drawWalk_58 : decode cX11_drawWalk 58 = .ok (.invokevirtual 177, 3) := by decide +kernel
theorem dX11_drawWalk_61 : decode cX11_drawWalk 61 = .ok (.iload 5, 2) := by decide +kernel
theorem dX11_drawWalk_63 : decode cX11_drawWalk 63 = .ok (.aload_n 0, 1) := by decide +kernel
theorem dX11_drawWalk_64 : decode cX11_drawWalk 64 = .ok (.getfield 33, 3) := by decide +kernel
theorem dX11_drawWalk_67 : decode cX11_drawWalk 67 = .ok (.invokevirtual 168, 3) := by decide +kernel
theorem dX11_drawWalk_70 : decode cX11_drawWalk 70 = .ok (.ifCond .eq 7, 3) := by decide +kernel
theorem dX11_drawWalk_77 : decode cX11_drawWalk 77 = .ok (.iconst 0, 1) := by decide +kernel
theorem dX11_drawWalk_78 : decode cX11_drawWalk 78 = .ok (.iadd, 1) := by decide +kernel
theorem dX11_drawWalk_79 : decode cX11_drawWalk 79 = .ok (.istore 5, 2) := by decide +kernel
theorem dX11_drawWalk_81 : decode cX11_drawWalk 81 = .ok (.iinc 6 1, 3) := by decide +kernel
theorem dX11_drawWalk_84 : decode cX11_drawWalk 84 = .ok (.goto (-61), 3) := by decide +kernel
theorem dX11_drawWalk_73 : decode cX11_drawWalk 73 = .ok (.iconst 1, 1) := by decide +kernel
theorem dX11_drawWalk_74 : decode cX11_drawWalk 74 = .ok (.goto 4, 3) := by decide +kernel
theorem dX11_drawWalk_13 : decode cX11_drawWalk 13 = .ok (.iconst 1, 1) := by decide +kernel
theorem dX11_drawWalk_14 : decode cX11_drawWalk 14 = .ok (.goto 4, 3) := by decide +kernel
