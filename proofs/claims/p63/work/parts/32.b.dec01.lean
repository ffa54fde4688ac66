theorem dX11_tells_12 : decode cX11_tells 12 = .ok (.aload_n 0, 1) := by decide +kernel
theorem dX11_tells_13 : decode cX11_tells 13 = .ok (.getfield 54, 3) := by decide +kernel
theorem dX11_tells_16 : decode cX11_tells 16 = .ok (.aload_n 0, 1) := by decide +kernel
theorem dX11_tells_17 : decode cX11_tells 17 = .ok (.getfield 19, 3) := by decide +kernel
theorem dX11_tells_20 : decode cX11_tells 20 = .ok (.iconst 1, 1) := by decide +kernel
theorem dX11_tells_21 : decode cX11_tells 21 = .ok (.iload_n 1, 1) := by decide +kernel
theorem dX11_tells_22 : decode cX11_tells 22 = .ok (.ishl, 1) := by decide +kernel
theorem dX11_tells_23 : decode cX11_tells 23 = .ok (.iconst 1, 1) := by decide +kernel
theorem dX11_tells_24 : decode cX11_tells 24 = .ok (.iload_n 2, 1) := by decide +kernel
theorem dX11_tells_25 : decode cX11_tells 25 = .ok (.ishl, 1) := by decide +kernel
theorem dX11_tells_26 : decode cX11_tells 26 = .ok (.ior, 1) := by decide +kernel
theorem dX11_tells_27 : decode cX11_tells 27 = .ok (.iconst 2, 1) := by decide +kernel
theorem dX11_tells_28 : decode cX11_tells 28 = .ok (.invokevirtual 243, 3) := by decide +kernel
theorem dX11_tells_31 : decode cX11_tells 31 = .ok (.aload_n 0, 1) := by decide +kernel
theorem dX11_tells_32 : decode cX11_tells 32 = .ok (.getfield 54, 3) := by decide +kernel
theorem dX11_tells_35 : decode cX11_tells 35 = .ok (.invokevirtual 246, 3) := by decide +kernel
theorem dX11_tells_38 : decode cX11_tells 38 = .ok (.ireturn, 1) := by decide +kernel
theorem dX11_told_0 : decode cX11_told 0 = .ok (.aload_n 0, 1) := by decide +kernel
theorem dX11_told_1 : decode cX11_told 1 = .ok (.iload_n 1, 1) := by decide +kernel
theorem dX11_told_2 : decode cX11_told 2 = .ok (.iload_n 2, 1) := by decide +kernel
theorem dX11_told_3 : decode cX11_told 3 = .ok (.invokevirtual 236, 3) := by decide +kernel
theorem dX11_told_6 : decode cX11_told 6 = .ok (.ifCond .ne 6, 3) := by decide +kernel
theorem dX11_told_9 : decode cX11_told 9 = .ok (.bipush (-2), 2) := by decide +kernel
theorem dX11_told_11 : decode cX11_told 11 = .ok (.ireturn, 1) := by decide +kernel
theorem dX11_told_12 : decode cX11_told 12 = .ok (.aload_n 0, 1) := by decide +kernel
theorem dX11_told_13 : decode cX11_told 13 = .ok (.getfield 54, 3) := by decide +kernel
theorem dX11_told_16 : decode cX11_told 16 = .ok (.aload_n 0, 1) := by decide +kernel
theorem dX11_told_17 : decode cX11_told 17 = .ok (.getfield 19, 3) := by decide +kernel
theorem dX11_told_20 : decode cX11_told 20 = .ok (.iconst 1, 1) := by decide +kernel
theorem dX11_told_21 : decode cX11_told 21 = .ok (.iload_n 1, 1) := by decide +kernel
theorem dX11_told_22 : decode cX11_told 22 = .ok (.ishl, 1) := by decide +kernel
theorem dX11_told_23 : decode cX11_told 23 = .ok (.iconst 1, 1) := by decide +kernel
theorem dX11_told_24 : decode cX11_told 24 = .ok (.iload_n 2, 1) := by decide +kernel
theorem dX11_told_25 : decode cX11_told 25 = .ok (.ishl, 1) := by decide +kernel
theorem dX11_told_26 : decode cX11_told 26 = .ok (.ior, 1) := by decide +kernel
theorem dX11_told_27 : decode cX11_told 27 = .ok (.iconst 2, 1) := by decide +kernel
theorem dX11_told_28 : decode cX11_told 28 = .ok (.invokevirtual 243, 3) := by decide +kernel
theorem dX11_told_31 : decode cX11_told 31 = .ok (.aload_n 0, 1) := by decide +kernel
theorem dX11_told_32 : decode cX11_told 32 = .ok (.getfield 54, 3) := by decide +kernel
theorem dX11_told_35 : decode cX11_told 35 = .ok (.iload_n 3, 1) := by decide +kernel
theorem dX11_told_36 : decode cX11_told 36 = .ok (.invokevirtual 247, 3) := by decide +kernel
theorem dX11_told_39 : decode cX11_told 39 = .ok (.ireturn, 1) := by decide +kernel
theorem dX11_bares_0 : decode cX11_bares 0 = .ok (.aload_n 0, 1) := by decide +kernel
theorem dX11_bares_1 : decode cX11_bares 1 = .ok (.iload_n 1, 1) := by decide +kernel
theorem dX11_bares_2 : decode cX11_bares 2 = .ok (.iload_n 2, 1) := by decide +kernel
theorem dX11_bares_3 : decode cX11_bares 3 = .ok (.invokevirtual 236, 3) := by decide +kernel
theorem dX11_bares_6 : decode cX11_bares 6 = .ok (.ifCond .eq 15, 3) := by decide +kernel
theorem dX11_bares_21 : decode cX11_bares 21 = .ok (.bipush (-2), 2) := by decide +kernel
theorem dX11_bares_23 : decode cX11_bares 23 = .ok (.ireturn, 1) := by decide +kernel
theorem dX11_bares_9 : decode cX11_bares 9 = .ok (.aload_n 0, 1) := by decide +kernel
theorem dX11_bares_10 : decode cX11_bares 10 = .ok (.iload_n 1, 1) := by decide +kernel
theorem dX11_bares_11 : decode cX11_bares 11 = .ok (.iload_n 2, 1) := by decide +kernel
theorem dX11_bares_12 : decode cX11_bares 12 = .ok (.invokevirtual 248, 3) := by decide +kernel
theorem dX11_bares_15 : decode cX11_bares 15 = .ok (.invokestatic 251, 3) := by decide +kernel
theorem dX11_bares_18 : decode cX11_bares 18 = .ok (.goto 5, 3) := by decide +kernel
theorem dX11_bared_0 : decode cX11_bared 0 = .ok (.aload_n 0, 1) := by decide +kernel
theorem dX11_bared_1 : decode cX11_bared 1 = .ok (.iload_n 1, 1) := by decide +kernel
theorem dX11_bared_2 : decode cX11_bared 2 = .ok (.iload_n 2, 1) := by decide +kernel
theorem dX11_bared_3 : decode cX11_bared 3 = .ok (.invokevirtual 236, 3) := by decide +kernel
theorem dX11_bared_6 : decode cX11_bared 6 = .ok (.ifCond .eq 12, 3) := by decide +kernel
theorem dX11_bared_18 : decode cX11_bared 18 = .ok (.bipush (-2), 2) := by decide +kernel
theorem dX11_bared_20 : decode cX11_bared 20 = .ok (.ireturn, 1) := by decide +kernel
theorem dX11_bared_9 : decode cX11_bared 9 = .ok (.aload_n 0, 1) := by decide +kernel
theorem dX11_bared_10 : decode cX11_bared 10 = .ok (.iload_n 1, 1) := by decide +kernel
theorem dX11_bared_11 : decode cX11_bared 11 = .ok (.iload_n 2, 1) := by decide +kernel
theorem dX11_bared_12 : decode cX11_bared 12 = .ok (.invokevirtual 248, 3) := by decide +kernel
theorem dX11_bared_15 : decode cX11_bared 15 = .ok (.goto 5, 3) := by decide +kernel
theorem dX11_gather_0 : decode cX11_gather 0 = .ok (.aload_n 0, 1) := by decide +kernel
theorem dX11_gather_1 : decode cX11_gather 1 = .ok (.getfield 19, 3) := by decide +kernel
theorem dX11_gather_4 : decode cX11_gather 4 = .ok (.iload_n 1, 1) := by decide +kernel
theorem dX11_gather_5 : decode cX11_gather 5 = .ok (.invokevirtual 140, 3) := by decide +kernel
theorem dX11_gather_8 : decode cX11_gather 8 = .ok (.ifCond .ne 6, 3) := by decide +kernel
theorem dX11_gather_11 : decode cX11_gather 11 = .ok (.bipush (-2), 2) := by decide +kernel
theorem dX11_gather_13 : decode cX11_gather 13 = .ok (.ireturn, 1) := by decide +kernel
theorem dX11_gather_14 : decode cX11_gather 14 = .ok (.aload_n 0, 1) := by decide +kernel
theorem dX11_gather_15 : decode cX11_gather 15 = .ok (.getfield 54, 3) := by decide +kernel
theorem dX11_gather_18 : decode cX11_gather 18 = .ok (.aload_n 0, 1) := by decide +kernel
theorem dX11_gather_19 : decode cX11_gather 19 = .ok (.getfield 19, 3) := by decide +kernel
theorem dX11_gather_22 : decode cX11_gather 22 = .ok (.iload_n 1, 1) := by decide +kernel
theorem dX11_gather_23 : decode cX11_gather 23 = .ok (.iconst 1, 1) := by decide +kernel
theorem dX11_gather_24 : decode cX11_gather 24 = .ok (.invokevirtual 243, 3) := by decide +kernel
theorem dX11_gather_27 : decode cX11_gather 27 = .ok (.aload_n 0, 1) := by decide +kernel
theorem dX11_gather_28 : decode cX11_gather 28 = .ok (.getfield 54, 3) := by decide +kernel
theorem dX11_gather_31 : decode cX11_gather 31 = .ok (.invokevirtual 246, 3) := by decide +kernel
theorem dX11_gather_34 : decode cX11_gather 34 = .ok (.ireturn, 1) := by decide +kernel
theorem dX11_gathers_0 : decode cX11_gathers 0 = .ok (.aload_n 0, 1) := by decide +kernel
theorem dX11_gathers_1 : decode cX11_gathers 1 = .ok (.getfield 19, 3) := by decide +kernel
theorem dX11_gathers_4 : decode cX11_gathers 4 = .ok (.iload_n 1, 1) := by decide +kernel
theorem dX11_gathers_5 : decode cX11_gathers 5 = .ok (.invokevirtual 140, 3) := by decide +kernel
theorem dX11_gathers_8 : decode cX11_gathers 8 = .ok (.ifCond .ne 6, 3) := by decide +kernel
theorem dX11_gathers_11 : decode cX11_gathers 11 = .ok (.bipush (-2), 2) := by decide +kernel
theorem dX11_gathers_13 : decode cX11_gathers 13 = .ok (.ireturn, 1) := by decide +kernel
theorem dX11_gathers_14 : decode cX11_gathers 14 = .ok (.aload_n 0, 1) := by decide +kernel
theorem dX11_gathers_15 : decode cX11_gathers 15 = .ok (.getfield 54, 3) := by decide +kernel
theorem dX11_gathers_18 : decode cX11_gathers 18 = .ok (.aload_n 0, 1) := by decide +kernel
theorem dX11_gathers_19 : decode cX11_gathers 19 = .ok (.getfield 19, 3) := by decide +kernel
theorem dX11_gathers_22 : decode cX11_gathers 22 = .ok (.iload_n 1, 1) := by decide +kernel
theorem dX11_gathers_23 : decode cX11_gathers 23 = .ok (.iconst 1, 1) := by decide +kernel
theorem dX11_gathers_24 : decode cX11_gathers 24 = .ok (.invokevirtual 243, 3) := by decide +kernel
theorem dX11_gathers_27 : decode cX11_gathers 27 = .ok (.aload_n 0, 1) := by decide +kernel
theorem dX11_gathers_28 : decode cX11_gathers 28 = .ok (.getfield 54, 3) := by decide +kernel
theorem dX11_gathers_31 : decode cX11_gathers 31 = .ok (.iload_n 2, 1) := by decide +kernel
theorem dX11_gathers_32 : decode cX11_gathers 32 = .ok (.invokevirtual 247, 3) := by decide +kernel
theorem dX11_gathers_35 : decode cX11_gathers 35 = .ok (.ireturn, 1) := by decide +kernel
theorem dX11_roundabout_0 : decode cX11_roundabout 0 = .ok (.aload_n 0, 1) := by decide +kernel
theorem dX11_roundabout_1 : decode cX11_roundabout 1 = .ok (.getfield 19, 3) := by decide +kernel
theorem dX11_roundabout_4 : decode cX11_roundabout 4 = .ok (.iload_n 1, 1) := by decide +kernel
theorem dX11_roundabout_5 : decode cX11_roundabout 5 = .ok (.invokevirtual 140, 3) := by decide +kernel
theorem dX11_roundabout_8 : decode cX11_roundabout 8 = .ok (.ifCond .ne 6, 3) := by decide +kernel
theorem dX11_roundabout_11 : decode cX11_roundabout 11 = .ok (.bipush (-2), 2) := by decide +kernel
theorem dX11_roundabout_13 : decode cX11_roundabout 13 = .ok (.ireturn, 1) := by decide +kernel
theorem dX11_roundabout_14 : decode cX11_roundabout 14 = .ok (.aload_n 0, 1) := by decide +kernel
theorem dX11_roundabout_15 : decode cX11_roundabout 15 = .ok (.getfield 54, 3) := by decide +kernel
theorem dX11_roundabout_18 : decode cX11_roundabout 18 = .ok (.aload_n 0, 1) := by decide +kernel
theorem dX11_roundabout_19 : decode cX11_roundabout 19 = .ok (.getfield 19, 3) := by decide +kernel
theorem dX11_roundabout_22 : decode cX11_roundabout 22 = .ok (.iload_n 1, 1) := by decide +kernel
theorem dX11_roundabout_23 : decode cX11_roundabout 23 = .ok (.invokevirtual 256, 3) := by decide +kernel
theorem dX11_roundabout_26 : decode cX11_roundabout 26 = .ok (.ireturn, 1) := by decide +kernel
theorem dX11_meet_0 : decode cX11_meet 0 = .ok (.aload_n 0, 1) := by decide +kernel
theorem dX11_meet_1 : decode cX11_meet 1 = .ok (.iload_n 1, 1) := by decide +kernel
theorem dX11_meet_2 : decode cX11_meet 2 = .ok (.iload_n 2, 1) := by decide +kernel
theorem dX11_meet_3 : decode cX11_meet 3 = .ok (.invokevirtual 236, 3) := by decide +kernel
theorem dX11_meet_6 : decode cX11_meet 6 = .ok (.ifCond .ne 6, 3) := by decide +kernel
theorem dX11_meet_9 : decode cX11_meet 9 = .ok (.bipush (-2), 2) := by decide +kernel
theorem dX11_meet_11 : decode cX11_meet 11 = .ok (.ireturn, 1) := by decide +kernel
theorem dX11_meet_12 : decode cX11_meet 12 = .ok (.aload_n 0, 1) := by decide +kernel
theorem dX11_meet_13 : decode cX11_meet 13 = .ok (.iload_n 1, 1) := by decide +kernel
theorem dX11_meet_14 : decode cX11_meet 14 = .ok (.iload_n 2, 1) := by decide +kernel
theorem dX11_meet_15 : decode cX11_meet 15 = .ok (.invokevirtual 260, 3) := by decide +kernel
theorem dX11_meet_18 : decode cX11_meet 18 = .ok (.ireturn, 1) := by decide +kernel
theorem dX11_met_0 : decode cX11_met 0 = .ok (.aload_n 0, 1) := by decide +kernel
theorem dX11_met_1 : decode cX11_met 1 = .ok (.iload_n 1, 1) := by decide +kernel
theorem dX11_met_2 : decode cX11_met 2 = .ok (.iload_n 2, 1) := by decide +kernel
theorem dX11_met_3 : decode cX11_met 3 = .ok (.invokevirtual 236, 3) := by decide +kernel
theorem dX11_met_6 : decode cX11_met 6 = .ok (.ifCond .ne 6, 3) := by decide +kernel
theorem dX11_met_9 : decode cX11_met 9 = .ok (.bipush (-2), 2) := by decide +kernel
theorem dX11_met_11 : decode cX11_met 11 = .ok (.ireturn, 1) := by decide +kernel
theorem dX11_met_12 : decode cX11_met 12 = .ok (.aload_n 0, 1) := by decide +kernel
theorem dX11_met_13 : decode cX11_met 13 = .ok (.iload_n 1, 1) := by decide +kernel
theorem dX11_met_14 : decode cX11_met 14 = .ok (.iload_n 2, 1) := by decide +kernel
theorem dX11_met_15 : decode cX11_met 15 = .ok (.invokevirtual 260, 3) := by decide +kernel
theorem dX11_met_18 : decode cX11_met 18 = .ok (.istore_n 3, 1) := by decide +kernel
theorem dX11_met_19 : decode cX11_met 19 = .ok (.iload_n 3, 1) := by decide +kernel
theorem dX11_met_20 : decode cX11_met 20 = .ok (.iconst (-1), 1) := by decide +kernel
theorem dX11_met_21 : decode cX11_met 21 = .ok (.if_icmp .ne 5, 3) := by decide +kernel
theorem dX11_met_26 : decode cX11_met 26 = .ok (.aload_n 0, 1) := by decide +kernel
theorem dX11_met_27 : decode cX11_met 27 = .ok (.iload_n 1, 1) := by decide +kernel
theorem dX11_met_28 : decode cX11_met 28 = .ok (.iload_n 3, 1) := by decide +kernel
theorem dX11_met_29 : decode cX11_met 29 = .ok (.invokevirtual 263, 3) := by decide +kernel
theorem dX11_met_32 : decode cX11_met 32 = .ok (.aload_n 0, 1) := by decide +kernel
theorem dX11_met_33 : decode cX11_met 33 = .ok (.iload_n 2, 1) := by decide +kernel
theorem dX11_met_34 : decode cX11_met 34 = .ok (.iload_n 3, 1) := by decide +kernel
theorem dX11_met_35 : decode cX11_met 35 = .ok (.invokevirtual 263, 3) := by decide +kernel
theorem dX11_met_38 : decode cX11_met 38 = .ok (.iand, 1) := by decide +kernel
theorem dX11_met_39 : decode cX11_met 39 = .ok (.invokestatic 266, 3) := by decide +kernel
theorem dX11_met_42 : decode cX11_met 42 = .ok (.ireturn, 1) := by decide +kernel
theorem dX11_met_24 : decode cX11_met 24 = .ok (.iconst (-1), 1) := by decide +kernel
theorem dX11_met_25 : decode cX11_met 25 = .ok (.ireturn, 1) := by decide +kernel
theorem dX11_read_0 : decode cX11_read 0 = .ok (.aload_n 0, 1) := by decide +kernel
theorem dX11_read_1 : decode cX11_read 1 = .ok (.iload_n 1, 1) := by decide +kernel
theorem dX11_read_2 : decode cX11_read 2 = .ok (.invokevirtual 269, 3) := by decide +kernel
theorem dX11_read_5 : decode cX11_read 5 = .ok (.istore_n 2, 1) := by decide +kernel
theorem dX11_read_6 : decode cX11_read 6 = .ok (.iload_n 2, 1) := by decide +kernel
theorem dX11_read_7 : decode cX11_read 7 = .ok (.ifCond .eq 7, 3) := by decide +kernel
theorem dX11_read_10 : decode cX11_read 10 = .ok (.iload_n 2, 1) := by decide +kernel
theorem dX11_read_11 : decode cX11_read 11 = .ok (.goto 15, 3) := by decide +kernel
theorem dX11_read_26 : decode cX11_read 26 = .ok (.ireturn, 1) := by decide +kernel
theorem dX11_read_14 : decode cX11_read 14 = .ok (.aload_n 0, 1) := by decide +kernel
theorem dX11_read_15 : decode cX11_read 15 = .ok (.iload_n 1, 1) := by decide +kernel
theorem dX11_read_16 : decode cX11_read 16 = .ok (.aload_n 0, 1) := by decide +kernel
theorem dX11_read_17 : decode cX11_read 17 = .ok (.getfield 19, 3) := by decide +kernel
theorem dX11_read_20 : decode cX11_read 20 = .ok (.invokevirtual 272, 3) := by decide +kernel
theorem dX11_read_23 : decode cX11_read 23 = .ok (.invokevirtual 275, 3) := by decide +kernel
theorem dX11_began_0 : decode cX11_began 0 = .ok (.aload_n 0, 1) := by decide +kernel
theorem dX11_began_1 : decode cX11_began 1 = .ok (.iload_n 1, 1) := by decide +kernel
theorem dX11_began_2 : decode cX11_began 2 = .ok (.invokevirtual 269, 3) := by decide +kernel
theorem dX11_began_5 : decode cX11_began 5 = .ok (.istore_n 2, 1) := by decide +kernel
theorem dX11_began_6 : decode cX11_began 6 = .ok (.iload_n 2, 1) := by decide +kernel
theorem dX11_began_7 : decode cX11_began 7 = .ok (.ifCond .eq 5, 3) := by decide +kernel
theorem dX11_began_10 : decode cX11_began 10 = .ok (.iload_n 2, 1) := by decide +kernel
theorem dX11_began_11 : decode cX11_began 11 = .ok (.ireturn, 1) := by decide +kernel
theorem dX11_began_12 : decode cX11_began 12 = .ok (.iconst 0, 1) := by decide +kernel
theorem dX11_began_13 : decode cX11_began 13 = .ok (.istore_n 3, 1) := by decide +kernel
theorem dX11_began_14 : decode cX11_began 14 = .ok (.iconst 0, 1) := by decide +kernel
theorem dX11_began_15 : decode cX11_began 15 = .ok (.istore 4, 2) := by decide +kernel
theorem dX11_began_17 : decode cX11_began 17 = .ok (.iload 4, 2) := by decide +kernel
theorem dX11_began_19 : decode cX11_began 19 = .ok (.aload_n 0, 1) := by decide +kernel
theorem dX11_began_20 : decode cX11_began 20 = .ok (.getfield 19, 3) := by decide +kernel
theorem dX11_began_23 : decode cX11_began 23 = .ok (.getfield 233, 3) := by decide +kernel
theorem dX11_began_26 : decode cX11_began 26 = .ok (.if_icmp .ge 28, 3) := by decide +kernel
theorem dX11_began_54 : decode cX11_began 54 = .ok (.iload_n 3, 1) := by decide +kernel
theorem dX11_began_55 : decode cX11_began 55 = .ok (.ireturn, 1) := by decide +kernel
theorem dX11_began_29 : decode cX11_began 29 = .ok (.aload_n 0, 1) := by decide +kernel
theorem dX11_began_30 : decode cX11_began 30 = .ok (.iload_n 1, 1) := by decide +kernel
theorem dX11_began_31 : decode cX11_began 31 = .ok (.iconst 1, 1) := by decide +kernel
theorem dX11_began_32 : decode cX11_began 32 = .ok (.iload 4, 2) := by decide +kernel
theorem dX11_began_34 : decode cX11_began 34 = .ok (.ishl, 1) := by decide +kernel
theorem dX11_began_35 : decode cX11_began 35 = .ok (.invokevirtual 275, 3) := by decide +kernel
theorem dX11_began_38 : decode cX11_began 38 = .ok (.ifCond .eq 10, 3) := by decide +kernel
theorem dX11_began_48 : decode cX11_began 48 = .ok (.iinc 4 1, 3) := by decide +kernel
theorem dX11_began_51 : decode cX11_began 51 = .ok (.goto (-34), 3) := by decide +kernel
theorem dX11_began_41 : decode cX11_began 41 = .ok (.iload_n 3, 1) := by decide +kernel
theorem dX11_began_42 : decode cX11_began 42 = .ok (.iconst 1, 1) := by decide +kernel
theorem dX11_began_43 : decode cX11_began 43 = .ok (.iload 4, 2) := by decide +kernel
theorem dX11_began_45 : decode cX11_began 45 = .ok (.ishl, 1) := by decide +kernel
theorem dX11_began_46 : decode cX11_began 46 = .ok (.ior, 1) := by decide +kernel
theorem dX11_began_47 : decode cX11_began 47 = .ok (.istore_n 3, 1) := by decide +kernel
theorem dX11_ask_0 : decode cX11_ask 0 = .ok (.aload_n 0, 1) := by decide +kernel
theorem dX11_ask_1 : decode cX11_ask 1 = .ok (.iload_n 1, 1) := by decide +kernel
theorem dX11_ask_2 : decode cX11_ask 2 = .ok (.invokevirtual 269, 3) := by decide +kernel
theorem dX11_ask_5 : decode cX11_ask 5 = .ok (.istore_n 2, 1) := by decide +kernel
theorem dX11_ask_6 : decode cX11_ask 6 = .ok (.iload_n 2, 1) := by decide +kernel
theorem dX11_ask_7 : decode cX11_ask 7 = .ok (.ifCond .eq 7, 3) := by decide +kernel
theorem dX11_ask_10 : decode cX11_ask 10 = .ok (.iload_n 2, 1) := by decide +kernel
theorem dX11_ask_11 : decode cX11_ask 11 = .ok (.goto 19, 3) := by decide +kernel
theorem dX11_ask_30 : decode cX11_ask 30 = .ok (.ireturn, 1) := by decide +kernel
theorem dX11_ask_14 : decode cX11_ask 14 = .ok (.aload_n 0, 1) := by decide +kernel
theorem dX11_ask_15 : decode cX11_ask 15 = .ok (.aload_n 0, 1) := by decide +kernel
theorem dX11_ask_16 : decode cX11_ask 16 = .ok (.iload_n 1, 1) := by decide +kernel
theorem dX11_ask_17 : decode cX11_ask 17 = .ok (.aload_n 0, 1) := by decide +kernel
theorem dX11_ask_18 : decode cX11_ask 18 = .ok (.getfield 19, 3) := by decide +kernel
theorem dX11_ask_21 : decode cX11_ask 21 = .ok (.invokevirtual 272, 3) := by decide +kernel
theorem dX11_ask_24 : decode cX11_ask 24 = .ok (.invokevirtual 275, 3) := by decide +kernel
theorem dX11_ask_27 : decode cX11_ask 27 = .ok (.invokevirtual 278, 3) := by decide +kernel
theorem dX11_leaves_0 : decode cX11_leaves 0 = .ok (.aload_n 0, 1) := by decide +kernel
theorem dX11_leaves_1 : decode cX11_leaves 1 = .ok (.iload_n 1, 1) := by decide +kernel
theorem dX11_leaves_2 : decode cX11_leaves 2 = .ok (.invokevirtual 269, 3) := by decide +kernel
theorem dX11_leaves_5 : decode cX11_leaves 5 = .ok (.istore_n 2, 1) := by decide +kernel
theorem dX11_leaves_6 : decode cX11_leaves 6 = .ok (.iload_n 2, 1) := by decide +kernel
theorem dX11_leaves_7 : decode cX11_leaves 7 = .ok (.ifCond .eq 5, 3) := by decide +kernel
theorem dX11_leaves_10 : decode cX11_leaves 10 = .ok (.iload_n 2, 1) := by decide +kernel
theorem dX11_leaves_11 : decode cX11_leaves 11 = .ok (.ireturn, 1) := by decide +kernel
theorem dX11_leaves_12 : decode cX11_leaves 12 = .ok (.aload_n 0, 1) := by decide +kernel
theorem dX11_leaves_13 : decode cX11_leaves 13 = .ok (.iload_n 1, 1) := by decide +kernel
theorem dX11_leaves_14 : decode cX11_leaves 14 = .ok (.aload_n 0, 1) := by decide +kernel
theorem dX11_leaves_15 : decode cX11_leaves 15 = .ok (.getfield 19, 3) := by decide +kernel
theorem dX11_leaves_18 : decode cX11_leaves 18 = .ok (.invokevirtual 272, 3) := by decide +kernel
theorem dX11_leaves_21 : decode cX11_leaves 21 = .ok (.invokevirtual 275, 3) := by decide +kernel
theorem dX11_leaves_24 : decode cX11_leaves 24 = .ok (.istore_n 3, 1) := by decide +kernel
theorem dX11_leaves_25 : decode cX11_leaves 25 = .ok (.aload_n 0, 1) := by decide +kernel
theorem dX11_leaves_26 : decode cX11_leaves 26 = .ok (.aload_n 0, 1) := by decide +kernel
theorem dX11_leaves_27 : decode cX11_leaves 27 = .ok (.getfield 19, 3) := by decide +kernel
theorem dX11_leaves_30 : decode cX11_leaves 30 = .ok (.iload_n 3, 1) := by decide +kernel
theorem dX11_leaves_31 : decode cX11_leaves 31 = .ok (.aload_n 0, 1) := by decide +kernel
theorem dX11_leaves_32 : decode cX11_leaves 32 = .ok (.iload_n 3, 1) := by decide +kernel
theorem dX11_leaves_33 : decode cX11_leaves 33 = .ok (.invokevirtual 278, 3) := by decide +kernel
theorem dX11_leaves_36 : decode cX11_leaves 36 = .ok (.invokevirtual 143, 3) := by decide +kernel
theorem dX11_leaves_39 : decode cX11_leaves 39 = .ok (.invokevirtual 281, 3) := by decide +kernel
theorem dX11_leaves_42 : decode cX11_leaves 42 = .ok (.ireturn, 1) := by decide +kernel
theorem dX11_course_0 : decode cX11_course 0 = .ok (.aload_n 0, 1) := by decide +kernel
theorem dX11_course_1 : decode cX11_course 1 = .ok (.iload_n 1, 1) := by decide +kernel
theorem dX11_course_2 : decode cX11_course 2 = .ok (.iload_n 2, 1) := by decide +kernel
theorem dX11_course_3 : decode cX11_course 3 = .ok (.invokevirtual 191, 3) := by decide +kernel
theorem dX11_course_6 : decode cX11_course 6 = .ok (.istore_n 3, 1) := by decide +kernel
theorem dX11_course_7 : decode cX11_course 7 = .ok (.iload_n 3, 1) := by decide +kernel
theorem dX11_course_8 : decode cX11_course 8 = .ok (.ifCond .eq 5, 3) := by decide +kernel
theorem dX11_course_11 : decode cX11_course 11 = .ok (.iload_n 3, 1) := by decide +kernel
theorem dX11_course_12 : decode cX11_course 12 = .ok (.ireturn, 1) := by decide +kernel
theorem dX11_course_13 : decode cX11_course 13 = .ok (.aload_n 0, 1) := by decide +kernel
theorem dX11_course_14 : decode cX11_course 14 = .ok (.getfield 68, 3) := by decide +kernel
theorem dX11_course_17 : decode cX11_course 17 = .ok (.aload_n 0, 1) := by decide +kernel
theorem dX11_course_18 : decode cX11_course 18 = .ok (.getfield 19, 3) := by decide +kernel
theorem dX11_course_21 : decode cX11_course 21 = .ok (.aload_n 0, 1) := by decide +kernel
theorem dX11_course_22 : decode cX11_course 22 = .ok (.getfield 33, 3) := by decide +kernel
theorem dX11_course_25 : decode cX11_course 25 = .ok (.aload_n 0, 1) := by decide +kernel
theorem dX11_course_26 : decode cX11_course 26 = .ok (.getfield 40, 3) := by decide +kernel
theorem dX11_course_29 : decode cX11_course 29 = .ok (.iload_n 1, 1) := by decide +kernel
theorem dX11_course_30 : decode cX11_course 30 = .ok (.invokevirtual 284, 3) := by decide +kernel
theorem dX11_course_33 : decode cX11_course 33 = .ok (.aload_n 0, 1) := by decide +kernel
theorem dX11_course_34 : decode cX11_course 34 = .ok (.getfield 68, 3) := by decide +kernel
theorem dX11_course_37 : decode cX11_course 37 = .ok (.getfield 288, 3) := by decide +kernel
theorem dX11_course_40 : decode cX11_course 40 = .ok (.ireturn, 1) := by decide +kernel
theorem dX11_lesson_0 : decode cX11_lesson 0 = .ok (.aload_n 0, 1) := by decide +kernel
theorem dX11_lesson_1 : decode cX11_lesson 1 = .ok (.iload_n 1, 1) := by decide +kernel
theorem dX11_lesson_2 : decode cX11_lesson 2 = .ok (.iload_n 2, 1) := by decide +kernel
theorem dX11_lesson_3 : decode cX11_lesson 3 = .ok (.invokevirtual 191, 3) := by decide +kernel
theorem dX11_lesson_6 : decode cX11_lesson 6 = .ok (.istore 4, 2) := by decide +kernel
theorem dX11_lesson_8 : decode cX11_lesson 8 = .ok (.iload 4, 2) := by decide +kernel
theorem dX11_lesson_10 : decode cX11_lesson 10 = .ok (.ifCond .eq 6, 3) := by decide +kernel
theorem dX11_lesson_13 : decode cX11_lesson 13 = .ok (.iload 4, 2) := by decide +kernel
theorem dX11_lesson_15 : decode cX11_lesson 15 = .ok (.ireturn, 1) := by decide +kernel
theorem dX11_lesson_16 : decode cX11_lesson 16 = .ok (.aload_n 0, 1) := by decide +kernel
theorem dX11_lesson_17 : decode cX11_lesson 17 = .ok (.getfield 68, 3) := by decide +kernel
theorem dX11_lesson_20 : decode cX11_lesson 20 = .ok (.aload_n 0, 1) := by decide +kernel
theorem dX11_lesson_21 : decode cX11_lesson 21 = .ok (.getfield 19, 3) := by decide +kernel
theorem dX11_lesson_24 : decode cX11_lesson 24 = .ok (.aload_n 0, 1) := by decide +kernel
theorem dX11_lesson_25 : decode cX11_lesson 25 = .ok (.getfield 33, 3) := by decide +kernel
theorem dX11_lesson_28 : decode cX11_lesson 28 = .ok (.aload_n 0, 1) := by decide +kernel
theorem dX11_lesson_29 : decode cX11_lesson 29 = .ok (.getfield 40, 3) := by decide +kernel
theorem dX11_lesson_32 : decode cX11_lesson 32 = .ok (.iload_n 1, 1) := by decide +kernel
theorem dX11_lesson_33 : decode cX11_lesson 33 = .ok (.invokevirtual 284, 3) := by decide +kernel
theorem dX11_lesson_36 : decode cX11_lesson 36 = .ok (.iload_n 3, 1) := by decide +kernel
theorem dX11_lesson_37 : decode cX11_lesson 37 = .ok (.ifCond .lt 31, 3) := by decide +kernel
theorem dX11_lesson_68 : decode cX11_lesson 68 = .ok (.iconst (-1), 1) := by decide +kernel
theorem dX11_lesson_69 : decode cX11_lesson 69 = .ok (.ireturn, 1) := by decide +kernel
theorem dX11_lesson_40 : decode cX11_lesson 40 = .ok (.iload_n 3, 1) := by decide +kernel
theorem dX11_lesson_41 : decode cX11_lesson 41 = .ok (.aload_n 0, 1) := by decide +kernel
theorem dX11_lesson_42 : decode cX11_lesson 42 = .ok (.getfield 19, 3) := by decide +kernel
theorem dX11_lesson_45 : decode cX11_lesson 45 = .ok (.getfield 291, 3) := by decide +kernel
theorem dX11_lesson_48 : decode cX11_lesson 48 = .ok (.if_icmp .ge 20, 3) := by decide +kernel
theorem dX11_lesson_51 : decode cX11_lesson 51 = .ok (.iload_n 3, 1) := by decide +kernel
theorem dX11_lesson_52 : decode cX11_lesson 52 = .ok (.iconst 5, 1) := by decide +kernel
theorem dX11_lesson_53 : decode cX11_lesson 53 = .ok (.if_icmp .ge 15, 3) := by decide +kernel
theorem dX11_lesson_56 : decode cX11_lesson 56 = .ok (.aload_n 0, 1) := by decide +kernel
theorem dX11_lesson_57 : decode cX11_lesson 57 = .ok (.getfield 68, 3) := by decide +kernel
theorem dX11_lesson_60 : decode cX11_lesson 60 = .ok (.getfield 294, 3) := by decide +kernel
theorem dX11_lesson_63 : decode cX11_lesson 63 = .ok (.iload_n 3, 1) := by decide +kernel
theorem dX11_lesson_64 : decode cX11_lesson 64 = .ok (.iaload, 1) := by decide +kernel
theorem dX11_lesson_65 : decode cX11_lesson 65 = .ok (.goto 4, 3) := by decide +kernel
theorem dX11_spoilt_0 : decode cX11_spoilt 0 = .ok (.aload_n 0, 1) := by decide +kernel
theorem dX11_spoilt_1 : decode cX11_spoilt 1 = .ok (.iload_n 1, 1) := by decide +kernel
theorem dX11_spoilt_2 : decode cX11_spoilt 2 = .ok (.iload_n 2, 1) := by decide +kernel
theorem dX11_spoilt_3 : decode cX11_spoilt 3 = .ok (.invokevirtual 191, 3) := by decide +kernel
theorem dX11_spoilt_6 : decode cX11_spoilt 6 = .ok (.istore_n 3, 1) := by decide +kernel
theorem dX11_spoilt_7 : decode cX11_spoilt 7 = .ok (.iload_n 3, 1) := by decide +kernel
theorem dX11_spoilt_8 : decode cX11_spoilt 8 = .ok (.ifCond .eq 5, 3) := by decide +kernel
theorem dX11_spoilt_11 : decode cX11_spoilt 11 = .ok (.iload_n 3, 1) := by decide +kernel
theorem dX11_spoilt_12 : decode cX11_spoilt 12 = .ok (.ireturn, 1) := by decide +kernel
theorem dX11_spoilt_13 : decode cX11_spoilt 13 = .ok (.aload_n 0, 1) := by decide +kernel
theorem dX11_spoilt_14 : decode cX11_spoilt 14 = .ok (.getfield 68, 3) := by decide +kernel
theorem dX11_spoilt_17 : decode cX11_spoilt 17 = .ok (.aload_n 0, 1) := by decide +kernel
theorem dX11_spoilt_18 : decode cX11_spoilt 18 = .ok (.getfield 19, 3) := by decide +kernel
theorem dX11_spoilt_21 : decode cX11_spoilt 21 = .ok (.aload_n 0, 1) := by decide +kernel
theorem dX11_spoilt_22 : decode cX11_spoilt 22 = .ok (.getfield 33, 3) := by decide +kernel
theorem dX11_spoilt_25 : decode cX11_spoilt 25 = .ok (.aload_n 0, 1) := by decide +kernel
theorem dX11_spoilt_26 : decode cX11_spoilt 26 = .ok (.getfield 40, 3) := by decide +kernel
theorem dX11_spoilt_29 : decode cX11_spoilt 29 = .ok (.iload_n 1, 1) := by decide +kernel
theorem dX11_spoilt_30 : decode cX11_spoilt 30 = .ok (.invokevirtual 284, 3) := by decide +kernel
theorem dX11_spoilt_33 : decode cX11_spoilt 33 = .ok (.aload_n 0, 1) := by decide +kernel
theorem dX11_spoilt_34 : decode cX11_spoilt 34 = .ok (.getfield 68, 3) := by decide +kernel
theorem dX11_spoilt_37 : decode cX11_spoilt 37 = .ok (.getfield 298, 3) := by decide +kernel
theorem dX11_spoilt_40 : decode cX11_spoilt 40 = .ok (.ireturn, 1) := by decide +kernel
theorem dX11_route_0 : decode cX11_route 0 = .ok (.aload_n 0, 1) := by decide +kernel
theorem dX11_route_1 : decode cX11_route 1 = .ok (.iload_n 1, 1) := by decide +kernel
theorem dX11_route_2 : decode cX11_route 2 = .ok (.iload_n 2, 1) := by decide +kernel
theorem dX11_route_3 : decode cX11_route 3 = .ok (.invokevirtual 236, 3) := by decide +kernel
theorem dX11_route_6 : decode cX11_route 6 = .ok (.ifCond .eq 20, 3) := by decide +kernel
theorem dX11_route_26 : decode cX11_route 26 = .ok (.bipush (-2), 2) := by decide +kernel
theorem dX11_route_28 : decode cX11_route 28 = .ok (.ireturn, 1) := by decide +kernel
theorem dX11_route_9 : decode cX11_route 9 = .ok (.aload_n 0, 1) := by decide +kernel
theorem dX11_route_10 : decode cX11_route 10 = .ok (.getfield 75, 3) := by decide +kernel
theorem dX11_route_13 : decode cX11_route 13 = .ok (.aload_n 0, 1) := by decide +kernel
theorem dX11_route_14 : decode cX11_route 14 = .ok (.getfield 19, 3) := by decide +kernel
theorem dX11_route_17 : decode cX11_route 17 = .ok (.iload_n 1, 1) := by decide +kernel
theorem dX11_route_18 : decode cX11_route 18 = .ok (.iload_n 2, 1) := by decide +kernel
theorem dX11_route_19 : decode cX11_route 19 = .ok (.iconst 0, 1) := by decide +kernel
theorem dX11_route_20 : decode cX11_route 20 = .ok (.invokevirtual 301, 3) := by decide +kernel
theorem dX11_route_23 : decode cX11_route 23 = .ok (.goto 5, 3) := by decide +kernel
theorem dX11_dark_0 : decode cX11_dark 0 = .ok (.aload_n 0, 1) := by decide +kernel
theorem dX11_dark_1 : decode cX11_dark 1 = .ok (.iload_n 1, 1) := by decide +kernel
theorem dX11_dark_2 : decode cX11_dark 2 = .ok (.iload_n 2, 1) := by decide +kernel
theorem dX11_dark_3 : decode cX11_dark 3 = .ok (.invokevirtual 236, 3) := by decide +kernel
theorem dX11_dark_6 : decode cX11_dark 6 = .ok (.ifCond .ne 6, 3) := by decide +kernel
theorem dX11_dark_9 : decode cX11_dark 9 = .ok (.bipush (-2), 2) := by decide +kernel
theorem dX11_dark_11 : decode cX11_dark 11 = .ok (.ireturn, 1) := by decide +kernel
theorem dX11_dark_12 : decode cX11_dark 12 = .ok (.aload_n 0, 1) := by decide +kernel
theorem dX11_dark_13 : decode cX11_dark 13 = .ok (.getfield 75, 3) := by decide +kernel
theorem dX11_dark_16 : decode cX11_dark 16 = .ok (.aload_n 0, 1) := by decide +kernel
theorem dX11_dark_17 : decode cX11_dark 17 = .ok (.getfield 19, 3) := by decide +kernel
theorem dX11_dark_20 : decode cX11_dark 20 = .ok (.iload_n 1, 1) := by decide +kernel
theorem dX11_dark_21 : decode cX11_dark 21 = .ok (.iload_n 2, 1) := by decide +kernel
theorem dX11_dark_22 : decode cX11_dark 22 = .ok (.sipush 1000, 3) := by decide +kernel
theorem dX11_dark_25 : decode cX11_dark 25 = .ok (.invokevirtual 301, 3) := by decide +kernel
theorem dX11_dark_28 : decode cX11_dark 28 = .ok (.istore_n 3, 1) := by decide +kernel
theorem dX11_dark_29 : decode cX11_dark 29 = .ok (.iload_n 3, 1) := by decide +kernel
theorem dX11_dark_30 : decode cX11_dark 30 = .ok (.iconst (-1), 1) := by decide +kernel
theorem dX11_dark_31 : decode cX11_dark 31 = .ok (.if_icmp .ne 7, 3) := by decide +kernel
theorem dX11_dark_38 : decode cX11_dark 38 = .ok (.iload_n 3, 1) := by decide +kernel
theorem dX11_dark_39 : decode cX11_dark 39 = .ok (.sipush 1000, 3) := by decide +kernel
theorem dX11_dark_42 : decode cX11_dark 42 = .ok (.idiv, 1) := by decide +kernel
theorem dX11_dark_43 : decode cX11_dark 43 = .ok (.ireturn, 1) := by decide +kernel
theorem dX11_dark_34 : decode cX11_dark 34 = .ok (.iconst (-1), 1) := by decide +kernel
theorem dX11_dark_35 : decode cX11_dark 35 = .ok (.goto 8, 3) := by decide +kernel
theorem dX11_detour_0 : decode cX11_detour 0 = .ok (.aload_n 0, 1) := by decide +kernel
theorem dX11_detour_1 : decode cX11_detour 1 = .ok (.iload_n 1, 1) := by decide +kernel
theorem dX11_detour_2 : decode cX11_detour 2 = .ok (.iload_n 2, 1) := by decide +kernel
theorem dX11_detour_3 : decode cX11_detour 3 = .ok (.invokevirtual 236, 3) := by decide +kernel
theorem dX11_detour_6 : decode cX11_detour 6 = .ok (.ifCond .ne 6, 3) := by decide +kernel
theorem dX11_detour_9 : decode cX11_detour 9 = .ok (.bipush (-2), 2) := by decide +kernel
theorem dX11_detour_11 : decode cX11_detour 11 = .ok (.ireturn, 1) := by decide +kernel
theorem dX11_detour_12 : decode cX11_detour 12 = .ok (.aload_n 0, 1) := by decide +kernel
theorem dX11_detour_13 : decode cX11_detour 13 = .ok (.getfield 75, 3) := by decide +kernel
theorem dX11_detour_16 : decode cX11_detour 16 = .ok (.aload_n 0, 1) := by decide +kernel
theorem dX11_detour_17 : decode cX11_detour 17 = .ok (.getfield 19, 3) := by decide +kernel
theorem dX11_detour_20 : decode cX11_detour 20 = .ok (.iload_n 1, 1) := by decide +kernel
theorem dX11_detour_21 : decode cX11_detour 21 = .ok (.iload_n 2, 1) := by decide +kernel
theorem dX11_detour_22 : decode cX11_detour 22 = .ok (.sipush 1000, 3) := by decide +kernel
theorem dX11_detour_25 : decode cX11_detour 25 = .ok (.invokevirtual 301, 3) := by decide +kernel
theorem dX11_detour_28 : decode cX11_detour 28 = .ok (.istore_n 3, 1) := by decide +kernel
theorem dX11_detour_29 : decode cX11_detour 29 = .ok (.iload_n 3, 1) := by decide +kernel
theorem dX11_detour_30 : decode cX11_detour 30 = .ok (.iconst (-1), 1) := by decide +kernel
theorem dX11_detour_31 : decode cX11_detour 31 = .ok (.if_icmp .ne 7, 3) := by decide +kernel
theorem dX11_detour_38 : decode cX11_detour 38 = .ok (.iload_n 3, 1) := by decide +kernel
theorem dX11_detour_39 : decode cX11_detour 39 = .ok (.sipush 1000, 3) := by decide +kernel
theorem dX11_detour_42 : decode cX11_detour 42 = .ok (.irem, 1) := by decide +kernel
theorem dX11_detour_43 : decode cX11_detour 43 = .ok (.ireturn, 1) := by decide +kernel
theorem dX11_detour_34 : decode cX11_detour 34 = .ok (.iconst (-1), 1) := by decide +kernel
theorem dX11_detour_35 : decode cX11_detour 35 = .ok (.goto 8, 3) := by decide +kernel
theorem dX11_fog_0 : decode cX11_fog 0 = .ok (.aload_n 0, 1) := by decide +kernel
theorem dX11_fog_1 : decode cX11_fog 1 = .ok (.iload_n 1, 1) := by decide +kernel
theorem dX11_fog_2 : decode cX11_fog 2 = .ok (.iload_n 2, 1) := by decide +kernel
theorem dX11_fog_3 : decode cX11_fog 3 = .ok (.invokevirtual 236, 3) := by decide +kernel
theorem dX11_fog_6 : decode cX11_fog 6 = .ok (.ifCond .eq 21, 3) := by decide +kernel
theorem dX11_fog_27 : decode cX11_fog 27 = .ok (.bipush (-2), 2) := by decide +kernel
theorem dX11_fog_29 : decode cX11_fog 29 = .ok (.ireturn, 1) := by decide +kernel
theorem dX11_fog_9 : decode cX11_fog 9 = .ok (.iload_n 3, 1) := by decide +kernel
theorem dX11_fog_10 : decode cX11_fog 10 = .ok (.invokestatic 305, 3) := by decide +kernel
theorem dX11_fog_13 : decode cX11_fog 13 = .ok (.ifCond .eq 14, 3) := by decide +kernel
theorem dX11_fog_16 : decode cX11_fog 16 = .ok (.iload 4, 2) := by decide +kernel
theorem dX11_fog_18 : decode cX11_fog 18 = .ok (.ifCond .lt 9, 3) := by decide +kernel
theorem dX11_fog_21 : decode cX11_fog 21 = .ok (.iload 4, 2) := by decide +kernel
theorem dX11_fog_23 : decode cX11_fog 23 = .ok (.iconst 1, 1) := by decide +kernel
theorem dX11_fog_24 : decode cX11_fog 24 = .ok (.if_icmp .le 6, 3) := by decide +kernel
theorem dX11_fog_30 : decode cX11_fog 30 = .ok (.aload_n 0, 1) := by decide +kernel
theorem dX11_fog_31 : decode cX11_fog 31 = .ok (.getfield 75, 3) := by decide +kernel
theorem dX11_fog_34 : decode cX11_fog 34 = .ok (.aload_n 0, 1) := by decide +kernel
theorem dX11_fog_35 : decode cX11_fog 35 = .ok (.getfield 19, 3) := by decide +kernel
theorem dX11_fog_38 : decode cX11_fog 38 = .ok (.iload_n 1, 1) := by decide +kernel
theorem dX11_fog_39 : decode cX11_fog 39 = .ok (.iload_n 3, 1) := by decide +kernel
theorem dX11_fog_40 : decode cX11_fog 40 = .ok (.invokevirtual 308, 3) := by decide +kernel
theorem dX11_fog_43 : decode cX11_fog 43 = .ok (.aload_n 0, 1) := by decide +kernel
theorem dX11_fog_44 : decode cX11_fog 44 = .ok (.getfield 75, 3) := by decide +kernel
theorem dX11_fog_47 : decode cX11_fog 47 = .ok (.iload_n 2, 1) := by decide +kernel
theorem dX11_fog_48 : decode cX11_fog 48 = .ok (.invokevirtual 311, 3) := by decide +kernel
theorem dX11_fog_51 : decode cX11_fog 51 = .ok (.istore 5, 2) := by decide +kernel
theorem dX11_fog_53 : decode cX11_fog 53 = .ok (.iload 5, 2) := by decide +kernel
theorem dX11_fog_55 : decode cX11_fog 55 = .ok (.ifCond .ne 6, 3) := by decide +kernel
theorem dX11_fog_61 : decode cX11_fog 61 = .ok (.iload 5, 2) := by decide +kernel
theorem dX11_fog_63 : decode cX11_fog 63 = .ok (.invokestatic 314, 3) := by decide +kernel
theorem dX11_fog_66 : decode cX11_fog 66 = .ok (.iconst 2, 1) := by decide +kernel
theorem dX11_fog_67 : decode cX11_fog 67 = .ok (.iload_n 3, 1) := by decide +kernel
theorem dX11_fog_68 : decode cX11_fog 68 = .ok (.imul, 1) := by decide +kernel
theorem dX11_fog_69 : decode cX11_fog 69 = .ok (.invokestatic 317, 3) := by decide +kernel
theorem dX11_fog_72 : decode cX11_fog 72 = .ok (.istore 6, 2) := by decide +kernel
theorem dX11_fog_74 : decode cX11_fog 74 = .ok (.iload 4, 2) := by decide +kernel
theorem dX11_fog_76 : decode cX11_fog 76 = .ok (.ifCond .ne 11, 3) := by decide +kernel
theorem dX11_fog_87 : decode cX11_fog 87 = .ok (.iconst 1, 1) := by decide +kernel
theorem dX11_fog_88 : decode cX11_fog 88 = .ok (.iconst 2, 1) := by decide +kernel
theorem dX11_fog_89 : decode cX11_fog 89 = .ok (.iload_n 3, 1) := by decide +kernel
theorem dX11_fog_90 : decode cX11_fog 90 = .ok (.imul, 1) := by decide +kernel
theorem dX11_fog_91 : decode cX11_fog 91 = .ok (.iload 6, 2) := by decide +kernel
theorem dX11_fog_93 : decode cX11_fog 93 = .ok (.isub, 1) := by decide +kernel
theorem dX11_fog_94 : decode cX11_fog 94 = .ok (.ishl, 1) := by decide +kernel
theorem dX11_fog_95 : decode cX11_fog 95 = .ok (.ireturn, 1) := by decide +kernel
theorem dX11_fog_79 : decode cX11_fog 79 = .ok (.iload 5, 2) := by decide +kernel
theorem dX11_fog_81 : decode cX11_fog 81 = .ok (.iload 6, 2) := by decide +kernel
theorem dX11_fog_83 : decode cX11_fog 83 = .ok (.ishr, 1) := by decide +kernel
theorem dX11_fog_84 : decode cX11_fog 84 = .ok (.goto 11, 3) := by decide +kernel
theorem dX11_fog_58 : decode cX11_fog 58 = .ok (.iload 4, 2) := by decide +kernel
theorem dX11_fog_60 : decode cX11_fog 60 = .ok (.ireturn, 1) := by decide +kernel
theorem dX11_likely_0 : decode cX11_likely 0 = .ok (.aload_n 0, 1) := by decide +kernel
theorem dX11_likely_1 : decode cX11_likely 1 = .ok (.getfield 19, 3) := by decide +kernel
theorem dX11_likely_4 : decode cX11_likely 4 = .ok (.iload_n 1, 1) := by decide +kernel
theorem dX11_likely_5 : decode cX11_likely 5 = .ok (.invokevirtual 126, 3) := by decide +kernel
theorem dX11_likely_8 : decode cX11_likely 8 = .ok (.ifCond .eq 10, 3) := by decide +kernel
theorem dX11_likely_18 : decode cX11_likely 18 = .ok (.bipush (-2), 2) := by decide +kernel
theorem dX11_likely_20 : decode cX11_likely 20 = .ok (.ireturn, 1) := by decide +kernel
theorem dX11_likely_11 : decode cX11_likely 11 = .ok (.iload_n 2, 1) := by decide +kernel
theorem dX11_likely_12 : decode cX11_likely 12 = .ok (.invokestatic 305, 3) := by decide +kernel
theorem dX11_likely_15 : decode cX11_likely 15 = .ok (.ifCond .ne 6, 3) := by decide +kernel
theorem dX11_likely_21 : decode cX11_likely 21 = .ok (.aload_n 0, 1) := by decide +kernel
theorem dX11_likely_22 : decode cX11_likely 22 = .ok (.getfield 75, 3) := by decide +kernel
theorem dX11_likely_25 : decode cX11_likely 25 = .ok (.aload_n 0, 1) := by decide +kernel
theorem dX11_likely_26 : decode cX11_likely 26 = .ok (.getfield 19, 3) := by decide +kernel
theorem dX11_likely_29 : decode cX11_likely 29 = .ok (.iload_n 1, 1) := by decide +kernel
theorem dX11_likely_30 : decode cX11_likely 30 = .ok (.iload_n 2, 1) := by decide +kernel
theorem dX11_likely_31 : decode cX11_likely 31 = .ok (.invokevirtual 308, 3) := by decide +kernel
theorem dX11_likely_34 : decode cX11_likely 34 = .ok (.iconst 0, 1) := by decide +kernel
theorem dX11_likely_35 : decode cX11_likely 35 = .ok (.istore_n 3, 1) := by decide +kernel
theorem dX11_likely_36 : decode cX11_likely 36 = .ok (.iconst 1, 1) := by decide +kernel
theorem dX11_likely_37 : decode cX11_likely 37 = .ok (.istore 4, 2) := by decide +kernel
theorem dX11_likely_39 : decode cX11_likely 39 = .ok (.iload 4, 2) := by decide +kernel
theorem dX11_likely_41 : decode cX11_likely 41 = .ok (.aload_n 0, 1) := by decide +kernel
theorem dX11_likely_42 : decode cX11_likely 42 = .ok (.getfield 19, 3) := by decide +kernel
theorem dX11_likely_45 : decode cX11_likely 45 = .ok (.getfield 233, 3) := by decide +kernel
theorem dX11_likely_48 : decode cX11_likely 48 = .ok (.if_icmp .ge 32, 3) := by decide +kernel
theorem dX11_likely_80 : decode cX11_likely 80 = .ok (.iload_n 3, 1) := by decide +kernel
theorem dX11_likely_81 : decode cX11_likely 81 = .ok (.ireturn, 1) := by decide +kernel
theorem dX11_likely_51 : decode cX11_likely 51 = .ok (.aload_n 0, 1) := by decide +kernel
theorem dX11_likely_52 : decode cX11_likely 52 = .ok (.getfield 75, 3) := by decide +kernel
theorem dX11_likely_55 : decode cX11_likely 55 = .ok (.iload 4, 2) := by decide +kernel
theorem dX11_likely_57 : decode cX11_likely 57 = .ok (.invokevirtual 311, 3) := by decide +kernel
theorem dX11_likely_60 : decode cX11_likely 60 = .ok (.aload_n 0, 1) := by decide +kernel
theorem dX11_likely_61 : decode cX11_likely 61 = .ok (.getfield 75, 3) := by decide +kernel
theorem dX11_likely_64 : decode cX11_likely 64 = .ok (.iload_n 3, 1) := by decide +kernel
theorem dX11_likely_65 : decode cX11_likely 65 = .ok (.invokevirtual 311, 3) := by decide +kernel
theorem dX11_likely_68 : decode cX11_likely 68 = .ok (.if_icmp .le 6, 3) := by decide +kernel
theorem dX11_likely_74 : decode cX11_likely 74 = .ok (.iinc 4 1, 3) := by decide +kernel
theorem dX11_likely_77 : decode cX11_likely 77 = .ok (.goto (-38), 3) := by decide +kernel
theorem dX11_likely_71 : decode cX11_likely 71 = .ok (.iload 4, 2) := by decide +kernel
theorem dX11_likely_73 : decode cX11_likely 73 = .ok (.istore_n 3, 1) := by decide +kernel
theorem dX11_can_0 : decode cX11_can 0 = .ok (.aload_n 0, 1) := by decide +kernel
theorem dX11_can_1 : decode cX11_can 1 = .ok (.getfield 19, 3) := by decide +kernel
theorem dX11_can_4 : decode cX11_can 4 = .ok (.iload_n 1, 1) := by decide +kernel
theorem dX11_can_5 : decode cX11_can 5 = .ok (.invokevirtual 126, 3) := by decide +kernel
theorem dX11_can_8 : decode cX11_can 8 = .ok (.ifCond .eq 19, 3) := by decide +kernel
theorem dX11_can_27 : decode cX11_can 27 = .ok (.bipush (-2), 2) := by decide +kernel
theorem dX11_can_29 : decode cX11_can 29 = .ok (.ireturn, 1) := by decide +kernel
theorem dX11_can_11 : decode cX11_can 11 = .ok (.iload_n 2, 1) := by decide +kernel
theorem dX11_can_12 : decode cX11_can 12 = .ok (.invokestatic 305, 3) := by decide +kernel
theorem dX11_can_15 : decode cX11_can 15 = .ok (.ifCond .eq 12, 3) := by decide +kernel
theorem dX11_can_18 : decode cX11_can 18 = .ok (.aload_n 0, 1) := by decide +kernel
theorem dX11_can_19 : decode cX11_can 19 = .ok (.iload_n 1, 1) := by decide +kernel
theorem dX11_can_20 : decode cX11_can 20 = .ok (.iload_n 2, 1) := by decide +kernel
theorem dX11_can_21 : decode cX11_can 21 = .ok (.invokevirtual 263, 3) := by decide +kernel
theorem dX11_can_24 : decode cX11_can 24 = .ok (.goto 5, 3) := by decide +kernel
theorem dX11_lead_0 : decode cX11_lead 0 = .ok (.aload_n 0, 1) := by decide +kernel
theorem dX11_lead_1 : decode cX11_lead 1 = .ok (.iload_n 1, 1) := by decide +kernel
theorem dX11_lead_2 : decode cX11_lead 2 = .ok (.iload_n 3, 1) := by decide +kernel
theorem dX11_lead_3 : decode cX11_lead 3 = .ok (.invokevirtual 236, 3) := by decide +kernel
theorem dX11_lead_6 : decode cX11_lead 6 = .ok (.ifCond .eq 10, 3) := by decide +kernel
theorem dX11_lead_16 : decode cX11_lead 16 = .ok (.bipush (-2), 2) := by decide +kernel
theorem dX11_lead_18 : decode cX11_lead 18 = .ok (.ireturn, 1) := by decide +kernel
theorem dX11_lead_9 : decode cX11_lead 9 = .ok (.iload_n 2, 1) := by decide +kernel
theorem dX11_lead_10 : decode cX11_lead 10 = .ok (.invokestatic 129, 3) := by decide +kernel
theorem dX11_lead_13 : decode cX11_lead 13 = .ok (.ifCond .ne 6, 3) := by decide +kernel
theorem dX11_lead_19 : decode cX11_lead 19 = .ok (.aload_n 0, 1) := by decide +kernel
theorem dX11_lead_20 : decode cX11_lead 20 = .ok (.getfield 26, 3) := by decide +kernel
theorem dX11_lead_23 : decode cX11_lead 23 = .ok (.getfield 174, 3) := by decide +kernel
theorem dX11_lead_26 : decode cX11_lead 26 = .ok (.ifCond .le 6, 3) := by decide +kernel
theorem dX11_lead_32 : decode cX11_lead 32 = .ok (.aload_n 0, 1) := by decide +kernel
theorem dX11_lead_33 : decode cX11_lead 33 = .ok (.getfield 19, 3) := by decide +kernel
theorem dX11_lead_36 : decode cX11_lead 36 = .ok (.iload_n 1, 1) := by decide +kernel
theorem dX11_lead_37 : decode cX11_lead 37 = .ok (.iload_n 2, 1) := by decide +kernel
theorem dX11_lead_38 : decode cX11_lead 38 = .ok (.invokevirtual 132, 3) := by decide +kernel
theorem dX11_lead_41 : decode cX11_lead 41 = .ok (.istore 4, 2) := by decide +kernel
theorem dX11_lead_43 : decode cX11_lead 43 = .ok (.aload_n 0, 1) := by decide +kernel
theorem dX11_lead_44 : decode cX11_lead 44 = .ok (.getfield 19, 3) := by decide +kernel
theorem dX11_lead_47 : decode cX11_lead 47 = .ok (.iload_n 1, 1) := by decide +kernel
theorem dX11_lead_48 : decode cX11_lead 48 = .ok (.iload_n 2, 1) := by decide +kernel
theorem dX11_lead_49 : decode cX11_lead 49 = .ok (.iload_n 3, 1) := by decide +kernel
theorem dX11_lead_50 : decode cX11_lead 50 = .ok (.invokevirtual 320, 3) := by decide +kernel
theorem dX11_lead_53 : decode cX11_lead 53 = .ok (.aload_n 0, 1) := by decide +kernel
theorem dX11_lead_54 : decode cX11_lead 54 = .ok (.getfield 61, 3) := by decide +kernel
theorem dX11_lead_57 : decode cX11_lead 57 = .ok (.iconst 0, 1) := by decide +kernel
theorem dX11_lead_58 : decode cX11_lead 58 = .ok (.putfield 113, 3) := by decide +kernel
theorem dX11_lead_61 : decode cX11_lead 61 = .ok (.iload 4, 2) := by decide +kernel
theorem dX11_lead_63 : decode cX11_lead 63 = .ok (.ireturn, 1) := by decide +kernel
theorem dX11_lead_29 : decode cX11_lead 29 = .ok (.bipush (-5), 2) := by decide +kernel
theorem dX11_lead_31 : decode cX11_lead 31 = .ok (.ireturn, 1) := by decide +kernel
theorem dX11_marks_0 : decode cX11_marks 0 = .ok (.aload_n 0, 1) := by decide +kernel
theorem dX11_marks_1 : decode cX11_marks 1 = .ok (.getfield 19, 3) := by decide +kernel
theorem dX11_marks_4 : decode cX11_marks 4 = .ok (.iload_n 1, 1) := by decide +kernel
theorem dX11_marks_5 : decode cX11_marks 5 = .ok (.invokevirtual 126, 3) := by decide +kernel
theorem dX11_marks_8 : decode cX11_marks 8 = .ok (.ifCond .eq 10, 3) := by decide +kernel
theorem dX11_marks_18 : decode cX11_marks 18 = .ok (.bipush (-2), 2) := by decide +kernel
theorem dX11_marks_20 : decode cX11_marks 20 = .ok (.ireturn, 1) := by decide +kernel
theorem dX11_marks_11 : decode cX11_marks 11 = .ok (.iload_n 2, 1) := by decide +kernel
theorem dX11_marks_12 : decode cX11_marks 12 = .ok (.invokestatic 146, 3) := by decide +kernel
theorem dX11_marks_15 : decode cX11_marks 15 = .ok (.ifCond .ne 6, 3) := by decide +kernel
theorem dX11_marks_21 : decode cX11_marks 21 = .ok (.aload_n 0, 1) := by decide +kernel
theorem dX11_marks_22 : decode cX11_marks 22 = .ok (.getfield 26, 3) := by decide +kernel
theorem dX11_marks_25 : decode cX11_marks 25 = .ok (.getfield 174, 3) := by decide +kernel
theorem dX11_marks_28 : decode cX11_marks 28 = .ok (.ifCond .le 6, 3) := by decide +kernel
theorem dX11_marks_34 : decode cX11_marks 34 = .ok (.aload_n 0, 1) := by decide +kernel
theorem dX11_marks_35 : decode cX11_marks 35 = .ok (.getfield 19, 3) := by decide +kernel
theorem dX11_marks_38 : decode cX11_marks 38 = .ok (.iload_n 1, 1) := by decide +kernel
theorem dX11_marks_39 : decode cX11_marks 39 = .ok (.invokevirtual 136, 3) := by decide +kernel
theorem dX11_marks_42 : decode cX11_marks 42 = .ok (.istore_n 3, 1) := by decide +kernel
theorem dX11_marks_43 : decode cX11_marks 43 = .ok (.aload_n 0, 1) := by decide +kernel
theorem dX11_marks_44 : decode cX11_marks 44 = .ok (.getfield 19, 3) := by decide +kernel
theorem dX11_marks_47 : decode cX11_marks 47 = .ok (.iload_n 1, 1) := by decide +kernel
theorem dX11_marks_48 : decode cX11_marks 48 = .ok (.iload_n 2, 1) := by decide +kernel
theorem dX11_marks_49 : decode cX11_marks 49 = .ok (.invokevirtual 324, 3) := by decide +kernel
theorem dX11_marks_52 : decode cX11_marks 52 = .ok (.aload_n 0, 1) := by decide +kernel
theorem dX11_marks_53 : decode cX11_marks 53 = .ok (.getfield 61, 3) := by decide +kernel
theorem dX11_marks_56 : decode cX11_marks 56 = .ok (.iconst 0, 1) := by decide +kernel
theorem dX11_marks_57 : decode cX11_marks 57 = .ok (.putfield 113, 3) := by decide +kernel
theorem dX11_marks_60 : decode cX11_marks 60 = .ok (.iload_n 3, 1) := by decide +kernel
theorem dX11_marks_61 : decode cX11_marks 61 = .ok (.ireturn, 1) := by decide +kernel
theorem dX11_marks_31 : decode cX11_marks 31 = .ok (.bipush (-5), 2) := by decide +kernel
theorem dX11_marks_33 : decode cX11_marks 33 = .ok (.ireturn, 1) := by decide +kernel
theorem dX11_drawn_0 : decode cX11_drawn 0 = .ok (.iload_n 1, 1) := by decide +kernel
theorem dX11_drawn_1 : decode cX11_drawn 1 = .ok (.iload_n 3, 1) := by decide +kernel
theorem dX11_drawn_2 : decode cX11_drawn 2 = .ok (.invokestatic 328, 3) := by decide +kernel
theorem dX11_drawn_5 : decode cX11_drawn 5 = .ok (.ifCond .eq 22, 3) := by decide +kernel
theorem dX11_drawn_27 : decode cX11_drawn 27 = .ok (.bipush (-2), 2) := by decide +kernel
theorem dX11_drawn_29 : decode cX11_drawn 29 = .ok (.ireturn, 1) := by decide +kernel
theorem dX11_drawn_8 : decode cX11_drawn 8 = .ok (.iload 4, 2) := by decide +kernel
theorem dX11_drawn_10 : decode cX11_drawn 10 = .ok (.ifCond .lt 17, 3) := by decide +kernel
theorem dX11_drawn_13 : decode cX11_drawn 13 = .ok (.iload 4, 2) := by decide +kernel
theorem dX11_drawn_15 : decode cX11_drawn 15 = .ok (.iconst 2, 1) := by decide +kernel
theorem dX11_drawn_16 : decode cX11_drawn 16 = .ok (.if_icmp .gt 11, 3) := by decide +kernel
theorem dX11_drawn_19 : decode cX11_drawn 19 = .ok (.aload_n 0, 1) := by decide +kernel
theorem dX11_drawn_20 : decode cX11_drawn 20 = .ok (.iload_n 2, 1) := by decide +kernel
theorem dX11_drawn_21 : decode cX11_drawn 21 = .ok (.invokevirtual 152, 3) := by decide +kernel
theorem dX11_drawn_24 : decode cX11_drawn 24 = .ok (.ifCond .ne 6, 3) := by decide +kernel
theorem dX11_drawn_30 : decode cX11_drawn 30 = .ok (.aload_n 0, 1) := by decide +kernel
theorem dX11_drawn_31 : decode cX11_drawn 31 = .ok (.iload_n 1, 1) := by decide +kernel
theorem dX11_drawn_32 : decode cX11_drawn 32 = .ok (.iload_n 3, 1) := by decide +kernel
theorem dX11_drawn_33 : decode cX11_drawn 33 = .ok (.invokevirtual 331, 3) := by decide +kernel
theorem dX11_drawn_36 : decode cX11_drawn 36 = .ok (.istore 5, 2) := by decide +kernel
theorem dX11_drawn_38 : decode cX11_drawn 38 = .ok (.iload 4, 2) := by decide +kernel
theorem dX11_drawn_40 : decode cX11_drawn 40 = .ok (.iconst 2, 1) := by decide +kernel
theorem dX11_drawn_41 : decode cX11_drawn 41 = .ok (.if_icmp .ne 6, 3) := by decide +kernel
theorem dX11_drawn_47 : decode cX11_drawn 47 = .ok (.iload 4, 2) := by decide +kernel
theorem dX11_drawn_49 : decode cX11_drawn 49 = .ok (.ifCond .ne 13, 3) := by decide +kernel
theorem dX11_drawn_62 : decode cX11_drawn 62 = .ok (.aload_n 0, 1) := by decide +kernel
theorem dX11_drawn_63 : decode cX11_drawn 63 = .ok (.getfield 33, 3) := by decide +kernel
theorem dX11_drawn_66 : decode cX11_drawn 66 = .ok (.getfield 158, 3) := by decide +kernel
theorem dX11_drawn_69 : decode cX11_drawn 69 = .ok (.ireturn, 1) := by decide +kernel
theorem dX11_drawn_52 : decode cX11_drawn 52 = .ok (.aload_n 0, 1) := by decide +kernel
theorem dX11_drawn_53 : decode cX11_drawn 53 = .ok (.getfield 33, 3) := by decide +kernel
theorem dX11_drawn_56 : decode cX11_drawn 56 = .ok (.getfield 155, 3) := by decide +kernel
theorem dX11_drawn_59 : decode cX11_drawn 59 = .ok (.goto 10, 3) := by decide +kernel
theorem dX11_drawn_44 : decode cX11_drawn 44 = .ok (.iload 5, 2) := by decide +kernel
theorem dX11_drawn_46 : decode cX11_drawn 46 = .ok (.ireturn, 1) := by decide +kernel
theorem dX11_luck_0 : decode cX11_luck 0 = .ok (.iload_n 1, 1) := by decide +kernel
theorem dX11_luck_1 : decode cX11_luck 1 = .ok (.iload 4, 2) := by decide +kernel
theorem dX11_luck_3 : decode cX11_luck 3 = .ok (.invokestatic 328, 3) := by decide +kernel
theorem dX11_luck_6 : decode cX11_luck 6 = .ok (.ifCond .eq 25, 3) := by decide +kernel
theorem dX11_luck_31 : decode cX11_luck 31 = .ok (.bipush (-2), 2) := by decide +kernel
theorem dX11_luck_33 : decode cX11_luck 33 = .ok (.ireturn, 1) := by decide +kernel
theorem dX11_luck_9 : decode cX11_luck 9 = .ok (.iload_n 2, 1) := by decide +kernel
theorem dX11_luck_10 : decode cX11_luck 10 = .ok (.iconst 1, 1) := by decide +kernel
theorem dX11_luck_11 : decode cX11_luck 11 = .ok (.if_icmp .lt 20, 3) := by decide +kernel
theorem dX11_luck_14 : decode cX11_luck 14 = .ok (.iload_n 2, 1) := by decide +kernel
theorem dX11_luck_15 : decode cX11_luck 15 = .ok (.bipush 20, 2) := by decide +kernel
theorem dX11_luck_17 : decode cX11_luck 17 = .ok (.if_icmp .gt 14, 3) := by decide +kernel
theorem dX11_luck_20 : decode cX11_luck 20 = .ok (.aload_n 0, 1) := by decide +kernel
theorem dX11_luck_21 : decode cX11_luck 21 = .ok (.getfield 19, 3) := by decide +kernel
theorem dX11_luck_24 : decode cX11_luck 24 = .ok (.iload_n 3, 1) := by decide +kernel
theorem dX11_luck_25 : decode cX11_luck 25 = .ok (.invokevirtual 334, 3) := by decide +kernel
theorem dX11_luck_28 : decode cX11_luck 28 = .ok (.ifCond .ne 6, 3) := by decide +kernel
theorem dX11_luck_34 : decode cX11_luck 34 = .ok (.iconst 0, 1) := by decide +kernel
theorem dX11_luck_35 : decode cX11_luck 35 = .ok (.istore 5, 2) := by decide +kernel
theorem dX11_luck_37 : decode cX11_luck 37 = .ok (.iconst 0, 1) := by decide +kernel
theorem dX11_luck_38 : decode cX11_luck 38 = .ok (.istore 6, 2) := by decide +kernel
theorem dX11_luck_40 : decode cX11_luck 40 = .ok (.iload 6, 2) := by decide +kernel
theorem dX11_luck_42 : decode cX11_luck 42 = .ok (.iload_n 2, 1) := by decide +kernel
theorem dX11_luck_43 : decode cX11_luck 43 = .ok (.if_icmp .ge 48, 3) := by decide +kernel
theorem dX11_luck_91 : decode cX11_luck 91 = .ok (.iload 5, 2) := by decide +kernel
theorem dX11_luck_93 : decode cX11_luck 93 = .ok (.ireturn, 1) := by decide +kernel
theorem dX11_luck_46 : decode cX11_luck 46 = .ok (.aload_n 0, 1) := by decide +kernel
theorem dX11_luck_47 : decode cX11_luck 47 = .ok (.iload_n 3, 1) := by decide +kernel
theorem dX11_luck_48 : decode cX11_luck 48 = .ok (.invokevirtual 152, 3) := by decide +kernel
theorem dX11_luck_51 : decode cX11_luck 51 = .ok (.ifCond .eq 40, 3) := by decide +kernel
theorem dX11_luck_54 : decode cX11_luck 54 = .ok (.aload_n 0, 1) := by decide +kernel
theorem dX11_luck_55 : decode cX11_luck 55 = .ok (.iload_n 1, 1) := by decide +kernel
theorem dX11_luck_56 : decode cX11_luck 56 = .ok (.iload 6, 2) := by decide +kernel
theorem dX11_luck_58 : decode cX11_luck 58 = .ok (.iadd, 1) := by decide +kernel
theorem dX11_luck_59 : decode cX11_luck 59 = .ok (.iload 4, 2) := by decide +kernel
theorem dX11_luck_61 : decode cX11_luck 61 = .ok (.invokevirtual 331, 3) := by decide +kernel
theorem dX11_luck_64 : decode cX11_luck 64 = .ok (.pop, 1) := by decide +kernel
theorem dX11_luck_65 : decode cX11_luck 65 = .ok (.iload 5, 2) := by decide +kernel
theorem dX11_luck_67 : decode cX11_luck 67 = .ok (.aload_n 0, 1) := by decide +kernel
theorem dX11_luck_68 : decode cX11_luck 68 = .ok (.getfield 33, 3) := by decide +kernel
theorem dX11_luck_71 : decode cX11_luck 71 = .ok (.invokevirtual 168, 3) := by decide +kernel
theorem dX11_luck_74 : decode cX11_luck 74 = .ok (.ifCond .eq 7, 3) := by decide +kernel
theorem dX11_luck_81 : decode cX11_luck 81 = .ok (.iconst 0, 1) := by decide +kernel
theorem dX11_luck_82 : decode cX11_luck 82 = .ok (.iadd, 1) := by decide +kernel
theorem dX11_luck_83 : decode cX11_luck 83 = .ok (.istore 5, 2) := by decide +kernel
theorem dX11_luck_85 : decode cX11_luck 85 = .ok (.iinc 6 1, 3) := by decide +kernel
theorem dX11_luck_88 : decode cX11_luck 88 = .ok (.goto (-48), 3) := by decide +kernel
theorem dX11_luck_77 : decode cX11_luck 77 = .ok (.iconst 1, 1) := by decide +kernel
theorem dX11_luck_78 : decode cX11_luck 78 = .ok (.goto 4, 3) := by decide +kernel
theorem dX11_count_0 : decode cX11_count 0 = .ok (.iload_n 1, 1) := by decide +kernel
theorem dX11_count_1 : decode cX11_count 1 = .ok (.tableswitch 126 0 8 #[51, 59, 67, 78, 86, 94, 102, 110, 118], 51) := by decide +kernel
theorem dX11_count_52 : decode cX11_count 52 = .ok (.aload_n 0, 1) := by decide +kernel
theorem dX11_count_53 : decode cX11_count 53 = .ok (.getfield 19, 3) := by decide +kernel
theorem dX11_count_56 : decode cX11_count 56 = .ok (.getfield 233, 3) := by decide +kernel
theorem dX11_count_59 : decode cX11_count 59 = .ok (.ireturn, 1) := by decide +kernel
theorem dX11_count_60 : decode cX11_count 60 = .ok (.aload_n 0, 1) := by decide +kernel
theorem dX11_count_61 : decode cX11_count 61 = .ok (.getfield 19, 3) := by decide +kernel
theorem dX11_count_64 : decode cX11_count 64 = .ok (.invokevirtual 337, 3) := by decide +kernel
theorem dX11_count_67 : decode cX11_count 67 = .ok (.ireturn, 1) := by decide +kernel
theorem dX11_count_68 : decode cX11_count 68 = .ok (.aload_n 0, 1) := by decide +kernel
theorem dX11_count_69 : decode cX11_count 69 = .ok (.getfield 19, 3) := by decide +kernel
theorem dX11_count_72 : decode cX11_count 72 = .ok (.invokevirtual 340, 3) := by decide +kernel
theorem dX11_count_75 : decode cX11_count 75 = .ok (.invokestatic 251, 3) := by decide +kernel
theorem dX11_count_78 : decode cX11_count 78 = .ok (.ireturn, 1) := by decide +kernel
theorem dX11_count_79 : decode cX11_count 79 = .ok (.aload_n 0, 1) := by decide +kernel
theorem dX11_count_80 : decode cX11_count 80 = .ok (.getfield 19, 3) := by decide +kernel
theorem dX11_count_83 : decode cX11_count 83 = .ok (.getfield 343, 3) := by decide +kernel
theorem dX11_count_86 : decode cX11_count 86 = .ok (.ireturn, 1) := by decide +kernel
theorem dX11_count_87 : decode cX11_count 87 = .ok (.aload_n 0, 1) := by decide +kernel
theorem dX11_count_88 : decode cX11_count 88 = .ok (.getfield 19, 3) := by decide +kernel
theorem dX11_count_91 : decode cX11_count 91 = .ok (.getfield 291, 3) := by decide +kernel
theorem dX11_count_94 : decode cX11_count 94 = .ok (.ireturn, 1) := by decide +kernel
theorem dX11_count_95 : decode cX11_count 95 = .ok (.aload_n 0, 1) := by decide +kernel
theorem dX11_count_96 : decode cX11_count 96 = .ok (.getfield 19, 3) := by decide +kernel
theorem dX11_count_99 : decode cX11_count 99 = .ok (.getfield 117, 3) := by decide +kernel
theorem dX11_count_102 : decode cX11_count 102 = .ok (.ireturn, 1) := by decide +kernel
theorem dX11_count_103 : decode cX11_count 103 = .ok (.aload_n 0, 1) := by decide +kernel
theorem dX11_count_104 : decode cX11_count 104 = .ok (.getfield 12, 3) := by decide +kernel
theorem dX11_count_107 : decode cX11_count 107 = .ok (.getfield 95, 3) := by decide +kernel
theorem dX11_count_110 : decode cX11_count 110 = .ok (.ireturn, 1) := by decide +kernel
theorem dX11_count_111 : decode cX11_count 111 = .ok (.aload_n 0, 1) := by decide +kernel
theorem dX11_count_112 : decode cX11_count 112 = .ok (.getfield 26, 3) := by decide +kernel
theorem dX11_count_115 : decode cX11_count 115 = .ok (.getfield 174, 3) := by decide +kernel
theorem dX11_count_118 : decode cX11_count 118 = .ok (.ireturn, 1) := by decide +kernel
theorem dX11_count_119 : decode cX11_count 119 = .ok (.aload_n 0, 1) := by decide +kernel
theorem dX11_count_120 : decode cX11_count 120 = .ok (.getfield 40, 3) := by decide +kernel
theorem dX11_count_123 : decode cX11_count 123 = .ok (.invokevirtual 346, 3) := by decide +kernel
theorem dX11_count_126 : decode cX11_count 126 = .ok (.ireturn, 1) := by decide +kernel
theorem dX11_count_127 : decode cX11_count 127 = .ok (.iconst (-1), 1) := by decide +kernel
theorem dX11_count_128 : decode cX11_count 128 = .ok (.ireturn, 1) := by decide +kernel
theorem dX11_row_0 : decode cX11_row 0 = .ok (.iload_n 1, 1) := by decide +kernel
theorem dX11_row_1 : decode cX11_row 1 = .ok (.invokestatic 352, 3) := by decide +kernel
theorem dX11_row_4 : decode cX11_row 4 = .ok (.ifCond .eq 18, 3) := by decide +kernel
