theorem dX12_becomesOf_0 : decode cX12_becomesOf 0 = .ok (.iconst 0, 1) := by decide +kernel
theorem dX12_becomesOf_1 : decode cX12_becomesOf 1 = .ok (.istore_n 3, 1) := by decide +kernel
theorem dX12_becomesOf_2 : decode cX12_becomesOf 2 = .ok (.iconst 0, 1) := by decide +kernel
theorem dX12_becomesOf_3 : decode cX12_becomesOf 3 = .ok (.istore 4, 2) := by decide +kernel
theorem dX12_becomesOf_5 : decode cX12_becomesOf 5 = .ok (.iload 4, 2) := by decide +kernel
theorem dX12_becomesOf_7 : decode cX12_becomesOf 7 = .ok (.aload_n 0, 1) := by decide +kernel
theorem dX12_becomesOf_8 : decode cX12_becomesOf 8 = .ok (.getfield 9, 3) := by decide +kernel
theorem dX12_becomesOf_11 : decode cX12_becomesOf 11 = .ok (.iconst 0, 1) := by decide +kernel
theorem dX12_becomesOf_12 : decode cX12_becomesOf 12 = .ok (.iaload, 1) := by decide +kernel
theorem dX12_becomesOf_13 : decode cX12_becomesOf 13 = .ok (.if_icmp .ge 35, 3) := by decide +kernel
theorem dX12_becomesOf_48 : decode cX12_becomesOf 48 = .ok (.iload_n 3, 1) := by decide +kernel
theorem dX12_becomesOf_49 : decode cX12_becomesOf 49 = .ok (.ireturn, 1) := by decide +kernel
theorem dX12_becomesOf_16 : decode cX12_becomesOf 16 = .ok (.iload_n 3, 1) := by decide +kernel
theorem dX12_becomesOf_17 : decode cX12_becomesOf 17 = .ok (.iload_n 1, 1) := by decide +kernel
theorem dX12_becomesOf_18 : decode cX12_becomesOf 18 = .ok (.iload 4, 2) := by decide +kernel
theorem dX12_becomesOf_20 : decode cX12_becomesOf 20 = .ok (.invokestatic 270, 3) := by decide +kernel
theorem dX12_becomesOf_23 : decode cX12_becomesOf 23 = .ok (.iconst 1, 1) := by decide +kernel
theorem dX12_becomesOf_24 : decode cX12_becomesOf 24 = .ok (.if_icmp .ne 15, 3) := by decide +kernel
theorem dX12_becomesOf_39 : decode cX12_becomesOf 39 = .ok (.iconst 0, 1) := by decide +kernel
theorem dX12_becomesOf_40 : decode cX12_becomesOf 40 = .ok (.ior, 1) := by decide +kernel
theorem dX12_becomesOf_41 : decode cX12_becomesOf 41 = .ok (.istore_n 3, 1) := by decide +kernel
theorem dX12_becomesOf_42 : decode cX12_becomesOf 42 = .ok (.iinc 4 1, 3) := by decide +kernel
theorem dX12_becomesOf_45 : decode cX12_becomesOf 45 = .ok (.goto (-40), 3) := by decide +kernel
theorem dX12_becomesOf_27 : decode cX12_becomesOf 27 = .ok (.iconst 1, 1) := by decide +kernel
theorem dX12_becomesOf_28 : decode cX12_becomesOf 28 = .ok (.aload_n 0, 1) := by decide +kernel
theorem dX12_becomesOf_29 : decode cX12_becomesOf 29 = .ok (.iload 4, 2) := by decide +kernel
theorem dX12_becomesOf_31 : decode cX12_becomesOf 31 = .ok (.iload_n 2, 1) := by decide +kernel
theorem dX12_becomesOf_32 : decode cX12_becomesOf 32 = .ok (.invokevirtual 273, 3) := by decide +kernel
theorem dX12_becomesOf_35 : decode cX12_becomesOf 35 = .ok (.ishl, 1) := by decide +kernel
theorem dX12_becomesOf_36 : decode cX12_becomesOf 36 = .ok (.goto 4, 3) := by decide +kernel
theorem dX12_seenOf_0 : decode cX12_seenOf 0 = .ok (.iconst 0, 1) := by decide +kernel
theorem dX12_seenOf_1 : decode cX12_seenOf 1 = .ok (.istore_n 3, 1) := by decide +kernel
theorem dX12_seenOf_2 : decode cX12_seenOf 2 = .ok (.iconst 0, 1) := by decide +kernel
theorem dX12_seenOf_3 : decode cX12_seenOf 3 = .ok (.istore 4, 2) := by decide +kernel
theorem dX12_seenOf_5 : decode cX12_seenOf 5 = .ok (.iload 4, 2) := by decide +kernel
theorem dX12_seenOf_7 : decode cX12_seenOf 7 = .ok (.aload_n 0, 1) := by decide +kernel
theorem dX12_seenOf_8 : decode cX12_seenOf 8 = .ok (.getfield 9, 3) := by decide +kernel
theorem dX12_seenOf_11 : decode cX12_seenOf 11 = .ok (.iconst 0, 1) := by decide +kernel
theorem dX12_seenOf_12 : decode cX12_seenOf 12 = .ok (.iaload, 1) := by decide +kernel
theorem dX12_seenOf_13 : decode cX12_seenOf 13 = .ok (.if_icmp .ge 40, 3) := by decide +kernel
theorem dX12_seenOf_53 : decode cX12_seenOf 53 = .ok (.iload_n 3, 1) := by decide +kernel
theorem dX12_seenOf_54 : decode cX12_seenOf 54 = .ok (.ireturn, 1) := by decide +kernel
theorem dX12_seenOf_16 : decode cX12_seenOf 16 = .ok (.iload_n 3, 1) := by decide +kernel
theorem dX12_seenOf_17 : decode cX12_seenOf 17 = .ok (.iload_n 1, 1) := by decide +kernel
theorem dX12_seenOf_18 : decode cX12_seenOf 18 = .ok (.iload 4, 2) := by decide +kernel
theorem dX12_seenOf_20 : decode cX12_seenOf 20 = .ok (.invokestatic 270, 3) := by decide +kernel
theorem dX12_seenOf_23 : decode cX12_seenOf 23 = .ok (.iconst 1, 1) := by decide +kernel
theorem dX12_seenOf_24 : decode cX12_seenOf 24 = .ok (.if_icmp .ne 20, 3) := by decide +kernel
theorem dX12_seenOf_44 : decode cX12_seenOf 44 = .ok (.iconst 0, 1) := by decide +kernel
theorem dX12_seenOf_45 : decode cX12_seenOf 45 = .ok (.ior, 1) := by decide +kernel
theorem dX12_seenOf_46 : decode cX12_seenOf 46 = .ok (.istore_n 3, 1) := by decide +kernel
theorem dX12_seenOf_47 : decode cX12_seenOf 47 = .ok (.iinc 4 1, 3) := by decide +kernel
theorem dX12_seenOf_50 : decode cX12_seenOf 50 = .ok (.goto (-45), 3) := by decide +kernel
theorem dX12_seenOf_27 : decode cX12_seenOf 27 = .ok (.aload_n 0, 1) := by decide +kernel
theorem dX12_seenOf_28 : decode cX12_seenOf 28 = .ok (.iload 4, 2) := by decide +kernel
theorem dX12_seenOf_30 : decode cX12_seenOf 30 = .ok (.invokevirtual 276, 3) := by decide +kernel
theorem dX12_seenOf_33 : decode cX12_seenOf 33 = .ok (.iload_n 2, 1) := by decide +kernel
theorem dX12_seenOf_34 : decode cX12_seenOf 34 = .ok (.if_icmp .ne 10, 3) := by decide +kernel
theorem dX12_seenOf_37 : decode cX12_seenOf 37 = .ok (.iconst 1, 1) := by decide +kernel
theorem dX12_seenOf_38 : decode cX12_seenOf 38 = .ok (.iload 4, 2) := by decide +kernel
theorem dX12_seenOf_40 : decode cX12_seenOf 40 = .ok (.ishl, 1) := by decide +kernel
theorem dX12_seenOf_41 : decode cX12_seenOf 41 = .ok (.goto 4, 3) := by decide +kernel
theorem dX12_leads_0 : decode cX12_leads 0 = .ok (.aload_n 0, 1) := by decide +kernel
theorem dX12_leads_1 : decode cX12_leads 1 = .ok (.iload_n 1, 1) := by decide +kernel
theorem dX12_leads_2 : decode cX12_leads 2 = .ok (.i2l, 1) := by decide +kernel
theorem dX12_leads_3 : decode cX12_leads 3 = .ok (.invokevirtual 119, 3) := by decide +kernel
theorem dX12_leads_6 : decode cX12_leads 6 = .ok (.ifCond .eq 20, 3) := by decide +kernel
theorem dX12_leads_26 : decode cX12_leads 26 = .ok (.bipush (-2), 2) := by decide +kernel
theorem dX12_leads_28 : decode cX12_leads 28 = .ok (.ireturn, 1) := by decide +kernel
theorem dX12_leads_9 : decode cX12_leads 9 = .ok (.iload_n 2, 1) := by decide +kernel
theorem dX12_leads_10 : decode cX12_leads 10 = .ok (.i2l, 1) := by decide +kernel
theorem dX12_leads_11 : decode cX12_leads 11 = .ok (.invokestatic 279, 3) := by decide +kernel
theorem dX12_leads_14 : decode cX12_leads 14 = .ok (.ifCond .eq 12, 3) := by decide +kernel
theorem dX12_leads_17 : decode cX12_leads 17 = .ok (.aload_n 0, 1) := by decide +kernel
theorem dX12_leads_18 : decode cX12_leads 18 = .ok (.iload_n 1, 1) := by decide +kernel
theorem dX12_leads_19 : decode cX12_leads 19 = .ok (.iload_n 2, 1) := by decide +kernel
theorem dX12_leads_20 : decode cX12_leads 20 = .ok (.invokevirtual 273, 3) := by decide +kernel
theorem dX12_leads_23 : decode cX12_leads 23 = .ok (.goto 5, 3) := by decide +kernel
theorem dX12_mark_0 : decode cX12_mark 0 = .ok (.aload_n 0, 1) := by decide +kernel
theorem dX12_mark_1 : decode cX12_mark 1 = .ok (.iload_n 1, 1) := by decide +kernel
theorem dX12_mark_2 : decode cX12_mark 2 = .ok (.i2l, 1) := by decide +kernel
theorem dX12_mark_3 : decode cX12_mark 3 = .ok (.invokevirtual 119, 3) := by decide +kernel
theorem dX12_mark_6 : decode cX12_mark 6 = .ok (.ifCond .eq 11, 3) := by decide +kernel
theorem dX12_mark_17 : decode cX12_mark 17 = .ok (.bipush (-2), 2) := by decide +kernel
theorem dX12_mark_19 : decode cX12_mark 19 = .ok (.ireturn, 1) := by decide +kernel
theorem dX12_mark_9 : decode cX12_mark 9 = .ok (.aload_n 0, 1) := by decide +kernel
theorem dX12_mark_10 : decode cX12_mark 10 = .ok (.iload_n 1, 1) := by decide +kernel
theorem dX12_mark_11 : decode cX12_mark 11 = .ok (.invokevirtual 276, 3) := by decide +kernel
theorem dX12_mark_14 : decode cX12_mark 14 = .ok (.goto 5, 3) := by decide +kernel
theorem dX12_becomes_0 : decode cX12_becomes 0 = .ok (.aload_n 0, 1) := by decide +kernel
theorem dX12_becomes_1 : decode cX12_becomes 1 = .ok (.iload_n 1, 1) := by decide +kernel
theorem dX12_becomes_2 : decode cX12_becomes 2 = .ok (.invokevirtual 282, 3) := by decide +kernel
theorem dX12_becomes_5 : decode cX12_becomes 5 = .ok (.ifCond .eq 20, 3) := by decide +kernel
theorem dX12_becomes_25 : decode cX12_becomes 25 = .ok (.bipush (-2), 2) := by decide +kernel
theorem dX12_becomes_27 : decode cX12_becomes 27 = .ok (.ireturn, 1) := by decide +kernel
theorem dX12_becomes_8 : decode cX12_becomes 8 = .ok (.iload_n 2, 1) := by decide +kernel
theorem dX12_becomes_9 : decode cX12_becomes 9 = .ok (.i2l, 1) := by decide +kernel
theorem dX12_becomes_10 : decode cX12_becomes 10 = .ok (.invokestatic 279, 3) := by decide +kernel
theorem dX12_becomes_13 : decode cX12_becomes 13 = .ok (.ifCond .eq 12, 3) := by decide +kernel
theorem dX12_becomes_16 : decode cX12_becomes 16 = .ok (.aload_n 0, 1) := by decide +kernel
theorem dX12_becomes_17 : decode cX12_becomes 17 = .ok (.iload_n 1, 1) := by decide +kernel
theorem dX12_becomes_18 : decode cX12_becomes 18 = .ok (.iload_n 2, 1) := by decide +kernel
theorem dX12_becomes_19 : decode cX12_becomes 19 = .ok (.invokevirtual 286, 3) := by decide +kernel
theorem dX12_becomes_22 : decode cX12_becomes 22 = .ok (.goto 5, 3) := by decide +kernel
theorem dX12_seen_0 : decode cX12_seen 0 = .ok (.aload_n 0, 1) := by decide +kernel
theorem dX12_seen_1 : decode cX12_seen 1 = .ok (.iload_n 1, 1) := by decide +kernel
theorem dX12_seen_2 : decode cX12_seen 2 = .ok (.invokevirtual 282, 3) := by decide +kernel
theorem dX12_seen_5 : decode cX12_seen 5 = .ok (.ifCond .eq 24, 3) := by decide +kernel
theorem dX12_seen_29 : decode cX12_seen 29 = .ok (.bipush (-2), 2) := by decide +kernel
theorem dX12_seen_31 : decode cX12_seen 31 = .ok (.ireturn, 1) := by decide +kernel
theorem dX12_seen_8 : decode cX12_seen 8 = .ok (.iload_n 2, 1) := by decide +kernel
theorem dX12_seen_9 : decode cX12_seen 9 = .ok (.i2l, 1) := by decide +kernel
theorem dX12_seen_10 : decode cX12_seen 10 = .ok (.lconst 0, 1) := by decide +kernel
theorem dX12_seen_11 : decode cX12_seen 11 = .ok (.ldc2_w 289, 3) := by decide +kernel
theorem dX12_seen_14 : decode cX12_seen 14 = .ok (.invokestatic 115, 3) := by decide +kernel
theorem dX12_seen_17 : decode cX12_seen 17 = .ok (.ifCond .eq 12, 3) := by decide +kernel
theorem dX12_seen_20 : decode cX12_seen 20 = .ok (.aload_n 0, 1) := by decide +kernel
theorem dX12_seen_21 : decode cX12_seen 21 = .ok (.iload_n 1, 1) := by decide +kernel
theorem dX12_seen_22 : decode cX12_seen 22 = .ok (.iload_n 2, 1) := by decide +kernel
theorem dX12_seen_23 : decode cX12_seen 23 = .ok (.invokevirtual 291, 3) := by decide +kernel
theorem dX12_seen_26 : decode cX12_seen 26 = .ok (.goto 5, 3) := by decide +kernel
theorem dX12_be_0 : decode cX12_be 0 = .ok (.aload_n 0, 1) := by decide +kernel
theorem dX12_be_1 : decode cX12_be 1 = .ok (.aload_n 0, 1) := by decide +kernel
theorem dX12_be_2 : decode cX12_be 2 = .ok (.iload_n 1, 1) := by decide +kernel
theorem dX12_be_3 : decode cX12_be 3 = .ok (.invokevirtual 294, 3) := by decide +kernel
theorem dX12_be_6 : decode cX12_be 6 = .ok (.putfield 297, 3) := by decide +kernel
theorem dX12_be_9 : decode cX12_be 9 = .ok (.aload_n 0, 1) := by decide +kernel
theorem dX12_be_10 : decode cX12_be 10 = .ok (.aload_n 0, 1) := by decide +kernel
theorem dX12_be_11 : decode cX12_be 11 = .ok (.iload_n 1, 1) := by decide +kernel
theorem dX12_be_12 : decode cX12_be 12 = .ok (.invokevirtual 300, 3) := by decide +kernel
theorem dX12_be_15 : decode cX12_be 15 = .ok (.putfield 303, 3) := by decide +kernel
theorem dX12_be_18 : decode cX12_be 18 = .ok (.aload_n 0, 1) := by decide +kernel
theorem dX12_be_19 : decode cX12_be 19 = .ok (.aload_n 0, 1) := by decide +kernel
theorem dX12_be_20 : decode cX12_be 20 = .ok (.iload_n 1, 1) := by decide +kernel
theorem dX12_be_21 : decode cX12_be 21 = .ok (.invokevirtual 305, 3) := by decide +kernel
theorem dX12_be_24 : decode cX12_be 24 = .ok (.putfield 308, 3) := by decide +kernel
theorem dX12_be_27 : decode cX12_be 27 = .ok (.return_, 1) := by decide +kernel
theorem dX12_step_0 : decode cX12_step 0 = .ok (.aload_n 0, 1) := by decide +kernel
theorem dX12_step_1 : decode cX12_step 1 = .ok (.aload_n 0, 1) := by decide +kernel
theorem dX12_step_2 : decode cX12_step 2 = .ok (.aload_n 0, 1) := by decide +kernel
theorem dX12_step_3 : decode cX12_step 3 = .ok (.getfield 297, 3) := by decide +kernel
theorem dX12_step_6 : decode cX12_step 6 = .ok (.iload_n 1, 1) := by decide +kernel
theorem dX12_step_7 : decode cX12_step 7 = .ok (.aload_n 0, 1) := by decide +kernel
theorem dX12_step_8 : decode cX12_step 8 = .ok (.getfield 308, 3) := by decide +kernel
theorem dX12_step_11 : decode cX12_step 11 = .ok (.iadd, 1) := by decide +kernel
theorem dX12_step_12 : decode cX12_step 12 = .ok (.iconst 4, 1) := by decide +kernel
theorem dX12_step_13 : decode cX12_step 13 = .ok (.irem, 1) := by decide +kernel
theorem dX12_step_14 : decode cX12_step 14 = .ok (.invokevirtual 273, 3) := by decide +kernel
theorem dX12_step_17 : decode cX12_step 17 = .ok (.putfield 297, 3) := by decide +kernel
theorem dX12_step_20 : decode cX12_step 20 = .ok (.aload_n 0, 1) := by decide +kernel
theorem dX12_step_21 : decode cX12_step 21 = .ok (.aload_n 0, 1) := by decide +kernel
theorem dX12_step_22 : decode cX12_step 22 = .ok (.aload_n 0, 1) := by decide +kernel
theorem dX12_step_23 : decode cX12_step 23 = .ok (.getfield 303, 3) := by decide +kernel
theorem dX12_step_26 : decode cX12_step 26 = .ok (.iload_n 1, 1) := by decide +kernel
theorem dX12_step_27 : decode cX12_step 27 = .ok (.invokevirtual 286, 3) := by decide +kernel
theorem dX12_step_30 : decode cX12_step 30 = .ok (.aload_n 0, 1) := by decide +kernel
theorem dX12_step_31 : decode cX12_step 31 = .ok (.aload_n 0, 1) := by decide +kernel
theorem dX12_step_32 : decode cX12_step 32 = .ok (.getfield 297, 3) := by decide +kernel
theorem dX12_step_35 : decode cX12_step 35 = .ok (.invokevirtual 276, 3) := by decide +kernel
theorem dX12_step_38 : decode cX12_step 38 = .ok (.invokevirtual 291, 3) := by decide +kernel
theorem dX12_step_41 : decode cX12_step 41 = .ok (.istore_n 2, 1) := by decide +kernel
theorem dX12_step_42 : decode cX12_step 42 = .ok (.aload_n 0, 1) := by decide +kernel
theorem dX12_step_43 : decode cX12_step 43 = .ok (.iload_n 2, 1) := by decide +kernel
theorem dX12_step_44 : decode cX12_step 44 = .ok (.ifCond .ne 22, 3) := by decide +kernel
theorem dX12_step_66 : decode cX12_step 66 = .ok (.iload_n 2, 1) := by decide +kernel
theorem dX12_step_67 : decode cX12_step 67 = .ok (.putfield 303, 3) := by decide +kernel
theorem dX12_step_70 : decode cX12_step 70 = .ok (.return_, 1) := by decide +kernel
theorem dX12_step_47 : decode cX12_step 47 = .ok (.aload_n 0, 1) := by decide +kernel
theorem dX12_step_48 : decode cX12_step 48 = .ok (.aload_n 0, 1) := by decide +kernel
theorem dX12_step_49 : decode cX12_step 49 = .ok (.invokevirtual 129, 3) := by decide +kernel
theorem dX12_step_52 : decode cX12_step 52 = .ok (.aload_n 0, 1) := by decide +kernel
theorem dX12_step_53 : decode cX12_step 53 = .ok (.aload_n 0, 1) := by decide +kernel
theorem dX12_step_54 : decode cX12_step 54 = .ok (.getfield 297, 3) := by decide +kernel
theorem dX12_step_57 : decode cX12_step 57 = .ok (.invokevirtual 276, 3) := by decide +kernel
theorem dX12_step_60 : decode cX12_step 60 = .ok (.invokevirtual 291, 3) := by decide +kernel
theorem dX12_step_63 : decode cX12_step 63 = .ok (.goto 4, 3) := by decide +kernel
theorem dX12_isKnowing_0 : decode cX12_isKnowing 0 = .ok (.aload_n 0, 1) := by decide +kernel
theorem dX12_isKnowing_1 : decode cX12_isKnowing 1 = .ok (.getfield 303, 3) := by decide +kernel
theorem dX12_isKnowing_4 : decode cX12_isKnowing 4 = .ok (.iconst 1, 1) := by decide +kernel
theorem dX12_isKnowing_5 : decode cX12_isKnowing 5 = .ok (.aload_n 0, 1) := by decide +kernel
theorem dX12_isKnowing_6 : decode cX12_isKnowing 6 = .ok (.getfield 297, 3) := by decide +kernel
theorem dX12_isKnowing_9 : decode cX12_isKnowing 9 = .ok (.ishl, 1) := by decide +kernel
theorem dX12_isKnowing_10 : decode cX12_isKnowing 10 = .ok (.if_icmp .ne 7, 3) := by decide +kernel
theorem dX12_isKnowing_17 : decode cX12_isKnowing 17 = .ok (.iconst 0, 1) := by decide +kernel
theorem dX12_isKnowing_18 : decode cX12_isKnowing 18 = .ok (.ireturn, 1) := by decide +kernel
theorem dX12_isKnowing_13 : decode cX12_isKnowing 13 = .ok (.iconst 1, 1) := by decide +kernel
theorem dX12_isKnowing_14 : decode cX12_isKnowing 14 = .ok (.goto 4, 3) := by decide +kernel
theorem dX12_isLost_0 : decode cX12_isLost 0 = .ok (.aload_n 0, 1) := by decide +kernel
theorem dX12_isLost_1 : decode cX12_isLost 1 = .ok (.getfield 303, 3) := by decide +kernel
theorem dX12_isLost_4 : decode cX12_isLost 4 = .ok (.aload_n 0, 1) := by decide +kernel
theorem dX12_isLost_5 : decode cX12_isLost 5 = .ok (.getfield 297, 3) := by decide +kernel
theorem dX12_isLost_8 : decode cX12_isLost 8 = .ok (.invokestatic 270, 3) := by decide +kernel
theorem dX12_isLost_11 : decode cX12_isLost 11 = .ok (.ifCond .ne 7, 3) := by decide +kernel
theorem dX12_isLost_18 : decode cX12_isLost 18 = .ok (.iconst 0, 1) := by decide +kernel
theorem dX12_isLost_19 : decode cX12_isLost 19 = .ok (.ireturn, 1) := by decide +kernel
theorem dX12_isLost_14 : decode cX12_isLost 14 = .ok (.iconst 1, 1) := by decide +kernel
theorem dX12_isLost_15 : decode cX12_isLost 15 = .ok (.goto 4, 3) := by decide +kernel
theorem dX12_where_0 : decode cX12_where 0 = .ok (.aload_n 0, 1) := by decide +kernel
theorem dX12_where_1 : decode cX12_where 1 = .ok (.iload_n 1, 1) := by decide +kernel
theorem dX12_where_2 : decode cX12_where 2 = .ok (.invokevirtual 310, 3) := by decide +kernel
theorem dX12_where_5 : decode cX12_where 5 = .ok (.ifCond .eq 11, 3) := by decide +kernel
theorem dX12_where_16 : decode cX12_where 16 = .ok (.bipush (-2), 2) := by decide +kernel
theorem dX12_where_18 : decode cX12_where 18 = .ok (.ireturn, 1) := by decide +kernel
theorem dX12_where_8 : decode cX12_where 8 = .ok (.aload_n 0, 1) := by decide +kernel
theorem dX12_where_9 : decode cX12_where 9 = .ok (.iload_n 1, 1) := by decide +kernel
theorem dX12_where_10 : decode cX12_where 10 = .ok (.invokevirtual 294, 3) := by decide +kernel
theorem dX12_where_13 : decode cX12_where 13 = .ok (.goto 5, 3) := by decide +kernel
theorem dX12_thinks_0 : decode cX12_thinks 0 = .ok (.aload_n 0, 1) := by decide +kernel
theorem dX12_thinks_1 : decode cX12_thinks 1 = .ok (.iload_n 1, 1) := by decide +kernel
theorem dX12_thinks_2 : decode cX12_thinks 2 = .ok (.invokevirtual 310, 3) := by decide +kernel
theorem dX12_thinks_5 : decode cX12_thinks 5 = .ok (.ifCond .eq 11, 3) := by decide +kernel
theorem dX12_thinks_16 : decode cX12_thinks 16 = .ok (.bipush (-2), 2) := by decide +kernel
theorem dX12_thinks_18 : decode cX12_thinks 18 = .ok (.ireturn, 1) := by decide +kernel
theorem dX12_thinks_8 : decode cX12_thinks 8 = .ok (.aload_n 0, 1) := by decide +kernel
theorem dX12_thinks_9 : decode cX12_thinks 9 = .ok (.iload_n 1, 1) := by decide +kernel
theorem dX12_thinks_10 : decode cX12_thinks 10 = .ok (.invokevirtual 300, 3) := by decide +kernel
theorem dX12_thinks_13 : decode cX12_thinks 13 = .ok (.goto 5, 3) := by decide +kernel
theorem dX12_pupil_0 : decode cX12_pupil 0 = .ok (.aload_n 0, 1) := by decide +kernel
theorem dX12_pupil_1 : decode cX12_pupil 1 = .ok (.iload_n 1, 1) := by decide +kernel
theorem dX12_pupil_2 : decode cX12_pupil 2 = .ok (.invokevirtual 310, 3) := by decide +kernel
theorem dX12_pupil_5 : decode cX12_pupil 5 = .ok (.ifCond .eq 15, 3) := by decide +kernel
theorem dX12_pupil_20 : decode cX12_pupil 20 = .ok (.bipush (-2), 2) := by decide +kernel
theorem dX12_pupil_22 : decode cX12_pupil 22 = .ok (.ireturn, 1) := by decide +kernel
theorem dX12_pupil_8 : decode cX12_pupil 8 = .ok (.iload_n 2, 1) := by decide +kernel
theorem dX12_pupil_9 : decode cX12_pupil 9 = .ok (.i2l, 1) := by decide +kernel
theorem dX12_pupil_10 : decode cX12_pupil 10 = .ok (.lconst 0, 1) := by decide +kernel
theorem dX12_pupil_11 : decode cX12_pupil 11 = .ok (.ldc2_w 123, 3) := by decide +kernel
theorem dX12_pupil_14 : decode cX12_pupil 14 = .ok (.invokestatic 115, 3) := by decide +kernel
theorem dX12_pupil_17 : decode cX12_pupil 17 = .ok (.ifCond .ne 6, 3) := by decide +kernel
theorem dX12_pupil_23 : decode cX12_pupil 23 = .ok (.aload_n 0, 1) := by decide +kernel
theorem dX12_pupil_24 : decode cX12_pupil 24 = .ok (.iload_n 1, 1) := by decide +kernel
theorem dX12_pupil_25 : decode cX12_pupil 25 = .ok (.invokevirtual 313, 3) := by decide +kernel
theorem dX12_pupil_28 : decode cX12_pupil 28 = .ok (.iload_n 2, 1) := by decide +kernel
theorem dX12_pupil_29 : decode cX12_pupil 29 = .ok (.ifCond .ne 8, 3) := by decide +kernel
theorem dX12_pupil_37 : decode cX12_pupil 37 = .ok (.iload_n 2, 1) := by decide +kernel
theorem dX12_pupil_38 : decode cX12_pupil 38 = .ok (.iconst 1, 1) := by decide +kernel
theorem dX12_pupil_39 : decode cX12_pupil 39 = .ok (.if_icmp .ne 11, 3) := by decide +kernel
theorem dX12_pupil_50 : decode cX12_pupil 50 = .ok (.iload_n 2, 1) := by decide +kernel
theorem dX12_pupil_51 : decode cX12_pupil 51 = .ok (.iconst 2, 1) := by decide +kernel
theorem dX12_pupil_52 : decode cX12_pupil 52 = .ok (.if_icmp .ne 18, 3) := by decide +kernel
theorem dX12_pupil_70 : decode cX12_pupil 70 = .ok (.aload_n 0, 1) := by decide +kernel
theorem dX12_pupil_71 : decode cX12_pupil 71 = .ok (.invokevirtual 322, 3) := by decide +kernel
theorem dX12_pupil_74 : decode cX12_pupil 74 = .ok (.ifCond .eq 7, 3) := by decide +kernel
theorem dX12_pupil_81 : decode cX12_pupil 81 = .ok (.iconst 0, 1) := by decide +kernel
theorem dX12_pupil_82 : decode cX12_pupil 82 = .ok (.ireturn, 1) := by decide +kernel
theorem dX12_pupil_77 : decode cX12_pupil 77 = .ok (.iconst 1, 1) := by decide +kernel
theorem dX12_pupil_78 : decode cX12_pupil 78 = .ok (.goto 4, 3) := by decide +kernel
theorem dX12_pupil_55 : decode cX12_pupil 55 = .ok (.aload_n 0, 1) := by decide +kernel
theorem dX12_pupil_56 : decode cX12_pupil 56 = .ok (.invokevirtual 319, 3) := by decide +kernel
theorem dX12_pupil_59 : decode cX12_pupil 59 = .ok (.ifCond .eq 7, 3) := by decide +kernel
theorem dX12_pupil_66 : decode cX12_pupil 66 = .ok (.iconst 0, 1) := by decide +kernel
theorem dX12_pupil_67 : decode cX12_pupil 67 = .ok (.goto 15, 3) := by decide +kernel
theorem dX12_pupil_62 : decode cX12_pupil 62 = .ok (.iconst 1, 1) := by decide +kernel
theorem dX12_pupil_63 : decode cX12_pupil 63 = .ok (.goto 19, 3) := by decide +kernel
theorem dX12_pupil_42 : decode cX12_pupil 42 = .ok (.aload_n 0, 1) := by decide +kernel
theorem dX12_pupil_43 : decode cX12_pupil 43 = .ok (.getfield 303, 3) := by decide +kernel
theorem dX12_pupil_46 : decode cX12_pupil 46 = .ok (.invokestatic 316, 3) := by decide +kernel
theorem dX12_pupil_49 : decode cX12_pupil 49 = .ok (.ireturn, 1) := by decide +kernel
theorem dX12_pupil_32 : decode cX12_pupil 32 = .ok (.aload_n 0, 1) := by decide +kernel
theorem dX12_pupil_33 : decode cX12_pupil 33 = .ok (.getfield 308, 3) := by decide +kernel
theorem dX12_pupil_36 : decode cX12_pupil 36 = .ok (.ireturn, 1) := by decide +kernel
theorem dX12_goes_0 : decode cX12_goes 0 = .ok (.aload_n 0, 1) := by decide +kernel
theorem dX12_goes_1 : decode cX12_goes 1 = .ok (.iload_n 1, 1) := by decide +kernel
theorem dX12_goes_2 : decode cX12_goes 2 = .ok (.invokevirtual 310, 3) := by decide +kernel
theorem dX12_goes_5 : decode cX12_goes 5 = .ok (.ifCond .eq 11, 3) := by decide +kernel
theorem dX12_goes_16 : decode cX12_goes 16 = .ok (.bipush (-2), 2) := by decide +kernel
theorem dX12_goes_18 : decode cX12_goes 18 = .ok (.ireturn, 1) := by decide +kernel
theorem dX12_goes_8 : decode cX12_goes 8 = .ok (.iload_n 2, 1) := by decide +kernel
theorem dX12_goes_9 : decode cX12_goes 9 = .ok (.i2l, 1) := by decide +kernel
theorem dX12_goes_10 : decode cX12_goes 10 = .ok (.invokestatic 279, 3) := by decide +kernel
theorem dX12_goes_13 : decode cX12_goes 13 = .ok (.ifCond .ne 6, 3) := by decide +kernel
theorem dX12_goes_19 : decode cX12_goes 19 = .ok (.aload_n 0, 1) := by decide +kernel
theorem dX12_goes_20 : decode cX12_goes 20 = .ok (.getfield 9, 3) := by decide +kernel
theorem dX12_goes_23 : decode cX12_goes 23 = .ok (.iconst 4, 1) := by decide +kernel
theorem dX12_goes_24 : decode cX12_goes 24 = .ok (.iaload, 1) := by decide +kernel
theorem dX12_goes_25 : decode cX12_goes 25 = .ok (.bipush 60, 2) := by decide +kernel
theorem dX12_goes_27 : decode cX12_goes 27 = .ok (.if_icmp .ne 6, 3) := by decide +kernel
theorem dX12_goes_33 : decode cX12_goes 33 = .ok (.bipush 82, 2) := by decide +kernel
theorem dX12_goes_35 : decode cX12_goes 35 = .ok (.iconst 3, 1) := by decide +kernel
theorem dX12_goes_36 : decode cX12_goes 36 = .ok (.aload_n 0, 1) := by decide +kernel
theorem dX12_goes_37 : decode cX12_goes 37 = .ok (.getfield 9, 3) := by decide +kernel
theorem dX12_goes_40 : decode cX12_goes 40 = .ok (.iconst 4, 1) := by decide +kernel
theorem dX12_goes_41 : decode cX12_goes 41 = .ok (.iaload, 1) := by decide +kernel
theorem dX12_goes_42 : decode cX12_goes 42 = .ok (.imul, 1) := by decide +kernel
theorem dX12_goes_43 : decode cX12_goes 43 = .ok (.iadd, 1) := by decide +kernel
theorem dX12_goes_44 : decode cX12_goes 44 = .ok (.istore_n 3, 1) := by decide +kernel
theorem dX12_goes_45 : decode cX12_goes 45 = .ok (.aload_n 0, 1) := by decide +kernel
theorem dX12_goes_46 : decode cX12_goes 46 = .ok (.iload_n 1, 1) := by decide +kernel
theorem dX12_goes_47 : decode cX12_goes 47 = .ok (.invokevirtual 313, 3) := by decide +kernel
theorem dX12_goes_50 : decode cX12_goes 50 = .ok (.aload_n 0, 1) := by decide +kernel
theorem dX12_goes_51 : decode cX12_goes 51 = .ok (.getfield 9, 3) := by decide +kernel
theorem dX12_goes_54 : decode cX12_goes 54 = .ok (.iload_n 3, 1) := by decide +kernel
theorem dX12_goes_55 : decode cX12_goes 55 = .ok (.iload_n 1, 1) := by decide +kernel
theorem dX12_goes_56 : decode cX12_goes 56 = .ok (.iastore, 1) := by decide +kernel
theorem dX12_goes_57 : decode cX12_goes 57 = .ok (.aload_n 0, 1) := by decide +kernel
theorem dX12_goes_58 : decode cX12_goes 58 = .ok (.getfield 9, 3) := by decide +kernel
theorem dX12_goes_61 : decode cX12_goes 61 = .ok (.iload_n 3, 1) := by decide +kernel
theorem dX12_goes_62 : decode cX12_goes 62 = .ok (.iconst 1, 1) := by decide +kernel
theorem dX12_goes_63 : decode cX12_goes 63 = .ok (.iadd, 1) := by decide +kernel
theorem dX12_goes_64 : decode cX12_goes 64 = .ok (.aload_n 0, 1) := by decide +kernel
theorem dX12_goes_65 : decode cX12_goes 65 = .ok (.getfield 297, 3) := by decide +kernel
theorem dX12_goes_68 : decode cX12_goes 68 = .ok (.iastore, 1) := by decide +kernel
theorem dX12_goes_69 : decode cX12_goes 69 = .ok (.aload_n 0, 1) := by decide +kernel
theorem dX12_goes_70 : decode cX12_goes 70 = .ok (.getfield 9, 3) := by decide +kernel
theorem dX12_goes_73 : decode cX12_goes 73 = .ok (.iload_n 3, 1) := by decide +kernel
theorem dX12_goes_74 : decode cX12_goes 74 = .ok (.iconst 2, 1) := by decide +kernel
theorem dX12_goes_75 : decode cX12_goes 75 = .ok (.iadd, 1) := by decide +kernel
theorem dX12_goes_76 : decode cX12_goes 76 = .ok (.aload_n 0, 1) := by decide +kernel
theorem dX12_goes_77 : decode cX12_goes 77 = .ok (.getfield 303, 3) := by decide +kernel
theorem dX12_goes_80 : decode cX12_goes 80 = .ok (.iastore, 1) := by decide +kernel
theorem dX12_goes_81 : decode cX12_goes 81 = .ok (.aload_n 0, 1) := by decide +kernel
theorem dX12_goes_82 : decode cX12_goes 82 = .ok (.getfield 9, 3) := by decide +kernel
theorem dX12_goes_85 : decode cX12_goes 85 = .ok (.iconst 4, 1) := by decide +kernel
theorem dX12_goes_86 : decode cX12_goes 86 = .ok (.dup2, 1) := by decide +kernel
theorem dX12_goes_87 : decode cX12_goes 87 = .ok (.iaload, 1) := by decide +kernel
theorem dX12_goes_88 : decode cX12_goes 88 = .ok (.iconst 1, 1) := by decide +kernel
theorem dX12_goes_89 : decode cX12_goes 89 = .ok (.iadd, 1) := by decide +kernel
theorem dX12_goes_90 : decode cX12_goes 90 = .ok (.iastore, 1) := by decide +kernel
theorem dX12_goes_91 : decode cX12_goes 91 = .ok (.aload_n 0, 1) := by decide +kernel
theorem dX12_goes_92 : decode cX12_goes 92 = .ok (.iload_n 2, 1) := by decide +kernel
theorem dX12_goes_93 : decode cX12_goes 93 = .ok (.invokevirtual 325, 3) := by decide +kernel
theorem dX12_goes_96 : decode cX12_goes 96 = .ok (.aload_n 0, 1) := by decide +kernel
theorem dX12_goes_97 : decode cX12_goes 97 = .ok (.getfield 9, 3) := by decide +kernel
theorem dX12_goes_100 : decode cX12_goes 100 = .ok (.bipush 55, 2) := by decide +kernel
theorem dX12_goes_102 : decode cX12_goes 102 = .ok (.iconst 3, 1) := by decide +kernel
theorem dX12_goes_103 : decode cX12_goes 103 = .ok (.iload_n 1, 1) := by decide +kernel
theorem dX12_goes_104 : decode cX12_goes 104 = .ok (.imul, 1) := by decide +kernel
theorem dX12_goes_105 : decode cX12_goes 105 = .ok (.iadd, 1) := by decide +kernel
theorem dX12_goes_106 : decode cX12_goes 106 = .ok (.aload_n 0, 1) := by decide +kernel
theorem dX12_goes_107 : decode cX12_goes 107 = .ok (.getfield 297, 3) := by decide +kernel
theorem dX12_goes_110 : decode cX12_goes 110 = .ok (.iastore, 1) := by decide +kernel
theorem dX12_goes_111 : decode cX12_goes 111 = .ok (.aload_n 0, 1) := by decide +kernel
theorem dX12_goes_112 : decode cX12_goes 112 = .ok (.getfield 9, 3) := by decide +kernel
theorem dX12_goes_115 : decode cX12_goes 115 = .ok (.bipush 55, 2) := by decide +kernel
theorem dX12_goes_117 : decode cX12_goes 117 = .ok (.iconst 3, 1) := by decide +kernel
theorem dX12_goes_118 : decode cX12_goes 118 = .ok (.iload_n 1, 1) := by decide +kernel
theorem dX12_goes_119 : decode cX12_goes 119 = .ok (.imul, 1) := by decide +kernel
theorem dX12_goes_120 : decode cX12_goes 120 = .ok (.iadd, 1) := by decide +kernel
theorem dX12_goes_121 : decode cX12_goes 121 = .ok (.iconst 1, 1) := by decide +kernel
theorem dX12_goes_122 : decode cX12_goes 122 = .ok (.iadd, 1) := by decide +kernel
theorem dX12_goes_123 : decode cX12_goes 123 = .ok (.aload_n 0, 1) := by decide +kernel
theorem dX12_goes_124 : decode cX12_goes 124 = .ok (.getfield 303, 3) := by decide +kernel
theorem dX12_goes_127 : decode cX12_goes 127 = .ok (.iastore, 1) := by decide +kernel
theorem dX12_goes_128 : decode cX12_goes 128 = .ok (.aload_n 0, 1) := by decide +kernel
theorem dX12_goes_129 : decode cX12_goes 129 = .ok (.getfield 297, 3) := by decide +kernel
theorem dX12_goes_132 : decode cX12_goes 132 = .ok (.ireturn, 1) := by decide +kernel
theorem dX12_goes_30 : decode cX12_goes 30 = .ok (.bipush (-5), 2) := by decide +kernel
theorem dX12_goes_32 : decode cX12_goes 32 = .ok (.ireturn, 1) := by decide +kernel
theorem dX12_most_0 : decode cX12_most 0 = .ok (.aload_n 0, 1) := by decide +kernel
theorem dX12_most_1 : decode cX12_most 1 = .ok (.invokevirtual 125, 3) := by decide +kernel
theorem dX12_most_4 : decode cX12_most 4 = .ok (.ifCond .ne 6, 3) := by decide +kernel
theorem dX12_most_7 : decode cX12_most 7 = .ok (.bipush (-2), 2) := by decide +kernel
theorem dX12_most_9 : decode cX12_most 9 = .ok (.ireturn, 1) := by decide +kernel
theorem dX12_most_10 : decode cX12_most 10 = .ok (.iconst 0, 1) := by decide +kernel
theorem dX12_most_11 : decode cX12_most 11 = .ok (.istore_n 1, 1) := by decide +kernel
theorem dX12_most_12 : decode cX12_most 12 = .ok (.iconst 0, 1) := by decide +kernel
theorem dX12_most_13 : decode cX12_most 13 = .ok (.istore_n 2, 1) := by decide +kernel
theorem dX12_most_14 : decode cX12_most 14 = .ok (.iconst 0, 1) := by decide +kernel
theorem dX12_most_15 : decode cX12_most 15 = .ok (.istore_n 3, 1) := by decide +kernel
theorem dX12_most_16 : decode cX12_most 16 = .ok (.iload_n 3, 1) := by decide +kernel
theorem dX12_most_17 : decode cX12_most 17 = .ok (.aload_n 0, 1) := by decide +kernel
theorem dX12_most_18 : decode cX12_most 18 = .ok (.getfield 9, 3) := by decide +kernel
theorem dX12_most_21 : decode cX12_most 21 = .ok (.iconst 1, 1) := by decide +kernel
theorem dX12_most_22 : decode cX12_most 22 = .ok (.iaload, 1) := by decide +kernel
theorem dX12_most_23 : decode cX12_most 23 = .ok (.if_icmp .ge 54, 3) := by decide +kernel
theorem dX12_most_77 : decode cX12_most 77 = .ok (.iload_n 2, 1) := by decide +kernel
theorem dX12_most_78 : decode cX12_most 78 = .ok (.ireturn, 1) := by decide +kernel
theorem dX12_most_26 : decode cX12_most 26 = .ok (.aload_n 0, 1) := by decide +kernel
theorem dX12_most_27 : decode cX12_most 27 = .ok (.iload_n 3, 1) := by decide +kernel
theorem dX12_most_28 : decode cX12_most 28 = .ok (.invokevirtual 300, 3) := by decide +kernel
theorem dX12_most_31 : decode cX12_most 31 = .ok (.invokestatic 316, 3) := by decide +kernel
theorem dX12_most_34 : decode cX12_most 34 = .ok (.istore 4, 2) := by decide +kernel
theorem dX12_most_36 : decode cX12_most 36 = .ok (.iload 4, 2) := by decide +kernel
theorem dX12_most_38 : decode cX12_most 38 = .ok (.iload_n 1, 1) := by decide +kernel
theorem dX12_most_39 : decode cX12_most 39 = .ok (.if_icmp .le 9, 3) := by decide +kernel
theorem dX12_most_48 : decode cX12_most 48 = .ok (.iload 4, 2) := by decide +kernel
theorem dX12_most_50 : decode cX12_most 50 = .ok (.iload_n 1, 1) := by decide +kernel
theorem dX12_most_51 : decode cX12_most 51 = .ok (.if_icmp .ne 11, 3) := by decide +kernel
theorem dX12_most_62 : decode cX12_most 62 = .ok (.iload_n 2, 1) := by decide +kernel
theorem dX12_most_63 : decode cX12_most 63 = .ok (.istore_n 2, 1) := by decide +kernel
theorem dX12_most_64 : decode cX12_most 64 = .ok (.iload_n 1, 1) := by decide +kernel
theorem dX12_most_65 : decode cX12_most 65 = .ok (.iload 4, 2) := by decide +kernel
theorem dX12_most_67 : decode cX12_most 67 = .ok (.invokestatic 328, 3) := by decide +kernel
theorem dX12_most_70 : decode cX12_most 70 = .ok (.istore_n 1, 1) := by decide +kernel
theorem dX12_most_71 : decode cX12_most 71 = .ok (.iinc 3 1, 3) := by decide +kernel
theorem dX12_most_74 : decode cX12_most 74 = .ok (.goto (-58), 3) := by decide +kernel
theorem dX12_most_54 : decode cX12_most 54 = .ok (.iload_n 2, 1) := by decide +kernel
theorem dX12_most_55 : decode cX12_most 55 = .ok (.iconst 1, 1) := by decide +kernel
theorem dX12_most_56 : decode cX12_most 56 = .ok (.iload_n 3, 1) := by decide +kernel
theorem dX12_most_57 : decode cX12_most 57 = .ok (.ishl, 1) := by decide +kernel
theorem dX12_most_58 : decode cX12_most 58 = .ok (.ior, 1) := by decide +kernel
theorem dX12_most_59 : decode cX12_most 59 = .ok (.goto 4, 3) := by decide +kernel
theorem dX12_most_42 : decode cX12_most 42 = .ok (.iconst 1, 1) := by decide +kernel
theorem dX12_most_43 : decode cX12_most 43 = .ok (.iload_n 3, 1) := by decide +kernel
theorem dX12_most_44 : decode cX12_most 44 = .ok (.ishl, 1) := by decide +kernel
theorem dX12_most_45 : decode cX12_most 45 = .ok (.goto 18, 3) := by decide +kernel
theorem dX12_who_0 : decode cX12_who 0 = .ok (.aload_n 0, 1) := by decide +kernel
theorem dX12_who_1 : decode cX12_who 1 = .ok (.invokevirtual 125, 3) := by decide +kernel
theorem dX12_who_4 : decode cX12_who 4 = .ok (.ifCond .eq 13, 3) := by decide +kernel
theorem dX12_who_17 : decode cX12_who 17 = .ok (.bipush (-2), 2) := by decide +kernel
theorem dX12_who_19 : decode cX12_who 19 = .ok (.ireturn, 1) := by decide +kernel
theorem dX12_who_7 : decode cX12_who 7 = .ok (.iload_n 1, 1) := by decide +kernel
theorem dX12_who_8 : decode cX12_who 8 = .ok (.i2l, 1) := by decide +kernel
theorem dX12_who_9 : decode cX12_who 9 = .ok (.lconst 0, 1) := by decide +kernel
theorem dX12_who_10 : decode cX12_who 10 = .ok (.lconst 1, 1) := by decide +kernel
theorem dX12_who_11 : decode cX12_who 11 = .ok (.invokestatic 115, 3) := by decide +kernel
theorem dX12_who_14 : decode cX12_who 14 = .ok (.ifCond .ne 6, 3) := by decide +kernel
theorem dX12_who_20 : decode cX12_who 20 = .ok (.iconst 0, 1) := by decide +kernel
theorem dX12_who_21 : decode cX12_who 21 = .ok (.istore_n 2, 1) := by decide +kernel
theorem dX12_who_22 : decode cX12_who 22 = .ok (.iconst 0, 1) := by decide +kernel
theorem dX12_who_23 : decode cX12_who 23 = .ok (.istore_n 3, 1) := by decide +kernel
theorem dX12_who_24 : decode cX12_who 24 = .ok (.iload_n 3, 1) := by decide +kernel
theorem dX12_who_25 : decode cX12_who 25 = .ok (.aload_n 0, 1) := by decide +kernel
theorem dX12_who_26 : decode cX12_who 26 = .ok (.getfield 9, 3) := by decide +kernel
theorem dX12_who_29 : decode cX12_who 29 = .ok (.iconst 1, 1) := by decide +kernel
theorem dX12_who_30 : decode cX12_who 30 = .ok (.iaload, 1) := by decide +kernel
theorem dX12_who_31 : decode cX12_who 31 = .ok (.if_icmp .ge 45, 3) := by decide +kernel
theorem dX12_who_76 : decode cX12_who 76 = .ok (.iload_n 2, 1) := by decide +kernel
theorem dX12_who_77 : decode cX12_who 77 = .ok (.ireturn, 1) := by decide +kernel
theorem dX12_who_34 : decode cX12_who 34 = .ok (.aload_n 0, 1) := by decide +kernel
theorem dX12_who_35 : decode cX12_who 35 = .ok (.iload_n 3, 1) := by decide +kernel
theorem dX12_who_36 : decode cX12_who 36 = .ok (.invokevirtual 313, 3) := by decide +kernel
theorem dX12_who_39 : decode cX12_who 39 = .ok (.iload_n 2, 1) := by decide +kernel
theorem dX12_who_40 : decode cX12_who 40 = .ok (.iload_n 1, 1) := by decide +kernel
theorem dX12_who_41 : decode cX12_who 41 = .ok (.ifCond .ne 13, 3) := by decide +kernel
theorem dX12_who_54 : decode cX12_who 54 = .ok (.aload_n 0, 1) := by decide +kernel
theorem dX12_who_55 : decode cX12_who 55 = .ok (.invokevirtual 322, 3) := by decide +kernel
theorem dX12_who_58 : decode cX12_who 58 = .ok (.ifCond .eq 9, 3) := by decide +kernel
theorem dX12_who_67 : decode cX12_who 67 = .ok (.iconst 0, 1) := by decide +kernel
theorem dX12_who_68 : decode cX12_who 68 = .ok (.ior, 1) := by decide +kernel
theorem dX12_who_69 : decode cX12_who 69 = .ok (.istore_n 2, 1) := by decide +kernel
theorem dX12_who_70 : decode cX12_who 70 = .ok (.iinc 3 1, 3) := by decide +kernel
theorem dX12_who_73 : decode cX12_who 73 = .ok (.goto (-49), 3) := by decide +kernel
theorem dX12_who_61 : decode cX12_who 61 = .ok (.iconst 1, 1) := by decide +kernel
theorem dX12_who_62 : decode cX12_who 62 = .ok (.iload_n 3, 1) := by decide +kernel
theorem dX12_who_63 : decode cX12_who 63 = .ok (.ishl, 1) := by decide +kernel
theorem dX12_who_64 : decode cX12_who 64 = .ok (.goto 4, 3) := by decide +kernel
theorem dX12_who_44 : decode cX12_who 44 = .ok (.aload_n 0, 1) := by decide +kernel
theorem dX12_who_45 : decode cX12_who 45 = .ok (.invokevirtual 319, 3) := by decide +kernel
theorem dX12_who_48 : decode cX12_who 48 = .ok (.ifCond .eq 19, 3) := by decide +kernel
theorem dX12_who_51 : decode cX12_who 51 = .ok (.goto 10, 3) := by decide +kernel
theorem dX12_takeBack_0 : decode cX12_takeBack 0 = .ok (.aload_n 0, 1) := by decide +kernel
theorem dX12_takeBack_1 : decode cX12_takeBack 1 = .ok (.getfield 9, 3) := by decide +kernel
theorem dX12_takeBack_4 : decode cX12_takeBack 4 = .ok (.iconst 4, 1) := by decide +kernel
theorem dX12_takeBack_5 : decode cX12_takeBack 5 = .ok (.dup2, 1) := by decide +kernel
theorem dX12_takeBack_6 : decode cX12_takeBack 6 = .ok (.iaload, 1) := by decide +kernel
theorem dX12_takeBack_7 : decode cX12_takeBack 7 = .ok (.iconst 1, 1) := by decide +kernel
theorem dX12_takeBack_8 : decode cX12_takeBack 8 = .ok (.isub, 1) := by decide +kernel
theorem dX12_takeBack_9 : decode cX12_takeBack 9 = .ok (.iastore, 1) := by decide +kernel
theorem dX12_takeBack_10 : decode cX12_takeBack 10 = .ok (.bipush 82, 2) := by decide +kernel
theorem dX12_takeBack_12 : decode cX12_takeBack 12 = .ok (.iconst 3, 1) := by decide +kernel
theorem dX12_takeBack_13 : decode cX12_takeBack 13 = .ok (.aload_n 0, 1) := by decide +kernel
theorem dX12_takeBack_14 : decode cX12_takeBack 14 = .ok (.getfield 9, 3) := by decide +kernel
theorem dX12_takeBack_17 : decode cX12_takeBack 17 = .ok (.iconst 4, 1) := by decide +kernel
theorem dX12_takeBack_18 : decode cX12_takeBack 18 = .ok (.iaload, 1) := by decide +kernel
theorem dX12_takeBack_19 : decode cX12_takeBack 19 = .ok (.imul, 1) := by decide +kernel
theorem dX12_takeBack_20 : decode cX12_takeBack 20 = .ok (.iadd, 1) := by decide +kernel
theorem dX12_takeBack_21 : decode cX12_takeBack 21 = .ok (.istore_n 1, 1) := by decide +kernel
theorem dX12_takeBack_22 : decode cX12_takeBack 22 = .ok (.aload_n 0, 1) := by decide +kernel
theorem dX12_takeBack_23 : decode cX12_takeBack 23 = .ok (.getfield 9, 3) := by decide +kernel
theorem dX12_takeBack_26 : decode cX12_takeBack 26 = .ok (.bipush 55, 2) := by decide +kernel
theorem dX12_takeBack_28 : decode cX12_takeBack 28 = .ok (.iconst 3, 1) := by decide +kernel
theorem dX12_takeBack_29 : decode cX12_takeBack 29 = .ok (.aload_n 0, 1) := by decide +kernel
theorem dX12_takeBack_30 : decode cX12_takeBack 30 = .ok (.getfield 9, 3) := by decide +kernel
theorem dX12_takeBack_33 : decode cX12_takeBack 33 = .ok (.iload_n 1, 1) := by decide +kernel
theorem dX12_takeBack_34 : decode cX12_takeBack 34 = .ok (.iaload, 1) := by decide +kernel
theorem dX12_takeBack_35 : decode cX12_takeBack 35 = .ok (.imul, 1) := by decide +kernel
theorem dX12_takeBack_36 : decode cX12_takeBack 36 = .ok (.iadd, 1) := by decide +kernel
theorem dX12_takeBack_37 : decode cX12_takeBack 37 = .ok (.aload_n 0, 1) := by decide +kernel
theorem dX12_takeBack_38 : decode cX12_takeBack 38 = .ok (.getfield 9, 3) := by decide +kernel
theorem dX12_takeBack_41 : decode cX12_takeBack 41 = .ok (.iload_n 1, 1) := by decide +kernel
theorem dX12_takeBack_42 : decode cX12_takeBack 42 = .ok (.iconst 1, 1) := by decide +kernel
theorem dX12_takeBack_43 : decode cX12_takeBack 43 = .ok (.iadd, 1) := by decide +kernel
theorem dX12_takeBack_44 : decode cX12_takeBack 44 = .ok (.iaload, 1) := by decide +kernel
theorem dX12_takeBack_45 : decode cX12_takeBack 45 = .ok (.iastore, 1) := by decide +kernel
theorem dX12_takeBack_46 : decode cX12_takeBack 46 = .ok (.aload_n 0, 1) := by decide +kernel
theorem dX12_takeBack_47 : decode cX12_takeBack 47 = .ok (.getfield 9, 3) := by decide +kernel
theorem dX12_takeBack_50 : decode cX12_takeBack 50 = .ok (.bipush 55, 2) := by decide +kernel
theorem dX12_takeBack_52 : decode cX12_takeBack 52 = .ok (.iconst 3, 1) := by decide +kernel
theorem dX12_takeBack_53 : decode cX12_takeBack 53 = .ok (.aload_n 0, 1) := by decide +kernel
theorem dX12_takeBack_54 : decode cX12_takeBack 54 = .ok (.getfield 9, 3) := by decide +kernel
theorem dX12_takeBack_57 : decode cX12_takeBack 57 = .ok (.iload_n 1, 1) := by decide +kernel
theorem dX12_takeBack_58 : decode cX12_takeBack 58 = .ok (.iaload, 1) := by decide +kernel
theorem dX12_takeBack_59 : decode cX12_takeBack 59 = .ok (.imul, 1) := by decide +kernel
theorem dX12_takeBack_60 : decode cX12_takeBack 60 = .ok (.iadd, 1) := by decide +kernel
theorem dX12_takeBack_61 : decode cX12_takeBack 61 = .ok (.iconst 1, 1) := by decide +kernel
theorem dX12_takeBack_62 : decode cX12_takeBack 62 = .ok (.iadd, 1) := by decide +kernel
theorem dX12_takeBack_63 : decode cX12_takeBack 63 = .ok (.aload_n 0, 1) := by decide +kernel
theorem dX12_takeBack_64 : decode cX12_takeBack 64 = .ok (.getfield 9, 3) := by decide +kernel
theorem dX12_takeBack_67 : decode cX12_takeBack 67 = .ok (.iload_n 1, 1) := by decide +kernel
theorem dX12_takeBack_68 : decode cX12_takeBack 68 = .ok (.iconst 2, 1) := by decide +kernel
theorem dX12_takeBack_69 : decode cX12_takeBack 69 = .ok (.iadd, 1) := by decide +kernel
theorem dX12_takeBack_70 : decode cX12_takeBack 70 = .ok (.iaload, 1) := by decide +kernel
theorem dX12_takeBack_71 : decode cX12_takeBack 71 = .ok (.iastore, 1) := by decide +kernel
theorem dX12_takeBack_72 : decode cX12_takeBack 72 = .ok (.return_, 1) := by decide +kernel
theorem dX12_undo_0 : decode cX12_undo 0 = .ok (.aload_n 0, 1) := by decide +kernel
theorem dX12_undo_1 : decode cX12_undo 1 = .ok (.invokevirtual 125, 3) := by decide +kernel
theorem dX12_undo_4 : decode cX12_undo 4 = .ok (.ifCond .ne 6, 3) := by decide +kernel
theorem dX12_undo_7 : decode cX12_undo 7 = .ok (.bipush (-2), 2) := by decide +kernel
theorem dX12_undo_9 : decode cX12_undo 9 = .ok (.ireturn, 1) := by decide +kernel
theorem dX12_undo_10 : decode cX12_undo 10 = .ok (.aload_n 0, 1) := by decide +kernel
theorem dX12_undo_11 : decode cX12_undo 11 = .ok (.getfield 9, 3) := by decide +kernel
theorem dX12_undo_14 : decode cX12_undo 14 = .ok (.iconst 4, 1) := by decide +kernel
theorem dX12_undo_15 : decode cX12_undo 15 = .ok (.iaload, 1) := by decide +kernel
theorem dX12_undo_16 : decode cX12_undo 16 = .ok (.ifCond .ne 6, 3) := by decide +kernel
theorem dX12_undo_22 : decode cX12_undo 22 = .ok (.aload_n 0, 1) := by decide +kernel
theorem dX12_undo_23 : decode cX12_undo 23 = .ok (.invokevirtual 331, 3) := by decide +kernel
theorem dX12_undo_26 : decode cX12_undo 26 = .ok (.aload_n 0, 1) := by decide +kernel
theorem dX12_undo_27 : decode cX12_undo 27 = .ok (.getfield 9, 3) := by decide +kernel
theorem dX12_undo_30 : decode cX12_undo 30 = .ok (.iconst 4, 1) := by decide +kernel
theorem dX12_undo_31 : decode cX12_undo 31 = .ok (.iaload, 1) := by decide +kernel
theorem dX12_undo_32 : decode cX12_undo 32 = .ok (.ireturn, 1) := by decide +kernel
theorem dX12_undo_19 : decode cX12_undo 19 = .ok (.bipush (-5), 2) := by decide +kernel
theorem dX12_undo_21 : decode cX12_undo 21 = .ok (.ireturn, 1) := by decide +kernel
theorem dX12_anew_0 : decode cX12_anew 0 = .ok (.aload_n 0, 1) := by decide +kernel
theorem dX12_anew_1 : decode cX12_anew 1 = .ok (.invokevirtual 125, 3) := by decide +kernel
theorem dX12_anew_4 : decode cX12_anew 4 = .ok (.ifCond .ne 6, 3) := by decide +kernel
theorem dX12_anew_7 : decode cX12_anew 7 = .ok (.bipush (-2), 2) := by decide +kernel
theorem dX12_anew_9 : decode cX12_anew 9 = .ok (.ireturn, 1) := by decide +kernel
theorem dX12_anew_10 : decode cX12_anew 10 = .ok (.aload_n 0, 1) := by decide +kernel
theorem dX12_anew_11 : decode cX12_anew 11 = .ok (.getfield 9, 3) := by decide +kernel
theorem dX12_anew_14 : decode cX12_anew 14 = .ok (.iconst 4, 1) := by decide +kernel
theorem dX12_anew_15 : decode cX12_anew 15 = .ok (.iaload, 1) := by decide +kernel
theorem dX12_anew_16 : decode cX12_anew 16 = .ok (.istore_n 1, 1) := by decide +kernel
theorem dX12_anew_17 : decode cX12_anew 17 = .ok (.aload_n 0, 1) := by decide +kernel
theorem dX12_anew_18 : decode cX12_anew 18 = .ok (.getfield 9, 3) := by decide +kernel
theorem dX12_anew_21 : decode cX12_anew 21 = .ok (.iconst 4, 1) := by decide +kernel
theorem dX12_anew_22 : decode cX12_anew 22 = .ok (.iaload, 1) := by decide +kernel
theorem dX12_anew_23 : decode cX12_anew 23 = .ok (.ifCond .le 10, 3) := by decide +kernel
theorem dX12_anew_33 : decode cX12_anew 33 = .ok (.iload_n 1, 1) := by decide +kernel
theorem dX12_anew_34 : decode cX12_anew 34 = .ok (.ireturn, 1) := by decide +kernel
theorem dX12_anew_26 : decode cX12_anew 26 = .ok (.aload_n 0, 1) := by decide +kernel
theorem dX12_anew_27 : decode cX12_anew 27 = .ok (.invokevirtual 331, 3) := by decide +kernel
theorem dX12_anew_30 : decode cX12_anew 30 = .ok (.goto (-13), 3) := by decide +kernel
theorem dX12_numberAt_0 : decode cX12_numberAt 0 = .ok (.aload_n 0, 1) := by decide +kernel
theorem dX12_numberAt_1 : decode cX12_numberAt 1 = .ok (.getfield 103, 3) := by decide +kernel
theorem dX12_numberAt_4 : decode cX12_numberAt 4 = .ok (.bipush 60, 2) := by decide +kernel
theorem dX12_numberAt_6 : decode cX12_numberAt 6 = .ok (.iload_n 1, 1) := by decide +kernel
theorem dX12_numberAt_7 : decode cX12_numberAt 7 = .ok (.imul, 1) := by decide +kernel
theorem dX12_numberAt_8 : decode cX12_numberAt 8 = .ok (.iload_n 2, 1) := by decide +kernel
theorem dX12_numberAt_9 : decode cX12_numberAt 9 = .ok (.iadd, 1) := by decide +kernel
theorem dX12_numberAt_10 : decode cX12_numberAt 10 = .ok (.laload, 1) := by decide +kernel
theorem dX12_numberAt_11 : decode cX12_numberAt 11 = .ok (.lreturn, 1) := by decide +kernel
theorem dX12_asksWalk_0 : decode cX12_asksWalk 0 = .ok (.iload_n 1, 1) := by decide +kernel
theorem dX12_asksWalk_1 : decode cX12_asksWalk 1 = .ok (.invokestatic 334, 3) := by decide +kernel
theorem dX12_asksWalk_4 : decode cX12_asksWalk 4 = .ok (.ifCond .eq 11, 3) := by decide +kernel
theorem dX12_asksWalk_15 : decode cX12_asksWalk 15 = .ok (.bipush (-2), 2) := by decide +kernel
theorem dX12_asksWalk_17 : decode cX12_asksWalk 17 = .ok (.ireturn, 1) := by decide +kernel
theorem dX12_asksWalk_7 : decode cX12_asksWalk 7 = .ok (.aload_n 0, 1) := by decide +kernel
theorem dX12_asksWalk_8 : decode cX12_asksWalk 8 = .ok (.iload_n 2, 1) := by decide +kernel
theorem dX12_asksWalk_9 : decode cX12_asksWalk 9 = .ok (.invokevirtual 310, 3) := by decide +kernel
theorem dX12_asksWalk_12 : decode cX12_asksWalk 12 = .ok (.ifCond .ne 6, 3) := by decide +kernel
theorem dX12_asksWalk_18 : decode cX12_asksWalk 18 = .ok (.aload_n 0, 1) := by decide +kernel
theorem dX12_asksWalk_19 : decode cX12_asksWalk 19 = .ok (.getfield 97, 3) := by decide +kernel
theorem dX12_asksWalk_22 : decode cX12_asksWalk 22 = .ok (.iload_n 1, 1) := by decide +kernel
theorem dX12_asksWalk_23 : decode cX12_asksWalk 23 = .ok (.iaload, 1) := by decide +kernel
theorem dX12_asksWalk_24 : decode cX12_asksWalk 24 = .ok (.iconst (-1), 1) := by decide +kernel
theorem dX12_asksWalk_25 : decode cX12_asksWalk 25 = .ok (.if_icmp .ne 6, 3) := by decide +kernel
theorem dX12_asksWalk_31 : decode cX12_asksWalk 31 = .ok (.iconst 0, 1) := by decide +kernel
theorem dX12_asksWalk_32 : decode cX12_asksWalk 32 = .ok (.istore_n 3, 1) := by decide +kernel
theorem dX12_asksWalk_33 : decode cX12_asksWalk 33 = .ok (.iload_n 3, 1) := by decide +kernel
theorem dX12_asksWalk_34 : decode cX12_asksWalk 34 = .ok (.aload_n 0, 1) := by decide +kernel
theorem dX12_asksWalk_35 : decode cX12_asksWalk 35 = .ok (.getfield 97, 3) := by decide +kernel
theorem dX12_asksWalk_38 : decode cX12_asksWalk 38 = .ok (.iload_n 1, 1) := by decide +kernel
theorem dX12_asksWalk_39 : decode cX12_asksWalk 39 = .ok (.iaload, 1) := by decide +kernel
theorem dX12_asksWalk_40 : decode cX12_asksWalk 40 = .ok (.if_icmp .ge 24, 3) := by decide +kernel
theorem dX12_asksWalk_64 : decode cX12_asksWalk 64 = .ok (.iconst 0, 1) := by decide +kernel
theorem dX12_asksWalk_65 : decode cX12_asksWalk 65 = .ok (.ireturn, 1) := by decide +kernel
theorem dX12_asksWalk_43 : decode cX12_asksWalk 43 = .ok (.aload_n 0, 1) := by decide +kernel
theorem dX12_asksWalk_44 : decode cX12_asksWalk 44 = .ok (.iload_n 1, 1) := by decide +kernel
theorem dX12_asksWalk_45 : decode cX12_asksWalk 45 = .ok (.iload_n 3, 1) := by decide +kernel
theorem dX12_asksWalk_46 : decode cX12_asksWalk 46 = .ok (.invokevirtual 337, 3) := by decide +kernel
theorem dX12_asksWalk_49 : decode cX12_asksWalk 49 = .ok (.invokestatic 279, 3) := by decide +kernel
theorem dX12_asksWalk_52 : decode cX12_asksWalk 52 = .ok (.ifCond .ne 6, 3) := by decide +kernel
theorem dX12_asksWalk_55 : decode cX12_asksWalk 55 = .ok (.bipush (-2), 2) := by decide +kernel
theorem dX12_asksWalk_57 : decode cX12_asksWalk 57 = .ok (.ireturn, 1) := by decide +kernel
theorem dX12_asksWalk_58 : decode cX12_asksWalk 58 = .ok (.iinc 3 1, 3) := by decide +kernel
theorem dX12_asksWalk_61 : decode cX12_asksWalk 61 = .ok (.goto (-28), 3) := by decide +kernel
theorem dX12_asksWalk_28 : decode cX12_asksWalk 28 = .ok (.bipush (-6), 2) := by decide +kernel
theorem dX12_asksWalk_30 : decode cX12_asksWalk 30 = .ok (.ireturn, 1) := by decide +kernel
theorem dX12_note_0 : decode cX12_note 0 = .ok (.aload_n 0, 1) := by decide +kernel
theorem dX12_note_1 : decode cX12_note 1 = .ok (.aload_n 0, 1) := by decide +kernel
theorem dX12_note_2 : decode cX12_note 2 = .ok (.getfield 341, 3) := by decide +kernel
theorem dX12_note_5 : decode cX12_note 5 = .ok (.iconst (-1), 1) := by decide +kernel
theorem dX12_note_6 : decode cX12_note 6 = .ok (.if_icmp .ne 14, 3) := by decide +kernel
theorem dX12_note_20 : decode cX12_note 20 = .ok (.aload_n 0, 1) := by decide +kernel
theorem dX12_note_21 : decode cX12_note 21 = .ok (.getfield 341, 3) := by decide +kernel
theorem dX12_note_24 : decode cX12_note 24 = .ok (.putfield 341, 3) := by decide +kernel
theorem dX12_note_27 : decode cX12_note 27 = .ok (.aload_n 0, 1) := by decide +kernel
theorem dX12_note_28 : decode cX12_note 28 = .ok (.aload_n 0, 1) := by decide +kernel
theorem dX12_note_29 : decode cX12_note 29 = .ok (.getfield 344, 3) := by decide +kernel
theorem dX12_note_32 : decode cX12_note 32 = .ok (.iconst (-1), 1) := by decide +kernel
theorem dX12_note_33 : decode cX12_note 33 = .ok (.if_icmp .ne 14, 3) := by decide +kernel
theorem dX12_note_47 : decode cX12_note 47 = .ok (.aload_n 0, 1) := by decide +kernel
theorem dX12_note_48 : decode cX12_note 48 = .ok (.getfield 344, 3) := by decide +kernel
theorem dX12_note_51 : decode cX12_note 51 = .ok (.putfield 344, 3) := by decide +kernel
theorem dX12_note_54 : decode cX12_note 54 = .ok (.aload_n 0, 1) := by decide +kernel
theorem dX12_note_55 : decode cX12_note 55 = .ok (.aload_n 0, 1) := by decide +kernel
theorem dX12_note_56 : decode cX12_note 56 = .ok (.getfield 347, 3) := by decide +kernel
theorem dX12_note_59 : decode cX12_note 59 = .ok (.aload_n 0, 1) := by decide +kernel
theorem dX12_note_60 : decode cX12_note 60 = .ok (.getfield 303, 3) := by decide +kernel
theorem dX12_note_63 : decode cX12_note 63 = .ok (.invokestatic 316, 3) := by decide +kernel
theorem dX12_note_66 : decode cX12_note 66 = .ok (.invokestatic 328, 3) := by decide +kernel
theorem dX12_note_69 : decode cX12_note 69 = .ok (.putfield 347, 3) := by decide +kernel
theorem dX12_note_72 : decode cX12_note 72 = .ok (.return_, 1) := by decide +kernel
theorem dX12_note_36 : decode cX12_note 36 = .ok (.aload_n 0, 1) := by decide +kernel
theorem dX12_note_37 : decode cX12_note 37 = .ok (.invokevirtual 322, 3) := by decide +kernel
theorem dX12_note_40 : decode cX12_note 40 = .ok (.ifCond .eq 7, 3) := by decide +kernel
theorem dX12_note_43 : decode cX12_note 43 = .ok (.iload_n 1, 1) := by decide +kernel
theorem dX12_note_44 : decode cX12_note 44 = .ok (.goto 7, 3) := by decide +kernel
theorem dX12_note_9 : decode cX12_note 9 = .ok (.aload_n 0, 1) := by decide +kernel
theorem dX12_note_10 : decode cX12_note 10 = .ok (.invokevirtual 319, 3) := by decide +kernel
theorem dX12_note_13 : decode cX12_note 13 = .ok (.ifCond .eq 7, 3) := by decide +kernel
theorem dX12_note_16 : decode cX12_note 16 = .ok (.iload_n 1, 1) := by decide +kernel
theorem dX12_note_17 : decode cX12_note 17 = .ok (.goto 7, 3) := by decide +kernel
theorem dX12_walk_0 : decode cX12_walk 0 = .ok (.aload_n 0, 1) := by decide +kernel
theorem dX12_walk_1 : decode cX12_walk 1 = .ok (.iload_n 2, 1) := by decide +kernel
theorem dX12_walk_2 : decode cX12_walk 2 = .ok (.invokevirtual 313, 3) := by decide +kernel
theorem dX12_walk_5 : decode cX12_walk 5 = .ok (.aload_n 0, 1) := by decide +kernel
theorem dX12_walk_6 : decode cX12_walk 6 = .ok (.iconst (-1), 1) := by decide +kernel
theorem dX12_walk_7 : decode cX12_walk 7 = .ok (.putfield 341, 3) := by decide +kernel
theorem dX12_walk_10 : decode cX12_walk 10 = .ok (.aload_n 0, 1) := by decide +kernel
theorem dX12_walk_11 : decode cX12_walk 11 = .ok (.iconst (-1), 1) := by decide +kernel
theorem dX12_walk_12 : decode cX12_walk 12 = .ok (.putfield 344, 3) := by decide +kernel
theorem dX12_walk_15 : decode cX12_walk 15 = .ok (.aload_n 0, 1) := by decide +kernel
theorem dX12_walk_16 : decode cX12_walk 16 = .ok (.iconst 0, 1) := by decide +kernel
theorem dX12_walk_17 : decode cX12_walk 17 = .ok (.putfield 347, 3) := by decide +kernel
theorem dX12_walk_20 : decode cX12_walk 20 = .ok (.aload_n 0, 1) := by decide +kernel
theorem dX12_walk_21 : decode cX12_walk 21 = .ok (.iconst 0, 1) := by decide +kernel
theorem dX12_walk_22 : decode cX12_walk 22 = .ok (.invokevirtual 350, 3) := by decide +kernel
theorem dX12_walk_25 : decode cX12_walk 25 = .ok (.iconst 0, 1) := by decide +kernel
theorem dX12_walk_26 : decode cX12_walk 26 = .ok (.istore_n 3, 1) := by decide +kernel
theorem dX12_walk_27 : decode cX12_walk 27 = .ok (.iload_n 3, 1) := by decide +kernel
theorem dX12_walk_28 : decode cX12_walk 28 = .ok (.aload_n 0, 1) := by decide +kernel
theorem dX12_walk_29 : decode cX12_walk 29 = .ok (.getfield 97, 3) := by decide +kernel
theorem dX12_walk_32 : decode cX12_walk 32 = .ok (.iload_n 1, 1) := by decide +kernel
theorem dX12_walk_33 : decode cX12_walk 33 = .ok (.iaload, 1) := by decide +kernel
theorem dX12_walk_34 : decode cX12_walk 34 = .ok (.if_icmp .ge 27, 3) := by decide +kernel
theorem dX12_walk_61 : decode cX12_walk 61 = .ok (.return_, 1) := by decide +kernel
theorem dX12_walk_37 : decode cX12_walk 37 = .ok (.aload_n 0, 1) := by decide +kernel
theorem dX12_walk_38 : decode cX12_walk 38 = .ok (.aload_n 0, 1) := by decide +kernel
theorem dX12_walk_39 : decode cX12_walk 39 = .ok (.iload_n 1, 1) := by decide +kernel
theorem dX12_walk_40 : decode cX12_walk 40 = .ok (.iload_n 3, 1) := by decide +kernel
theorem dX12_walk_41 : decode cX12_walk 41 = .ok (.invokevirtual 337, 3) := by decide +kernel
theorem dX12_walk_44 : decode cX12_walk 44 = .ok (.l2i, 1) := by decide +kernel
theorem dX12_walk_45 : decode cX12_walk 45 = .ok (.invokevirtual 325, 3) := by decide +kernel
theorem dX12_walk_48 : decode cX12_walk 48 = .ok (.aload_n 0, 1) := by decide +kernel
theorem dX12_walk_49 : decode cX12_walk 49 = .ok (.iload_n 3, 1) := by decide +kernel
theorem dX12_walk_50 : decode cX12_walk 50 = .ok (.iconst 1, 1) := by decide +kernel
theorem dX12_walk_51 : decode cX12_walk 51 = .ok (.iadd, 1) := by decide +kernel
theorem dX12_walk_52 : decode cX12_walk 52 = .ok (.invokevirtual 350, 3) := by decide +kernel
theorem dX12_walk_55 : decode cX12_walk 55 = .ok (.iinc 3 1, 3) := by decide +kernel
theorem dX12_walk_58 : decode cX12_walk 58 = .ok (.goto (-31), 3) := by decide +kernel
theorem dX12_would_0 : decode cX12_would 0 = .ok (.aload_n 0, 1) := by decide +kernel
theorem dX12_would_1 : decode cX12_would 1 = .ok (.iload_n 1, 1) := by decide +kernel
theorem dX12_would_2 : decode cX12_would 2 = .ok (.iload_n 2, 1) := by decide +kernel
theorem dX12_would_3 : decode cX12_would 3 = .ok (.invokevirtual 353, 3) := by decide +kernel
theorem dX12_would_6 : decode cX12_would 6 = .ok (.istore_n 3, 1) := by decide +kernel
theorem dX12_would_7 : decode cX12_would 7 = .ok (.iload_n 3, 1) := by decide +kernel
theorem dX12_would_8 : decode cX12_would 8 = .ok (.ifCond .ge 5, 3) := by decide +kernel
theorem dX12_would_11 : decode cX12_would 11 = .ok (.iload_n 3, 1) := by decide +kernel
theorem dX12_would_12 : decode cX12_would 12 = .ok (.ireturn, 1) := by decide +kernel
theorem dX12_would_13 : decode cX12_would 13 = .ok (.aload_n 0, 1) := by decide +kernel
theorem dX12_would_14 : decode cX12_would 14 = .ok (.iload_n 1, 1) := by decide +kernel
theorem dX12_would_15 : decode cX12_would 15 = .ok (.iload_n 2, 1) := by decide +kernel
theorem dX12_would_16 : decode cX12_would 16 = .ok (.invokevirtual 356, 3) := by decide +kernel
theorem dX12_would_19 : decode cX12_would 19 = .ok (.aload_n 0, 1) := by decide +kernel
theorem dX12_would_20 : decode cX12_would 20 = .ok (.getfield 297, 3) := by decide +kernel
theorem dX12_would_23 : decode cX12_would 23 = .ok (.ireturn, 1) := by decide +kernel
theorem dX12_think_0 : decode cX12_think 0 = .ok (.aload_n 0, 1) := by decide +kernel
theorem dX12_think_1 : decode cX12_think 1 = .ok (.iload_n 1, 1) := by decide +kernel
theorem dX12_think_2 : decode cX12_think 2 = .ok (.iload_n 2, 1) := by decide +kernel
theorem dX12_think_3 : decode cX12_think 3 = .ok (.invokevirtual 353, 3) := by decide +kernel
theorem dX12_think_6 : decode cX12_think 6 = .ok (.istore_n 3, 1) := by decide +kernel
theorem dX12_think_7 : decode cX12_think 7 = .ok (.iload_n 3, 1) := by decide +kernel
theorem dX12_think_8 : decode cX12_think 8 = .ok (.ifCond .ge 5, 3) := by decide +kernel
theorem dX12_think_11 : decode cX12_think 11 = .ok (.iload_n 3, 1) := by decide +kernel
theorem dX12_think_12 : decode cX12_think 12 = .ok (.ireturn, 1) := by decide +kernel
theorem dX12_think_13 : decode cX12_think 13 = .ok (.aload_n 0, 1) := by decide +kernel
theorem dX12_think_14 : decode cX12_think 14 = .ok (.iload_n 1, 1) := by decide +kernel
theorem dX12_think_15 : decode cX12_think 15 = .ok (.iload_n 2, 1) := by decide +kernel
theorem dX12_think_16 : decode cX12_think 16 = .ok (.invokevirtual 356, 3) := by decide +kernel
theorem dX12_think_19 : decode cX12_think 19 = .ok (.aload_n 0, 1) := by decide +kernel
theorem dX12_think_20 : decode cX12_think 20 = .ok (.getfield 303, 3) := by decide +kernel
theorem dX12_think_23 : decode cX12_think 23 = .ok (.ireturn, 1) := by decide +kernel
theorem dX12_knows_0 : decode cX12_knows 0 = .ok (.aload_n 0, 1) := by decide +kernel
theorem dX12_knows_1 : decode cX12_knows 1 = .ok (.iload_n 1, 1) := by decide +kernel
theorem dX12_knows_2 : decode cX12_knows 2 = .ok (.iload_n 2, 1) := by decide +kernel
theorem dX12_knows_3 : decode cX12_knows 3 = .ok (.invokevirtual 353, 3) := by decide +kernel
theorem dX12_knows_6 : decode cX12_knows 6 = .ok (.istore_n 3, 1) := by decide +kernel
theorem dX12_knows_7 : decode cX12_knows 7 = .ok (.iload_n 3, 1) := by decide +kernel
theorem dX12_knows_8 : decode cX12_knows 8 = .ok (.ifCond .ge 5, 3) := by decide +kernel
theorem dX12_knows_11 : decode cX12_knows 11 = .ok (.iload_n 3, 1) := by decide +kernel
theorem dX12_knows_12 : decode cX12_knows 12 = .ok (.ireturn, 1) := by decide +kernel
theorem dX12_knows_13 : decode cX12_knows 13 = .ok (.aload_n 0, 1) := by decide +kernel
theorem dX12_knows_14 : decode cX12_knows 14 = .ok (.iload_n 1, 1) := by decide +kernel
theorem dX12_knows_15 : decode cX12_knows 15 = .ok (.iload_n 2, 1) := by decide +kernel
theorem dX12_knows_16 : decode cX12_knows 16 = .ok (.invokevirtual 356, 3) := by decide +kernel
theorem dX12_knows_19 : decode cX12_knows 19 = .ok (.aload_n 0, 1) := by decide +kernel
theorem dX12_knows_20 : decode cX12_knows 20 = .ok (.getfield 341, 3) := by decide +kernel
