theorem dX11_feed_0 : decode cX11_feed 0 = .ok (.aload_n 0, 1) := by decide +kernel
theorem dX11_feed_1 : decode cX11_feed 1 = .ok (.getfield 12, 3) := by decide +kernel
theorem dX11_feed_4 : decode cX11_feed 4 = .ok (.bipush 20, 2) := by decide +kernel
theorem dX11_feed_6 : decode cX11_feed 6 = .ok (.invokevirtual 87, 3) := by decide +kernel
theorem dX11_feed_9 : decode cX11_feed 9 = .ok (.ifCond .ne 5, 3) := by decide +kernel
theorem dX11_feed_12 : decode cX11_feed 12 = .ok (.iconst (-1), 1) := by decide +kernel
theorem dX11_feed_13 : decode cX11_feed 13 = .ok (.ireturn, 1) := by decide +kernel
theorem dX11_feed_14 : decode cX11_feed 14 = .ok (.aload_n 0, 1) := by decide +kernel
theorem dX11_feed_15 : decode cX11_feed 15 = .ok (.getfield 12, 3) := by decide +kernel
theorem dX11_feed_18 : decode cX11_feed 18 = .ok (.iload_n 1, 1) := by decide +kernel
theorem dX11_feed_19 : decode cX11_feed 19 = .ok (.invokevirtual 91, 3) := by decide +kernel
theorem dX11_feed_22 : decode cX11_feed 22 = .ok (.aload_n 0, 1) := by decide +kernel
theorem dX11_feed_23 : decode cX11_feed 23 = .ok (.getfield 12, 3) := by decide +kernel
theorem dX11_feed_26 : decode cX11_feed 26 = .ok (.iload_n 2, 1) := by decide +kernel
theorem dX11_feed_27 : decode cX11_feed 27 = .ok (.invokevirtual 91, 3) := by decide +kernel
theorem dX11_feed_30 : decode cX11_feed 30 = .ok (.aload_n 0, 1) := by decide +kernel
theorem dX11_feed_31 : decode cX11_feed 31 = .ok (.getfield 12, 3) := by decide +kernel
theorem dX11_feed_34 : decode cX11_feed 34 = .ok (.iload_n 3, 1) := by decide +kernel
theorem dX11_feed_35 : decode cX11_feed 35 = .ok (.invokevirtual 91, 3) := by decide +kernel
theorem dX11_feed_38 : decode cX11_feed 38 = .ok (.aload_n 0, 1) := by decide +kernel
theorem dX11_feed_39 : decode cX11_feed 39 = .ok (.getfield 12, 3) := by decide +kernel
theorem dX11_feed_42 : decode cX11_feed 42 = .ok (.iload 4, 2) := by decide +kernel
theorem dX11_feed_44 : decode cX11_feed 44 = .ok (.invokevirtual 91, 3) := by decide +kernel
theorem dX11_feed_47 : decode cX11_feed 47 = .ok (.aload_n 0, 1) := by decide +kernel
theorem dX11_feed_48 : decode cX11_feed 48 = .ok (.getfield 12, 3) := by decide +kernel
theorem dX11_feed_51 : decode cX11_feed 51 = .ok (.iload 5, 2) := by decide +kernel
theorem dX11_feed_53 : decode cX11_feed 53 = .ok (.invokevirtual 91, 3) := by decide +kernel
theorem dX11_feed_56 : decode cX11_feed 56 = .ok (.aload_n 0, 1) := by decide +kernel
theorem dX11_feed_57 : decode cX11_feed 57 = .ok (.getfield 12, 3) := by decide +kernel
theorem dX11_feed_60 : decode cX11_feed 60 = .ok (.getfield 95, 3) := by decide +kernel
theorem dX11_feed_63 : decode cX11_feed 63 = .ok (.ireturn, 1) := by decide +kernel
theorem dX11_end_0 : decode cX11_end 0 = .ok (.iload_n 1, 1) := by decide +kernel
theorem dX11_end_1 : decode cX11_end 1 = .ok (.ifCond .lt 14, 3) := by decide +kernel
theorem dX11_end_15 : decode cX11_end 15 = .ok (.iconst (-1), 1) := by decide +kernel
theorem dX11_end_16 : decode cX11_end 16 = .ok (.ireturn, 1) := by decide +kernel
theorem dX11_end_4 : decode cX11_end 4 = .ok (.iload_n 1, 1) := by decide +kernel
theorem dX11_end_5 : decode cX11_end 5 = .ok (.aload_n 0, 1) := by decide +kernel
theorem dX11_end_6 : decode cX11_end 6 = .ok (.getfield 12, 3) := by decide +kernel
theorem dX11_end_9 : decode cX11_end 9 = .ok (.getfield 95, 3) := by decide +kernel
theorem dX11_end_12 : decode cX11_end 12 = .ok (.if_icmp .le 5, 3) := by decide +kernel
theorem dX11_end_17 : decode cX11_end 17 = .ok (.aload_n 0, 1) := by decide +kernel
theorem dX11_end_18 : decode cX11_end 18 = .ok (.getfield 12, 3) := by decide +kernel
theorem dX11_end_21 : decode cX11_end 21 = .ok (.iload_n 1, 1) := by decide +kernel
theorem dX11_end_22 : decode cX11_end 22 = .ok (.putfield 95, 3) := by decide +kernel
theorem dX11_end_25 : decode cX11_end 25 = .ok (.iload_n 1, 1) := by decide +kernel
theorem dX11_end_26 : decode cX11_end 26 = .ok (.ireturn, 1) := by decide +kernel
theorem dX11_wood_0 : decode cX11_wood 0 = .ok (.aload_n 0, 1) := by decide +kernel
theorem dX11_wood_1 : decode cX11_wood 1 = .ok (.getfield 12, 3) := by decide +kernel
theorem dX11_wood_4 : decode cX11_wood 4 = .ok (.invokevirtual 99, 3) := by decide +kernel
theorem dX11_wood_7 : decode cX11_wood 7 = .ok (.ifCond .ne 6, 3) := by decide +kernel
theorem dX11_wood_10 : decode cX11_wood 10 = .ok (.bipush (-4), 2) := by decide +kernel
theorem dX11_wood_12 : decode cX11_wood 12 = .ok (.ireturn, 1) := by decide +kernel
theorem dX11_wood_13 : decode cX11_wood 13 = .ok (.aload_n 0, 1) := by decide +kernel
theorem dX11_wood_14 : decode cX11_wood 14 = .ok (.getfield 12, 3) := by decide +kernel
theorem dX11_wood_17 : decode cX11_wood 17 = .ok (.iconst 0, 1) := by decide +kernel
theorem dX11_wood_18 : decode cX11_wood 18 = .ok (.putfield 95, 3) := by decide +kernel
theorem dX11_wood_21 : decode cX11_wood 21 = .ok (.aload_n 0, 1) := by decide +kernel
theorem dX11_wood_22 : decode cX11_wood 22 = .ok (.getfield 19, 3) := by decide +kernel
theorem dX11_wood_25 : decode cX11_wood 25 = .ok (.aload_n 0, 1) := by decide +kernel
theorem dX11_wood_26 : decode cX11_wood 26 = .ok (.getfield 12, 3) := by decide +kernel
theorem dX11_wood_29 : decode cX11_wood 29 = .ok (.getfield 103, 3) := by decide +kernel
theorem dX11_wood_32 : decode cX11_wood 32 = .ok (.invokevirtual 106, 3) := by decide +kernel
theorem dX11_wood_35 : decode cX11_wood 35 = .ok (.aload_n 0, 1) := by decide +kernel
theorem dX11_wood_36 : decode cX11_wood 36 = .ok (.getfield 26, 3) := by decide +kernel
theorem dX11_wood_39 : decode cX11_wood 39 = .ok (.aload_n 0, 1) := by decide +kernel
theorem dX11_wood_40 : decode cX11_wood 40 = .ok (.getfield 19, 3) := by decide +kernel
theorem dX11_wood_43 : decode cX11_wood 43 = .ok (.invokevirtual 110, 3) := by decide +kernel
theorem dX11_wood_46 : decode cX11_wood 46 = .ok (.aload_n 0, 1) := by decide +kernel
theorem dX11_wood_47 : decode cX11_wood 47 = .ok (.getfield 61, 3) := by decide +kernel
theorem dX11_wood_50 : decode cX11_wood 50 = .ok (.iconst 0, 1) := by decide +kernel
theorem dX11_wood_51 : decode cX11_wood 51 = .ok (.putfield 113, 3) := by decide +kernel
theorem dX11_wood_54 : decode cX11_wood 54 = .ok (.aload_n 0, 1) := by decide +kernel
theorem dX11_wood_55 : decode cX11_wood 55 = .ok (.getfield 19, 3) := by decide +kernel
theorem dX11_wood_58 : decode cX11_wood 58 = .ok (.getfield 117, 3) := by decide +kernel
theorem dX11_wood_61 : decode cX11_wood 61 = .ok (.ireturn, 1) := by decide +kernel
theorem dX11_fault_0 : decode cX11_fault 0 = .ok (.iload_n 1, 1) := by decide +kernel
theorem dX11_fault_1 : decode cX11_fault 1 = .ok (.ifCond .ne 11, 3) := by decide +kernel
theorem dX11_fault_12 : decode cX11_fault 12 = .ok (.iload_n 1, 1) := by decide +kernel
theorem dX11_fault_13 : decode cX11_fault 13 = .ok (.iconst 1, 1) := by decide +kernel
theorem dX11_fault_14 : decode cX11_fault 14 = .ok (.if_icmp .ne 13, 3) := by decide +kernel
theorem dX11_fault_27 : decode cX11_fault 27 = .ok (.iconst (-1), 1) := by decide +kernel
theorem dX11_fault_28 : decode cX11_fault 28 = .ok (.ireturn, 1) := by decide +kernel
theorem dX11_fault_17 : decode cX11_fault 17 = .ok (.aload_n 0, 1) := by decide +kernel
theorem dX11_fault_18 : decode cX11_fault 18 = .ok (.getfield 12, 3) := by decide +kernel
theorem dX11_fault_21 : decode cX11_fault 21 = .ok (.getfield 123, 3) := by decide +kernel
theorem dX11_fault_24 : decode cX11_fault 24 = .ok (.goto 4, 3) := by decide +kernel
theorem dX11_fault_4 : decode cX11_fault 4 = .ok (.aload_n 0, 1) := by decide +kernel
theorem dX11_fault_5 : decode cX11_fault 5 = .ok (.getfield 12, 3) := by decide +kernel
theorem dX11_fault_8 : decode cX11_fault 8 = .ok (.getfield 120, 3) := by decide +kernel
theorem dX11_fault_11 : decode cX11_fault 11 = .ok (.ireturn, 1) := by decide +kernel
theorem dX11_leads_0 : decode cX11_leads 0 = .ok (.aload_n 0, 1) := by decide +kernel
theorem dX11_leads_1 : decode cX11_leads 1 = .ok (.getfield 19, 3) := by decide +kernel
theorem dX11_leads_4 : decode cX11_leads 4 = .ok (.iload_n 1, 1) := by decide +kernel
theorem dX11_leads_5 : decode cX11_leads 5 = .ok (.invokevirtual 126, 3) := by decide +kernel
theorem dX11_leads_8 : decode cX11_leads 8 = .ok (.ifCond .eq 10, 3) := by decide +kernel
theorem dX11_leads_18 : decode cX11_leads 18 = .ok (.bipush (-2), 2) := by decide +kernel
theorem dX11_leads_20 : decode cX11_leads 20 = .ok (.ireturn, 1) := by decide +kernel
theorem dX11_leads_11 : decode cX11_leads 11 = .ok (.iload_n 2, 1) := by decide +kernel
theorem dX11_leads_12 : decode cX11_leads 12 = .ok (.invokestatic 129, 3) := by decide +kernel
theorem dX11_leads_15 : decode cX11_leads 15 = .ok (.ifCond .ne 6, 3) := by decide +kernel
theorem dX11_leads_21 : decode cX11_leads 21 = .ok (.aload_n 0, 1) := by decide +kernel
theorem dX11_leads_22 : decode cX11_leads 22 = .ok (.getfield 19, 3) := by decide +kernel
theorem dX11_leads_25 : decode cX11_leads 25 = .ok (.iload_n 1, 1) := by decide +kernel
theorem dX11_leads_26 : decode cX11_leads 26 = .ok (.iload_n 2, 1) := by decide +kernel
theorem dX11_leads_27 : decode cX11_leads 27 = .ok (.invokevirtual 132, 3) := by decide +kernel
theorem dX11_leads_30 : decode cX11_leads 30 = .ok (.ireturn, 1) := by decide +kernel
theorem dX11_mark_0 : decode cX11_mark 0 = .ok (.aload_n 0, 1) := by decide +kernel
theorem dX11_mark_1 : decode cX11_mark 1 = .ok (.getfield 19, 3) := by decide +kernel
theorem dX11_mark_4 : decode cX11_mark 4 = .ok (.iload_n 1, 1) := by decide +kernel
theorem dX11_mark_5 : decode cX11_mark 5 = .ok (.invokevirtual 126, 3) := by decide +kernel
theorem dX11_mark_8 : decode cX11_mark 8 = .ok (.ifCond .eq 14, 3) := by decide +kernel
theorem dX11_mark_22 : decode cX11_mark 22 = .ok (.bipush (-2), 2) := by decide +kernel
theorem dX11_mark_24 : decode cX11_mark 24 = .ok (.ireturn, 1) := by decide +kernel
theorem dX11_mark_11 : decode cX11_mark 11 = .ok (.aload_n 0, 1) := by decide +kernel
theorem dX11_mark_12 : decode cX11_mark 12 = .ok (.getfield 19, 3) := by decide +kernel
theorem dX11_mark_15 : decode cX11_mark 15 = .ok (.iload_n 1, 1) := by decide +kernel
theorem dX11_mark_16 : decode cX11_mark 16 = .ok (.invokevirtual 136, 3) := by decide +kernel
theorem dX11_mark_19 : decode cX11_mark 19 = .ok (.goto 5, 3) := by decide +kernel
theorem dX11_becomes_0 : decode cX11_becomes 0 = .ok (.aload_n 0, 1) := by decide +kernel
theorem dX11_becomes_1 : decode cX11_becomes 1 = .ok (.getfield 19, 3) := by decide +kernel
theorem dX11_becomes_4 : decode cX11_becomes 4 = .ok (.iload_n 1, 1) := by decide +kernel
theorem dX11_becomes_5 : decode cX11_becomes 5 = .ok (.invokevirtual 140, 3) := by decide +kernel
theorem dX11_becomes_8 : decode cX11_becomes 8 = .ok (.ifCond .eq 10, 3) := by decide +kernel
theorem dX11_becomes_18 : decode cX11_becomes 18 = .ok (.bipush (-2), 2) := by decide +kernel
theorem dX11_becomes_20 : decode cX11_becomes 20 = .ok (.ireturn, 1) := by decide +kernel
theorem dX11_becomes_11 : decode cX11_becomes 11 = .ok (.iload_n 2, 1) := by decide +kernel
theorem dX11_becomes_12 : decode cX11_becomes 12 = .ok (.invokestatic 129, 3) := by decide +kernel
theorem dX11_becomes_15 : decode cX11_becomes 15 = .ok (.ifCond .ne 6, 3) := by decide +kernel
theorem dX11_becomes_21 : decode cX11_becomes 21 = .ok (.aload_n 0, 1) := by decide +kernel
theorem dX11_becomes_22 : decode cX11_becomes 22 = .ok (.getfield 19, 3) := by decide +kernel
theorem dX11_becomes_25 : decode cX11_becomes 25 = .ok (.iload_n 1, 1) := by decide +kernel
theorem dX11_becomes_26 : decode cX11_becomes 26 = .ok (.iload_n 2, 1) := by decide +kernel
theorem dX11_becomes_27 : decode cX11_becomes 27 = .ok (.invokevirtual 143, 3) := by decide +kernel
theorem dX11_becomes_30 : decode cX11_becomes 30 = .ok (.ireturn, 1) := by decide +kernel
theorem dX11_seen_0 : decode cX11_seen 0 = .ok (.aload_n 0, 1) := by decide +kernel
theorem dX11_seen_1 : decode cX11_seen 1 = .ok (.getfield 19, 3) := by decide +kernel
theorem dX11_seen_4 : decode cX11_seen 4 = .ok (.iload_n 1, 1) := by decide +kernel
theorem dX11_seen_5 : decode cX11_seen 5 = .ok (.invokevirtual 140, 3) := by decide +kernel
theorem dX11_seen_8 : decode cX11_seen 8 = .ok (.ifCond .eq 10, 3) := by decide +kernel
theorem dX11_seen_18 : decode cX11_seen 18 = .ok (.bipush (-2), 2) := by decide +kernel
theorem dX11_seen_20 : decode cX11_seen 20 = .ok (.ireturn, 1) := by decide +kernel
theorem dX11_seen_11 : decode cX11_seen 11 = .ok (.iload_n 2, 1) := by decide +kernel
theorem dX11_seen_12 : decode cX11_seen 12 = .ok (.invokestatic 146, 3) := by decide +kernel
theorem dX11_seen_15 : decode cX11_seen 15 = .ok (.ifCond .ne 6, 3) := by decide +kernel
theorem dX11_seen_21 : decode cX11_seen 21 = .ok (.aload_n 0, 1) := by decide +kernel
theorem dX11_seen_22 : decode cX11_seen 22 = .ok (.getfield 19, 3) := by decide +kernel
theorem dX11_seen_25 : decode cX11_seen 25 = .ok (.iload_n 1, 1) := by decide +kernel
theorem dX11_seen_26 : decode cX11_seen 26 = .ok (.iload_n 2, 1) := by decide +kernel
theorem dX11_seen_27 : decode cX11_seen 27 = .ok (.invokevirtual 149, 3) := by decide +kernel
theorem dX11_seen_30 : decode cX11_seen 30 = .ok (.ireturn, 1) := by decide +kernel
theorem dX11_where_0 : decode cX11_where 0 = .ok (.aload_n 0, 1) := by decide +kernel
theorem dX11_where_1 : decode cX11_where 1 = .ok (.iload_n 1, 1) := by decide +kernel
theorem dX11_where_2 : decode cX11_where 2 = .ok (.invokevirtual 152, 3) := by decide +kernel
theorem dX11_where_5 : decode cX11_where 5 = .ok (.ifCond .eq 13, 3) := by decide +kernel
theorem dX11_where_18 : decode cX11_where 18 = .ok (.bipush (-2), 2) := by decide +kernel
theorem dX11_where_20 : decode cX11_where 20 = .ok (.ireturn, 1) := by decide +kernel
theorem dX11_where_8 : decode cX11_where 8 = .ok (.aload_n 0, 1) := by decide +kernel
theorem dX11_where_9 : decode cX11_where 9 = .ok (.getfield 33, 3) := by decide +kernel
theorem dX11_where_12 : decode cX11_where 12 = .ok (.getfield 155, 3) := by decide +kernel
theorem dX11_where_15 : decode cX11_where 15 = .ok (.goto 5, 3) := by decide +kernel
theorem dX11_thinks_0 : decode cX11_thinks 0 = .ok (.aload_n 0, 1) := by decide +kernel
theorem dX11_thinks_1 : decode cX11_thinks 1 = .ok (.iload_n 1, 1) := by decide +kernel
theorem dX11_thinks_2 : decode cX11_thinks 2 = .ok (.invokevirtual 152, 3) := by decide +kernel
theorem dX11_thinks_5 : decode cX11_thinks 5 = .ok (.ifCond .eq 13, 3) := by decide +kernel
theorem dX11_thinks_18 : decode cX11_thinks 18 = .ok (.bipush (-2), 2) := by decide +kernel
theorem dX11_thinks_20 : decode cX11_thinks 20 = .ok (.ireturn, 1) := by decide +kernel
theorem dX11_thinks_8 : decode cX11_thinks 8 = .ok (.aload_n 0, 1) := by decide +kernel
theorem dX11_thinks_9 : decode cX11_thinks 9 = .ok (.getfield 33, 3) := by decide +kernel
theorem dX11_thinks_12 : decode cX11_thinks 12 = .ok (.getfield 158, 3) := by decide +kernel
theorem dX11_thinks_15 : decode cX11_thinks 15 = .ok (.goto 5, 3) := by decide +kernel
theorem dX11_pupil_0 : decode cX11_pupil 0 = .ok (.aload_n 0, 1) := by decide +kernel
theorem dX11_pupil_1 : decode cX11_pupil 1 = .ok (.iload_n 1, 1) := by decide +kernel
theorem dX11_pupil_2 : decode cX11_pupil 2 = .ok (.invokevirtual 152, 3) := by decide +kernel
theorem dX11_pupil_5 : decode cX11_pupil 5 = .ok (.ifCond .ne 6, 3) := by decide +kernel
theorem dX11_pupil_8 : decode cX11_pupil 8 = .ok (.bipush (-2), 2) := by decide +kernel
theorem dX11_pupil_10 : decode cX11_pupil 10 = .ok (.ireturn, 1) := by decide +kernel
theorem dX11_pupil_11 : decode cX11_pupil 11 = .ok (.iload_n 2, 1) := by decide +kernel
theorem dX11_pupil_12 : decode cX11_pupil 12 = .ok (.tableswitch 80 0 3 #[32, 40, 48, 64], 32) := by decide +kernel
theorem dX11_pupil_44 : decode cX11_pupil 44 = .ok (.aload_n 0, 1) := by decide +kernel
theorem dX11_pupil_45 : decode cX11_pupil 45 = .ok (.getfield 33, 3) := by decide +kernel
theorem dX11_pupil_48 : decode cX11_pupil 48 = .ok (.getfield 161, 3) := by decide +kernel
theorem dX11_pupil_51 : decode cX11_pupil 51 = .ok (.ireturn, 1) := by decide +kernel
theorem dX11_pupil_52 : decode cX11_pupil 52 = .ok (.aload_n 0, 1) := by decide +kernel
theorem dX11_pupil_53 : decode cX11_pupil 53 = .ok (.getfield 33, 3) := by decide +kernel
theorem dX11_pupil_56 : decode cX11_pupil 56 = .ok (.invokevirtual 164, 3) := by decide +kernel
theorem dX11_pupil_59 : decode cX11_pupil 59 = .ok (.ireturn, 1) := by decide +kernel
theorem dX11_pupil_60 : decode cX11_pupil 60 = .ok (.aload_n 0, 1) := by decide +kernel
theorem dX11_pupil_61 : decode cX11_pupil 61 = .ok (.getfield 33, 3) := by decide +kernel
theorem dX11_pupil_64 : decode cX11_pupil 64 = .ok (.invokevirtual 168, 3) := by decide +kernel
theorem dX11_pupil_67 : decode cX11_pupil 67 = .ok (.ifCond .eq 7, 3) := by decide +kernel
theorem dX11_pupil_74 : decode cX11_pupil 74 = .ok (.iconst 0, 1) := by decide +kernel
theorem dX11_pupil_75 : decode cX11_pupil 75 = .ok (.ireturn, 1) := by decide +kernel
theorem dX11_pupil_70 : decode cX11_pupil 70 = .ok (.iconst 1, 1) := by decide +kernel
theorem dX11_pupil_71 : decode cX11_pupil 71 = .ok (.goto 4, 3) := by decide +kernel
theorem dX11_pupil_76 : decode cX11_pupil 76 = .ok (.aload_n 0, 1) := by decide +kernel
theorem dX11_pupil_77 : decode cX11_pupil 77 = .ok (.getfield 33, 3) := by decide +kernel
theorem dX11_pupil_80 : decode cX11_pupil 80 = .ok (.invokevirtual 171, 3) := by decide +kernel
theorem dX11_pupil_83 : decode cX11_pupil 83 = .ok (.ifCond .eq 7, 3) := by decide +kernel
theorem dX11_pupil_90 : decode cX11_pupil 90 = .ok (.iconst 0, 1) := by decide +kernel
theorem dX11_pupil_91 : decode cX11_pupil 91 = .ok (.ireturn, 1) := by decide +kernel
theorem dX11_pupil_86 : decode cX11_pupil 86 = .ok (.iconst 1, 1) := by decide +kernel
theorem dX11_pupil_87 : decode cX11_pupil 87 = .ok (.goto 4, 3) := by decide +kernel
theorem dX11_pupil_92 : decode cX11_pupil 92 = .ok (.bipush (-2), 2) := by decide +kernel
theorem dX11_pupil_94 : decode cX11_pupil 94 = .ok (.ireturn, 1) := by decide +kernel
theorem dX11_goes_0 : decode cX11_goes 0 = .ok (.iload_n 2, 1) := by decide +kernel
theorem dX11_goes_1 : decode cX11_goes 1 = .ok (.invokestatic 129, 3) := by decide +kernel
theorem dX11_goes_4 : decode cX11_goes 4 = .ok (.ifCond .eq 11, 3) := by decide +kernel
theorem dX11_goes_15 : decode cX11_goes 15 = .ok (.bipush (-2), 2) := by decide +kernel
theorem dX11_goes_17 : decode cX11_goes 17 = .ok (.ireturn, 1) := by decide +kernel
theorem dX11_goes_7 : decode cX11_goes 7 = .ok (.aload_n 0, 1) := by decide +kernel
theorem dX11_goes_8 : decode cX11_goes 8 = .ok (.iload_n 1, 1) := by decide +kernel
theorem dX11_goes_9 : decode cX11_goes 9 = .ok (.invokevirtual 152, 3) := by decide +kernel
theorem dX11_goes_12 : decode cX11_goes 12 = .ok (.ifCond .ne 6, 3) := by decide +kernel
theorem dX11_goes_18 : decode cX11_goes 18 = .ok (.aload_n 0, 1) := by decide +kernel
theorem dX11_goes_19 : decode cX11_goes 19 = .ok (.getfield 26, 3) := by decide +kernel
theorem dX11_goes_22 : decode cX11_goes 22 = .ok (.getfield 174, 3) := by decide +kernel
theorem dX11_goes_25 : decode cX11_goes 25 = .ok (.bipush 60, 2) := by decide +kernel
theorem dX11_goes_27 : decode cX11_goes 27 = .ok (.if_icmp .lt 6, 3) := by decide +kernel
theorem dX11_goes_33 : decode cX11_goes 33 = .ok (.aload_n 0, 1) := by decide +kernel
theorem dX11_goes_34 : decode cX11_goes 34 = .ok (.getfield 33, 3) := by decide +kernel
theorem dX11_goes_37 : decode cX11_goes 37 = .ok (.aload_n 0, 1) := by decide +kernel
theorem dX11_goes_38 : decode cX11_goes 38 = .ok (.getfield 19, 3) := by decide +kernel
theorem dX11_goes_41 : decode cX11_goes 41 = .ok (.iload_n 2, 1) := by decide +kernel
theorem dX11_goes_42 : decode cX11_goes 42 = .ok (.invokevirtual 177, 3) := by decide +kernel
theorem dX11_goes_45 : decode cX11_goes 45 = .ok (.aload_n 0, 1) := by decide +kernel
theorem dX11_goes_46 : decode cX11_goes 46 = .ok (.getfield 26, 3) := by decide +kernel
theorem dX11_goes_49 : decode cX11_goes 49 = .ok (.iload_n 1, 1) := by decide +kernel
theorem dX11_goes_50 : decode cX11_goes 50 = .ok (.aload_n 0, 1) := by decide +kernel
theorem dX11_goes_51 : decode cX11_goes 51 = .ok (.getfield 33, 3) := by decide +kernel
theorem dX11_goes_54 : decode cX11_goes 54 = .ok (.invokevirtual 181, 3) := by decide +kernel
theorem dX11_goes_57 : decode cX11_goes 57 = .ok (.aload_n 0, 1) := by decide +kernel
theorem dX11_goes_58 : decode cX11_goes 58 = .ok (.getfield 33, 3) := by decide +kernel
theorem dX11_goes_61 : decode cX11_goes 61 = .ok (.getfield 155, 3) := by decide +kernel
theorem dX11_goes_64 : decode cX11_goes 64 = .ok (.ireturn, 1) := by decide +kernel
theorem dX11_goes_30 : decode cX11_goes 30 = .ok (.bipush (-5), 2) := by decide +kernel
theorem dX11_goes_32 : decode cX11_goes 32 = .ok (.ireturn, 1) := by decide +kernel
theorem dX11_most_0 : decode cX11_most 0 = .ok (.aload_n 0, 1) := by decide +kernel
theorem dX11_most_1 : decode cX11_most 1 = .ok (.getfield 19, 3) := by decide +kernel
theorem dX11_most_4 : decode cX11_most 4 = .ok (.invokevirtual 185, 3) := by decide +kernel
theorem dX11_most_7 : decode cX11_most 7 = .ok (.ifCond .ne 6, 3) := by decide +kernel
theorem dX11_most_10 : decode cX11_most 10 = .ok (.bipush (-2), 2) := by decide +kernel
theorem dX11_most_12 : decode cX11_most 12 = .ok (.ireturn, 1) := by decide +kernel
theorem dX11_most_13 : decode cX11_most 13 = .ok (.iconst 0, 1) := by decide +kernel
theorem dX11_most_14 : decode cX11_most 14 = .ok (.istore_n 1, 1) := by decide +kernel
theorem dX11_most_15 : decode cX11_most 15 = .ok (.iconst 0, 1) := by decide +kernel
theorem dX11_most_16 : decode cX11_most 16 = .ok (.istore_n 2, 1) := by decide +kernel
theorem dX11_most_17 : decode cX11_most 17 = .ok (.iconst 0, 1) := by decide +kernel
theorem dX11_most_18 : decode cX11_most 18 = .ok (.istore_n 3, 1) := by decide +kernel
theorem dX11_most_19 : decode cX11_most 19 = .ok (.iload_n 3, 1) := by decide +kernel
theorem dX11_most_20 : decode cX11_most 20 = .ok (.iconst 4, 1) := by decide +kernel
theorem dX11_most_21 : decode cX11_most 21 = .ok (.if_icmp .ge 49, 3) := by decide +kernel
theorem dX11_most_70 : decode cX11_most 70 = .ok (.iload_n 2, 1) := by decide +kernel
theorem dX11_most_71 : decode cX11_most 71 = .ok (.ireturn, 1) := by decide +kernel
theorem dX11_most_24 : decode cX11_most 24 = .ok (.aload_n 0, 1) := by decide +kernel
theorem dX11_most_25 : decode cX11_most 25 = .ok (.iload_n 3, 1) := by decide +kernel
theorem dX11_most_26 : decode cX11_most 26 = .ok (.invokevirtual 152, 3) := by decide +kernel
theorem dX11_most_29 : decode cX11_most 29 = .ok (.ifCond .eq 41, 3) := by decide +kernel
theorem dX11_most_32 : decode cX11_most 32 = .ok (.aload_n 0, 1) := by decide +kernel
theorem dX11_most_33 : decode cX11_most 33 = .ok (.getfield 33, 3) := by decide +kernel
theorem dX11_most_36 : decode cX11_most 36 = .ok (.invokevirtual 164, 3) := by decide +kernel
theorem dX11_most_39 : decode cX11_most 39 = .ok (.istore 4, 2) := by decide +kernel
theorem dX11_most_41 : decode cX11_most 41 = .ok (.iload 4, 2) := by decide +kernel
theorem dX11_most_43 : decode cX11_most 43 = .ok (.iload_n 1, 1) := by decide +kernel
theorem dX11_most_44 : decode cX11_most 44 = .ok (.if_icmp .le 8, 3) := by decide +kernel
theorem dX11_most_52 : decode cX11_most 52 = .ok (.iload 4, 2) := by decide +kernel
theorem dX11_most_54 : decode cX11_most 54 = .ok (.iload_n 1, 1) := by decide +kernel
theorem dX11_most_55 : decode cX11_most 55 = .ok (.if_icmp .ne 9, 3) := by decide +kernel
theorem dX11_most_64 : decode cX11_most 64 = .ok (.iinc 3 1, 3) := by decide +kernel
theorem dX11_most_67 : decode cX11_most 67 = .ok (.goto (-48), 3) := by decide +kernel
theorem dX11_most_58 : decode cX11_most 58 = .ok (.iload_n 2, 1) := by decide +kernel
theorem dX11_most_59 : decode cX11_most 59 = .ok (.iconst 1, 1) := by decide +kernel
theorem dX11_most_60 : decode cX11_most 60 = .ok (.iload_n 3, 1) := by decide +kernel
theorem dX11_most_61 : decode cX11_most 61 = .ok (.ishl, 1) := by decide +kernel
theorem dX11_most_62 : decode cX11_most 62 = .ok (.ior, 1) := by decide +kernel
theorem dX11_most_63 : decode cX11_most 63 = .ok (.istore_n 2, 1) := by decide +kernel
theorem dX11_most_47 : decode cX11_most 47 = .ok (.iload 4, 2) := by decide +kernel
theorem dX11_most_49 : decode cX11_most 49 = .ok (.istore_n 1, 1) := by decide +kernel
theorem dX11_most_50 : decode cX11_most 50 = .ok (.iconst 0, 1) := by decide +kernel
theorem dX11_most_51 : decode cX11_most 51 = .ok (.istore_n 2, 1) := by decide +kernel
theorem dX11_who_0 : decode cX11_who 0 = .ok (.aload_n 0, 1) := by decide +kernel
theorem dX11_who_1 : decode cX11_who 1 = .ok (.getfield 19, 3) := by decide +kernel
theorem dX11_who_4 : decode cX11_who 4 = .ok (.invokevirtual 185, 3) := by decide +kernel
theorem dX11_who_7 : decode cX11_who 7 = .ok (.ifCond .eq 12, 3) := by decide +kernel
theorem dX11_who_19 : decode cX11_who 19 = .ok (.bipush (-2), 2) := by decide +kernel
theorem dX11_who_21 : decode cX11_who 21 = .ok (.ireturn, 1) := by decide +kernel
theorem dX11_who_10 : decode cX11_who 10 = .ok (.iload_n 1, 1) := by decide +kernel
theorem dX11_who_11 : decode cX11_who 11 = .ok (.ifCond .lt 8, 3) := by decide +kernel
theorem dX11_who_14 : decode cX11_who 14 = .ok (.iload_n 1, 1) := by decide +kernel
theorem dX11_who_15 : decode cX11_who 15 = .ok (.iconst 1, 1) := by decide +kernel
theorem dX11_who_16 : decode cX11_who 16 = .ok (.if_icmp .le 6, 3) := by decide +kernel
theorem dX11_who_22 : decode cX11_who 22 = .ok (.iconst 0, 1) := by decide +kernel
theorem dX11_who_23 : decode cX11_who 23 = .ok (.istore_n 2, 1) := by decide +kernel
theorem dX11_who_24 : decode cX11_who 24 = .ok (.iconst 0, 1) := by decide +kernel
theorem dX11_who_25 : decode cX11_who 25 = .ok (.istore_n 3, 1) := by decide +kernel
theorem dX11_who_26 : decode cX11_who 26 = .ok (.iload_n 3, 1) := by decide +kernel
theorem dX11_who_27 : decode cX11_who 27 = .ok (.iconst 4, 1) := by decide +kernel
theorem dX11_who_28 : decode cX11_who 28 = .ok (.if_icmp .ge 50, 3) := by decide +kernel
theorem dX11_who_78 : decode cX11_who 78 = .ok (.iload_n 2, 1) := by decide +kernel
theorem dX11_who_79 : decode cX11_who 79 = .ok (.ireturn, 1) := by decide +kernel
theorem dX11_who_31 : decode cX11_who 31 = .ok (.aload_n 0, 1) := by decide +kernel
theorem dX11_who_32 : decode cX11_who 32 = .ok (.iload_n 3, 1) := by decide +kernel
theorem dX11_who_33 : decode cX11_who 33 = .ok (.invokevirtual 152, 3) := by decide +kernel
theorem dX11_who_36 : decode cX11_who 36 = .ok (.ifCond .eq 42, 3) := by decide +kernel
theorem dX11_who_39 : decode cX11_who 39 = .ok (.iload_n 1, 1) := by decide +kernel
theorem dX11_who_40 : decode cX11_who 40 = .ok (.ifCond .ne 16, 3) := by decide +kernel
theorem dX11_who_56 : decode cX11_who 56 = .ok (.aload_n 0, 1) := by decide +kernel
theorem dX11_who_57 : decode cX11_who 57 = .ok (.getfield 33, 3) := by decide +kernel
theorem dX11_who_60 : decode cX11_who 60 = .ok (.invokevirtual 171, 3) := by decide +kernel
theorem dX11_who_63 : decode cX11_who 63 = .ok (.ifCond .eq 9, 3) := by decide +kernel
theorem dX11_who_72 : decode cX11_who 72 = .ok (.iinc 3 1, 3) := by decide +kernel
theorem dX11_who_75 : decode cX11_who 75 = .ok (.goto (-49), 3) := by decide +kernel
theorem dX11_who_66 : decode cX11_who 66 = .ok (.iload_n 2, 1) := by decide +kernel
theorem dX11_who_67 : decode cX11_who 67 = .ok (.iconst 1, 1) := by decide +kernel
theorem dX11_who_68 : decode cX11_who 68 = .ok (.iload_n 3, 1) := by decide +kernel
theorem dX11_who_69 : decode cX11_who 69 = .ok (.ishl, 1) := by decide +kernel
theorem dX11_who_70 : decode cX11_who 70 = .ok (.ior, 1) := by decide +kernel
theorem dX11_who_71 : decode cX11_who 71 = .ok (.istore_n 2, 1) := by decide +kernel
theorem dX11_who_43 : decode cX11_who 43 = .ok (.aload_n 0, 1) := by decide +kernel
theorem dX11_who_44 : decode cX11_who 44 = .ok (.getfield 33, 3) := by decide +kernel
theorem dX11_who_47 : decode cX11_who 47 = .ok (.invokevirtual 168, 3) := by decide +kernel
theorem dX11_who_50 : decode cX11_who 50 = .ok (.ifCond .eq 22, 3) := by decide +kernel
theorem dX11_who_53 : decode cX11_who 53 = .ok (.goto 13, 3) := by decide +kernel
theorem dX11_undo_0 : decode cX11_undo 0 = .ok (.aload_n 0, 1) := by decide +kernel
theorem dX11_undo_1 : decode cX11_undo 1 = .ok (.getfield 19, 3) := by decide +kernel
theorem dX11_undo_4 : decode cX11_undo 4 = .ok (.invokevirtual 185, 3) := by decide +kernel
theorem dX11_undo_7 : decode cX11_undo 7 = .ok (.ifCond .ne 6, 3) := by decide +kernel
theorem dX11_undo_10 : decode cX11_undo 10 = .ok (.bipush (-2), 2) := by decide +kernel
theorem dX11_undo_12 : decode cX11_undo 12 = .ok (.ireturn, 1) := by decide +kernel
theorem dX11_undo_13 : decode cX11_undo 13 = .ok (.aload_n 0, 1) := by decide +kernel
theorem dX11_undo_14 : decode cX11_undo 14 = .ok (.getfield 26, 3) := by decide +kernel
theorem dX11_undo_17 : decode cX11_undo 17 = .ok (.invokevirtual 188, 3) := by decide +kernel
theorem dX11_undo_20 : decode cX11_undo 20 = .ok (.ifCond .eq 13, 3) := by decide +kernel
theorem dX11_undo_33 : decode cX11_undo 33 = .ok (.bipush (-5), 2) := by decide +kernel
theorem dX11_undo_35 : decode cX11_undo 35 = .ok (.ireturn, 1) := by decide +kernel
theorem dX11_undo_23 : decode cX11_undo 23 = .ok (.aload_n 0, 1) := by decide +kernel
theorem dX11_undo_24 : decode cX11_undo 24 = .ok (.getfield 26, 3) := by decide +kernel
theorem dX11_undo_27 : decode cX11_undo 27 = .ok (.getfield 174, 3) := by decide +kernel
theorem dX11_undo_30 : decode cX11_undo 30 = .ok (.goto 5, 3) := by decide +kernel
theorem dX11_anew_0 : decode cX11_anew 0 = .ok (.aload_n 0, 1) := by decide +kernel
theorem dX11_anew_1 : decode cX11_anew 1 = .ok (.getfield 19, 3) := by decide +kernel
theorem dX11_anew_4 : decode cX11_anew 4 = .ok (.invokevirtual 185, 3) := by decide +kernel
theorem dX11_anew_7 : decode cX11_anew 7 = .ok (.ifCond .ne 6, 3) := by decide +kernel
theorem dX11_anew_10 : decode cX11_anew 10 = .ok (.bipush (-2), 2) := by decide +kernel
theorem dX11_anew_12 : decode cX11_anew 12 = .ok (.ireturn, 1) := by decide +kernel
theorem dX11_anew_13 : decode cX11_anew 13 = .ok (.aload_n 0, 1) := by decide +kernel
theorem dX11_anew_14 : decode cX11_anew 14 = .ok (.getfield 26, 3) := by decide +kernel
theorem dX11_anew_17 : decode cX11_anew 17 = .ok (.getfield 174, 3) := by decide +kernel
theorem dX11_anew_20 : decode cX11_anew 20 = .ok (.istore_n 1, 1) := by decide +kernel
theorem dX11_anew_21 : decode cX11_anew 21 = .ok (.aload_n 0, 1) := by decide +kernel
theorem dX11_anew_22 : decode cX11_anew 22 = .ok (.getfield 26, 3) := by decide +kernel
theorem dX11_anew_25 : decode cX11_anew 25 = .ok (.aload_n 0, 1) := by decide +kernel
theorem dX11_anew_26 : decode cX11_anew 26 = .ok (.getfield 19, 3) := by decide +kernel
theorem dX11_anew_29 : decode cX11_anew 29 = .ok (.invokevirtual 110, 3) := by decide +kernel
theorem dX11_anew_32 : decode cX11_anew 32 = .ok (.iload_n 1, 1) := by decide +kernel
theorem dX11_anew_33 : decode cX11_anew 33 = .ok (.ireturn, 1) := by decide +kernel
theorem dX11_would_0 : decode cX11_would 0 = .ok (.aload_n 0, 1) := by decide +kernel
theorem dX11_would_1 : decode cX11_would 1 = .ok (.iload_n 1, 1) := by decide +kernel
theorem dX11_would_2 : decode cX11_would 2 = .ok (.iload_n 2, 1) := by decide +kernel
theorem dX11_would_3 : decode cX11_would 3 = .ok (.invokevirtual 191, 3) := by decide +kernel
theorem dX11_would_6 : decode cX11_would 6 = .ok (.istore_n 3, 1) := by decide +kernel
theorem dX11_would_7 : decode cX11_would 7 = .ok (.iload_n 3, 1) := by decide +kernel
theorem dX11_would_8 : decode cX11_would 8 = .ok (.ifCond .eq 5, 3) := by decide +kernel
theorem dX11_would_11 : decode cX11_would 11 = .ok (.iload_n 3, 1) := by decide +kernel
theorem dX11_would_12 : decode cX11_would 12 = .ok (.ireturn, 1) := by decide +kernel
theorem dX11_would_13 : decode cX11_would 13 = .ok (.aload_n 0, 1) := by decide +kernel
theorem dX11_would_14 : decode cX11_would 14 = .ok (.iload_n 1, 1) := by decide +kernel
theorem dX11_would_15 : decode cX11_would 15 = .ok (.invokevirtual 194, 3) := by decide +kernel
theorem dX11_would_18 : decode cX11_would 18 = .ok (.aload_n 0, 1) := by decide +kernel
theorem dX11_would_19 : decode cX11_would 19 = .ok (.getfield 33, 3) := by decide +kernel
theorem dX11_would_22 : decode cX11_would 22 = .ok (.getfield 155, 3) := by decide +kernel
theorem dX11_would_25 : decode cX11_would 25 = .ok (.ireturn, 1) := by decide +kernel
theorem dX11_think_0 : decode cX11_think 0 = .ok (.aload_n 0, 1) := by decide +kernel
theorem dX11_think_1 : decode cX11_think 1 = .ok (.iload_n 1, 1) := by decide +kernel
theorem dX11_think_2 : decode cX11_think 2 = .ok (.iload_n 2, 1) := by decide +kernel
theorem dX11_think_3 : decode cX11_think 3 = .ok (.invokevirtual 191, 3) := by decide +kernel
theorem dX11_think_6 : decode cX11_think 6 = .ok (.istore_n 3, 1) := by decide +kernel
theorem dX11_think_7 : decode cX11_think 7 = .ok (.iload_n 3, 1) := by decide +kernel
theorem dX11_think_8 : decode cX11_think 8 = .ok (.ifCond .eq 5, 3) := by decide +kernel
theorem dX11_think_11 : decode cX11_think 11 = .ok (.iload_n 3, 1) := by decide +kernel
theorem dX11_think_12 : decode cX11_think 12 = .ok (.ireturn, 1) := by decide +kernel
theorem dX11_think_13 : decode cX11_think 13 = .ok (.aload_n 0, 1) := by decide +kernel
theorem dX11_think_14 : decode cX11_think 14 = .ok (.iload_n 1, 1) := by decide +kernel
theorem dX11_think_15 : decode cX11_think 15 = .ok (.invokevirtual 194, 3) := by decide +kernel
theorem dX11_think_18 : decode cX11_think 18 = .ok (.aload_n 0, 1) := by decide +kernel
theorem dX11_think_19 : decode cX11_think 19 = .ok (.getfield 33, 3) := by decide +kernel
theorem dX11_think_22 : decode cX11_think 22 = .ok (.getfield 158, 3) := by decide +kernel
theorem dX11_think_25 : decode cX11_think 25 = .ok (.ireturn, 1) := by decide +kernel
theorem dX11_knows_0 : decode cX11_knows 0 = .ok (.aload_n 0, 1) := by decide +kernel
theorem dX11_knows_1 : decode cX11_knows 1 = .ok (.iload_n 1, 1) := by decide +kernel
theorem dX11_knows_2 : decode cX11_knows 2 = .ok (.iload_n 2, 1) := by decide +kernel
theorem dX11_knows_3 : decode cX11_knows 3 = .ok (.invokevirtual 191, 3) := by decide +kernel
theorem dX11_knows_6 : decode cX11_knows 6 = .ok (.istore_n 3, 1) := by decide +kernel
theorem dX11_knows_7 : decode cX11_knows 7 = .ok (.iload_n 3, 1) := by decide +kernel
theorem dX11_knows_8 : decode cX11_knows 8 = .ok (.ifCond .eq 7, 3) := by decide +kernel
theorem dX11_knows_11 : decode cX11_knows 11 = .ok (.iload_n 3, 1) := by decide +kernel
theorem dX11_knows_12 : decode cX11_knows 12 = .ok (.goto 9, 3) := by decide +kernel
theorem dX11_knows_21 : decode cX11_knows 21 = .ok (.ireturn, 1) := by decide +kernel
theorem dX11_knows_15 : decode cX11_knows 15 = .ok (.aload_n 0, 1) := by decide +kernel
theorem dX11_knows_16 : decode cX11_knows 16 = .ok (.iload_n 1, 1) := by decide +kernel
theorem dX11_knows_17 : decode cX11_knows 17 = .ok (.iconst 1, 1) := by decide +kernel
theorem dX11_knows_18 : decode cX11_knows 18 = .ok (.invokevirtual 197, 3) := by decide +kernel
theorem dX11_loses_0 : decode cX11_loses 0 = .ok (.aload_n 0, 1) := by decide +kernel
theorem dX11_loses_1 : decode cX11_loses 1 = .ok (.iload_n 1, 1) := by decide +kernel
theorem dX11_loses_2 : decode cX11_loses 2 = .ok (.iload_n 2, 1) := by decide +kernel
theorem dX11_loses_3 : decode cX11_loses 3 = .ok (.invokevirtual 191, 3) := by decide +kernel
theorem dX11_loses_6 : decode cX11_loses 6 = .ok (.istore_n 3, 1) := by decide +kernel
theorem dX11_loses_7 : decode cX11_loses 7 = .ok (.iload_n 3, 1) := by decide +kernel
theorem dX11_loses_8 : decode cX11_loses 8 = .ok (.ifCond .eq 7, 3) := by decide +kernel
theorem dX11_loses_11 : decode cX11_loses 11 = .ok (.iload_n 3, 1) := by decide +kernel
theorem dX11_loses_12 : decode cX11_loses 12 = .ok (.goto 9, 3) := by decide +kernel
theorem dX11_loses_21 : decode cX11_loses 21 = .ok (.ireturn, 1) := by decide +kernel
theorem dX11_loses_15 : decode cX11_loses 15 = .ok (.aload_n 0, 1) := by decide +kernel
theorem dX11_loses_16 : decode cX11_loses 16 = .ok (.iload_n 1, 1) := by decide +kernel
theorem dX11_loses_17 : decode cX11_loses 17 = .ok (.iconst 0, 1) := by decide +kernel
theorem dX11_loses_18 : decode cX11_loses 18 = .ok (.invokevirtual 197, 3) := by decide +kernel
theorem dX11_doubts_0 : decode cX11_doubts 0 = .ok (.aload_n 0, 1) := by decide +kernel
theorem dX11_doubts_1 : decode cX11_doubts 1 = .ok (.iload_n 1, 1) := by decide +kernel
theorem dX11_doubts_2 : decode cX11_doubts 2 = .ok (.iload_n 2, 1) := by decide +kernel
theorem dX11_doubts_3 : decode cX11_doubts 3 = .ok (.invokevirtual 191, 3) := by decide +kernel
theorem dX11_doubts_6 : decode cX11_doubts 6 = .ok (.istore_n 3, 1) := by decide +kernel
theorem dX11_doubts_7 : decode cX11_doubts 7 = .ok (.iload_n 3, 1) := by decide +kernel
theorem dX11_doubts_8 : decode cX11_doubts 8 = .ok (.ifCond .eq 5, 3) := by decide +kernel
theorem dX11_doubts_11 : decode cX11_doubts 11 = .ok (.iload_n 3, 1) := by decide +kernel
theorem dX11_doubts_12 : decode cX11_doubts 12 = .ok (.ireturn, 1) := by decide +kernel
theorem dX11_doubts_13 : decode cX11_doubts 13 = .ok (.aload_n 0, 1) := by decide +kernel
theorem dX11_doubts_14 : decode cX11_doubts 14 = .ok (.getfield 33, 3) := by decide +kernel
theorem dX11_doubts_17 : decode cX11_doubts 17 = .ok (.invokevirtual 164, 3) := by decide +kernel
theorem dX11_doubts_20 : decode cX11_doubts 20 = .ok (.istore 4, 2) := by decide +kernel
theorem dX11_doubts_22 : decode cX11_doubts 22 = .ok (.iconst 0, 1) := by decide +kernel
theorem dX11_doubts_23 : decode cX11_doubts 23 = .ok (.istore 5, 2) := by decide +kernel
theorem dX11_doubts_25 : decode cX11_doubts 25 = .ok (.iload 5, 2) := by decide +kernel
theorem dX11_doubts_27 : decode cX11_doubts 27 = .ok (.aload_n 0, 1) := by decide +kernel
theorem dX11_doubts_28 : decode cX11_doubts 28 = .ok (.getfield 40, 3) := by decide +kernel
theorem dX11_doubts_31 : decode cX11_doubts 31 = .ok (.iload_n 1, 1) := by decide +kernel
theorem dX11_doubts_32 : decode cX11_doubts 32 = .ok (.invokevirtual 201, 3) := by decide +kernel
theorem dX11_doubts_35 : decode cX11_doubts 35 = .ok (.if_icmp .ge 51, 3) := by decide +kernel
theorem dX11_doubts_86 : decode cX11_doubts 86 = .ok (.iload 4, 2) := by decide +kernel
theorem dX11_doubts_88 : decode cX11_doubts 88 = .ok (.ireturn, 1) := by decide +kernel
theorem dX11_doubts_38 : decode cX11_doubts 38 = .ok (.iload 5, 2) := by decide +kernel
theorem dX11_doubts_40 : decode cX11_doubts 40 = .ok (.bipush 60, 2) := by decide +kernel
theorem dX11_doubts_42 : decode cX11_doubts 42 = .ok (.if_icmp .ge 44, 3) := by decide +kernel
theorem dX11_doubts_45 : decode cX11_doubts 45 = .ok (.aload_n 0, 1) := by decide +kernel
theorem dX11_doubts_46 : decode cX11_doubts 46 = .ok (.getfield 33, 3) := by decide +kernel
theorem dX11_doubts_49 : decode cX11_doubts 49 = .ok (.aload_n 0, 1) := by decide +kernel
theorem dX11_doubts_50 : decode cX11_doubts 50 = .ok (.getfield 19, 3) := by decide +kernel
theorem dX11_doubts_53 : decode cX11_doubts 53 = .ok (.aload_n 0, 1) := by decide +kernel
theorem dX11_doubts_54 : decode cX11_doubts 54 = .ok (.getfield 40, 3) := by decide +kernel
theorem dX11_doubts_57 : decode cX11_doubts 57 = .ok (.iload_n 1, 1) := by decide +kernel
theorem dX11_doubts_58 : decode cX11_doubts 58 = .ok (.iload 5, 2) := by decide +kernel
theorem dX11_doubts_60 : decode cX11_doubts 60 = .ok (.invokevirtual 204, 3) := by decide +kernel
theorem dX11_doubts_63 : decode cX11_doubts 63 = .ok (.invokevirtual 177, 3) := by decide +kernel
theorem dX11_doubts_66 : decode cX11_doubts 66 = .ok (.iload 4, 2) := by decide +kernel
theorem dX11_doubts_68 : decode cX11_doubts 68 = .ok (.aload_n 0, 1) := by decide +kernel
theorem dX11_doubts_69 : decode cX11_doubts 69 = .ok (.getfield 33, 3) := by decide +kernel
theorem dX11_doubts_72 : decode cX11_doubts 72 = .ok (.invokevirtual 164, 3) := by decide +kernel
theorem dX11_doubts_75 : decode cX11_doubts 75 = .ok (.invokestatic 207, 3) := by decide +kernel
theorem dX11_doubts_78 : decode cX11_doubts 78 = .ok (.istore 4, 2) := by decide +kernel
theorem dX11_doubts_80 : decode cX11_doubts 80 = .ok (.iinc 5 1, 3) := by decide +kernel
theorem dX11_doubts_83 : decode cX11_doubts 83 = .ok (.goto (-58), 3) := by decide +kernel
theorem dX11_blur_0 : decode cX11_blur 0 = .ok (.iload_n 2, 1) := by decide +kernel
theorem dX11_blur_1 : decode cX11_blur 1 = .ok (.iconst 1, 1) := by decide +kernel
theorem dX11_blur_2 : decode cX11_blur 2 = .ok (.if_icmp .lt 23, 3) := by decide +kernel
theorem dX11_blur_25 : decode cX11_blur 25 = .ok (.bipush (-2), 2) := by decide +kernel
theorem dX11_blur_27 : decode cX11_blur 27 = .ok (.ireturn, 1) := by decide +kernel
theorem dX11_blur_5 : decode cX11_blur 5 = .ok (.aload_n 0, 1) := by decide +kernel
theorem dX11_blur_6 : decode cX11_blur 6 = .ok (.iload_n 1, 1) := by decide +kernel
theorem dX11_blur_7 : decode cX11_blur 7 = .ok (.iconst 1, 1) := by decide +kernel
theorem dX11_blur_8 : decode cX11_blur 8 = .ok (.iload_n 2, 1) := by decide +kernel
theorem dX11_blur_9 : decode cX11_blur 9 = .ok (.invokevirtual 212, 3) := by decide +kernel
theorem dX11_blur_12 : decode cX11_blur 12 = .ok (.ifCond .eq 13, 3) := by decide +kernel
theorem dX11_blur_15 : decode cX11_blur 15 = .ok (.aload_n 0, 1) := by decide +kernel
theorem dX11_blur_16 : decode cX11_blur 16 = .ok (.getfield 47, 3) := by decide +kernel
theorem dX11_blur_19 : decode cX11_blur 19 = .ok (.invokevirtual 216, 3) := by decide +kernel
theorem dX11_blur_22 : decode cX11_blur 22 = .ok (.goto 5, 3) := by decide +kernel
theorem dX11_blurs_0 : decode cX11_blurs 0 = .ok (.iload_n 2, 1) := by decide +kernel
theorem dX11_blurs_1 : decode cX11_blurs 1 = .ok (.iconst 1, 1) := by decide +kernel
theorem dX11_blurs_2 : decode cX11_blurs 2 = .ok (.if_icmp .lt 24, 3) := by decide +kernel
theorem dX11_blurs_26 : decode cX11_blurs 26 = .ok (.bipush (-2), 2) := by decide +kernel
theorem dX11_blurs_28 : decode cX11_blurs 28 = .ok (.ireturn, 1) := by decide +kernel
theorem dX11_blurs_5 : decode cX11_blurs 5 = .ok (.aload_n 0, 1) := by decide +kernel
theorem dX11_blurs_6 : decode cX11_blurs 6 = .ok (.iload_n 1, 1) := by decide +kernel
theorem dX11_blurs_7 : decode cX11_blurs 7 = .ok (.iconst 1, 1) := by decide +kernel
theorem dX11_blurs_8 : decode cX11_blurs 8 = .ok (.iload_n 2, 1) := by decide +kernel
theorem dX11_blurs_9 : decode cX11_blurs 9 = .ok (.invokevirtual 212, 3) := by decide +kernel
theorem dX11_blurs_12 : decode cX11_blurs 12 = .ok (.ifCond .eq 14, 3) := by decide +kernel
theorem dX11_blurs_15 : decode cX11_blurs 15 = .ok (.aload_n 0, 1) := by decide +kernel
theorem dX11_blurs_16 : decode cX11_blurs 16 = .ok (.getfield 47, 3) := by decide +kernel
theorem dX11_blurs_19 : decode cX11_blurs 19 = .ok (.iload_n 3, 1) := by decide +kernel
theorem dX11_blurs_20 : decode cX11_blurs 20 = .ok (.invokevirtual 219, 3) := by decide +kernel
theorem dX11_blurs_23 : decode cX11_blurs 23 = .ok (.goto 5, 3) := by decide +kernel
theorem dX11_stray_0 : decode cX11_stray 0 = .ok (.aload_n 0, 1) := by decide +kernel
theorem dX11_stray_1 : decode cX11_stray 1 = .ok (.iload_n 1, 1) := by decide +kernel
theorem dX11_stray_2 : decode cX11_stray 2 = .ok (.iconst 2, 1) := by decide +kernel
theorem dX11_stray_3 : decode cX11_stray 3 = .ok (.iconst 0, 1) := by decide +kernel
theorem dX11_stray_4 : decode cX11_stray 4 = .ok (.invokevirtual 212, 3) := by decide +kernel
theorem dX11_stray_7 : decode cX11_stray 7 = .ok (.ifCond .eq 13, 3) := by decide +kernel
theorem dX11_stray_20 : decode cX11_stray 20 = .ok (.bipush (-2), 2) := by decide +kernel
theorem dX11_stray_22 : decode cX11_stray 22 = .ok (.ireturn, 1) := by decide +kernel
theorem dX11_stray_10 : decode cX11_stray 10 = .ok (.aload_n 0, 1) := by decide +kernel
theorem dX11_stray_11 : decode cX11_stray 11 = .ok (.getfield 47, 3) := by decide +kernel
theorem dX11_stray_14 : decode cX11_stray 14 = .ok (.invokevirtual 216, 3) := by decide +kernel
theorem dX11_stray_17 : decode cX11_stray 17 = .ok (.goto 5, 3) := by decide +kernel
theorem dX11_strays_0 : decode cX11_strays 0 = .ok (.aload_n 0, 1) := by decide +kernel
theorem dX11_strays_1 : decode cX11_strays 1 = .ok (.iload_n 1, 1) := by decide +kernel
theorem dX11_strays_2 : decode cX11_strays 2 = .ok (.iconst 2, 1) := by decide +kernel
theorem dX11_strays_3 : decode cX11_strays 3 = .ok (.iconst 0, 1) := by decide +kernel
theorem dX11_strays_4 : decode cX11_strays 4 = .ok (.invokevirtual 212, 3) := by decide +kernel
theorem dX11_strays_7 : decode cX11_strays 7 = .ok (.ifCond .eq 14, 3) := by decide +kernel
theorem dX11_strays_21 : decode cX11_strays 21 = .ok (.bipush (-2), 2) := by decide +kernel
theorem dX11_strays_23 : decode cX11_strays 23 = .ok (.ireturn, 1) := by decide +kernel
theorem dX11_strays_10 : decode cX11_strays 10 = .ok (.aload_n 0, 1) := by decide +kernel
theorem dX11_strays_11 : decode cX11_strays 11 = .ok (.getfield 47, 3) := by decide +kernel
theorem dX11_strays_14 : decode cX11_strays 14 = .ok (.iload_n 2, 1) := by decide +kernel
theorem dX11_strays_15 : decode cX11_strays 15 = .ok (.invokevirtual 219, 3) := by decide +kernel
theorem dX11_strays_18 : decode cX11_strays 18 = .ok (.goto 5, 3) := by decide +kernel
theorem dX11_home_0 : decode cX11_home 0 = .ok (.aload_n 0, 1) := by decide +kernel
theorem dX11_home_1 : decode cX11_home 1 = .ok (.iload_n 1, 1) := by decide +kernel
theorem dX11_home_2 : decode cX11_home 2 = .ok (.iconst 3, 1) := by decide +kernel
theorem dX11_home_3 : decode cX11_home 3 = .ok (.iconst 0, 1) := by decide +kernel
theorem dX11_home_4 : decode cX11_home 4 = .ok (.invokevirtual 212, 3) := by decide +kernel
theorem dX11_home_7 : decode cX11_home 7 = .ok (.ifCond .eq 13, 3) := by decide +kernel
theorem dX11_home_20 : decode cX11_home 20 = .ok (.bipush (-2), 2) := by decide +kernel
theorem dX11_home_22 : decode cX11_home 22 = .ok (.ireturn, 1) := by decide +kernel
theorem dX11_home_10 : decode cX11_home 10 = .ok (.aload_n 0, 1) := by decide +kernel
theorem dX11_home_11 : decode cX11_home 11 = .ok (.getfield 47, 3) := by decide +kernel
theorem dX11_home_14 : decode cX11_home 14 = .ok (.invokevirtual 216, 3) := by decide +kernel
theorem dX11_home_17 : decode cX11_home 17 = .ok (.goto 5, 3) := by decide +kernel
theorem dX11_homes_0 : decode cX11_homes 0 = .ok (.aload_n 0, 1) := by decide +kernel
theorem dX11_homes_1 : decode cX11_homes 1 = .ok (.iload_n 1, 1) := by decide +kernel
theorem dX11_homes_2 : decode cX11_homes 2 = .ok (.iconst 3, 1) := by decide +kernel
theorem dX11_homes_3 : decode cX11_homes 3 = .ok (.iconst 0, 1) := by decide +kernel
theorem dX11_homes_4 : decode cX11_homes 4 = .ok (.invokevirtual 212, 3) := by decide +kernel
theorem dX11_homes_7 : decode cX11_homes 7 = .ok (.ifCond .eq 14, 3) := by decide +kernel
theorem dX11_homes_21 : decode cX11_homes 21 = .ok (.bipush (-2), 2) := by decide +kernel
theorem dX11_homes_23 : decode cX11_homes 23 = .ok (.ireturn, 1) := by decide +kernel
theorem dX11_homes_10 : decode cX11_homes 10 = .ok (.aload_n 0, 1) := by decide +kernel
theorem dX11_homes_11 : decode cX11_homes 11 = .ok (.getfield 47, 3) := by decide +kernel
theorem dX11_homes_14 : decode cX11_homes 14 = .ok (.iload_n 2, 1) := by decide +kernel
theorem dX11_homes_15 : decode cX11_homes 15 = .ok (.invokevirtual 219, 3) := by decide +kernel
theorem dX11_homes_18 : decode cX11_homes 18 = .ok (.goto 5, 3) := by decide +kernel
theorem dX11_states_0 : decode cX11_states 0 = .ok (.aload_n 0, 1) := by decide +kernel
theorem dX11_states_1 : decode cX11_states 1 = .ok (.iload_n 1, 1) := by decide +kernel
theorem dX11_states_2 : decode cX11_states 2 = .ok (.iconst 0, 1) := by decide +kernel
theorem dX11_states_3 : decode cX11_states 3 = .ok (.iconst 0, 1) := by decide +kernel
theorem dX11_states_4 : decode cX11_states 4 = .ok (.invokevirtual 212, 3) := by decide +kernel
theorem dX11_states_7 : decode cX11_states 7 = .ok (.ifCond .eq 13, 3) := by decide +kernel
theorem dX11_states_20 : decode cX11_states 20 = .ok (.bipush (-2), 2) := by decide +kernel
theorem dX11_states_22 : decode cX11_states 22 = .ok (.ireturn, 1) := by decide +kernel
theorem dX11_states_10 : decode cX11_states 10 = .ok (.aload_n 0, 1) := by decide +kernel
theorem dX11_states_11 : decode cX11_states 11 = .ok (.getfield 47, 3) := by decide +kernel
theorem dX11_states_14 : decode cX11_states 14 = .ok (.getfield 222, 3) := by decide +kernel
theorem dX11_states_17 : decode cX11_states 17 = .ok (.goto 5, 3) := by decide +kernel
theorem dX11_plan_0 : decode cX11_plan 0 = .ok (.aload_n 0, 1) := by decide +kernel
theorem dX11_plan_1 : decode cX11_plan 1 = .ok (.getfield 19, 3) := by decide +kernel
theorem dX11_plan_4 : decode cX11_plan 4 = .ok (.iload_n 1, 1) := by decide +kernel
theorem dX11_plan_5 : decode cX11_plan 5 = .ok (.invokevirtual 140, 3) := by decide +kernel
theorem dX11_plan_8 : decode cX11_plan 8 = .ok (.ifCond .ne 6, 3) := by decide +kernel
theorem dX11_plan_11 : decode cX11_plan 11 = .ok (.bipush (-2), 2) := by decide +kernel
theorem dX11_plan_13 : decode cX11_plan 13 = .ok (.ireturn, 1) := by decide +kernel
theorem dX11_plan_14 : decode cX11_plan 14 = .ok (.aload_n 0, 1) := by decide +kernel
theorem dX11_plan_15 : decode cX11_plan 15 = .ok (.getfield 61, 3) := by decide +kernel
theorem dX11_plan_18 : decode cX11_plan 18 = .ok (.aload_n 0, 1) := by decide +kernel
theorem dX11_plan_19 : decode cX11_plan 19 = .ok (.getfield 19, 3) := by decide +kernel
theorem dX11_plan_22 : decode cX11_plan 22 = .ok (.invokevirtual 224, 3) := by decide +kernel
theorem dX11_plan_25 : decode cX11_plan 25 = .ok (.aload_n 0, 1) := by decide +kernel
theorem dX11_plan_26 : decode cX11_plan 26 = .ok (.getfield 61, 3) := by decide +kernel
theorem dX11_plan_29 : decode cX11_plan 29 = .ok (.iload_n 1, 1) := by decide +kernel
theorem dX11_plan_30 : decode cX11_plan 30 = .ok (.invokevirtual 227, 3) := by decide +kernel
theorem dX11_plan_33 : decode cX11_plan 33 = .ok (.ireturn, 1) := by decide +kernel
theorem dX11_first_0 : decode cX11_first 0 = .ok (.aload_n 0, 1) := by decide +kernel
theorem dX11_first_1 : decode cX11_first 1 = .ok (.getfield 19, 3) := by decide +kernel
theorem dX11_first_4 : decode cX11_first 4 = .ok (.iload_n 1, 1) := by decide +kernel
theorem dX11_first_5 : decode cX11_first 5 = .ok (.invokevirtual 140, 3) := by decide +kernel
theorem dX11_first_8 : decode cX11_first 8 = .ok (.ifCond .ne 6, 3) := by decide +kernel
theorem dX11_first_11 : decode cX11_first 11 = .ok (.bipush (-2), 2) := by decide +kernel
theorem dX11_first_13 : decode cX11_first 13 = .ok (.ireturn, 1) := by decide +kernel
theorem dX11_first_14 : decode cX11_first 14 = .ok (.aload_n 0, 1) := by decide +kernel
theorem dX11_first_15 : decode cX11_first 15 = .ok (.getfield 61, 3) := by decide +kernel
theorem dX11_first_18 : decode cX11_first 18 = .ok (.aload_n 0, 1) := by decide +kernel
theorem dX11_first_19 : decode cX11_first 19 = .ok (.getfield 19, 3) := by decide +kernel
theorem dX11_first_22 : decode cX11_first 22 = .ok (.invokevirtual 224, 3) := by decide +kernel
theorem dX11_first_25 : decode cX11_first 25 = .ok (.aload_n 0, 1) := by decide +kernel
theorem dX11_first_26 : decode cX11_first 26 = .ok (.getfield 61, 3) := by decide +kernel
theorem dX11_first_29 : decode cX11_first 29 = .ok (.iload_n 1, 1) := by decide +kernel
theorem dX11_first_30 : decode cX11_first 30 = .ok (.invokevirtual 230, 3) := by decide +kernel
theorem dX11_first_33 : decode cX11_first 33 = .ok (.ireturn, 1) := by decide +kernel
theorem dX11_hardest_0 : decode cX11_hardest 0 = .ok (.aload_n 0, 1) := by decide +kernel
theorem dX11_hardest_1 : decode cX11_hardest 1 = .ok (.getfield 19, 3) := by decide +kernel
theorem dX11_hardest_4 : decode cX11_hardest 4 = .ok (.invokevirtual 185, 3) := by decide +kernel
theorem dX11_hardest_7 : decode cX11_hardest 7 = .ok (.ifCond .ne 6, 3) := by decide +kernel
theorem dX11_hardest_10 : decode cX11_hardest 10 = .ok (.bipush (-2), 2) := by decide +kernel
theorem dX11_hardest_12 : decode cX11_hardest 12 = .ok (.ireturn, 1) := by decide +kernel
theorem dX11_hardest_13 : decode cX11_hardest 13 = .ok (.aload_n 0, 1) := by decide +kernel
theorem dX11_hardest_14 : decode cX11_hardest 14 = .ok (.getfield 61, 3) := by decide +kernel
theorem dX11_hardest_17 : decode cX11_hardest 17 = .ok (.aload_n 0, 1) := by decide +kernel
theorem dX11_hardest_18 : decode cX11_hardest 18 = .ok (.getfield 19, 3) := by decide +kernel
theorem dX11_hardest_21 : decode cX11_hardest 21 = .ok (.invokevirtual 224, 3) := by decide +kernel
theorem dX11_hardest_24 : decode cX11_hardest 24 = .ok (.iconst (-1), 1) := by decide +kernel
theorem dX11_hardest_25 : decode cX11_hardest 25 = .ok (.istore_n 1, 1) := by decide +kernel
theorem dX11_hardest_26 : decode cX11_hardest 26 = .ok (.iconst 0, 1) := by decide +kernel
theorem dX11_hardest_27 : decode cX11_hardest 27 = .ok (.istore_n 2, 1) := by decide +kernel
theorem dX11_hardest_28 : decode cX11_hardest 28 = .ok (.iload_n 2, 1) := by decide +kernel
theorem dX11_hardest_29 : decode cX11_hardest 29 = .ok (.aload_n 0, 1) := by decide +kernel
theorem dX11_hardest_30 : decode cX11_hardest 30 = .ok (.getfield 19, 3) := by decide +kernel
theorem dX11_hardest_33 : decode cX11_hardest 33 = .ok (.getfield 233, 3) := by decide +kernel
theorem dX11_hardest_36 : decode cX11_hardest 36 = .ok (.if_icmp .ge 41, 3) := by decide +kernel
theorem dX11_hardest_77 : decode cX11_hardest 77 = .ok (.iload_n 1, 1) := by decide +kernel
theorem dX11_hardest_78 : decode cX11_hardest 78 = .ok (.ireturn, 1) := by decide +kernel
theorem dX11_hardest_39 : decode cX11_hardest 39 = .ok (.iconst 0, 1) := by decide +kernel
theorem dX11_hardest_40 : decode cX11_hardest 40 = .ok (.istore_n 3, 1) := by decide +kernel
theorem dX11_hardest_41 : decode cX11_hardest 41 = .ok (.iload_n 3, 1) := by decide +kernel
theorem dX11_hardest_42 : decode cX11_hardest 42 = .ok (.iload_n 2, 1) := by decide +kernel
theorem dX11_hardest_43 : decode cX11_hardest 43 = .ok (.if_icmp .ge 28, 3) := by decide +kernel
theorem dX11_hardest_71 : decode cX11_hardest 71 = .ok (.iinc 2 1, 3) := by decide +kernel
theorem dX11_hardest_74 : decode cX11_hardest 74 = .ok (.goto (-46), 3) := by decide +kernel
theorem dX11_hardest_46 : decode cX11_hardest 46 = .ok (.iload_n 1, 1) := by decide +kernel
theorem dX11_hardest_47 : decode cX11_hardest 47 = .ok (.aload_n 0, 1) := by decide +kernel
theorem dX11_hardest_48 : decode cX11_hardest 48 = .ok (.getfield 61, 3) := by decide +kernel
theorem dX11_hardest_51 : decode cX11_hardest 51 = .ok (.iconst 1, 1) := by decide +kernel
theorem dX11_hardest_52 : decode cX11_hardest 52 = .ok (.iload_n 2, 1) := by decide +kernel
theorem dX11_hardest_53 : decode cX11_hardest 53 = .ok (.ishl, 1) := by decide +kernel
theorem dX11_hardest_54 : decode cX11_hardest 54 = .ok (.iconst 1, 1) := by decide +kernel
theorem dX11_hardest_55 : decode cX11_hardest 55 = .ok (.iload_n 3, 1) := by decide +kernel
theorem dX11_hardest_56 : decode cX11_hardest 56 = .ok (.ishl, 1) := by decide +kernel
theorem dX11_hardest_57 : decode cX11_hardest 57 = .ok (.ior, 1) := by decide +kernel
theorem dX11_hardest_58 : decode cX11_hardest 58 = .ok (.invokevirtual 227, 3) := by decide +kernel
theorem dX11_hardest_61 : decode cX11_hardest 61 = .ok (.invokestatic 207, 3) := by decide +kernel
theorem dX11_hardest_64 : decode cX11_hardest 64 = .ok (.istore_n 1, 1) := by decide +kernel
theorem dX11_hardest_65 : decode cX11_hardest 65 = .ok (.iinc 3 1, 3) := by decide +kernel
theorem dX11_hardest_68 : decode cX11_hardest 68 = .ok (.goto (-27), 3) := by decide +kernel
theorem dX11_alike_0 : decode cX11_alike 0 = .ok (.aload_n 0, 1) := by decide +kernel
theorem dX11_alike_1 : decode cX11_alike 1 = .ok (.iload_n 1, 1) := by decide +kernel
theorem dX11_alike_2 : decode cX11_alike 2 = .ok (.iload_n 2, 1) := by decide +kernel
theorem dX11_alike_3 : decode cX11_alike 3 = .ok (.invokevirtual 236, 3) := by decide +kernel
theorem dX11_alike_6 : decode cX11_alike 6 = .ok (.ifCond .ne 6, 3) := by decide +kernel
theorem dX11_alike_9 : decode cX11_alike 9 = .ok (.bipush (-2), 2) := by decide +kernel
theorem dX11_alike_11 : decode cX11_alike 11 = .ok (.ireturn, 1) := by decide +kernel
theorem dX11_alike_12 : decode cX11_alike 12 = .ok (.aload_n 0, 1) := by decide +kernel
theorem dX11_alike_13 : decode cX11_alike 13 = .ok (.iload_n 1, 1) := by decide +kernel
theorem dX11_alike_14 : decode cX11_alike 14 = .ok (.iload_n 2, 1) := by decide +kernel
theorem dX11_alike_15 : decode cX11_alike 15 = .ok (.invokevirtual 240, 3) := by decide +kernel
theorem dX11_alike_18 : decode cX11_alike 18 = .ok (.ifCond .eq 7, 3) := by decide +kernel
theorem dX11_alike_25 : decode cX11_alike 25 = .ok (.iconst 0, 1) := by decide +kernel
theorem dX11_alike_26 : decode cX11_alike 26 = .ok (.ireturn, 1) := by decide +kernel
theorem dX11_alike_21 : decode cX11_alike 21 = .ok (.iconst 1, 1) := by decide +kernel
theorem dX11_alike_22 : decode cX11_alike 22 = .ok (.goto 4, 3) := by decide +kernel
theorem dX11_kinds_0 : decode cX11_kinds 0 = .ok (.aload_n 0, 1) := by decide +kernel
theorem dX11_kinds_1 : decode cX11_kinds 1 = .ok (.getfield 19, 3) := by decide +kernel
theorem dX11_kinds_4 : decode cX11_kinds 4 = .ok (.invokevirtual 185, 3) := by decide +kernel
theorem dX11_kinds_7 : decode cX11_kinds 7 = .ok (.ifCond .ne 6, 3) := by decide +kernel
theorem dX11_kinds_10 : decode cX11_kinds 10 = .ok (.bipush (-2), 2) := by decide +kernel
theorem dX11_kinds_12 : decode cX11_kinds 12 = .ok (.ireturn, 1) := by decide +kernel
theorem dX11_kinds_13 : decode cX11_kinds 13 = .ok (.iconst 0, 1) := by decide +kernel
theorem dX11_kinds_14 : decode cX11_kinds 14 = .ok (.istore_n 1, 1) := by decide +kernel
theorem dX11_kinds_15 : decode cX11_kinds 15 = .ok (.iconst 0, 1) := by decide +kernel
theorem dX11_kinds_16 : decode cX11_kinds 16 = .ok (.istore_n 2, 1) := by decide +kernel
theorem dX11_kinds_17 : decode cX11_kinds 17 = .ok (.iload_n 2, 1) := by decide +kernel
theorem dX11_kinds_18 : decode cX11_kinds 18 = .ok (.aload_n 0, 1) := by decide +kernel
theorem dX11_kinds_19 : decode cX11_kinds 19 = .ok (.getfield 19, 3) := by decide +kernel
theorem dX11_kinds_22 : decode cX11_kinds 22 = .ok (.getfield 233, 3) := by decide +kernel
theorem dX11_kinds_25 : decode cX11_kinds 25 = .ok (.if_icmp .ge 58, 3) := by decide +kernel
theorem dX11_kinds_83 : decode cX11_kinds 83 = .ok (.iload_n 1, 1) := by decide +kernel
theorem dX11_kinds_84 : decode cX11_kinds 84 = .ok (.ireturn, 1) := by decide +kernel
theorem dX11_kinds_28 : decode cX11_kinds 28 = .ok (.iconst 1, 1) := by decide +kernel
theorem dX11_kinds_29 : decode cX11_kinds 29 = .ok (.istore_n 3, 1) := by decide +kernel
theorem dX11_kinds_30 : decode cX11_kinds 30 = .ok (.iconst 0, 1) := by decide +kernel
theorem dX11_kinds_31 : decode cX11_kinds 31 = .ok (.istore 4, 2) := by decide +kernel
theorem dX11_kinds_33 : decode cX11_kinds 33 = .ok (.iload 4, 2) := by decide +kernel
theorem dX11_kinds_35 : decode cX11_kinds 35 = .ok (.iload_n 2, 1) := by decide +kernel
theorem dX11_kinds_36 : decode cX11_kinds 36 = .ok (.if_icmp .ge 29, 3) := by decide +kernel
theorem dX11_kinds_65 : decode cX11_kinds 65 = .ok (.iload_n 1, 1) := by decide +kernel
theorem dX11_kinds_66 : decode cX11_kinds 66 = .ok (.iload_n 3, 1) := by decide +kernel
theorem dX11_kinds_67 : decode cX11_kinds 67 = .ok (.ifCond .eq 7, 3) := by decide +kernel
theorem dX11_kinds_74 : decode cX11_kinds 74 = .ok (.iconst 0, 1) := by decide +kernel
theorem dX11_kinds_75 : decode cX11_kinds 75 = .ok (.iadd, 1) := by decide +kernel
theorem dX11_kinds_76 : decode cX11_kinds 76 = .ok (.istore_n 1, 1) := by decide +kernel
theorem dX11_kinds_77 : decode cX11_kinds 77 = .ok (.iinc 2 1, 3) := by decide +kernel
theorem dX11_kinds_80 : decode cX11_kinds 80 = .ok (.goto (-63), 3) := by decide +kernel
theorem dX11_kinds_70 : decode cX11_kinds 70 = .ok (.iconst 1, 1) := by decide +kernel
theorem dX11_kinds_71 : decode cX11_kinds 71 = .ok (.goto 4, 3) := by decide +kernel
theorem dX11_kinds_39 : decode cX11_kinds 39 = .ok (.iload_n 3, 1) := by decide +kernel
theorem dX11_kinds_40 : decode cX11_kinds 40 = .ok (.ifCond .eq 25, 3) := by decide +kernel
theorem dX11_kinds_43 : decode cX11_kinds 43 = .ok (.aload_n 0, 1) := by decide +kernel
theorem dX11_kinds_44 : decode cX11_kinds 44 = .ok (.iload 4, 2) := by decide +kernel
theorem dX11_kinds_46 : decode cX11_kinds 46 = .ok (.iload_n 2, 1) := by decide +kernel
theorem dX11_kinds_47 : decode cX11_kinds 47 = .ok (.invokevirtual 240, 3) := by decide +kernel
theorem dX11_kinds_50 : decode cX11_kinds 50 = .ok (.ifCond .ne 7, 3) := by decide +kernel
theorem dX11_kinds_53 : decode cX11_kinds 53 = .ok (.iconst 1, 1) := by decide +kernel
theorem dX11_kinds_54 : decode cX11_kinds 54 = .ok (.goto 4, 3) := by decide +kernel
theorem dX11_kinds_58 : decode cX11_kinds 58 = .ok (.istore_n 3, 1) := by decide +kernel
theorem dX11_kinds_59 : decode cX11_kinds 59 = .ok (.iinc 4 1, 3) := by decide +kernel
theorem dX11_kinds_62 : decode cX11_kinds 62 = .ok (.goto (-29), 3) := by decide +kernel
theorem dX11_kinds_57 : decode cX11_kinds 57 = .ok (.iconst 0, 1) := by decide +kernel
theorem dX11_tells_0 : decode cX11_tells 0 = .ok (.aload_n 0, 1) := by decide +kernel
theorem dX11_tells_1 : decode cX11_tells 1 = .ok (.iload_n 1, 1) := by decide +kernel
theorem dX11_tells_2 : decode cX11_tells 2 = .ok (.iload_n 2, 1) := by decide +kernel
theorem dX11_tells_3 : decode cX11_tells 3 = .ok (.invokevirtual 236, 3) := by decide +kernel
theorem dX11_tells_6 : decode cX11_tells 6 = .ok (.ifCond .ne 6, 3) := by decide +kernel
theorem dX11_tells_9 : decode cX11_tells 9 = .ok (.bipush (-2), 2) := by decide +kernel
theorem dX11_tells_11 : decode cX11_tells 11 = .ok (.ireturn, 1) := by decide +kernel
