theorem dJ0_coder_7d493_0 : decode cJ0_coder_7d493 0 = .ok (.getstatic 38, 3) := by decide +kernel
theorem dJ0_coder_7d493_3 : decode cJ0_coder_7d493 3 = .ok (.ifCond .eq 10, 3) := by decide +kernel
theorem dJ0_coder_7d493_6 : decode cJ0_coder_7d493 6 = .ok (.aload_n 0, 1) := by decide +kernel
theorem dJ0_coder_7d493_7 : decode cJ0_coder_7d493 7 = .ok (.getfield 15, 3) := by decide +kernel
theorem dJ0_coder_7d493_10 : decode cJ0_coder_7d493 10 = .ok (.goto 4, 3) := by decide +kernel
theorem dJ0_coder_7d493_14 : decode cJ0_coder_7d493 14 = .ok (.ireturn, 1) := by decide +kernel
theorem dJ0_isLatin1_aae02_0 : decode cJ0_isLatin1_aae02 0 = .ok (.getstatic 38, 3) := by decide +kernel
theorem dJ0_isLatin1_aae02_3 : decode cJ0_isLatin1_aae02 3 = .ok (.ifCond .eq 14, 3) := by decide +kernel
theorem dJ0_isLatin1_aae02_6 : decode cJ0_isLatin1_aae02 6 = .ok (.aload_n 0, 1) := by decide +kernel
theorem dJ0_isLatin1_aae02_7 : decode cJ0_isLatin1_aae02 7 = .ok (.getfield 15, 3) := by decide +kernel
theorem dJ0_isLatin1_aae02_10 : decode cJ0_isLatin1_aae02 10 = .ok (.ifCond .ne 7, 3) := by decide +kernel
theorem dJ0_isLatin1_aae02_13 : decode cJ0_isLatin1_aae02 13 = .ok (.iconst 1, 1) := by decide +kernel
theorem dJ0_isLatin1_aae02_14 : decode cJ0_isLatin1_aae02 14 = .ok (.goto 4, 3) := by decide +kernel
theorem dJ0_isLatin1_aae02_18 : decode cJ0_isLatin1_aae02 18 = .ok (.ireturn, 1) := by decide +kernel
theorem dJ0_length_8abf5_0 : decode cJ0_length_8abf5 0 = .ok (.aload_n 0, 1) := by decide +kernel
theorem dJ0_length_8abf5_1 : decode cJ0_length_8abf5 1 = .ok (.getfield 9, 3) := by decide +kernel
theorem dJ0_length_8abf5_4 : decode cJ0_length_8abf5 4 = .ok (.arraylength, 1) := by decide +kernel
theorem dJ0_length_8abf5_5 : decode cJ0_length_8abf5 5 = .ok (.aload_n 0, 1) := by decide +kernel
theorem dJ0_length_8abf5_6 : decode cJ0_length_8abf5 6 = .ok (.invokevirtual 335, 3) := by decide +kernel
theorem dJ0_length_8abf5_9 : decode cJ0_length_8abf5 9 = .ok (.ishr, 1) := by decide +kernel
theorem dJ0_length_8abf5_10 : decode cJ0_length_8abf5 10 = .ok (.ireturn, 1) := by decide +kernel
theorem dJ3_checkIndex_8e157_0 : decode cJ3_checkIndex_8e157 0 = .ok (.iload_n 0, 1) := by decide +kernel
theorem dJ3_checkIndex_8e157_1 : decode cJ3_checkIndex_8e157 1 = .ok (.ifCond .lt 8, 3) := by decide +kernel
theorem dJ3_checkIndex_8e157_4 : decode cJ3_checkIndex_8e157 4 = .ok (.iload_n 0, 1) := by decide +kernel
theorem dJ3_checkIndex_8e157_5 : decode cJ3_checkIndex_8e157 5 = .ok (.iload_n 1, 1) := by decide +kernel
theorem dJ3_checkIndex_8e157_6 : decode cJ3_checkIndex_8e157 6 = .ok (.if_icmp .lt 10, 3) := by decide +kernel
theorem dJ3_checkIndex_8e157_16 : decode cJ3_checkIndex_8e157 16 = .ok (.iload_n 0, 1) := by decide +kernel
theorem dJ3_checkIndex_8e157_17 : decode cJ3_checkIndex_8e157 17 = .ok (.ireturn, 1) := by decide +kernel
theorem dJ0_checkIndex_df160_0 : decode cJ0_checkIndex_df160 0 = .ok (.iload_n 0, 1) := by decide +kernel
theorem dJ0_checkIndex_df160_1 : decode cJ0_checkIndex_df160 1 = .ok (.iload_n 1, 1) := by decide +kernel
theorem dJ0_checkIndex_df160_2 : decode cJ0_checkIndex_df160 2 = .ok (.getstatic 1053, 3) := by decide +kernel
theorem dJ0_checkIndex_df160_5 : decode cJ0_checkIndex_df160 5 = .ok (.invokestatic 1059, 3) := by decide +kernel
theorem dJ0_checkIndex_df160_8 : decode cJ0_checkIndex_df160 8 = .ok (.pop, 1) := by decide +kernel
theorem dJ0_checkIndex_df160_9 : decode cJ0_checkIndex_df160 9 = .ok (.return_, 1) := by decide +kernel
theorem dJ1_charAt_3b067_0 : decode cJ1_charAt_3b067 0 = .ok (.iload_n 1, 1) := by decide +kernel
theorem dJ1_charAt_3b067_1 : decode cJ1_charAt_3b067 1 = .ok (.aload_n 0, 1) := by decide +kernel
theorem dJ1_charAt_3b067_2 : decode cJ1_charAt_3b067 2 = .ok (.arraylength, 1) := by decide +kernel
theorem dJ1_charAt_3b067_3 : decode cJ1_charAt_3b067 3 = .ok (.invokestatic 9, 3) := by decide +kernel
theorem dJ1_charAt_3b067_6 : decode cJ1_charAt_3b067 6 = .ok (.aload_n 0, 1) := by decide +kernel
theorem dJ1_charAt_3b067_7 : decode cJ1_charAt_3b067 7 = .ok (.iload_n 1, 1) := by decide +kernel
theorem dJ1_charAt_3b067_8 : decode cJ1_charAt_3b067 8 = .ok (.baload, 1) := by decide +kernel
theorem dJ1_charAt_3b067_9 : decode cJ1_charAt_3b067 9 = .ok (.sipush 255, 3) := by decide +kernel
theorem dJ1_charAt_3b067_12 : decode cJ1_charAt_3b067 12 = .ok (.iand, 1) := by decide +kernel
theorem dJ1_charAt_3b067_13 : decode cJ1_charAt_3b067 13 = .ok (.i2c, 1) := by decide +kernel
theorem dJ1_charAt_3b067_14 : decode cJ1_charAt_3b067 14 = .ok (.ireturn, 1) := by decide +kernel
theorem dJ0_charAt_5068e_0 : decode cJ0_charAt_5068e 0 = .ok (.aload_n 0, 1) := by decide +kernel
theorem dJ0_charAt_5068e_1 : decode cJ0_charAt_5068e 1 = .ok (.invokevirtual 492, 3) := by decide +kernel
theorem dJ0_charAt_5068e_4 : decode cJ0_charAt_5068e 4 = .ok (.ifCond .eq 12, 3) := by decide +kernel
theorem dJ0_charAt_5068e_7 : decode cJ0_charAt_5068e 7 = .ok (.aload_n 0, 1) := by decide +kernel
theorem dJ0_charAt_5068e_8 : decode cJ0_charAt_5068e 8 = .ok (.getfield 9, 3) := by decide +kernel
theorem dJ0_charAt_5068e_11 : decode cJ0_charAt_5068e 11 = .ok (.iload_n 1, 1) := by decide +kernel
theorem dJ0_charAt_5068e_12 : decode cJ0_charAt_5068e 12 = .ok (.invokestatic 495, 3) := by decide +kernel
theorem dJ0_charAt_5068e_15 : decode cJ0_charAt_5068e 15 = .ok (.ireturn, 1) := by decide +kernel
theorem dX4_hasRoom_0 : decode cX4_hasRoom 0 = .ok (.aload_n 0, 1) := by decide +kernel
theorem dX4_hasRoom_1 : decode cX4_hasRoom 1 = .ok (.getfield 26, 3) := by decide +kernel
theorem dX4_hasRoom_4 : decode cX4_hasRoom 4 = .ok (.iload_n 1, 1) := by decide +kernel
theorem dX4_hasRoom_5 : decode cX4_hasRoom 5 = .ok (.iadd, 1) := by decide +kernel
theorem dX4_hasRoom_6 : decode cX4_hasRoom 6 = .ok (.sipush 1000, 3) := by decide +kernel
theorem dX4_hasRoom_9 : decode cX4_hasRoom 9 = .ok (.if_icmp .gt 7, 3) := by decide +kernel
theorem dX4_hasRoom_16 : decode cX4_hasRoom 16 = .ok (.iconst 0, 1) := by decide +kernel
theorem dX4_hasRoom_17 : decode cX4_hasRoom 17 = .ok (.ireturn, 1) := by decide +kernel
theorem dX4_hasRoom_12 : decode cX4_hasRoom 12 = .ok (.iconst 1, 1) := by decide +kernel
theorem dX4_hasRoom_13 : decode cX4_hasRoom 13 = .ok (.goto 4, 3) := by decide +kernel
theorem dX4_append_0 : decode cX4_append 0 = .ok (.bipush 24, 2) := by decide +kernel
theorem dX4_append_2 : decode cX4_append 2 = .ok (.istore_n 2, 1) := by decide +kernel
theorem dX4_append_3 : decode cX4_append 3 = .ok (.iload_n 2, 1) := by decide +kernel
theorem dX4_append_4 : decode cX4_append 4 = .ok (.ifCond .lt 44, 3) := by decide +kernel
theorem dX4_append_48 : decode cX4_append 48 = .ok (.return_, 1) := by decide +kernel
theorem dX4_append_7 : decode cX4_append 7 = .ok (.aload_n 0, 1) := by decide +kernel
theorem dX4_append_8 : decode cX4_append 8 = .ok (.getfield 26, 3) := by decide +kernel
theorem dX4_append_11 : decode cX4_append 11 = .ok (.aload_n 0, 1) := by decide +kernel
theorem dX4_append_12 : decode cX4_append 12 = .ok (.getfield 9, 3) := by decide +kernel
theorem dX4_append_15 : decode cX4_append 15 = .ok (.arraylength, 1) := by decide +kernel
theorem dX4_append_16 : decode cX4_append 16 = .ok (.if_icmp .ge 32, 3) := by decide +kernel
theorem dX4_append_19 : decode cX4_append 19 = .ok (.aload_n 0, 1) := by decide +kernel
theorem dX4_append_20 : decode cX4_append 20 = .ok (.getfield 9, 3) := by decide +kernel
theorem dX4_append_23 : decode cX4_append 23 = .ok (.aload_n 0, 1) := by decide +kernel
theorem dX4_append_24 : decode cX4_append 24 = .ok (.getfield 26, 3) := by decide +kernel
theorem dX4_append_27 : decode cX4_append 27 = .ok (.iload_n 1, 1) := by decide +kernel
theorem dX4_append_28 : decode cX4_append 28 = .ok (.iload_n 2, 1) := by decide +kernel
theorem dX4_append_29 : decode cX4_append 29 = .ok (.ishr, 1) := by decide +kernel
theorem dX4_append_30 : decode cX4_append 30 = .ok (.i2b, 1) := by decide +kernel
theorem dX4_append_31 : decode cX4_append 31 = .ok (.bastore, 1) := by decide +kernel
theorem dX4_append_32 : decode cX4_append 32 = .ok (.aload_n 0, 1) := by decide +kernel
theorem dX4_append_33 : decode cX4_append 33 = .ok (.dup, 1) := by decide +kernel
theorem dX4_append_34 : decode cX4_append 34 = .ok (.getfield 26, 3) := by decide +kernel
theorem dX4_append_37 : decode cX4_append 37 = .ok (.iconst 1, 1) := by decide +kernel
theorem dX4_append_38 : decode cX4_append 38 = .ok (.iadd, 1) := by decide +kernel
theorem dX4_append_39 : decode cX4_append 39 = .ok (.putfield 26, 3) := by decide +kernel
theorem dX4_append_42 : decode cX4_append 42 = .ok (.iinc 2 (-8), 3) := by decide +kernel
theorem dX4_append_45 : decode cX4_append 45 = .ok (.goto (-42), 3) := by decide +kernel
theorem dX4_byteAt_0 : decode cX4_byteAt 0 = .ok (.iload_n 1, 1) := by decide +kernel
theorem dX4_byteAt_1 : decode cX4_byteAt 1 = .ok (.ifCond .lt 29, 3) := by decide +kernel
theorem dX4_byteAt_30 : decode cX4_byteAt 30 = .ok (.iconst 0, 1) := by decide +kernel
theorem dX4_byteAt_31 : decode cX4_byteAt 31 = .ok (.ireturn, 1) := by decide +kernel
theorem dX4_byteAt_4 : decode cX4_byteAt 4 = .ok (.iload_n 1, 1) := by decide +kernel
theorem dX4_byteAt_5 : decode cX4_byteAt 5 = .ok (.aload_n 0, 1) := by decide +kernel
theorem dX4_byteAt_6 : decode cX4_byteAt 6 = .ok (.getfield 26, 3) := by decide +kernel
theorem dX4_byteAt_9 : decode cX4_byteAt 9 = .ok (.if_icmp .ge 21, 3) := by decide +kernel
theorem dX4_byteAt_12 : decode cX4_byteAt 12 = .ok (.iload_n 1, 1) := by decide +kernel
theorem dX4_byteAt_13 : decode cX4_byteAt 13 = .ok (.aload_n 0, 1) := by decide +kernel
theorem dX4_byteAt_14 : decode cX4_byteAt 14 = .ok (.getfield 9, 3) := by decide +kernel
theorem dX4_byteAt_17 : decode cX4_byteAt 17 = .ok (.arraylength, 1) := by decide +kernel
theorem dX4_byteAt_18 : decode cX4_byteAt 18 = .ok (.if_icmp .ge 12, 3) := by decide +kernel
theorem dX4_byteAt_21 : decode cX4_byteAt 21 = .ok (.aload_n 0, 1) := by decide +kernel
theorem dX4_byteAt_22 : decode cX4_byteAt 22 = .ok (.getfield 9, 3) := by decide +kernel
theorem dX4_byteAt_25 : decode cX4_byteAt 25 = .ok (.iload_n 1, 1) := by decide +kernel
theorem dX4_byteAt_26 : decode cX4_byteAt 26 = .ok (.baload, 1) := by decide +kernel
theorem dX4_byteAt_27 : decode cX4_byteAt 27 = .ok (.goto 4, 3) := by decide +kernel
theorem dX4_kindAt_0 : decode cX4_kindAt 0 = .ok (.iload_n 1, 1) := by decide +kernel
theorem dX4_kindAt_1 : decode cX4_kindAt 1 = .ok (.ifCond .lt 20, 3) := by decide +kernel
theorem dX4_kindAt_21 : decode cX4_kindAt 21 = .ok (.iconst 0, 1) := by decide +kernel
theorem dX4_kindAt_22 : decode cX4_kindAt 22 = .ok (.ireturn, 1) := by decide +kernel
theorem dX4_kindAt_4 : decode cX4_kindAt 4 = .ok (.iload_n 1, 1) := by decide +kernel
theorem dX4_kindAt_5 : decode cX4_kindAt 5 = .ok (.aload_n 0, 1) := by decide +kernel
theorem dX4_kindAt_6 : decode cX4_kindAt 6 = .ok (.getfield 26, 3) := by decide +kernel
theorem dX4_kindAt_9 : decode cX4_kindAt 9 = .ok (.if_icmp .ge 12, 3) := by decide +kernel
theorem dX4_kindAt_12 : decode cX4_kindAt 12 = .ok (.iload_n 1, 1) := by decide +kernel
theorem dX4_kindAt_13 : decode cX4_kindAt 13 = .ok (.aload_n 0, 1) := by decide +kernel
theorem dX4_kindAt_14 : decode cX4_kindAt 14 = .ok (.getfield 9, 3) := by decide +kernel
theorem dX4_kindAt_17 : decode cX4_kindAt 17 = .ok (.arraylength, 1) := by decide +kernel
theorem dX4_kindAt_18 : decode cX4_kindAt 18 = .ok (.if_icmp .lt 5, 3) := by decide +kernel
theorem dX4_kindAt_23 : decode cX4_kindAt 23 = .ok (.aload_n 0, 1) := by decide +kernel
theorem dX4_kindAt_24 : decode cX4_kindAt 24 = .ok (.getfield 9, 3) := by decide +kernel
theorem dX4_kindAt_27 : decode cX4_kindAt 27 = .ok (.iload_n 1, 1) := by decide +kernel
theorem dX4_kindAt_28 : decode cX4_kindAt 28 = .ok (.baload, 1) := by decide +kernel
theorem dX4_kindAt_29 : decode cX4_kindAt 29 = .ok (.istore_n 2, 1) := by decide +kernel
theorem dX4_kindAt_30 : decode cX4_kindAt 30 = .ok (.iload_n 2, 1) := by decide +kernel
theorem dX4_kindAt_31 : decode cX4_kindAt 31 = .ok (.bipush 32, 2) := by decide +kernel
theorem dX4_kindAt_33 : decode cX4_kindAt 33 = .ok (.if_icmp .eq 9, 3) := by decide +kernel
theorem dX4_kindAt_42 : decode cX4_kindAt 42 = .ok (.iconst 5, 1) := by decide +kernel
theorem dX4_kindAt_43 : decode cX4_kindAt 43 = .ok (.ireturn, 1) := by decide +kernel
theorem dX4_kindAt_36 : decode cX4_kindAt 36 = .ok (.iload_n 2, 1) := by decide +kernel
theorem dX4_kindAt_37 : decode cX4_kindAt 37 = .ok (.bipush 10, 2) := by decide +kernel
theorem dX4_kindAt_39 : decode cX4_kindAt 39 = .ok (.if_icmp .ne 5, 3) := by decide +kernel
theorem dX4_kindAt_44 : decode cX4_kindAt 44 = .ok (.iload_n 2, 1) := by decide +kernel
theorem dX4_kindAt_45 : decode cX4_kindAt 45 = .ok (.bipush 97, 2) := by decide +kernel
theorem dX4_kindAt_47 : decode cX4_kindAt 47 = .ok (.if_icmp .lt 11, 3) := by decide +kernel
theorem dX4_kindAt_58 : decode cX4_kindAt 58 = .ok (.iload_n 2, 1) := by decide +kernel
theorem dX4_kindAt_59 : decode cX4_kindAt 59 = .ok (.bipush 48, 2) := by decide +kernel
theorem dX4_kindAt_61 : decode cX4_kindAt 61 = .ok (.if_icmp .lt 11, 3) := by decide +kernel
theorem dX4_kindAt_72 : decode cX4_kindAt 72 = .ok (.iload_n 2, 1) := by decide +kernel
theorem dX4_kindAt_73 : decode cX4_kindAt 73 = .ok (.bipush 59, 2) := by decide +kernel
theorem dX4_kindAt_75 : decode cX4_kindAt 75 = .ok (.if_icmp .ne 7, 3) := by decide +kernel
theorem dX4_kindAt_82 : decode cX4_kindAt 82 = .ok (.iconst 4, 1) := by decide +kernel
theorem dX4_kindAt_83 : decode cX4_kindAt 83 = .ok (.ireturn, 1) := by decide +kernel
theorem dX4_kindAt_78 : decode cX4_kindAt 78 = .ok (.iconst 3, 1) := by decide +kernel
theorem dX4_kindAt_79 : decode cX4_kindAt 79 = .ok (.goto 4, 3) := by decide +kernel
theorem dX4_kindAt_64 : decode cX4_kindAt 64 = .ok (.iload_n 2, 1) := by decide +kernel
theorem dX4_kindAt_65 : decode cX4_kindAt 65 = .ok (.bipush 57, 2) := by decide +kernel
theorem dX4_kindAt_67 : decode cX4_kindAt 67 = .ok (.if_icmp .gt 5, 3) := by decide +kernel
theorem dX4_kindAt_70 : decode cX4_kindAt 70 = .ok (.iconst 2, 1) := by decide +kernel
theorem dX4_kindAt_71 : decode cX4_kindAt 71 = .ok (.ireturn, 1) := by decide +kernel
theorem dX4_kindAt_50 : decode cX4_kindAt 50 = .ok (.iload_n 2, 1) := by decide +kernel
theorem dX4_kindAt_51 : decode cX4_kindAt 51 = .ok (.bipush 122, 2) := by decide +kernel
theorem dX4_kindAt_53 : decode cX4_kindAt 53 = .ok (.if_icmp .gt 5, 3) := by decide +kernel
theorem dX4_kindAt_56 : decode cX4_kindAt 56 = .ok (.iconst 1, 1) := by decide +kernel
theorem dX4_kindAt_57 : decode cX4_kindAt 57 = .ok (.ireturn, 1) := by decide +kernel
theorem dX4_advance_0 : decode cX4_advance 0 = .ok (.aload_n 0, 1) := by decide +kernel
theorem dX4_advance_1 : decode cX4_advance 1 = .ok (.aload_n 0, 1) := by decide +kernel
theorem dX4_advance_2 : decode cX4_advance 2 = .ok (.getfield 35, 3) := by decide +kernel
theorem dX4_advance_5 : decode cX4_advance 5 = .ok (.putfield 54, 3) := by decide +kernel
theorem dX4_advance_8 : decode cX4_advance 8 = .ok (.iconst 0, 1) := by decide +kernel
theorem dX4_advance_9 : decode cX4_advance 9 = .ok (.istore_n 1, 1) := by decide +kernel
theorem dX4_advance_10 : decode cX4_advance 10 = .ok (.iload_n 1, 1) := by decide +kernel
theorem dX4_advance_11 : decode cX4_advance 11 = .ok (.sipush 1000, 3) := by decide +kernel
theorem dX4_advance_14 : decode cX4_advance 14 = .ok (.if_icmp .ge 31, 3) := by decide +kernel
theorem dX4_advance_45 : decode cX4_advance 45 = .ok (.aload_n 0, 1) := by decide +kernel
theorem dX4_advance_46 : decode cX4_advance 46 = .ok (.aload_n 0, 1) := by decide +kernel
theorem dX4_advance_47 : decode cX4_advance 47 = .ok (.aload_n 0, 1) := by decide +kernel
theorem dX4_advance_48 : decode cX4_advance 48 = .ok (.getfield 54, 3) := by decide +kernel
theorem dX4_advance_51 : decode cX4_advance 51 = .ok (.invokevirtual 57, 3) := by decide +kernel
theorem dX4_advance_54 : decode cX4_advance 54 = .ok (.putfield 41, 3) := by decide +kernel
theorem dX4_advance_57 : decode cX4_advance 57 = .ok (.aload_n 0, 1) := by decide +kernel
theorem dX4_advance_58 : decode cX4_advance 58 = .ok (.aload_n 0, 1) := by decide +kernel
theorem dX4_advance_59 : decode cX4_advance 59 = .ok (.getfield 54, 3) := by decide +kernel
theorem dX4_advance_62 : decode cX4_advance 62 = .ok (.iconst 1, 1) := by decide +kernel
theorem dX4_advance_63 : decode cX4_advance 63 = .ok (.iadd, 1) := by decide +kernel
theorem dX4_advance_64 : decode cX4_advance 64 = .ok (.putfield 35, 3) := by decide +kernel
theorem dX4_advance_67 : decode cX4_advance 67 = .ok (.aload_n 0, 1) := by decide +kernel
theorem dX4_advance_68 : decode cX4_advance 68 = .ok (.aload_n 0, 1) := by decide +kernel
theorem dX4_advance_69 : decode cX4_advance 69 = .ok (.aload_n 0, 1) := by decide +kernel
theorem dX4_advance_70 : decode cX4_advance 70 = .ok (.getfield 54, 3) := by decide +kernel
theorem dX4_advance_73 : decode cX4_advance 73 = .ok (.invokevirtual 61, 3) := by decide +kernel
theorem dX4_advance_76 : decode cX4_advance 76 = .ok (.bipush 48, 2) := by decide +kernel
theorem dX4_advance_78 : decode cX4_advance 78 = .ok (.isub, 1) := by decide +kernel
theorem dX4_advance_79 : decode cX4_advance 79 = .ok (.putfield 64, 3) := by decide +kernel
theorem dX4_advance_82 : decode cX4_advance 82 = .ok (.aload_n 0, 1) := by decide +kernel
theorem dX4_advance_83 : decode cX4_advance 83 = .ok (.getfield 41, 3) := by decide +kernel
theorem dX4_advance_86 : decode cX4_advance 86 = .ok (.iconst 1, 1) := by decide +kernel
theorem dX4_advance_87 : decode cX4_advance 87 = .ok (.if_icmp .eq 11, 3) := by decide +kernel
theorem dX4_advance_98 : decode cX4_advance 98 = .ok (.iconst 1, 1) := by decide +kernel
theorem dX4_advance_99 : decode cX4_advance 99 = .ok (.goto 4, 3) := by decide +kernel
theorem dX4_advance_103 : decode cX4_advance 103 = .ok (.istore_n 1, 1) := by decide +kernel
theorem dX4_advance_104 : decode cX4_advance 104 = .ok (.iconst 0, 1) := by decide +kernel
theorem dX4_advance_105 : decode cX4_advance 105 = .ok (.istore_n 2, 1) := by decide +kernel
theorem dX4_advance_106 : decode cX4_advance 106 = .ok (.iload_n 2, 1) := by decide +kernel
theorem dX4_advance_107 : decode cX4_advance 107 = .ok (.sipush 1000, 3) := by decide +kernel
theorem dX4_advance_110 : decode cX4_advance 110 = .ok (.if_icmp .ge 66, 3) := by decide +kernel
theorem dX4_advance_176 : decode cX4_advance 176 = .ok (.return_, 1) := by decide +kernel
theorem dX4_advance_113 : decode cX4_advance 113 = .ok (.iload_n 1, 1) := by decide +kernel
theorem dX4_advance_114 : decode cX4_advance 114 = .ok (.ifCond .eq 62, 3) := by decide +kernel
theorem dX4_advance_117 : decode cX4_advance 117 = .ok (.aload_n 0, 1) := by decide +kernel
theorem dX4_advance_118 : decode cX4_advance 118 = .ok (.aload_n 0, 1) := by decide +kernel
theorem dX4_advance_119 : decode cX4_advance 119 = .ok (.getfield 35, 3) := by decide +kernel
theorem dX4_advance_122 : decode cX4_advance 122 = .ok (.invokevirtual 57, 3) := by decide +kernel
theorem dX4_advance_125 : decode cX4_advance 125 = .ok (.aload_n 0, 1) := by decide +kernel
theorem dX4_advance_126 : decode cX4_advance 126 = .ok (.getfield 41, 3) := by decide +kernel
theorem dX4_advance_129 : decode cX4_advance 129 = .ok (.if_icmp .ne 47, 3) := by decide +kernel
theorem dX4_advance_132 : decode cX4_advance 132 = .ok (.aload_n 0, 1) := by decide +kernel
theorem dX4_advance_133 : decode cX4_advance 133 = .ok (.ldc 67, 2) := by decide +kernel
theorem dX4_advance_135 : decode cX4_advance 135 = .ok (.aload_n 0, 1) := by decide +kernel
theorem dX4_advance_136 : decode cX4_advance 136 = .ok (.getfield 64, 3) := by decide +kernel
theorem dX4_advance_139 : decode cX4_advance 139 = .ok (.bipush 10, 2) := by decide +kernel
theorem dX4_advance_141 : decode cX4_advance 141 = .ok (.imul, 1) := by decide +kernel
theorem dX4_advance_142 : decode cX4_advance 142 = .ok (.aload_n 0, 1) := by decide +kernel
theorem dX4_advance_143 : decode cX4_advance 143 = .ok (.aload_n 0, 1) := by decide +kernel
theorem dX4_advance_144 : decode cX4_advance 144 = .ok (.getfield 35, 3) := by decide +kernel
theorem dX4_advance_147 : decode cX4_advance 147 = .ok (.invokevirtual 61, 3) := by decide +kernel
theorem dX4_advance_150 : decode cX4_advance 150 = .ok (.iadd, 1) := by decide +kernel
theorem dX4_advance_151 : decode cX4_advance 151 = .ok (.bipush 48, 2) := by decide +kernel
theorem dX4_advance_153 : decode cX4_advance 153 = .ok (.isub, 1) := by decide +kernel
theorem dX4_advance_154 : decode cX4_advance 154 = .ok (.invokestatic 68, 3) := by decide +kernel
theorem dX4_advance_157 : decode cX4_advance 157 = .ok (.putfield 64, 3) := by decide +kernel
theorem dX4_advance_160 : decode cX4_advance 160 = .ok (.aload_n 0, 1) := by decide +kernel
theorem dX4_advance_161 : decode cX4_advance 161 = .ok (.dup, 1) := by decide +kernel
theorem dX4_advance_162 : decode cX4_advance 162 = .ok (.getfield 35, 3) := by decide +kernel
theorem dX4_advance_165 : decode cX4_advance 165 = .ok (.iconst 1, 1) := by decide +kernel
theorem dX4_advance_166 : decode cX4_advance 166 = .ok (.iadd, 1) := by decide +kernel
theorem dX4_advance_167 : decode cX4_advance 167 = .ok (.putfield 35, 3) := by decide +kernel
theorem dX4_advance_170 : decode cX4_advance 170 = .ok (.iinc 2 1, 3) := by decide +kernel
theorem dX4_advance_173 : decode cX4_advance 173 = .ok (.goto (-67), 3) := by decide +kernel
theorem dX4_advance_90 : decode cX4_advance 90 = .ok (.aload_n 0, 1) := by decide +kernel
theorem dX4_advance_91 : decode cX4_advance 91 = .ok (.getfield 41, 3) := by decide +kernel
theorem dX4_advance_94 : decode cX4_advance 94 = .ok (.iconst 2, 1) := by decide +kernel
theorem dX4_advance_95 : decode cX4_advance 95 = .ok (.if_icmp .ne 7, 3) := by decide +kernel
theorem dX4_advance_102 : decode cX4_advance 102 = .ok (.iconst 0, 1) := by decide +kernel
theorem dX4_advance_17 : decode cX4_advance 17 = .ok (.aload_n 0, 1) := by decide +kernel
theorem dX4_advance_18 : decode cX4_advance 18 = .ok (.aload_n 0, 1) := by decide +kernel
theorem dX4_advance_19 : decode cX4_advance 19 = .ok (.getfield 54, 3) := by decide +kernel
theorem dX4_advance_22 : decode cX4_advance 22 = .ok (.invokevirtual 57, 3) := by decide +kernel
theorem dX4_advance_25 : decode cX4_advance 25 = .ok (.iconst 5, 1) := by decide +kernel
theorem dX4_advance_26 : decode cX4_advance 26 = .ok (.if_icmp .ne 19, 3) := by decide +kernel
theorem dX4_advance_29 : decode cX4_advance 29 = .ok (.aload_n 0, 1) := by decide +kernel
theorem dX4_advance_30 : decode cX4_advance 30 = .ok (.dup, 1) := by decide +kernel
theorem dX4_advance_31 : decode cX4_advance 31 = .ok (.getfield 54, 3) := by decide +kernel
theorem dX4_advance_34 : decode cX4_advance 34 = .ok (.iconst 1, 1) := by decide +kernel
theorem dX4_advance_35 : decode cX4_advance 35 = .ok (.iadd, 1) := by decide +kernel
theorem dX4_advance_36 : decode cX4_advance 36 = .ok (.putfield 54, 3) := by decide +kernel
theorem dX4_advance_39 : decode cX4_advance 39 = .ok (.iinc 1 1, 3) := by decide +kernel
theorem dX4_advance_42 : decode cX4_advance 42 = .ok (.goto (-32), 3) := by decide +kernel
theorem dX4_refuse_0 : decode cX4_refuse 0 = .ok (.aload_n 0, 1) := by decide +kernel
theorem dX4_refuse_1 : decode cX4_refuse 1 = .ok (.iload_n 1, 1) := by decide +kernel
theorem dX4_refuse_2 : decode cX4_refuse 2 = .ok (.putfield 32, 3) := by decide +kernel
theorem dX4_refuse_5 : decode cX4_refuse 5 = .ok (.aload_n 0, 1) := by decide +kernel
theorem dX4_refuse_6 : decode cX4_refuse 6 = .ok (.aload_n 0, 1) := by decide +kernel
theorem dX4_refuse_7 : decode cX4_refuse 7 = .ok (.getfield 54, 3) := by decide +kernel
theorem dX4_refuse_10 : decode cX4_refuse 10 = .ok (.putfield 15, 3) := by decide +kernel
theorem dX4_refuse_13 : decode cX4_refuse 13 = .ok (.iconst 0, 1) := by decide +kernel
theorem dX4_refuse_14 : decode cX4_refuse 14 = .ok (.ireturn, 1) := by decide +kernel
theorem dX4_isWord_0 : decode cX4_isWord 0 = .ok (.aload_n 0, 1) := by decide +kernel
theorem dX4_isWord_1 : decode cX4_isWord 1 = .ok (.getfield 41, 3) := by decide +kernel
theorem dX4_isWord_4 : decode cX4_isWord 4 = .ok (.iconst 1, 1) := by decide +kernel
theorem dX4_isWord_5 : decode cX4_isWord 5 = .ok (.if_icmp .ne 19, 3) := by decide +kernel
theorem dX4_isWord_24 : decode cX4_isWord 24 = .ok (.iconst 0, 1) := by decide +kernel
theorem dX4_isWord_25 : decode cX4_isWord 25 = .ok (.ireturn, 1) := by decide +kernel
theorem dX4_isWord_8 : decode cX4_isWord 8 = .ok (.aload_n 0, 1) := by decide +kernel
theorem dX4_isWord_9 : decode cX4_isWord 9 = .ok (.getfield 35, 3) := by decide +kernel
theorem dX4_isWord_12 : decode cX4_isWord 12 = .ok (.aload_n 0, 1) := by decide +kernel
theorem dX4_isWord_13 : decode cX4_isWord 13 = .ok (.getfield 54, 3) := by decide +kernel
theorem dX4_isWord_16 : decode cX4_isWord 16 = .ok (.isub, 1) := by decide +kernel
theorem dX4_isWord_17 : decode cX4_isWord 17 = .ok (.aload_n 1, 1) := by decide +kernel
theorem dX4_isWord_18 : decode cX4_isWord 18 = .ok (.invokevirtual 74, 3) := by decide +kernel
theorem dX4_isWord_21 : decode cX4_isWord 21 = .ok (.if_icmp .eq 5, 3) := by decide +kernel
theorem dX4_isWord_26 : decode cX4_isWord 26 = .ok (.iconst 0, 1) := by decide +kernel
theorem dX4_isWord_27 : decode cX4_isWord 27 = .ok (.istore_n 2, 1) := by decide +kernel
theorem dX4_isWord_28 : decode cX4_isWord 28 = .ok (.iload_n 2, 1) := by decide +kernel
theorem dX4_isWord_29 : decode cX4_isWord 29 = .ok (.aload_n 1, 1) := by decide +kernel
theorem dX4_isWord_30 : decode cX4_isWord 30 = .ok (.invokevirtual 74, 3) := by decide +kernel
theorem dX4_isWord_33 : decode cX4_isWord 33 = .ok (.if_icmp .ge 29, 3) := by decide +kernel
theorem dX4_isWord_62 : decode cX4_isWord 62 = .ok (.iconst 1, 1) := by decide +kernel
theorem dX4_isWord_63 : decode cX4_isWord 63 = .ok (.ireturn, 1) := by decide +kernel
theorem dX4_isWord_36 : decode cX4_isWord 36 = .ok (.aload_n 0, 1) := by decide +kernel
theorem dX4_isWord_37 : decode cX4_isWord 37 = .ok (.aload_n 0, 1) := by decide +kernel
theorem dX4_isWord_38 : decode cX4_isWord 38 = .ok (.getfield 54, 3) := by decide +kernel
theorem dX4_isWord_41 : decode cX4_isWord 41 = .ok (.iload_n 2, 1) := by decide +kernel
theorem dX4_isWord_42 : decode cX4_isWord 42 = .ok (.iadd, 1) := by decide +kernel
theorem dX4_isWord_43 : decode cX4_isWord 43 = .ok (.invokevirtual 61, 3) := by decide +kernel
theorem dX4_isWord_46 : decode cX4_isWord 46 = .ok (.aload_n 1, 1) := by decide +kernel
theorem dX4_isWord_47 : decode cX4_isWord 47 = .ok (.iload_n 2, 1) := by decide +kernel
theorem dX4_isWord_48 : decode cX4_isWord 48 = .ok (.invokevirtual 79, 3) := by decide +kernel
theorem dX4_isWord_51 : decode cX4_isWord 51 = .ok (.if_icmp .eq 5, 3) := by decide +kernel
theorem dX4_isWord_56 : decode cX4_isWord 56 = .ok (.iinc 2 1, 3) := by decide +kernel
theorem dX4_isWord_59 : decode cX4_isWord 59 = .ok (.goto (-31), 3) := by decide +kernel
theorem dX4_isWord_54 : decode cX4_isWord 54 = .ok (.iconst 0, 1) := by decide +kernel
theorem dX4_isWord_55 : decode cX4_isWord 55 = .ok (.ireturn, 1) := by decide +kernel
theorem dX4_takeWord_0 : decode cX4_takeWord 0 = .ok (.aload_n 0, 1) := by decide +kernel
theorem dX4_takeWord_1 : decode cX4_takeWord 1 = .ok (.aload_n 1, 1) := by decide +kernel
theorem dX4_takeWord_2 : decode cX4_takeWord 2 = .ok (.invokevirtual 83, 3) := by decide +kernel
theorem dX4_takeWord_5 : decode cX4_takeWord 5 = .ok (.ifCond .ne 9, 3) := by decide +kernel
theorem dX4_takeWord_8 : decode cX4_takeWord 8 = .ok (.aload_n 0, 1) := by decide +kernel
theorem dX4_takeWord_9 : decode cX4_takeWord 9 = .ok (.iconst 1, 1) := by decide +kernel
theorem dX4_takeWord_10 : decode cX4_takeWord 10 = .ok (.invokevirtual 87, 3) := by decide +kernel
theorem dX4_takeWord_13 : decode cX4_takeWord 13 = .ok (.ireturn, 1) := by decide +kernel
theorem dX4_takeWord_14 : decode cX4_takeWord 14 = .ok (.aload_n 0, 1) := by decide +kernel
theorem dX4_takeWord_15 : decode cX4_takeWord 15 = .ok (.invokevirtual 38, 3) := by decide +kernel
theorem dX4_takeWord_18 : decode cX4_takeWord 18 = .ok (.iconst 1, 1) := by decide +kernel
theorem dX4_takeWord_19 : decode cX4_takeWord 19 = .ok (.ireturn, 1) := by decide +kernel
theorem dX4_takeNumber_0 : decode cX4_takeNumber 0 = .ok (.aload_n 0, 1) := by decide +kernel
theorem dX4_takeNumber_1 : decode cX4_takeNumber 1 = .ok (.getfield 41, 3) := by decide +kernel
theorem dX4_takeNumber_4 : decode cX4_takeNumber 4 = .ok (.iconst 2, 1) := by decide +kernel
theorem dX4_takeNumber_5 : decode cX4_takeNumber 5 = .ok (.if_icmp .eq 9, 3) := by decide +kernel
theorem dX4_takeNumber_14 : decode cX4_takeNumber 14 = .ok (.aload_n 0, 1) := by decide +kernel
theorem dX4_takeNumber_15 : decode cX4_takeNumber 15 = .ok (.getfield 64, 3) := by decide +kernel
theorem dX4_takeNumber_18 : decode cX4_takeNumber 18 = .ok (.iload_n 1, 1) := by decide +kernel
theorem dX4_takeNumber_19 : decode cX4_takeNumber 19 = .ok (.if_icmp .lt 11, 3) := by decide +kernel
theorem dX4_takeNumber_30 : decode cX4_takeNumber 30 = .ok (.aload_n 0, 1) := by decide +kernel
theorem dX4_takeNumber_31 : decode cX4_takeNumber 31 = .ok (.iconst 2, 1) := by decide +kernel
theorem dX4_takeNumber_32 : decode cX4_takeNumber 32 = .ok (.invokevirtual 87, 3) := by decide +kernel
theorem dX4_takeNumber_35 : decode cX4_takeNumber 35 = .ok (.ireturn, 1) := by decide +kernel
theorem dX4_takeNumber_22 : decode cX4_takeNumber 22 = .ok (.aload_n 0, 1) := by decide +kernel
theorem dX4_takeNumber_23 : decode cX4_takeNumber 23 = .ok (.getfield 64, 3) := by decide +kernel
theorem dX4_takeNumber_26 : decode cX4_takeNumber 26 = .ok (.iload_n 2, 1) := by decide +kernel
theorem dX4_takeNumber_27 : decode cX4_takeNumber 27 = .ok (.if_icmp .le 9, 3) := by decide +kernel
theorem dX4_takeNumber_36 : decode cX4_takeNumber 36 = .ok (.aload_n 0, 1) := by decide +kernel
theorem dX4_takeNumber_37 : decode cX4_takeNumber 37 = .ok (.aload_n 0, 1) := by decide +kernel
theorem dX4_takeNumber_38 : decode cX4_takeNumber 38 = .ok (.getfield 64, 3) := by decide +kernel
theorem dX4_takeNumber_41 : decode cX4_takeNumber 41 = .ok (.putfield 91, 3) := by decide +kernel
theorem dX4_takeNumber_44 : decode cX4_takeNumber 44 = .ok (.aload_n 0, 1) := by decide +kernel
theorem dX4_takeNumber_45 : decode cX4_takeNumber 45 = .ok (.invokevirtual 38, 3) := by decide +kernel
theorem dX4_takeNumber_48 : decode cX4_takeNumber 48 = .ok (.iconst 1, 1) := by decide +kernel
theorem dX4_takeNumber_49 : decode cX4_takeNumber 49 = .ok (.ireturn, 1) := by decide +kernel
theorem dX4_takeNumber_8 : decode cX4_takeNumber 8 = .ok (.aload_n 0, 1) := by decide +kernel
theorem dX4_takeNumber_9 : decode cX4_takeNumber 9 = .ok (.iconst 1, 1) := by decide +kernel
theorem dX4_takeNumber_10 : decode cX4_takeNumber 10 = .ok (.invokevirtual 87, 3) := by decide +kernel
theorem dX4_takeNumber_13 : decode cX4_takeNumber 13 = .ok (.ireturn, 1) := by decide +kernel
theorem dX4_takeWind_0 : decode cX4_takeWind 0 = .ok (.aload_n 0, 1) := by decide +kernel
theorem dX4_takeWind_1 : decode cX4_takeWind 1 = .ok (.ldc 94, 2) := by decide +kernel
theorem dX4_takeWind_3 : decode cX4_takeWind 3 = .ok (.invokevirtual 83, 3) := by decide +kernel
theorem dX4_takeWind_6 : decode cX4_takeWind 6 = .ok (.ifCond .eq 11, 3) := by decide +kernel
theorem dX4_takeWind_17 : decode cX4_takeWind 17 = .ok (.aload_n 0, 1) := by decide +kernel
theorem dX4_takeWind_18 : decode cX4_takeWind 18 = .ok (.ldc 96, 2) := by decide +kernel
theorem dX4_takeWind_20 : decode cX4_takeWind 20 = .ok (.invokevirtual 83, 3) := by decide +kernel
theorem dX4_takeWind_23 : decode cX4_takeWind 23 = .ok (.ifCond .eq 11, 3) := by decide +kernel
theorem dX4_takeWind_34 : decode cX4_takeWind 34 = .ok (.aload_n 0, 1) := by decide +kernel
theorem dX4_takeWind_35 : decode cX4_takeWind 35 = .ok (.ldc 98, 2) := by decide +kernel
theorem dX4_takeWind_37 : decode cX4_takeWind 37 = .ok (.invokevirtual 83, 3) := by decide +kernel
theorem dX4_takeWind_40 : decode cX4_takeWind 40 = .ok (.ifCond .eq 11, 3) := by decide +kernel
theorem dX4_takeWind_51 : decode cX4_takeWind 51 = .ok (.aload_n 0, 1) := by decide +kernel
theorem dX4_takeWind_52 : decode cX4_takeWind 52 = .ok (.ldc 100, 2) := by decide +kernel
theorem dX4_takeWind_54 : decode cX4_takeWind 54 = .ok (.invokevirtual 83, 3) := by decide +kernel
theorem dX4_takeWind_57 : decode cX4_takeWind 57 = .ok (.ifCond .eq 11, 3) := by decide +kernel
theorem dX4_takeWind_68 : decode cX4_takeWind 68 = .ok (.aload_n 0, 1) := by decide +kernel
theorem dX4_takeWind_69 : decode cX4_takeWind 69 = .ok (.iconst 1, 1) := by decide +kernel
theorem dX4_takeWind_70 : decode cX4_takeWind 70 = .ok (.invokevirtual 87, 3) := by decide +kernel
theorem dX4_takeWind_73 : decode cX4_takeWind 73 = .ok (.ireturn, 1) := by decide +kernel
theorem dX4_takeWind_60 : decode cX4_takeWind 60 = .ok (.aload_n 0, 1) := by decide +kernel
theorem dX4_takeWind_61 : decode cX4_takeWind 61 = .ok (.iconst 3, 1) := by decide +kernel
theorem dX4_takeWind_62 : decode cX4_takeWind 62 = .ok (.putfield 91, 3) := by decide +kernel
theorem dX4_takeWind_65 : decode cX4_takeWind 65 = .ok (.goto 9, 3) := by decide +kernel
theorem dX4_takeWind_74 : decode cX4_takeWind 74 = .ok (.aload_n 0, 1) := by decide +kernel
theorem dX4_takeWind_75 : decode cX4_takeWind 75 = .ok (.invokevirtual 38, 3) := by decide +kernel
theorem dX4_takeWind_78 : decode cX4_takeWind 78 = .ok (.iconst 1, 1) := by decide +kernel
theorem dX4_takeWind_79 : decode cX4_takeWind 79 = .ok (.ireturn, 1) := by decide +kernel
theorem dX4_takeWind_43 : decode cX4_takeWind 43 = .ok (.aload_n 0, 1) := by decide +kernel
theorem dX4_takeWind_44 : decode cX4_takeWind 44 = .ok (.iconst 2, 1) := by decide +kernel
theorem dX4_takeWind_45 : decode cX4_takeWind 45 = .ok (.putfield 91, 3) := by decide +kernel
theorem dX4_takeWind_48 : decode cX4_takeWind 48 = .ok (.goto 26, 3) := by decide +kernel
theorem dX4_takeWind_26 : decode cX4_takeWind 26 = .ok (.aload_n 0, 1) := by decide +kernel
theorem dX4_takeWind_27 : decode cX4_takeWind 27 = .ok (.iconst 1, 1) := by decide +kernel
theorem dX4_takeWind_28 : decode cX4_takeWind 28 = .ok (.putfield 91, 3) := by decide +kernel
theorem dX4_takeWind_31 : decode cX4_takeWind 31 = .ok (.goto 43, 3) := by decide +kernel
theorem dX4_takeWind_9 : decode cX4_takeWind 9 = .ok (.aload_n 0, 1) := by decide +kernel
theorem dX4_takeWind_10 : decode cX4_takeWind 10 = .ok (.iconst 0, 1) := by decide +kernel
theorem dX4_takeWind_11 : decode cX4_takeWind 11 = .ok (.putfield 91, 3) := by decide +kernel
theorem dX4_takeWind_14 : decode cX4_takeWind 14 = .ok (.goto 60, 3) := by decide +kernel
theorem dX4_takeSemicolon_0 : decode cX4_takeSemicolon 0 = .ok (.aload_n 0, 1) := by decide +kernel
theorem dX4_takeSemicolon_1 : decode cX4_takeSemicolon 1 = .ok (.getfield 41, 3) := by decide +kernel
theorem dX4_takeSemicolon_4 : decode cX4_takeSemicolon 4 = .ok (.iconst 3, 1) := by decide +kernel
theorem dX4_takeSemicolon_5 : decode cX4_takeSemicolon 5 = .ok (.if_icmp .eq 9, 3) := by decide +kernel
theorem dX4_takeSemicolon_14 : decode cX4_takeSemicolon 14 = .ok (.aload_n 0, 1) := by decide +kernel
theorem dX4_takeSemicolon_15 : decode cX4_takeSemicolon 15 = .ok (.invokevirtual 38, 3) := by decide +kernel
theorem dX4_takeSemicolon_18 : decode cX4_takeSemicolon 18 = .ok (.iconst 1, 1) := by decide +kernel
theorem dX4_takeSemicolon_19 : decode cX4_takeSemicolon 19 = .ok (.ireturn, 1) := by decide +kernel
theorem dX4_takeSemicolon_8 : decode cX4_takeSemicolon 8 = .ok (.aload_n 0, 1) := by decide +kernel
theorem dX4_takeSemicolon_9 : decode cX4_takeSemicolon 9 = .ok (.iconst 1, 1) := by decide +kernel
theorem dX4_takeSemicolon_10 : decode cX4_takeSemicolon 10 = .ok (.invokevirtual 87, 3) := by decide +kernel
theorem dX4_takeSemicolon_13 : decode cX4_takeSemicolon 13 = .ok (.ireturn, 1) := by decide +kernel
theorem dX4_takeWoodLine_0 : decode cX4_takeWoodLine 0 = .ok (.aload_n 0, 1) := by decide +kernel
theorem dX4_takeWoodLine_1 : decode cX4_takeWoodLine 1 = .ok (.ldc 125, 2) := by decide +kernel
theorem dX4_takeWoodLine_3 : decode cX4_takeWoodLine 3 = .ok (.invokevirtual 127, 3) := by decide +kernel
theorem dX4_takeWoodLine_6 : decode cX4_takeWoodLine 6 = .ok (.ifCond .eq 22, 3) := by decide +kernel
theorem dX4_takeWoodLine_28 : decode cX4_takeWoodLine 28 = .ok (.iconst 0, 1) := by decide +kernel
theorem dX4_takeWoodLine_29 : decode cX4_takeWoodLine 29 = .ok (.ireturn, 1) := by decide +kernel
theorem dX4_takeWoodLine_9 : decode cX4_takeWoodLine 9 = .ok (.aload_n 0, 1) := by decide +kernel
theorem dX4_takeWoodLine_10 : decode cX4_takeWoodLine 10 = .ok (.ldc 130, 2) := by decide +kernel
theorem dX4_takeWoodLine_12 : decode cX4_takeWoodLine 12 = .ok (.invokevirtual 127, 3) := by decide +kernel
theorem dX4_takeWoodLine_15 : decode cX4_takeWoodLine 15 = .ok (.ifCond .eq 13, 3) := by decide +kernel
theorem dX4_takeWoodLine_18 : decode cX4_takeWoodLine 18 = .ok (.aload_n 0, 1) := by decide +kernel
theorem dX4_takeWoodLine_19 : decode cX4_takeWoodLine 19 = .ok (.iconst 2, 1) := by decide +kernel
theorem dX4_takeWoodLine_20 : decode cX4_takeWoodLine 20 = .ok (.bipush 10, 2) := by decide +kernel
theorem dX4_takeWoodLine_22 : decode cX4_takeWoodLine 22 = .ok (.invokevirtual 132, 3) := by decide +kernel
theorem dX4_takeWoodLine_25 : decode cX4_takeWoodLine 25 = .ok (.ifCond .ne 5, 3) := by decide +kernel
theorem dX4_takeWoodLine_30 : decode cX4_takeWoodLine 30 = .ok (.aload_n 0, 1) := by decide +kernel
theorem dX4_takeWoodLine_31 : decode cX4_takeWoodLine 31 = .ok (.getfield 22, 3) := by decide +kernel
theorem dX4_takeWoodLine_34 : decode cX4_takeWoodLine 34 = .ok (.aload_n 0, 1) := by decide +kernel
theorem dX4_takeWoodLine_35 : decode cX4_takeWoodLine 35 = .ok (.getfield 91, 3) := by decide +kernel
theorem dX4_takeWoodLine_38 : decode cX4_takeWoodLine 38 = .ok (.putfield 136, 3) := by decide +kernel
theorem dX4_takeWoodLine_41 : decode cX4_takeWoodLine 41 = .ok (.iconst 1, 1) := by decide +kernel
theorem dX4_takeWoodLine_42 : decode cX4_takeWoodLine 42 = .ok (.ireturn, 1) := by decide +kernel
theorem dX4_takeWayLine_0 : decode cX4_takeWayLine 0 = .ok (.aload_n 0, 1) := by decide +kernel
theorem dX4_takeWayLine_1 : decode cX4_takeWayLine 1 = .ok (.invokevirtual 38, 3) := by decide +kernel
theorem dX4_takeWayLine_4 : decode cX4_takeWayLine 4 = .ok (.aload_n 0, 1) := by decide +kernel
theorem dX4_takeWayLine_5 : decode cX4_takeWayLine 5 = .ok (.iconst 0, 1) := by decide +kernel
theorem dX4_takeWayLine_6 : decode cX4_takeWayLine 6 = .ok (.aload_n 0, 1) := by decide +kernel
theorem dX4_takeWayLine_7 : decode cX4_takeWayLine 7 = .ok (.getfield 22, 3) := by decide +kernel
theorem dX4_takeWayLine_10 : decode cX4_takeWayLine 10 = .ok (.getfield 136, 3) := by decide +kernel
theorem dX4_takeWayLine_13 : decode cX4_takeWayLine 13 = .ok (.iconst 1, 1) := by decide +kernel
theorem dX4_takeWayLine_14 : decode cX4_takeWayLine 14 = .ok (.isub, 1) := by decide +kernel
theorem dX4_takeWayLine_15 : decode cX4_takeWayLine 15 = .ok (.invokevirtual 132, 3) := by decide +kernel
theorem dX4_takeWayLine_18 : decode cX4_takeWayLine 18 = .ok (.ifCond .ne 5, 3) := by decide +kernel
theorem dX4_takeWayLine_21 : decode cX4_takeWayLine 21 = .ok (.iconst 0, 1) := by decide +kernel
theorem dX4_takeWayLine_22 : decode cX4_takeWayLine 22 = .ok (.ireturn, 1) := by decide +kernel
theorem dX4_takeWayLine_23 : decode cX4_takeWayLine 23 = .ok (.aload_n 0, 1) := by decide +kernel
theorem dX4_takeWayLine_24 : decode cX4_takeWayLine 24 = .ok (.getfield 91, 3) := by decide +kernel
theorem dX4_takeWayLine_27 : decode cX4_takeWayLine 27 = .ok (.istore_n 1, 1) := by decide +kernel
theorem dX4_takeWayLine_28 : decode cX4_takeWayLine 28 = .ok (.aload_n 0, 1) := by decide +kernel
theorem dX4_takeWayLine_29 : decode cX4_takeWayLine 29 = .ok (.invokevirtual 138, 3) := by decide +kernel
theorem dX4_takeWayLine_32 : decode cX4_takeWayLine 32 = .ok (.ifCond .ne 5, 3) := by decide +kernel
theorem dX4_takeWayLine_35 : decode cX4_takeWayLine 35 = .ok (.iconst 0, 1) := by decide +kernel
theorem dX4_takeWayLine_36 : decode cX4_takeWayLine 36 = .ok (.ireturn, 1) := by decide +kernel
theorem dX4_takeWayLine_37 : decode cX4_takeWayLine 37 = .ok (.aload_n 0, 1) := by decide +kernel
theorem dX4_takeWayLine_38 : decode cX4_takeWayLine 38 = .ok (.getfield 91, 3) := by decide +kernel
theorem dX4_takeWayLine_41 : decode cX4_takeWayLine 41 = .ok (.istore_n 2, 1) := by decide +kernel
theorem dX4_takeWayLine_42 : decode cX4_takeWayLine 42 = .ok (.aload_n 0, 1) := by decide +kernel
theorem dX4_takeWayLine_43 : decode cX4_takeWayLine 43 = .ok (.ldc 141, 2) := by decide +kernel
theorem dX4_takeWayLine_45 : decode cX4_takeWayLine 45 = .ok (.invokevirtual 127, 3) := by decide +kernel
theorem dX4_takeWayLine_48 : decode cX4_takeWayLine 48 = .ok (.ifCond .eq 20, 3) := by decide +kernel
theorem dX4_takeWayLine_68 : decode cX4_takeWayLine 68 = .ok (.iconst 0, 1) := by decide +kernel
theorem dX4_takeWayLine_69 : decode cX4_takeWayLine 69 = .ok (.ireturn, 1) := by decide +kernel
theorem dX4_takeWayLine_51 : decode cX4_takeWayLine 51 = .ok (.aload_n 0, 1) := by decide +kernel
theorem dX4_takeWayLine_52 : decode cX4_takeWayLine 52 = .ok (.iconst 0, 1) := by decide +kernel
theorem dX4_takeWayLine_53 : decode cX4_takeWayLine 53 = .ok (.aload_n 0, 1) := by decide +kernel
theorem dX4_takeWayLine_54 : decode cX4_takeWayLine 54 = .ok (.getfield 22, 3) := by decide +kernel
theorem dX4_takeWayLine_57 : decode cX4_takeWayLine 57 = .ok (.getfield 136, 3) := by decide +kernel
theorem dX4_takeWayLine_60 : decode cX4_takeWayLine 60 = .ok (.iconst 1, 1) := by decide +kernel
theorem dX4_takeWayLine_61 : decode cX4_takeWayLine 61 = .ok (.isub, 1) := by decide +kernel
theorem dX4_takeWayLine_62 : decode cX4_takeWayLine 62 = .ok (.invokevirtual 132, 3) := by decide +kernel
theorem dX4_takeWayLine_65 : decode cX4_takeWayLine 65 = .ok (.ifCond .ne 5, 3) := by decide +kernel
theorem dX4_takeWayLine_70 : decode cX4_takeWayLine 70 = .ok (.aload_n 0, 1) := by decide +kernel
theorem dX4_takeWayLine_71 : decode cX4_takeWayLine 71 = .ok (.getfield 91, 3) := by decide +kernel
theorem dX4_takeWayLine_74 : decode cX4_takeWayLine 74 = .ok (.istore_n 3, 1) := by decide +kernel
theorem dX4_takeWayLine_75 : decode cX4_takeWayLine 75 = .ok (.aload_n 0, 1) := by decide +kernel
theorem dX4_takeWayLine_76 : decode cX4_takeWayLine 76 = .ok (.getfield 22, 3) := by decide +kernel
theorem dX4_takeWayLine_79 : decode cX4_takeWayLine 79 = .ok (.iload_n 1, 1) := by decide +kernel
theorem dX4_takeWayLine_80 : decode cX4_takeWayLine 80 = .ok (.iload_n 2, 1) := by decide +kernel
theorem dX4_takeWayLine_81 : decode cX4_takeWayLine 81 = .ok (.iload_n 3, 1) := by decide +kernel
theorem dX4_takeWayLine_82 : decode cX4_takeWayLine 82 = .ok (.invokevirtual 143, 3) := by decide +kernel
theorem dX4_takeWayLine_85 : decode cX4_takeWayLine 85 = .ok (.aload_n 0, 1) := by decide +kernel
theorem dX4_takeWayLine_86 : decode cX4_takeWayLine 86 = .ok (.ldc 147, 2) := by decide +kernel
theorem dX4_takeWayLine_88 : decode cX4_takeWayLine 88 = .ok (.invokevirtual 83, 3) := by decide +kernel
theorem dX4_takeWayLine_91 : decode cX4_takeWayLine 91 = .ok (.ifCond .eq 21, 3) := by decide +kernel
theorem dX4_takeWayLine_112 : decode cX4_takeWayLine 112 = .ok (.iconst 1, 1) := by decide +kernel
theorem dX4_takeWayLine_113 : decode cX4_takeWayLine 113 = .ok (.ireturn, 1) := by decide +kernel
theorem dX4_takeWayLine_94 : decode cX4_takeWayLine 94 = .ok (.aload_n 0, 1) := by decide +kernel
theorem dX4_takeWayLine_95 : decode cX4_takeWayLine 95 = .ok (.invokevirtual 38, 3) := by decide +kernel
theorem dX4_takeWayLine_98 : decode cX4_takeWayLine 98 = .ok (.aload_n 0, 1) := by decide +kernel
theorem dX4_takeWayLine_99 : decode cX4_takeWayLine 99 = .ok (.getfield 22, 3) := by decide +kernel
theorem dX4_takeWayLine_102 : decode cX4_takeWayLine 102 = .ok (.iload_n 3, 1) := by decide +kernel
theorem dX4_takeWayLine_103 : decode cX4_takeWayLine 103 = .ok (.iload_n 2, 1) := by decide +kernel
theorem dX4_takeWayLine_104 : decode cX4_takeWayLine 104 = .ok (.iconst 2, 1) := by decide +kernel
theorem dX4_takeWayLine_105 : decode cX4_takeWayLine 105 = .ok (.iadd, 1) := by decide +kernel
theorem dX4_takeWayLine_106 : decode cX4_takeWayLine 106 = .ok (.iconst 4, 1) := by decide +kernel
theorem dX4_takeWayLine_107 : decode cX4_takeWayLine 107 = .ok (.irem, 1) := by decide +kernel
theorem dX4_takeWayLine_108 : decode cX4_takeWayLine 108 = .ok (.iload_n 1, 1) := by decide +kernel
theorem dX4_takeWayLine_109 : decode cX4_takeWayLine 109 = .ok (.invokevirtual 143, 3) := by decide +kernel
theorem dX4_takeMarkLine_0 : decode cX4_takeMarkLine 0 = .ok (.aload_n 0, 1) := by decide +kernel
theorem dX4_takeMarkLine_1 : decode cX4_takeMarkLine 1 = .ok (.invokevirtual 38, 3) := by decide +kernel
theorem dX4_takeMarkLine_4 : decode cX4_takeMarkLine 4 = .ok (.aload_n 0, 1) := by decide +kernel
theorem dX4_takeMarkLine_5 : decode cX4_takeMarkLine 5 = .ok (.iconst 0, 1) := by decide +kernel
theorem dX4_takeMarkLine_6 : decode cX4_takeMarkLine 6 = .ok (.aload_n 0, 1) := by decide +kernel
theorem dX4_takeMarkLine_7 : decode cX4_takeMarkLine 7 = .ok (.getfield 22, 3) := by decide +kernel
theorem dX4_takeMarkLine_10 : decode cX4_takeMarkLine 10 = .ok (.getfield 136, 3) := by decide +kernel
theorem dX4_takeMarkLine_13 : decode cX4_takeMarkLine 13 = .ok (.iconst 1, 1) := by decide +kernel
theorem dX4_takeMarkLine_14 : decode cX4_takeMarkLine 14 = .ok (.isub, 1) := by decide +kernel
theorem dX4_takeMarkLine_15 : decode cX4_takeMarkLine 15 = .ok (.invokevirtual 132, 3) := by decide +kernel
theorem dX4_takeMarkLine_18 : decode cX4_takeMarkLine 18 = .ok (.ifCond .ne 5, 3) := by decide +kernel
theorem dX4_takeMarkLine_21 : decode cX4_takeMarkLine 21 = .ok (.iconst 0, 1) := by decide +kernel
theorem dX4_takeMarkLine_22 : decode cX4_takeMarkLine 22 = .ok (.ireturn, 1) := by decide +kernel
theorem dX4_takeMarkLine_23 : decode cX4_takeMarkLine 23 = .ok (.aload_n 0, 1) := by decide +kernel
theorem dX4_takeMarkLine_24 : decode cX4_takeMarkLine 24 = .ok (.getfield 91, 3) := by decide +kernel
theorem dX4_takeMarkLine_27 : decode cX4_takeMarkLine 27 = .ok (.istore_n 1, 1) := by decide +kernel
theorem dX4_takeMarkLine_28 : decode cX4_takeMarkLine 28 = .ok (.aload_n 0, 1) := by decide +kernel
theorem dX4_takeMarkLine_29 : decode cX4_takeMarkLine 29 = .ok (.iconst 0, 1) := by decide +kernel
theorem dX4_takeMarkLine_30 : decode cX4_takeMarkLine 30 = .ok (.bipush 9, 2) := by decide +kernel
theorem dX4_takeMarkLine_32 : decode cX4_takeMarkLine 32 = .ok (.invokevirtual 132, 3) := by decide +kernel
theorem dX4_takeMarkLine_35 : decode cX4_takeMarkLine 35 = .ok (.ifCond .ne 5, 3) := by decide +kernel
theorem dX4_takeMarkLine_38 : decode cX4_takeMarkLine 38 = .ok (.iconst 0, 1) := by decide +kernel
theorem dX4_takeMarkLine_39 : decode cX4_takeMarkLine 39 = .ok (.ireturn, 1) := by decide +kernel
theorem dX4_takeMarkLine_40 : decode cX4_takeMarkLine 40 = .ok (.aload_n 0, 1) := by decide +kernel
theorem dX4_takeMarkLine_41 : decode cX4_takeMarkLine 41 = .ok (.getfield 22, 3) := by decide +kernel
theorem dX4_takeMarkLine_44 : decode cX4_takeMarkLine 44 = .ok (.iload_n 1, 1) := by decide +kernel
theorem dX4_takeMarkLine_45 : decode cX4_takeMarkLine 45 = .ok (.aload_n 0, 1) := by decide +kernel
theorem dX4_takeMarkLine_46 : decode cX4_takeMarkLine 46 = .ok (.getfield 91, 3) := by decide +kernel
theorem dX4_takeMarkLine_49 : decode cX4_takeMarkLine 49 = .ok (.invokevirtual 149, 3) := by decide +kernel
theorem dX4_takeMarkLine_52 : decode cX4_takeMarkLine 52 = .ok (.iconst 1, 1) := by decide +kernel
theorem dX4_takeMarkLine_53 : decode cX4_takeMarkLine 53 = .ok (.ireturn, 1) := by decide +kernel
theorem dX4_takePupilLine_0 : decode cX4_takePupilLine 0 = .ok (.aload_n 0, 1) := by decide +kernel
theorem dX4_takePupilLine_1 : decode cX4_takePupilLine 1 = .ok (.getfield 22, 3) := by decide +kernel
theorem dX4_takePupilLine_4 : decode cX4_takePupilLine 4 = .ok (.getfield 153, 3) := by decide +kernel
theorem dX4_takePupilLine_7 : decode cX4_takePupilLine 7 = .ok (.iconst 4, 1) := by decide +kernel
theorem dX4_takePupilLine_8 : decode cX4_takePupilLine 8 = .ok (.if_icmp .lt 9, 3) := by decide +kernel
theorem dX4_takePupilLine_17 : decode cX4_takePupilLine 17 = .ok (.aload_n 0, 1) := by decide +kernel
theorem dX4_takePupilLine_18 : decode cX4_takePupilLine 18 = .ok (.invokevirtual 38, 3) := by decide +kernel
theorem dX4_takePupilLine_21 : decode cX4_takePupilLine 21 = .ok (.aload_n 0, 1) := by decide +kernel
theorem dX4_takePupilLine_22 : decode cX4_takePupilLine 22 = .ok (.ldc 156, 2) := by decide +kernel
theorem dX4_takePupilLine_24 : decode cX4_takePupilLine 24 = .ok (.invokevirtual 127, 3) := by decide +kernel
theorem dX4_takePupilLine_27 : decode cX4_takePupilLine 27 = .ok (.ifCond .eq 20, 3) := by decide +kernel
theorem dX4_takePupilLine_47 : decode cX4_takePupilLine 47 = .ok (.iconst 0, 1) := by decide +kernel
theorem dX4_takePupilLine_48 : decode cX4_takePupilLine 48 = .ok (.ireturn, 1) := by decide +kernel
theorem dX4_takePupilLine_30 : decode cX4_takePupilLine 30 = .ok (.aload_n 0, 1) := by decide +kernel
theorem dX4_takePupilLine_31 : decode cX4_takePupilLine 31 = .ok (.iconst 0, 1) := by decide +kernel
theorem dX4_takePupilLine_32 : decode cX4_takePupilLine 32 = .ok (.aload_n 0, 1) := by decide +kernel
theorem dX4_takePupilLine_33 : decode cX4_takePupilLine 33 = .ok (.getfield 22, 3) := by decide +kernel
theorem dX4_takePupilLine_36 : decode cX4_takePupilLine 36 = .ok (.getfield 136, 3) := by decide +kernel
theorem dX4_takePupilLine_39 : decode cX4_takePupilLine 39 = .ok (.iconst 1, 1) := by decide +kernel
theorem dX4_takePupilLine_40 : decode cX4_takePupilLine 40 = .ok (.isub, 1) := by decide +kernel
theorem dX4_takePupilLine_41 : decode cX4_takePupilLine 41 = .ok (.invokevirtual 132, 3) := by decide +kernel
theorem dX4_takePupilLine_44 : decode cX4_takePupilLine 44 = .ok (.ifCond .ne 5, 3) := by decide +kernel
theorem dX4_takePupilLine_49 : decode cX4_takePupilLine 49 = .ok (.aload_n 0, 1) := by decide +kernel
theorem dX4_takePupilLine_50 : decode cX4_takePupilLine 50 = .ok (.getfield 91, 3) := by decide +kernel
theorem dX4_takePupilLine_53 : decode cX4_takePupilLine 53 = .ok (.istore_n 1, 1) := by decide +kernel
theorem dX4_takePupilLine_54 : decode cX4_takePupilLine 54 = .ok (.aload_n 0, 1) := by decide +kernel
theorem dX4_takePupilLine_55 : decode cX4_takePupilLine 55 = .ok (.ldc 158, 2) := by decide +kernel
theorem dX4_takePupilLine_57 : decode cX4_takePupilLine 57 = .ok (.invokevirtual 127, 3) := by decide +kernel
theorem dX4_takePupilLine_60 : decode cX4_takePupilLine 60 = .ok (.ifCond .eq 12, 3) := by decide +kernel
theorem dX4_takePupilLine_72 : decode cX4_takePupilLine 72 = .ok (.iconst 0, 1) := by decide +kernel
theorem dX4_takePupilLine_73 : decode cX4_takePupilLine 73 = .ok (.ireturn, 1) := by decide +kernel
theorem dX4_takePupilLine_63 : decode cX4_takePupilLine 63 = .ok (.aload_n 0, 1) := by decide +kernel
theorem dX4_takePupilLine_64 : decode cX4_takePupilLine 64 = .ok (.iconst 0, 1) := by decide +kernel
theorem dX4_takePupilLine_65 : decode cX4_takePupilLine 65 = .ok (.iconst 3, 1) := by decide +kernel
theorem dX4_takePupilLine_66 : decode cX4_takePupilLine 66 = .ok (.invokevirtual 132, 3) := by decide +kernel
theorem dX4_takePupilLine_69 : decode cX4_takePupilLine 69 = .ok (.ifCond .ne 5, 3) := by decide +kernel
theorem dX4_takePupilLine_74 : decode cX4_takePupilLine 74 = .ok (.aload_n 0, 1) := by decide +kernel
theorem dX4_takePupilLine_75 : decode cX4_takePupilLine 75 = .ok (.getfield 91, 3) := by decide +kernel
theorem dX4_takePupilLine_78 : decode cX4_takePupilLine 78 = .ok (.istore_n 2, 1) := by decide +kernel
theorem dX4_takePupilLine_79 : decode cX4_takePupilLine 79 = .ok (.aload_n 0, 1) := by decide +kernel
theorem dX4_takePupilLine_80 : decode cX4_takePupilLine 80 = .ok (.ldc 160, 2) := by decide +kernel
theorem dX4_takePupilLine_82 : decode cX4_takePupilLine 82 = .ok (.invokevirtual 127, 3) := by decide +kernel
theorem dX4_takePupilLine_85 : decode cX4_takePupilLine 85 = .ok (.ifCond .eq 20, 3) := by decide +kernel
theorem dX4_takePupilLine_105 : decode cX4_takePupilLine 105 = .ok (.iconst 0, 1) := by decide +kernel
theorem dX4_takePupilLine_106 : decode cX4_takePupilLine 106 = .ok (.ireturn, 1) := by decide +kernel
theorem dX4_takePupilLine_88 : decode cX4_takePupilLine 88 = .ok (.aload_n 0, 1) := by decide +kernel
theorem dX4_takePupilLine_89 : decode cX4_takePupilLine 89 = .ok (.iconst 0, 1) := by decide +kernel
theorem dX4_takePupilLine_90 : decode cX4_takePupilLine 90 = .ok (.aload_n 0, 1) := by decide +kernel
theorem dX4_takePupilLine_91 : decode cX4_takePupilLine 91 = .ok (.getfield 22, 3) := by decide +kernel
theorem dX4_takePupilLine_94 : decode cX4_takePupilLine 94 = .ok (.getfield 136, 3) := by decide +kernel
theorem dX4_takePupilLine_97 : decode cX4_takePupilLine 97 = .ok (.iconst 1, 1) := by decide +kernel
theorem dX4_takePupilLine_98 : decode cX4_takePupilLine 98 = .ok (.isub, 1) := by decide +kernel
theorem dX4_takePupilLine_99 : decode cX4_takePupilLine 99 = .ok (.invokevirtual 132, 3) := by decide +kernel
theorem dX4_takePupilLine_102 : decode cX4_takePupilLine 102 = .ok (.ifCond .ne 5, 3) := by decide +kernel
theorem dX4_takePupilLine_107 : decode cX4_takePupilLine 107 = .ok (.iconst 1, 1) := by decide +kernel
theorem dX4_takePupilLine_108 : decode cX4_takePupilLine 108 = .ok (.aload_n 0, 1) := by decide +kernel
theorem dX4_takePupilLine_109 : decode cX4_takePupilLine 109 = .ok (.getfield 91, 3) := by decide +kernel
theorem dX4_takePupilLine_112 : decode cX4_takePupilLine 112 = .ok (.ishl, 1) := by decide +kernel
theorem dX4_takePupilLine_113 : decode cX4_takePupilLine 113 = .ok (.istore_n 3, 1) := by decide +kernel
theorem dX4_takePupilLine_114 : decode cX4_takePupilLine 114 = .ok (.iconst 0, 1) := by decide +kernel
theorem dX4_takePupilLine_115 : decode cX4_takePupilLine 115 = .ok (.istore 4, 2) := by decide +kernel
theorem dX4_takePupilLine_117 : decode cX4_takePupilLine 117 = .ok (.iload 4, 2) := by decide +kernel
theorem dX4_takePupilLine_119 : decode cX4_takePupilLine 119 = .ok (.sipush 1000, 3) := by decide +kernel
theorem dX4_takePupilLine_122 : decode cX4_takePupilLine 122 = .ok (.if_icmp .ge 45, 3) := by decide +kernel
theorem dX4_takePupilLine_167 : decode cX4_takePupilLine 167 = .ok (.aload_n 0, 1) := by decide +kernel
theorem dX4_takePupilLine_168 : decode cX4_takePupilLine 168 = .ok (.getfield 22, 3) := by decide +kernel
theorem dX4_takePupilLine_171 : decode cX4_takePupilLine 171 = .ok (.iload_n 1, 1) := by decide +kernel
theorem dX4_takePupilLine_172 : decode cX4_takePupilLine 172 = .ok (.iload_n 2, 1) := by decide +kernel
theorem dX4_takePupilLine_173 : decode cX4_takePupilLine 173 = .ok (.iload_n 3, 1) := by decide +kernel
theorem dX4_takePupilLine_174 : decode cX4_takePupilLine 174 = .ok (.invokevirtual 162, 3) := by decide +kernel
theorem dX4_takePupilLine_177 : decode cX4_takePupilLine 177 = .ok (.iconst 1, 1) := by decide +kernel
theorem dX4_takePupilLine_178 : decode cX4_takePupilLine 178 = .ok (.ireturn, 1) := by decide +kernel
theorem dX4_takePupilLine_125 : decode cX4_takePupilLine 125 = .ok (.aload_n 0, 1) := by decide +kernel
theorem dX4_takePupilLine_126 : decode cX4_takePupilLine 126 = .ok (.getfield 41, 3) := by decide +kernel
theorem dX4_takePupilLine_129 : decode cX4_takePupilLine 129 = .ok (.iconst 2, 1) := by decide +kernel
theorem dX4_takePupilLine_130 : decode cX4_takePupilLine 130 = .ok (.if_icmp .ne 37, 3) := by decide +kernel
theorem dX4_takePupilLine_133 : decode cX4_takePupilLine 133 = .ok (.aload_n 0, 1) := by decide +kernel
theorem dX4_takePupilLine_134 : decode cX4_takePupilLine 134 = .ok (.iconst 0, 1) := by decide +kernel
theorem dX4_takePupilLine_135 : decode cX4_takePupilLine 135 = .ok (.aload_n 0, 1) := by decide +kernel
theorem dX4_takePupilLine_136 : decode cX4_takePupilLine 136 = .ok (.getfield 22, 3) := by decide +kernel
theorem dX4_takePupilLine_139 : decode cX4_takePupilLine 139 = .ok (.getfield 136, 3) := by decide +kernel
theorem dX4_takePupilLine_142 : decode cX4_takePupilLine 142 = .ok (.iconst 1, 1) := by decide +kernel
theorem dX4_takePupilLine_143 : decode cX4_takePupilLine 143 = .ok (.isub, 1) := by decide +kernel
theorem dX4_takePupilLine_144 : decode cX4_takePupilLine 144 = .ok (.invokevirtual 132, 3) := by decide +kernel
theorem dX4_takePupilLine_147 : decode cX4_takePupilLine 147 = .ok (.ifCond .ne 5, 3) := by decide +kernel
theorem dX4_takePupilLine_150 : decode cX4_takePupilLine 150 = .ok (.iconst 0, 1) := by decide +kernel
theorem dX4_takePupilLine_151 : decode cX4_takePupilLine 151 = .ok (.ireturn, 1) := by decide +kernel
theorem dX4_takePupilLine_152 : decode cX4_takePupilLine 152 = .ok (.iload_n 3, 1) := by decide +kernel
theorem dX4_takePupilLine_153 : decode cX4_takePupilLine 153 = .ok (.iconst 1, 1) := by decide +kernel
theorem dX4_takePupilLine_154 : decode cX4_takePupilLine 154 = .ok (.aload_n 0, 1) := by decide +kernel
theorem dX4_takePupilLine_155 : decode cX4_takePupilLine 155 = .ok (.getfield 91, 3) := by decide +kernel
theorem dX4_takePupilLine_158 : decode cX4_takePupilLine 158 = .ok (.ishl, 1) := by decide +kernel
theorem dX4_takePupilLine_159 : decode cX4_takePupilLine 159 = .ok (.ior, 1) := by decide +kernel
theorem dX4_takePupilLine_160 : decode cX4_takePupilLine 160 = .ok (.istore_n 3, 1) := by decide +kernel
theorem dX4_takePupilLine_161 : decode cX4_takePupilLine 161 = .ok (.iinc 4 1, 3) := by decide +kernel
theorem dX4_takePupilLine_164 : decode cX4_takePupilLine 164 = .ok (.goto (-47), 3) := by decide +kernel
theorem dX4_takePupilLine_11 : decode cX4_takePupilLine 11 = .ok (.aload_n 0, 1) := by decide +kernel
theorem dX4_takePupilLine_12 : decode cX4_takePupilLine 12 = .ok (.iconst 3, 1) := by decide +kernel
theorem dX4_takePupilLine_13 : decode cX4_takePupilLine 13 = .ok (.invokevirtual 87, 3) := by decide +kernel
theorem dX4_takePupilLine_16 : decode cX4_takePupilLine 16 = .ok (.ireturn, 1) := by decide +kernel
theorem dX4_takeLessonLine_0 : decode cX4_takeLessonLine 0 = .ok (.aload_n 0, 1) := by decide +kernel
theorem dX4_takeLessonLine_1 : decode cX4_takeLessonLine 1 = .ok (.getfield 22, 3) := by decide +kernel
theorem dX4_takeLessonLine_4 : decode cX4_takeLessonLine 4 = .ok (.getfield 165, 3) := by decide +kernel
theorem dX4_takeLessonLine_7 : decode cX4_takeLessonLine 7 = .ok (.iconst 5, 1) := by decide +kernel
theorem dX4_takeLessonLine_8 : decode cX4_takeLessonLine 8 = .ok (.if_icmp .lt 9, 3) := by decide +kernel
theorem dX4_takeLessonLine_17 : decode cX4_takeLessonLine 17 = .ok (.aload_n 0, 1) := by decide +kernel
theorem dX4_takeLessonLine_18 : decode cX4_takeLessonLine 18 = .ok (.invokevirtual 38, 3) := by decide +kernel
theorem dX4_takeLessonLine_21 : decode cX4_takeLessonLine 21 = .ok (.aload_n 0, 1) := by decide +kernel
theorem dX4_takeLessonLine_22 : decode cX4_takeLessonLine 22 = .ok (.ldc 168, 2) := by decide +kernel
theorem dX4_takeLessonLine_24 : decode cX4_takeLessonLine 24 = .ok (.invokevirtual 83, 3) := by decide +kernel
theorem dX4_takeLessonLine_27 : decode cX4_takeLessonLine 27 = .ok (.istore_n 1, 1) := by decide +kernel
theorem dX4_takeLessonLine_28 : decode cX4_takeLessonLine 28 = .ok (.iload_n 1, 1) := by decide +kernel
theorem dX4_takeLessonLine_29 : decode cX4_takeLessonLine 29 = .ok (.ifCond .ne 12, 3) := by decide +kernel
theorem dX4_takeLessonLine_32 : decode cX4_takeLessonLine 32 = .ok (.aload_n 0, 1) := by decide +kernel
theorem dX4_takeLessonLine_33 : decode cX4_takeLessonLine 33 = .ok (.ldc 158, 2) := by decide +kernel
theorem dX4_takeLessonLine_35 : decode cX4_takeLessonLine 35 = .ok (.invokevirtual 83, 3) := by decide +kernel
theorem dX4_takeLessonLine_38 : decode cX4_takeLessonLine 38 = .ok (.ifCond .eq 65, 3) := by decide +kernel
theorem dX4_takeLessonLine_103 : decode cX4_takeLessonLine 103 = .ok (.aload_n 0, 1) := by decide +kernel
theorem dX4_takeLessonLine_104 : decode cX4_takeLessonLine 104 = .ok (.ldc 173, 2) := by decide +kernel
theorem dX4_takeLessonLine_106 : decode cX4_takeLessonLine 106 = .ok (.invokevirtual 127, 3) := by decide +kernel
theorem dX4_takeLessonLine_109 : decode cX4_takeLessonLine 109 = .ok (.ifCond .eq 20, 3) := by decide +kernel
theorem dX4_takeLessonLine_129 : decode cX4_takeLessonLine 129 = .ok (.iconst 0, 1) := by decide +kernel
theorem dX4_takeLessonLine_130 : decode cX4_takeLessonLine 130 = .ok (.ireturn, 1) := by decide +kernel
theorem dX4_takeLessonLine_112 : decode cX4_takeLessonLine 112 = .ok (.aload_n 0, 1) := by decide +kernel
theorem dX4_takeLessonLine_113 : decode cX4_takeLessonLine 113 = .ok (.iconst 0, 1) := by decide +kernel
theorem dX4_takeLessonLine_114 : decode cX4_takeLessonLine 114 = .ok (.aload_n 0, 1) := by decide +kernel
theorem dX4_takeLessonLine_115 : decode cX4_takeLessonLine 115 = .ok (.getfield 22, 3) := by decide +kernel
theorem dX4_takeLessonLine_118 : decode cX4_takeLessonLine 118 = .ok (.getfield 136, 3) := by decide +kernel
theorem dX4_takeLessonLine_121 : decode cX4_takeLessonLine 121 = .ok (.iconst 1, 1) := by decide +kernel
theorem dX4_takeLessonLine_122 : decode cX4_takeLessonLine 122 = .ok (.isub, 1) := by decide +kernel
theorem dX4_takeLessonLine_123 : decode cX4_takeLessonLine 123 = .ok (.invokevirtual 132, 3) := by decide +kernel
theorem dX4_takeLessonLine_126 : decode cX4_takeLessonLine 126 = .ok (.ifCond .ne 5, 3) := by decide +kernel
theorem dX4_takeLessonLine_131 : decode cX4_takeLessonLine 131 = .ok (.aload_n 0, 1) := by decide +kernel
theorem dX4_takeLessonLine_132 : decode cX4_takeLessonLine 132 = .ok (.getfield 91, 3) := by decide +kernel
theorem dX4_takeLessonLine_135 : decode cX4_takeLessonLine 135 = .ok (.istore_n 2, 1) := by decide +kernel
theorem dX4_takeLessonLine_136 : decode cX4_takeLessonLine 136 = .ok (.aload_n 0, 1) := by decide +kernel
theorem dX4_takeLessonLine_137 : decode cX4_takeLessonLine 137 = .ok (.invokevirtual 138, 3) := by decide +kernel
theorem dX4_takeLessonLine_140 : decode cX4_takeLessonLine 140 = .ok (.ifCond .ne 5, 3) := by decide +kernel
theorem dX4_takeLessonLine_143 : decode cX4_takeLessonLine 143 = .ok (.iconst 0, 1) := by decide +kernel
theorem dX4_takeLessonLine_144 : decode cX4_takeLessonLine 144 = .ok (.ireturn, 1) := by decide +kernel
theorem dX4_takeLessonLine_145 : decode cX4_takeLessonLine 145 = .ok (.aload_n 0, 1) := by decide +kernel
theorem dX4_takeLessonLine_146 : decode cX4_takeLessonLine 146 = .ok (.getfield 22, 3) := by decide +kernel
theorem dX4_takeLessonLine_149 : decode cX4_takeLessonLine 149 = .ok (.iconst 2, 1) := by decide +kernel
theorem dX4_takeLessonLine_150 : decode cX4_takeLessonLine 150 = .ok (.iload_n 2, 1) := by decide +kernel
theorem dX4_takeLessonLine_151 : decode cX4_takeLessonLine 151 = .ok (.aload_n 0, 1) := by decide +kernel
theorem dX4_takeLessonLine_152 : decode cX4_takeLessonLine 152 = .ok (.getfield 91, 3) := by decide +kernel
theorem dX4_takeLessonLine_155 : decode cX4_takeLessonLine 155 = .ok (.invokevirtual 170, 3) := by decide +kernel
theorem dX4_takeLessonLine_158 : decode cX4_takeLessonLine 158 = .ok (.iconst 1, 1) := by decide +kernel
theorem dX4_takeLessonLine_159 : decode cX4_takeLessonLine 159 = .ok (.ireturn, 1) := by decide +kernel
theorem dX4_takeLessonLine_41 : decode cX4_takeLessonLine 41 = .ok (.aload_n 0, 1) := by decide +kernel
theorem dX4_takeLessonLine_42 : decode cX4_takeLessonLine 42 = .ok (.invokevirtual 38, 3) := by decide +kernel
theorem dX4_takeLessonLine_45 : decode cX4_takeLessonLine 45 = .ok (.aload_n 0, 1) := by decide +kernel
theorem dX4_takeLessonLine_46 : decode cX4_takeLessonLine 46 = .ok (.iload_n 1, 1) := by decide +kernel
theorem dX4_takeLessonLine_47 : decode cX4_takeLessonLine 47 = .ok (.ifCond .eq 7, 3) := by decide +kernel
theorem dX4_takeLessonLine_54 : decode cX4_takeLessonLine 54 = .ok (.iconst 1, 1) := by decide +kernel
theorem dX4_takeLessonLine_55 : decode cX4_takeLessonLine 55 = .ok (.iload_n 1, 1) := by decide +kernel
theorem dX4_takeLessonLine_56 : decode cX4_takeLessonLine 56 = .ok (.ifCond .eq 15, 3) := by decide +kernel
theorem dX4_takeLessonLine_71 : decode cX4_takeLessonLine 71 = .ok (.iconst 3, 1) := by decide +kernel
theorem dX4_takeLessonLine_72 : decode cX4_takeLessonLine 72 = .ok (.invokevirtual 132, 3) := by decide +kernel
theorem dX4_takeLessonLine_75 : decode cX4_takeLessonLine 75 = .ok (.ifCond .ne 5, 3) := by decide +kernel
theorem dX4_takeLessonLine_78 : decode cX4_takeLessonLine 78 = .ok (.iconst 0, 1) := by decide +kernel
theorem dX4_takeLessonLine_79 : decode cX4_takeLessonLine 79 = .ok (.ireturn, 1) := by decide +kernel
theorem dX4_takeLessonLine_80 : decode cX4_takeLessonLine 80 = .ok (.aload_n 0, 1) := by decide +kernel
theorem dX4_takeLessonLine_81 : decode cX4_takeLessonLine 81 = .ok (.getfield 22, 3) := by decide +kernel
theorem dX4_takeLessonLine_84 : decode cX4_takeLessonLine 84 = .ok (.iload_n 1, 1) := by decide +kernel
theorem dX4_takeLessonLine_85 : decode cX4_takeLessonLine 85 = .ok (.ifCond .eq 7, 3) := by decide +kernel
theorem dX4_takeLessonLine_92 : decode cX4_takeLessonLine 92 = .ok (.iconst 1, 1) := by decide +kernel
theorem dX4_takeLessonLine_93 : decode cX4_takeLessonLine 93 = .ok (.aload_n 0, 1) := by decide +kernel
theorem dX4_takeLessonLine_94 : decode cX4_takeLessonLine 94 = .ok (.getfield 91, 3) := by decide +kernel
theorem dX4_takeLessonLine_97 : decode cX4_takeLessonLine 97 = .ok (.iconst 0, 1) := by decide +kernel
theorem dX4_takeLessonLine_98 : decode cX4_takeLessonLine 98 = .ok (.invokevirtual 170, 3) := by decide +kernel
theorem dX4_takeLessonLine_101 : decode cX4_takeLessonLine 101 = .ok (.iconst 1, 1) := by decide +kernel
theorem dX4_takeLessonLine_102 : decode cX4_takeLessonLine 102 = .ok (.ireturn, 1) := by decide +kernel
theorem dX4_takeLessonLine_50 : decode cX4_takeLessonLine 50 = .ok (.iconst 0, 1) := by decide +kernel
theorem dX4_takeLessonLine_51 : decode cX4_takeLessonLine 51 = .ok (.goto 4, 3) := by decide +kernel
theorem dX4_takeLessonLine_59 : decode cX4_takeLessonLine 59 = .ok (.aload_n 0, 1) := by decide +kernel
theorem dX4_takeLessonLine_60 : decode cX4_takeLessonLine 60 = .ok (.getfield 22, 3) := by decide +kernel
theorem dX4_takeLessonLine_63 : decode cX4_takeLessonLine 63 = .ok (.getfield 136, 3) := by decide +kernel
theorem dX4_takeLessonLine_66 : decode cX4_takeLessonLine 66 = .ok (.iconst 1, 1) := by decide +kernel
theorem dX4_takeLessonLine_67 : decode cX4_takeLessonLine 67 = .ok (.isub, 1) := by decide +kernel
theorem dX4_takeLessonLine_68 : decode cX4_takeLessonLine 68 = .ok (.goto 4, 3) := by decide +kernel
theorem dX4_takeLessonLine_88 : decode cX4_takeLessonLine 88 = .ok (.iconst 0, 1) := by decide +kernel
theorem dX4_takeLessonLine_89 : decode cX4_takeLessonLine 89 = .ok (.goto 4, 3) := by decide +kernel
theorem dX4_takeLessonLine_11 : decode cX4_takeLessonLine 11 = .ok (.aload_n 0, 1) := by decide +kernel
theorem dX4_takeLessonLine_12 : decode cX4_takeLessonLine 12 = .ok (.iconst 3, 1) := by decide +kernel
theorem dX4_takeLessonLine_13 : decode cX4_takeLessonLine 13 = .ok (.invokevirtual 87, 3) := by decide +kernel
theorem dX4_takeLessonLine_16 : decode cX4_takeLessonLine 16 = .ok (.ireturn, 1) := by decide +kernel
theorem dX4_takeLine_0 : decode cX4_takeLine 0 = .ok (.aload_n 0, 1) := by decide +kernel
theorem dX4_takeLine_1 : decode cX4_takeLine 1 = .ok (.getfield 22, 3) := by decide +kernel
theorem dX4_takeLine_4 : decode cX4_takeLine 4 = .ok (.getfield 51, 3) := by decide +kernel
theorem dX4_takeLine_7 : decode cX4_takeLine 7 = .ok (.ifCond .ne 8, 3) := by decide +kernel
theorem dX4_takeLine_15 : decode cX4_takeLine 15 = .ok (.aload_n 0, 1) := by decide +kernel
theorem dX4_takeLine_16 : decode cX4_takeLine 16 = .ok (.ldc 105, 2) := by decide +kernel
