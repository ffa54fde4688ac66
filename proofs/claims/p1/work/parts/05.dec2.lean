theorem dX10_init_52 : decode cX10_init 52 = .ok (.putfield 30, 3) := by decide +kernel
theorem dX10_init_55 : decode cX10_init 55 = .ok (.aload_n 0, 1) := by decide +kernel
theorem dX10_init_56 : decode cX10_init 56 = .ok (.iconst 5, 1) := by decide +kernel
theorem dX10_init_57 : decode cX10_init 57 = .ok (.newarray .int, 2) := by decide +kernel
theorem dX10_init_59 : decode cX10_init 59 = .ok (.putfield 33, 3) := by decide +kernel
theorem dX10_init_62 : decode cX10_init 62 = .ok (.return_, 1) := by decide +kernel
theorem dX4_init_0 : decode cX4_init 0 = .ok (.aload_n 0, 1) := by decide +kernel
theorem dX4_init_1 : decode cX4_init 1 = .ok (.invokespecial 3, 3) := by decide +kernel
theorem dX4_init_4 : decode cX4_init 4 = .ok (.aload_n 0, 1) := by decide +kernel
theorem dX4_init_5 : decode cX4_init 5 = .ok (.sipush 1000, 3) := by decide +kernel
theorem dX4_init_8 : decode cX4_init 8 = .ok (.newarray .byte, 2) := by decide +kernel
theorem dX4_init_10 : decode cX4_init 10 = .ok (.putfield 9, 3) := by decide +kernel
theorem dX4_init_13 : decode cX4_init 13 = .ok (.aload_n 0, 1) := by decide +kernel
theorem dX4_init_14 : decode cX4_init 14 = .ok (.iconst (-1), 1) := by decide +kernel
theorem dX4_init_15 : decode cX4_init 15 = .ok (.putfield 15, 3) := by decide +kernel
theorem dX4_init_18 : decode cX4_init 18 = .ok (.aload_n 0, 1) := by decide +kernel
theorem dX4_init_19 : decode cX4_init 19 = .ok (.new 19, 3) := by decide +kernel
theorem dX4_init_22 : decode cX4_init 22 = .ok (.dup, 1) := by decide +kernel
theorem dX4_init_23 : decode cX4_init 23 = .ok (.invokespecial 21, 3) := by decide +kernel
theorem dX4_init_26 : decode cX4_init 26 = .ok (.putfield 22, 3) := by decide +kernel
theorem dX4_init_29 : decode cX4_init 29 = .ok (.return_, 1) := by decide +kernel
theorem dX2_init_0 : decode cX2_init 0 = .ok (.aload_n 0, 1) := by decide +kernel
theorem dX2_init_1 : decode cX2_init 1 = .ok (.invokespecial 3, 3) := by decide +kernel
theorem dX2_init_4 : decode cX2_init 4 = .ok (.aload_n 0, 1) := by decide +kernel
theorem dX2_init_5 : decode cX2_init 5 = .ok (.iconst 4, 1) := by decide +kernel
theorem dX2_init_6 : decode cX2_init 6 = .ok (.newarray .int, 2) := by decide +kernel
theorem dX2_init_8 : decode cX2_init 8 = .ok (.putfield 9, 3) := by decide +kernel
theorem dX2_init_11 : decode cX2_init 11 = .ok (.aload_n 0, 1) := by decide +kernel
theorem dX2_init_12 : decode cX2_init 12 = .ok (.iconst 4, 1) := by decide +kernel
theorem dX2_init_13 : decode cX2_init 13 = .ok (.newarray .int, 2) := by decide +kernel
theorem dX2_init_15 : decode cX2_init 15 = .ok (.putfield 15, 3) := by decide +kernel
theorem dX2_init_18 : decode cX2_init 18 = .ok (.aload_n 0, 1) := by decide +kernel
theorem dX2_init_19 : decode cX2_init 19 = .ok (.bipush 60, 2) := by decide +kernel
theorem dX2_init_21 : decode cX2_init 21 = .ok (.newarray .int, 2) := by decide +kernel
theorem dX2_init_23 : decode cX2_init 23 = .ok (.putfield 18, 3) := by decide +kernel
theorem dX2_init_26 : decode cX2_init 26 = .ok (.aload_n 0, 1) := by decide +kernel
theorem dX2_init_27 : decode cX2_init 27 = .ok (.bipush 60, 2) := by decide +kernel
theorem dX2_init_29 : decode cX2_init 29 = .ok (.newarray .int, 2) := by decide +kernel
theorem dX2_init_31 : decode cX2_init 31 = .ok (.putfield 21, 3) := by decide +kernel
theorem dX2_init_34 : decode cX2_init 34 = .ok (.aload_n 0, 1) := by decide +kernel
theorem dX2_init_35 : decode cX2_init 35 = .ok (.bipush 60, 2) := by decide +kernel
theorem dX2_init_37 : decode cX2_init 37 = .ok (.newarray .int, 2) := by decide +kernel
theorem dX2_init_39 : decode cX2_init 39 = .ok (.putfield 24, 3) := by decide +kernel
theorem dX2_init_42 : decode cX2_init 42 = .ok (.return_, 1) := by decide +kernel
theorem dX9_init_0 : decode cX9_init 0 = .ok (.aload_n 0, 1) := by decide +kernel
theorem dX9_init_1 : decode cX9_init 1 = .ok (.invokespecial 3, 3) := by decide +kernel
theorem dX9_init_4 : decode cX9_init 4 = .ok (.return_, 1) := by decide +kernel
theorem dJ7_fill_53178_0 : decode cJ7_fill_53178 0 = .ok (.iconst 0, 1) := by decide +kernel
theorem dJ7_fill_53178_1 : decode cJ7_fill_53178 1 = .ok (.istore_n 2, 1) := by decide +kernel
theorem dJ7_fill_53178_2 : decode cJ7_fill_53178 2 = .ok (.aload_n 0, 1) := by decide +kernel
theorem dJ7_fill_53178_3 : decode cJ7_fill_53178 3 = .ok (.arraylength, 1) := by decide +kernel
theorem dJ7_fill_53178_4 : decode cJ7_fill_53178 4 = .ok (.istore_n 3, 1) := by decide +kernel
theorem dJ7_fill_53178_5 : decode cJ7_fill_53178 5 = .ok (.iload_n 2, 1) := by decide +kernel
theorem dJ7_fill_53178_6 : decode cJ7_fill_53178 6 = .ok (.iload_n 3, 1) := by decide +kernel
theorem dJ7_fill_53178_7 : decode cJ7_fill_53178 7 = .ok (.if_icmp .ge 13, 3) := by decide +kernel
theorem dJ7_fill_53178_10 : decode cJ7_fill_53178 10 = .ok (.aload_n 0, 1) := by decide +kernel
theorem dJ7_fill_53178_11 : decode cJ7_fill_53178 11 = .ok (.iload_n 2, 1) := by decide +kernel
theorem dJ7_fill_53178_12 : decode cJ7_fill_53178 12 = .ok (.iload_n 1, 1) := by decide +kernel
theorem dJ7_fill_53178_13 : decode cJ7_fill_53178 13 = .ok (.iastore, 1) := by decide +kernel
theorem dJ7_fill_53178_14 : decode cJ7_fill_53178 14 = .ok (.iinc 2 1, 3) := by decide +kernel
theorem dJ7_fill_53178_17 : decode cJ7_fill_53178 17 = .ok (.goto (-12), 3) := by decide +kernel
theorem dJ7_fill_53178_20 : decode cJ7_fill_53178 20 = .ok (.return_, 1) := by decide +kernel
theorem dX5_init_0 : decode cX5_init 0 = .ok (.aload_n 0, 1) := by decide +kernel
theorem dX5_init_1 : decode cX5_init 1 = .ok (.invokespecial 3, 3) := by decide +kernel
theorem dX5_init_4 : decode cX5_init 4 = .ok (.aload_n 0, 1) := by decide +kernel
theorem dX5_init_5 : decode cX5_init 5 = .ok (.sipush 240, 3) := by decide +kernel
theorem dX5_init_8 : decode cX5_init 8 = .ok (.newarray .long, 2) := by decide +kernel
theorem dX5_init_10 : decode cX5_init 10 = .ok (.putfield 9, 3) := by decide +kernel
theorem dX5_init_13 : decode cX5_init 13 = .ok (.aload_n 0, 1) := by decide +kernel
theorem dX5_init_14 : decode cX5_init 14 = .ok (.iconst 4, 1) := by decide +kernel
theorem dX5_init_15 : decode cX5_init 15 = .ok (.newarray .int, 2) := by decide +kernel
theorem dX5_init_17 : decode cX5_init 17 = .ok (.putfield 15, 3) := by decide +kernel
theorem dX5_init_20 : decode cX5_init 20 = .ok (.aload_n 0, 1) := by decide +kernel
theorem dX5_init_21 : decode cX5_init 21 = .ok (.iconst 4, 1) := by decide +kernel
theorem dX5_init_22 : decode cX5_init 22 = .ok (.newarray .int, 2) := by decide +kernel
theorem dX5_init_24 : decode cX5_init 24 = .ok (.putfield 19, 3) := by decide +kernel
theorem dX5_init_27 : decode cX5_init 27 = .ok (.aload_n 0, 1) := by decide +kernel
theorem dX5_init_28 : decode cX5_init 28 = .ok (.getfield 19, 3) := by decide +kernel
theorem dX5_init_31 : decode cX5_init 31 = .ok (.iconst (-1), 1) := by decide +kernel
theorem dX5_init_32 : decode cX5_init 32 = .ok (.invokestatic 22, 3) := by decide +kernel
theorem dX5_init_35 : decode cX5_init 35 = .ok (.return_, 1) := by decide +kernel
theorem dX6_init_0 : decode cX6_init 0 = .ok (.aload_n 0, 1) := by decide +kernel
theorem dX6_init_1 : decode cX6_init 1 = .ok (.invokespecial 3, 3) := by decide +kernel
theorem dX6_init_4 : decode cX6_init 4 = .ok (.aload_n 0, 1) := by decide +kernel
theorem dX6_init_5 : decode cX6_init 5 = .ok (.iconst (-1), 1) := by decide +kernel
theorem dX6_init_6 : decode cX6_init 6 = .ok (.putfield 9, 3) := by decide +kernel
theorem dX6_init_9 : decode cX6_init 9 = .ok (.iconst 1, 1) := by decide +kernel
theorem dX6_init_10 : decode cX6_init 10 = .ok (.iload_n 1, 1) := by decide +kernel
theorem dX6_init_11 : decode cX6_init 11 = .ok (.invokestatic 15, 3) := by decide +kernel
theorem dX6_init_14 : decode cX6_init 14 = .ok (.istore_n 2, 1) := by decide +kernel
theorem dX6_init_15 : decode cX6_init 15 = .ok (.aload_n 0, 1) := by decide +kernel
theorem dX6_init_16 : decode cX6_init 16 = .ok (.iload_n 2, 1) := by decide +kernel
theorem dX6_init_17 : decode cX6_init 17 = .ok (.newarray .int, 2) := by decide +kernel
theorem dX6_init_19 : decode cX6_init 19 = .ok (.putfield 21, 3) := by decide +kernel
theorem dX6_init_22 : decode cX6_init 22 = .ok (.aload_n 0, 1) := by decide +kernel
theorem dX6_init_23 : decode cX6_init 23 = .ok (.iload_n 2, 1) := by decide +kernel
theorem dX6_init_24 : decode cX6_init 24 = .ok (.newarray .int, 2) := by decide +kernel
theorem dX6_init_26 : decode cX6_init 26 = .ok (.putfield 25, 3) := by decide +kernel
theorem dX6_init_29 : decode cX6_init 29 = .ok (.aload_n 0, 1) := by decide +kernel
theorem dX6_init_30 : decode cX6_init 30 = .ok (.iload_n 2, 1) := by decide +kernel
theorem dX6_init_31 : decode cX6_init 31 = .ok (.newarray .int, 2) := by decide +kernel
theorem dX6_init_33 : decode cX6_init 33 = .ok (.putfield 28, 3) := by decide +kernel
theorem dX6_init_36 : decode cX6_init 36 = .ok (.return_, 1) := by decide +kernel
theorem dX1_init_0 : decode cX1_init 0 = .ok (.aload_n 0, 1) := by decide +kernel
theorem dX1_init_1 : decode cX1_init 1 = .ok (.sipush 10240, 3) := by decide +kernel
theorem dX1_init_4 : decode cX1_init 4 = .ok (.invokespecial 3, 3) := by decide +kernel
theorem dX1_init_7 : decode cX1_init 7 = .ok (.aload_n 0, 1) := by decide +kernel
theorem dX1_init_8 : decode cX1_init 8 = .ok (.new 9, 3) := by decide +kernel
theorem dX1_init_11 : decode cX1_init 11 = .ok (.dup, 1) := by decide +kernel
theorem dX1_init_12 : decode cX1_init 12 = .ok (.invokespecial 11, 3) := by decide +kernel
theorem dX1_init_15 : decode cX1_init 15 = .ok (.putfield 14, 3) := by decide +kernel
theorem dX1_init_18 : decode cX1_init 18 = .ok (.return_, 1) := by decide +kernel
theorem dX7_init_0 : decode cX7_init 0 = .ok (.aload_n 0, 1) := by decide +kernel
theorem dX7_init_1 : decode cX7_init 1 = .ok (.sipush 1024, 3) := by decide +kernel
theorem dX7_init_4 : decode cX7_init 4 = .ok (.invokespecial 3, 3) := by decide +kernel
theorem dX7_init_7 : decode cX7_init 7 = .ok (.return_, 1) := by decide +kernel
theorem dX3_init_0 : decode cX3_init 0 = .ok (.aload_n 0, 1) := by decide +kernel
theorem dX3_init_1 : decode cX3_init 1 = .ok (.invokespecial 3, 3) := by decide +kernel
theorem dX3_init_4 : decode cX3_init 4 = .ok (.aload_n 0, 1) := by decide +kernel
theorem dX3_init_5 : decode cX3_init 5 = .ok (.sipush 1024, 3) := by decide +kernel
theorem dX3_init_8 : decode cX3_init 8 = .ok (.newarray .int, 2) := by decide +kernel
theorem dX3_init_10 : decode cX3_init 10 = .ok (.putfield 9, 3) := by decide +kernel
theorem dX3_init_13 : decode cX3_init 13 = .ok (.aload_n 0, 1) := by decide +kernel
theorem dX3_init_14 : decode cX3_init 14 = .ok (.sipush 4096, 3) := by decide +kernel
theorem dX3_init_17 : decode cX3_init 17 = .ok (.newarray .int, 2) := by decide +kernel
theorem dX3_init_19 : decode cX3_init 19 = .ok (.putfield 15, 3) := by decide +kernel
theorem dX3_init_22 : decode cX3_init 22 = .ok (.aload_n 0, 1) := by decide +kernel
theorem dX3_init_23 : decode cX3_init 23 = .ok (.bipush 10, 2) := by decide +kernel
theorem dX3_init_25 : decode cX3_init 25 = .ok (.newarray .int, 2) := by decide +kernel
theorem dX3_init_27 : decode cX3_init 27 = .ok (.putfield 18, 3) := by decide +kernel
theorem dX3_init_30 : decode cX3_init 30 = .ok (.return_, 1) := by decide +kernel
theorem dX0_init_0 : decode cX0_init 0 = .ok (.aload_n 0, 1) := by decide +kernel
theorem dX0_init_1 : decode cX0_init 1 = .ok (.invokespecial 3, 3) := by decide +kernel
theorem dX0_init_4 : decode cX0_init 4 = .ok (.aload_n 0, 1) := by decide +kernel
theorem dX0_init_5 : decode cX0_init 5 = .ok (.new 9, 3) := by decide +kernel
theorem dX0_init_8 : decode cX0_init 8 = .ok (.dup, 1) := by decide +kernel
theorem dX0_init_9 : decode cX0_init 9 = .ok (.invokespecial 11, 3) := by decide +kernel
theorem dX0_init_12 : decode cX0_init 12 = .ok (.putfield 12, 3) := by decide +kernel
theorem dX0_init_15 : decode cX0_init 15 = .ok (.aload_n 0, 1) := by decide +kernel
theorem dX0_init_16 : decode cX0_init 16 = .ok (.new 18, 3) := by decide +kernel
theorem dX0_init_19 : decode cX0_init 19 = .ok (.dup, 1) := by decide +kernel
theorem dX0_init_20 : decode cX0_init 20 = .ok (.invokespecial 20, 3) := by decide +kernel
theorem dX0_init_23 : decode cX0_init 23 = .ok (.putfield 21, 3) := by decide +kernel
theorem dX0_init_26 : decode cX0_init 26 = .ok (.aload_n 0, 1) := by decide +kernel
theorem dX0_init_27 : decode cX0_init 27 = .ok (.iconst 5, 1) := by decide +kernel
theorem dX0_init_28 : decode cX0_init 28 = .ok (.newarray .int, 2) := by decide +kernel
theorem dX0_init_30 : decode cX0_init 30 = .ok (.putfield 25, 3) := by decide +kernel
theorem dX0_init_33 : decode cX0_init 33 = .ok (.aload_n 0, 1) := by decide +kernel
theorem dX0_init_34 : decode cX0_init 34 = .ok (.iconst 5, 1) := by decide +kernel
theorem dX0_init_35 : decode cX0_init 35 = .ok (.newarray .int, 2) := by decide +kernel
theorem dX0_init_37 : decode cX0_init 37 = .ok (.putfield 29, 3) := by decide +kernel
theorem dX0_init_40 : decode cX0_init 40 = .ok (.return_, 1) := by decide +kernel
theorem dX8_init_0 : decode cX8_init 0 = .ok (.aload_n 0, 1) := by decide +kernel
theorem dX8_init_1 : decode cX8_init 1 = .ok (.invokespecial 3, 3) := by decide +kernel
theorem dX8_init_4 : decode cX8_init 4 = .ok (.aload_n 0, 1) := by decide +kernel
theorem dX8_init_5 : decode cX8_init 5 = .ok (.bipush 10, 2) := by decide +kernel
theorem dX8_init_7 : decode cX8_init 7 = .ok (.newarray .int, 2) := by decide +kernel
theorem dX8_init_9 : decode cX8_init 9 = .ok (.putfield 9, 3) := by decide +kernel
theorem dX8_init_12 : decode cX8_init 12 = .ok (.aload_n 0, 1) := by decide +kernel
theorem dX8_init_13 : decode cX8_init 13 = .ok (.bipush 10, 2) := by decide +kernel
theorem dX8_init_15 : decode cX8_init 15 = .ok (.newarray .int, 2) := by decide +kernel
theorem dX8_init_17 : decode cX8_init 17 = .ok (.putfield 15, 3) := by decide +kernel
theorem dX8_init_20 : decode cX8_init 20 = .ok (.aload_n 0, 1) := by decide +kernel
theorem dX8_init_21 : decode cX8_init 21 = .ok (.bipush 10, 2) := by decide +kernel
theorem dX8_init_23 : decode cX8_init 23 = .ok (.newarray .int, 2) := by decide +kernel
theorem dX8_init_25 : decode cX8_init 25 = .ok (.putfield 18, 3) := by decide +kernel
theorem dX8_init_28 : decode cX8_init 28 = .ok (.return_, 1) := by decide +kernel
theorem dX11_init_0 : decode cX11_init 0 = .ok (.aload_n 0, 1) := by decide +kernel
theorem dX11_init_1 : decode cX11_init 1 = .ok (.invokespecial 3, 3) := by decide +kernel
theorem dX11_init_4 : decode cX11_init 4 = .ok (.aload_n 0, 1) := by decide +kernel
theorem dX11_init_5 : decode cX11_init 5 = .ok (.new 9, 3) := by decide +kernel
theorem dX11_init_8 : decode cX11_init 8 = .ok (.dup, 1) := by decide +kernel
theorem dX11_init_9 : decode cX11_init 9 = .ok (.invokespecial 11, 3) := by decide +kernel
theorem dX11_init_12 : decode cX11_init 12 = .ok (.putfield 12, 3) := by decide +kernel
theorem dX11_init_15 : decode cX11_init 15 = .ok (.aload_n 0, 1) := by decide +kernel
theorem dX11_init_16 : decode cX11_init 16 = .ok (.new 16, 3) := by decide +kernel
theorem dX11_init_19 : decode cX11_init 19 = .ok (.dup, 1) := by decide +kernel
theorem dX11_init_20 : decode cX11_init 20 = .ok (.invokespecial 18, 3) := by decide +kernel
theorem dX11_init_23 : decode cX11_init 23 = .ok (.putfield 19, 3) := by decide +kernel
theorem dX11_init_26 : decode cX11_init 26 = .ok (.aload_n 0, 1) := by decide +kernel
theorem dX11_init_27 : decode cX11_init 27 = .ok (.new 23, 3) := by decide +kernel
theorem dX11_init_30 : decode cX11_init 30 = .ok (.dup, 1) := by decide +kernel
theorem dX11_init_31 : decode cX11_init 31 = .ok (.invokespecial 25, 3) := by decide +kernel
theorem dX11_init_34 : decode cX11_init 34 = .ok (.putfield 26, 3) := by decide +kernel
theorem dX11_init_37 : decode cX11_init 37 = .ok (.aload_n 0, 1) := by decide +kernel
theorem dX11_init_38 : decode cX11_init 38 = .ok (.new 30, 3) := by decide +kernel
theorem dX11_init_41 : decode cX11_init 41 = .ok (.dup, 1) := by decide +kernel
theorem dX11_init_42 : decode cX11_init 42 = .ok (.invokespecial 32, 3) := by decide +kernel
theorem dX11_init_45 : decode cX11_init 45 = .ok (.putfield 33, 3) := by decide +kernel
theorem dX11_init_48 : decode cX11_init 48 = .ok (.aload_n 0, 1) := by decide +kernel
theorem dX11_init_49 : decode cX11_init 49 = .ok (.new 37, 3) := by decide +kernel
theorem dX11_init_52 : decode cX11_init 52 = .ok (.dup, 1) := by decide +kernel
theorem dX11_init_53 : decode cX11_init 53 = .ok (.invokespecial 39, 3) := by decide +kernel
theorem dX11_init_56 : decode cX11_init 56 = .ok (.putfield 40, 3) := by decide +kernel
theorem dX11_init_59 : decode cX11_init 59 = .ok (.aload_n 0, 1) := by decide +kernel
theorem dX11_init_60 : decode cX11_init 60 = .ok (.new 44, 3) := by decide +kernel
theorem dX11_init_63 : decode cX11_init 63 = .ok (.dup, 1) := by decide +kernel
theorem dX11_init_64 : decode cX11_init 64 = .ok (.invokespecial 46, 3) := by decide +kernel
theorem dX11_init_67 : decode cX11_init 67 = .ok (.putfield 47, 3) := by decide +kernel
theorem dX11_init_70 : decode cX11_init 70 = .ok (.aload_n 0, 1) := by decide +kernel
theorem dX11_init_71 : decode cX11_init 71 = .ok (.new 51, 3) := by decide +kernel
theorem dX11_init_74 : decode cX11_init 74 = .ok (.dup, 1) := by decide +kernel
theorem dX11_init_75 : decode cX11_init 75 = .ok (.invokespecial 53, 3) := by decide +kernel
theorem dX11_init_78 : decode cX11_init 78 = .ok (.putfield 54, 3) := by decide +kernel
theorem dX11_init_81 : decode cX11_init 81 = .ok (.aload_n 0, 1) := by decide +kernel
theorem dX11_init_82 : decode cX11_init 82 = .ok (.new 58, 3) := by decide +kernel
theorem dX11_init_85 : decode cX11_init 85 = .ok (.dup, 1) := by decide +kernel
theorem dX11_init_86 : decode cX11_init 86 = .ok (.invokespecial 60, 3) := by decide +kernel
theorem dX11_init_89 : decode cX11_init 89 = .ok (.putfield 61, 3) := by decide +kernel
theorem dX11_init_92 : decode cX11_init 92 = .ok (.aload_n 0, 1) := by decide +kernel
theorem dX11_init_93 : decode cX11_init 93 = .ok (.new 65, 3) := by decide +kernel
theorem dX11_init_96 : decode cX11_init 96 = .ok (.dup, 1) := by decide +kernel
theorem dX11_init_97 : decode cX11_init 97 = .ok (.invokespecial 67, 3) := by decide +kernel
theorem dX11_init_100 : decode cX11_init 100 = .ok (.putfield 68, 3) := by decide +kernel
theorem dX11_init_103 : decode cX11_init 103 = .ok (.aload_n 0, 1) := by decide +kernel
theorem dX11_init_104 : decode cX11_init 104 = .ok (.new 72, 3) := by decide +kernel
theorem dX11_init_107 : decode cX11_init 107 = .ok (.dup, 1) := by decide +kernel
theorem dX11_init_108 : decode cX11_init 108 = .ok (.invokespecial 74, 3) := by decide +kernel
theorem dX11_init_111 : decode cX11_init 111 = .ok (.putfield 75, 3) := by decide +kernel
theorem dX11_init_114 : decode cX11_init 114 = .ok (.aload_n 0, 1) := by decide +kernel
theorem dX11_init_115 : decode cX11_init 115 = .ok (.iconst 3, 1) := by decide +kernel
theorem dX11_init_116 : decode cX11_init 116 = .ok (.anewarray 16, 3) := by decide +kernel
theorem dX11_init_119 : decode cX11_init 119 = .ok (.putfield 79, 3) := by decide +kernel
theorem dX11_init_122 : decode cX11_init 122 = .ok (.aload_n 0, 1) := by decide +kernel
theorem dX11_init_123 : decode cX11_init 123 = .ok (.iconst 3, 1) := by decide +kernel
theorem dX11_init_124 : decode cX11_init 124 = .ok (.anewarray 23, 3) := by decide +kernel
theorem dX11_init_127 : decode cX11_init 127 = .ok (.putfield 83, 3) := by decide +kernel
theorem dX11_init_130 : decode cX11_init 130 = .ok (.return_, 1) := by decide +kernel
theorem dX12_init_0 : decode cX12_init 0 = .ok (.aload_n 0, 1) := by decide +kernel
theorem dX12_init_1 : decode cX12_init 1 = .ok (.invokespecial 3, 3) := by decide +kernel
theorem dX12_init_4 : decode cX12_init 4 = .ok (.aload_n 0, 1) := by decide +kernel
theorem dX12_init_5 : decode cX12_init 5 = .ok (.sipush 262, 3) := by decide +kernel
theorem dX12_init_8 : decode cX12_init 8 = .ok (.newarray .int, 2) := by decide +kernel
theorem dX12_init_10 : decode cX12_init 10 = .ok (.putfield 9, 3) := by decide +kernel
theorem dX12_init_13 : decode cX12_init 13 = .ok (.aload_n 0, 1) := by decide +kernel
theorem dX12_init_14 : decode cX12_init 14 = .ok (.sipush 786, 3) := by decide +kernel
theorem dX12_init_17 : decode cX12_init 17 = .ok (.newarray .int, 2) := by decide +kernel
theorem dX12_init_19 : decode cX12_init 19 = .ok (.putfield 13, 3) := by decide +kernel
theorem dX12_init_22 : decode cX12_init 22 = .ok (.aload_n 0, 1) := by decide +kernel
theorem dX12_init_23 : decode cX12_init 23 = .ok (.iconst 3, 1) := by decide +kernel
theorem dX12_init_24 : decode cX12_init 24 = .ok (.newarray .boolean, 2) := by decide +kernel
theorem dX12_init_26 : decode cX12_init 26 = .ok (.putfield 16, 3) := by decide +kernel
theorem dX12_init_29 : decode cX12_init 29 = .ok (.aload_n 0, 1) := by decide +kernel
theorem dX12_init_30 : decode cX12_init 30 = .ok (.sipush 1000, 3) := by decide +kernel
theorem dX12_init_33 : decode cX12_init 33 = .ok (.newarray .byte, 2) := by decide +kernel
theorem dX12_init_35 : decode cX12_init 35 = .ok (.putfield 20, 3) := by decide +kernel
theorem dX12_init_38 : decode cX12_init 38 = .ok (.aload_n 0, 1) := by decide +kernel
theorem dX12_init_39 : decode cX12_init 39 = .ok (.iconst 5, 1) := by decide +kernel
theorem dX12_init_40 : decode cX12_init 40 = .ok (.newarray .int, 2) := by decide +kernel
theorem dX12_init_42 : decode cX12_init 42 = .ok (.putfield 24, 3) := by decide +kernel
theorem dX12_init_45 : decode cX12_init 45 = .ok (.aload_n 0, 1) := by decide +kernel
theorem dX12_init_46 : decode cX12_init 46 = .ok (.iconst (-1), 1) := by decide +kernel
theorem dX12_init_47 : decode cX12_init 47 = .ok (.putfield 27, 3) := by decide +kernel
theorem dX12_init_50 : decode cX12_init 50 = .ok (.aload_n 0, 1) := by decide +kernel
theorem dX12_init_51 : decode cX12_init 51 = .ok (.sipush 262, 3) := by decide +kernel
theorem dX12_init_54 : decode cX12_init 54 = .ok (.newarray .int, 2) := by decide +kernel
theorem dX12_init_56 : decode cX12_init 56 = .ok (.putfield 31, 3) := by decide +kernel
theorem dX12_init_59 : decode cX12_init 59 = .ok (.aload_n 0, 1) := by decide +kernel
theorem dX12_init_60 : decode cX12_init 60 = .ok (.sipush 10240, 3) := by decide +kernel
theorem dX12_init_63 : decode cX12_init 63 = .ok (.newarray .int, 2) := by decide +kernel
theorem dX12_init_65 : decode cX12_init 65 = .ok (.putfield 34, 3) := by decide +kernel
theorem dX12_init_68 : decode cX12_init 68 = .ok (.aload_n 0, 1) := by decide +kernel
theorem dX12_init_69 : decode cX12_init 69 = .ok (.sipush 10240, 3) := by decide +kernel
theorem dX12_init_72 : decode cX12_init 72 = .ok (.newarray .int, 2) := by decide +kernel
theorem dX12_init_74 : decode cX12_init 74 = .ok (.putfield 37, 3) := by decide +kernel
theorem dX12_init_77 : decode cX12_init 77 = .ok (.aload_n 0, 1) := by decide +kernel
theorem dX12_init_78 : decode cX12_init 78 = .ok (.sipush 10240, 3) := by decide +kernel
theorem dX12_init_81 : decode cX12_init 81 = .ok (.newarray .int, 2) := by decide +kernel
theorem dX12_init_83 : decode cX12_init 83 = .ok (.putfield 40, 3) := by decide +kernel
theorem dX12_init_86 : decode cX12_init 86 = .ok (.aload_n 0, 1) := by decide +kernel
theorem dX12_init_87 : decode cX12_init 87 = .ok (.sipush 10240, 3) := by decide +kernel
theorem dX12_init_90 : decode cX12_init 90 = .ok (.newarray .int, 2) := by decide +kernel
theorem dX12_init_92 : decode cX12_init 92 = .ok (.putfield 43, 3) := by decide +kernel
theorem dX12_init_95 : decode cX12_init 95 = .ok (.aload_n 0, 1) := by decide +kernel
theorem dX12_init_96 : decode cX12_init 96 = .ok (.sipush 1024, 3) := by decide +kernel
theorem dX12_init_99 : decode cX12_init 99 = .ok (.newarray .int, 2) := by decide +kernel
theorem dX12_init_101 : decode cX12_init 101 = .ok (.putfield 46, 3) := by decide +kernel
theorem dX12_init_104 : decode cX12_init 104 = .ok (.aload_n 0, 1) := by decide +kernel
theorem dX12_init_105 : decode cX12_init 105 = .ok (.bipush 10, 2) := by decide +kernel
theorem dX12_init_107 : decode cX12_init 107 = .ok (.newarray .int, 2) := by decide +kernel
theorem dX12_init_109 : decode cX12_init 109 = .ok (.putfield 49, 3) := by decide +kernel
theorem dX12_init_112 : decode cX12_init 112 = .ok (.aload_n 0, 1) := by decide +kernel
theorem dX12_init_113 : decode cX12_init 113 = .ok (.bipush 10, 2) := by decide +kernel
theorem dX12_init_115 : decode cX12_init 115 = .ok (.newarray .int, 2) := by decide +kernel
theorem dX12_init_117 : decode cX12_init 117 = .ok (.putfield 52, 3) := by decide +kernel
theorem dX12_init_120 : decode cX12_init 120 = .ok (.aload_n 0, 1) := by decide +kernel
theorem dX12_init_121 : decode cX12_init 121 = .ok (.bipush 100, 2) := by decide +kernel
theorem dX12_init_123 : decode cX12_init 123 = .ok (.newarray .int, 2) := by decide +kernel
theorem dX12_init_125 : decode cX12_init 125 = .ok (.putfield 55, 3) := by decide +kernel
theorem dX12_init_128 : decode cX12_init 128 = .ok (.aload_n 0, 1) := by decide +kernel
theorem dX12_init_129 : decode cX12_init 129 = .ok (.bipush 100, 2) := by decide +kernel
theorem dX12_init_131 : decode cX12_init 131 = .ok (.newarray .int, 2) := by decide +kernel
theorem dX12_init_133 : decode cX12_init 133 = .ok (.putfield 58, 3) := by decide +kernel
theorem dX12_init_136 : decode cX12_init 136 = .ok (.aload_n 0, 1) := by decide +kernel
theorem dX12_init_137 : decode cX12_init 137 = .ok (.bipush 100, 2) := by decide +kernel
theorem dX12_init_139 : decode cX12_init 139 = .ok (.newarray .int, 2) := by decide +kernel
theorem dX12_init_141 : decode cX12_init 141 = .ok (.putfield 61, 3) := by decide +kernel
theorem dX12_init_144 : decode cX12_init 144 = .ok (.aload_n 0, 1) := by decide +kernel
theorem dX12_init_145 : decode cX12_init 145 = .ok (.bipush 100, 2) := by decide +kernel
theorem dX12_init_147 : decode cX12_init 147 = .ok (.newarray .int, 2) := by decide +kernel
theorem dX12_init_149 : decode cX12_init 149 = .ok (.putfield 64, 3) := by decide +kernel
theorem dX12_init_152 : decode cX12_init 152 = .ok (.aload_n 0, 1) := by decide +kernel
theorem dX12_init_153 : decode cX12_init 153 = .ok (.sipush 1024, 3) := by decide +kernel
theorem dX12_init_156 : decode cX12_init 156 = .ok (.newarray .int, 2) := by decide +kernel
theorem dX12_init_158 : decode cX12_init 158 = .ok (.putfield 67, 3) := by decide +kernel
theorem dX12_init_161 : decode cX12_init 161 = .ok (.aload_n 0, 1) := by decide +kernel
theorem dX12_init_162 : decode cX12_init 162 = .ok (.sipush 1024, 3) := by decide +kernel
theorem dX12_init_165 : decode cX12_init 165 = .ok (.newarray .int, 2) := by decide +kernel
theorem dX12_init_167 : decode cX12_init 167 = .ok (.putfield 70, 3) := by decide +kernel
theorem dX12_init_170 : decode cX12_init 170 = .ok (.aload_n 0, 1) := by decide +kernel
theorem dX12_init_171 : decode cX12_init 171 = .ok (.sipush 1024, 3) := by decide +kernel
theorem dX12_init_174 : decode cX12_init 174 = .ok (.newarray .int, 2) := by decide +kernel
theorem dX12_init_176 : decode cX12_init 176 = .ok (.putfield 73, 3) := by decide +kernel
theorem dX12_init_179 : decode cX12_init 179 = .ok (.aload_n 0, 1) := by decide +kernel
theorem dX12_init_180 : decode cX12_init 180 = .ok (.sipush 1024, 3) := by decide +kernel
theorem dX12_init_183 : decode cX12_init 183 = .ok (.newarray .int, 2) := by decide +kernel
theorem dX12_init_185 : decode cX12_init 185 = .ok (.putfield 76, 3) := by decide +kernel
theorem dX12_init_188 : decode cX12_init 188 = .ok (.aload_n 0, 1) := by decide +kernel
theorem dX12_init_189 : decode cX12_init 189 = .ok (.iconst 5, 1) := by decide +kernel
theorem dX12_init_190 : decode cX12_init 190 = .ok (.newarray .int, 2) := by decide +kernel
theorem dX12_init_192 : decode cX12_init 192 = .ok (.putfield 79, 3) := by decide +kernel
theorem dX12_init_195 : decode cX12_init 195 = .ok (.aload_n 0, 1) := by decide +kernel
theorem dX12_init_196 : decode cX12_init 196 = .ok (.iconst 5, 1) := by decide +kernel
theorem dX12_init_197 : decode cX12_init 197 = .ok (.newarray .int, 2) := by decide +kernel
theorem dX12_init_199 : decode cX12_init 199 = .ok (.putfield 82, 3) := by decide +kernel
theorem dX12_init_202 : decode cX12_init 202 = .ok (.aload_n 0, 1) := by decide +kernel
theorem dX12_init_203 : decode cX12_init 203 = .ok (.bipush 50, 2) := by decide +kernel
theorem dX12_init_205 : decode cX12_init 205 = .ok (.newarray .int, 2) := by decide +kernel
theorem dX12_init_207 : decode cX12_init 207 = .ok (.putfield 85, 3) := by decide +kernel
theorem dX12_init_210 : decode cX12_init 210 = .ok (.aload_n 0, 1) := by decide +kernel
theorem dX12_init_211 : decode cX12_init 211 = .ok (.bipush 10, 2) := by decide +kernel
theorem dX12_init_213 : decode cX12_init 213 = .ok (.newarray .int, 2) := by decide +kernel
theorem dX12_init_215 : decode cX12_init 215 = .ok (.putfield 88, 3) := by decide +kernel
theorem dX12_init_218 : decode cX12_init 218 = .ok (.aload_n 0, 1) := by decide +kernel
theorem dX12_init_219 : decode cX12_init 219 = .ok (.bipush 10, 2) := by decide +kernel
theorem dX12_init_221 : decode cX12_init 221 = .ok (.newarray .int, 2) := by decide +kernel
theorem dX12_init_223 : decode cX12_init 223 = .ok (.putfield 91, 3) := by decide +kernel
theorem dX12_init_226 : decode cX12_init 226 = .ok (.aload_n 0, 1) := by decide +kernel
theorem dX12_init_227 : decode cX12_init 227 = .ok (.bipush 10, 2) := by decide +kernel
theorem dX12_init_229 : decode cX12_init 229 = .ok (.newarray .int, 2) := by decide +kernel
theorem dX12_init_231 : decode cX12_init 231 = .ok (.putfield 94, 3) := by decide +kernel
theorem dX12_init_234 : decode cX12_init 234 = .ok (.aload_n 0, 1) := by decide +kernel
theorem dX12_init_235 : decode cX12_init 235 = .ok (.iconst 4, 1) := by decide +kernel
theorem dX12_init_236 : decode cX12_init 236 = .ok (.newarray .int, 2) := by decide +kernel
theorem dX12_init_238 : decode cX12_init 238 = .ok (.dup, 1) := by decide +kernel
theorem dX12_init_239 : decode cX12_init 239 = .ok (.iconst 0, 1) := by decide +kernel
theorem dX12_init_240 : decode cX12_init 240 = .ok (.iconst (-1), 1) := by decide +kernel
theorem dX12_init_241 : decode cX12_init 241 = .ok (.iastore, 1) := by decide +kernel
theorem dX12_init_242 : decode cX12_init 242 = .ok (.dup, 1) := by decide +kernel
theorem dX12_init_243 : decode cX12_init 243 = .ok (.iconst 1, 1) := by decide +kernel
theorem dX12_init_244 : decode cX12_init 244 = .ok (.iconst (-1), 1) := by decide +kernel
theorem dX12_init_245 : decode cX12_init 245 = .ok (.iastore, 1) := by decide +kernel
theorem dX12_init_246 : decode cX12_init 246 = .ok (.dup, 1) := by decide +kernel
theorem dX12_init_247 : decode cX12_init 247 = .ok (.iconst 2, 1) := by decide +kernel
theorem dX12_init_248 : decode cX12_init 248 = .ok (.iconst (-1), 1) := by decide +kernel
theorem dX12_init_249 : decode cX12_init 249 = .ok (.iastore, 1) := by decide +kernel
theorem dX12_init_250 : decode cX12_init 250 = .ok (.dup, 1) := by decide +kernel
theorem dX12_init_251 : decode cX12_init 251 = .ok (.iconst 3, 1) := by decide +kernel
theorem dX12_init_252 : decode cX12_init 252 = .ok (.iconst (-1), 1) := by decide +kernel
theorem dX12_init_253 : decode cX12_init 253 = .ok (.iastore, 1) := by decide +kernel
theorem dX12_init_254 : decode cX12_init 254 = .ok (.putfield 97, 3) := by decide +kernel
theorem dX12_init_257 : decode cX12_init 257 = .ok (.aload_n 0, 1) := by decide +kernel
theorem dX12_init_258 : decode cX12_init 258 = .ok (.iconst 4, 1) := by decide +kernel
theorem dX12_init_259 : decode cX12_init 259 = .ok (.newarray .int, 2) := by decide +kernel
theorem dX12_init_261 : decode cX12_init 261 = .ok (.putfield 100, 3) := by decide +kernel
theorem dX12_init_264 : decode cX12_init 264 = .ok (.aload_n 0, 1) := by decide +kernel
theorem dX12_init_265 : decode cX12_init 265 = .ok (.sipush 240, 3) := by decide +kernel
theorem dX12_init_268 : decode cX12_init 268 = .ok (.newarray .long, 2) := by decide +kernel
theorem dX12_init_270 : decode cX12_init 270 = .ok (.putfield 103, 3) := by decide +kernel
theorem dX12_init_273 : decode cX12_init 273 = .ok (.aload_n 0, 1) := by decide +kernel
theorem dX12_init_274 : decode cX12_init 274 = .ok (.bipush 60, 2) := by decide +kernel
theorem dX12_init_276 : decode cX12_init 276 = .ok (.newarray .long, 2) := by decide +kernel
theorem dX12_init_278 : decode cX12_init 278 = .ok (.putfield 107, 3) := by decide +kernel
theorem dX12_init_281 : decode cX12_init 281 = .ok (.return_, 1) := by decide +kernel
theorem dX4_hasRoom_0 : decode cX4_hasRoom 0 = .ok (.aload_n 0, 1) := by decide +kernel
theorem dX4_hasRoom_1 : decode cX4_hasRoom 1 = .ok (.getfield 26, 3) := by decide +kernel
theorem dX4_hasRoom_4 : decode cX4_hasRoom 4 = .ok (.iload_n 1, 1) := by decide +kernel
theorem dX4_hasRoom_5 : decode cX4_hasRoom 5 = .ok (.iadd, 1) := by decide +kernel
theorem dX4_hasRoom_6 : decode cX4_hasRoom 6 = .ok (.sipush 1000, 3) := by decide +kernel
theorem dX4_hasRoom_9 : decode cX4_hasRoom 9 = .ok (.if_icmp .gt 7, 3) := by decide +kernel
theorem dX4_hasRoom_12 : decode cX4_hasRoom 12 = .ok (.iconst 1, 1) := by decide +kernel
theorem dX4_hasRoom_13 : decode cX4_hasRoom 13 = .ok (.goto 4, 3) := by decide +kernel
theorem dX4_hasRoom_17 : decode cX4_hasRoom 17 = .ok (.ireturn, 1) := by decide +kernel
theorem dX4_kindAt_0 : decode cX4_kindAt 0 = .ok (.iload_n 1, 1) := by decide +kernel
theorem dX4_kindAt_1 : decode cX4_kindAt 1 = .ok (.ifCond .lt 20, 3) := by decide +kernel
theorem dX4_kindAt_21 : decode cX4_kindAt 21 = .ok (.iconst 0, 1) := by decide +kernel
theorem dX4_kindAt_22 : decode cX4_kindAt 22 = .ok (.ireturn, 1) := by decide +kernel
theorem dX4_kindAt_4 : decode cX4_kindAt 4 = .ok (.iload_n 1, 1) := by decide +kernel
theorem dX4_kindAt_5 : decode cX4_kindAt 5 = .ok (.aload_n 0, 1) := by decide +kernel
theorem dX4_kindAt_6 : decode cX4_kindAt 6 = .ok (.getfield 26, 3) := by decide +kernel
theorem dX4_kindAt_9 : decode cX4_kindAt 9 = .ok (.if_icmp .ge 12, 3) := by decide +kernel
theorem dX4_byteAt_0 : decode cX4_byteAt 0 = .ok (.iload_n 1, 1) := by decide +kernel
theorem dX4_byteAt_1 : decode cX4_byteAt 1 = .ok (.ifCond .lt 29, 3) := by decide +kernel
theorem dX4_byteAt_30 : decode cX4_byteAt 30 = .ok (.iconst 0, 1) := by decide +kernel
theorem dX4_byteAt_31 : decode cX4_byteAt 31 = .ok (.ireturn, 1) := by decide +kernel
theorem dX4_byteAt_4 : decode cX4_byteAt 4 = .ok (.iload_n 1, 1) := by decide +kernel
theorem dX4_byteAt_5 : decode cX4_byteAt 5 = .ok (.aload_n 0, 1) := by decide +kernel
theorem dX4_byteAt_6 : decode cX4_byteAt 6 = .ok (.getfield 26, 3) := by decide +kernel
theorem dX4_byteAt_9 : decode cX4_byteAt 9 = .ok (.if_icmp .ge 21, 3) := by decide +kernel
theorem dX4_append_0 : decode cX4_append 0 = .ok (.bipush 24, 2) := by decide +kernel
theorem dX4_append_2 : decode cX4_append 2 = .ok (.istore_n 2, 1) := by decide +kernel
theorem dX4_append_3 : decode cX4_append 3 = .ok (.iload_n 2, 1) := by decide +kernel
theorem dX4_append_4 : decode cX4_append 4 = .ok (.ifCond .lt 44, 3) := by decide +kernel
theorem dX4_append_7 : decode cX4_append 7 = .ok (.aload_n 0, 1) := by decide +kernel
theorem dX4_append_8 : decode cX4_append 8 = .ok (.getfield 26, 3) := by decide +kernel
theorem dX4_append_11 : decode cX4_append 11 = .ok (.aload_n 0, 1) := by decide +kernel
theorem dX4_append_12 : decode cX4_append 12 = .ok (.getfield 9, 3) := by decide +kernel
theorem dX4_append_15 : decode cX4_append 15 = .ok (.arraylength, 1) := by decide +kernel
theorem dX4_append_16 : decode cX4_append 16 = .ok (.if_icmp .ge 32, 3) := by decide +kernel
theorem dX4_append_19 : decode cX4_append 19 = .ok (.aload_n 0, 1) := by decide +kernel
theorem dX4_append_20 : decode cX4_append 20 = .ok (.getfield 9, 3) := by decide +kernel
theorem dX4_append_23 : decode cX4_append 23 = .ok (.aload_n 0, 1) := by decide +kernel
theorem dX4_append_24 : decode cX4_append 24 = .ok (.getfield 26, 3) := by decide +kernel
theorem dX4_append_27 : decode cX4_append 27 = .ok (.iload_n 1, 1) := by decide +kernel
theorem dX4_append_28 : decode cX4_append 28 = .ok (.iload_n 2, 1) := by decide +kernel
theorem dX4_append_29 : decode cX4_append 29 = .ok (.ishr, 1) := by decide +kernel
theorem dX4_append_30 : decode cX4_append 30 = .ok (.i2b, 1) := by decide +kernel
theorem dX4_append_31 : decode cX4_append 31 = .ok (.bastore, 1) := by decide +kernel
theorem dX4_append_32 : decode cX4_append 32 = .ok (.aload_n 0, 1) := by decide +kernel
theorem dX4_append_33 : decode cX4_append 33 = .ok (.dup, 1) := by decide +kernel
theorem dX4_append_34 : decode cX4_append 34 = .ok (.getfield 26, 3) := by decide +kernel
theorem dX4_append_37 : decode cX4_append 37 = .ok (.iconst 1, 1) := by decide +kernel
theorem dX4_append_38 : decode cX4_append 38 = .ok (.iadd, 1) := by decide +kernel
theorem dX4_append_39 : decode cX4_append 39 = .ok (.putfield 26, 3) := by decide +kernel
theorem dX4_append_42 : decode cX4_append 42 = .ok (.iinc 2 (-8), 3) := by decide +kernel
theorem dX4_append_45 : decode cX4_append 45 = .ok (.goto (-42), 3) := by decide +kernel
theorem dX4_append_48 : decode cX4_append 48 = .ok (.return_, 1) := by decide +kernel
theorem dX11_feed_0 : decode cX11_feed 0 = .ok (.aload_n 0, 1) := by decide +kernel
theorem dX11_feed_1 : decode cX11_feed 1 = .ok (.getfield 12, 3) := by decide +kernel
theorem dX11_feed_4 : decode cX11_feed 4 = .ok (.bipush 20, 2) := by decide +kernel
theorem dX11_feed_6 : decode cX11_feed 6 = .ok (.invokevirtual 87, 3) := by decide +kernel
theorem dX11_feed_9 : decode cX11_feed 9 = .ok (.ifCond .ne 5, 3) := by decide +kernel
theorem dX11_feed_14 : decode cX11_feed 14 = .ok (.aload_n 0, 1) := by decide +kernel
theorem dX11_feed_15 : decode cX11_feed 15 = .ok (.getfield 12, 3) := by decide +kernel
theorem dX11_feed_18 : decode cX11_feed 18 = .ok (.iload_n 1, 1) := by decide +kernel
theorem dX11_feed_19 : decode cX11_feed 19 = .ok (.invokevirtual 91, 3) := by decide +kernel
theorem dX11_feed_22 : decode cX11_feed 22 = .ok (.aload_n 0, 1) := by decide +kernel
theorem dX11_feed_23 : decode cX11_feed 23 = .ok (.getfield 12, 3) := by decide +kernel
theorem dX11_feed_26 : decode cX11_feed 26 = .ok (.iload_n 2, 1) := by decide +kernel
theorem dX11_feed_27 : decode cX11_feed 27 = .ok (.invokevirtual 91, 3) := by decide +kernel
theorem dX11_feed_30 : decode cX11_feed 30 = .ok (.aload_n 0, 1) := by decide +kernel
theorem dX11_feed_31 : decode cX11_feed 31 = .ok (.getfield 12, 3) := by decide +kernel
theorem dX11_feed_34 : decode cX11_feed 34 = .ok (.iload_n 3, 1) := by decide +kernel
theorem dX11_feed_35 : decode cX11_feed 35 = .ok (.invokevirtual 91, 3) := by decide +kernel
theorem dX11_feed_38 : decode cX11_feed 38 = .ok (.aload_n 0, 1) := by decide +kernel
theorem dX11_feed_39 : decode cX11_feed 39 = .ok (.getfield 12, 3) := by decide +kernel
theorem dX11_feed_42 : decode cX11_feed 42 = .ok (.iload 4, 2) := by decide +kernel
theorem dX11_feed_44 : decode cX11_feed 44 = .ok (.invokevirtual 91, 3) := by decide +kernel
theorem dX11_feed_47 : decode cX11_feed 47 = .ok (.aload_n 0, 1) := by decide +kernel
theorem dX11_feed_48 : decode cX11_feed 48 = .ok (.getfield 12, 3) := by decide +kernel
theorem dX11_feed_51 : decode cX11_feed 51 = .ok (.iload 5, 2) := by decide +kernel
theorem dX11_feed_53 : decode cX11_feed 53 = .ok (.invokevirtual 91, 3) := by decide +kernel
theorem dX11_feed_56 : decode cX11_feed 56 = .ok (.aload_n 0, 1) := by decide +kernel
theorem dX11_feed_57 : decode cX11_feed 57 = .ok (.getfield 12, 3) := by decide +kernel
theorem dX11_feed_60 : decode cX11_feed 60 = .ok (.getfield 95, 3) := by decide +kernel
theorem dX11_feed_63 : decode cX11_feed 63 = .ok (.ireturn, 1) := by decide +kernel
theorem dX11_end_0 : decode cX11_end 0 = .ok (.iload_n 1, 1) := by decide +kernel
theorem dX11_end_1 : decode cX11_end 1 = .ok (.ifCond .lt 14, 3) := by decide +kernel
theorem dX11_end_15 : decode cX11_end 15 = .ok (.iconst (-1), 1) := by decide +kernel
theorem dX11_end_16 : decode cX11_end 16 = .ok (.ireturn, 1) := by decide +kernel
theorem dX11_end_4 : decode cX11_end 4 = .ok (.iload_n 1, 1) := by decide +kernel
theorem dX11_end_5 : decode cX11_end 5 = .ok (.aload_n 0, 1) := by decide +kernel
theorem dX11_end_6 : decode cX11_end 6 = .ok (.getfield 12, 3) := by decide +kernel
theorem dX11_end_9 : decode cX11_end 9 = .ok (.getfield 95, 3) := by decide +kernel
theorem dX11_end_12 : decode cX11_end 12 = .ok (.if_icmp .le 5, 3) := by decide +kernel
theorem dX11_end_17 : decode cX11_end 17 = .ok (.aload_n 0, 1) := by decide +kernel
theorem dX11_end_18 : decode cX11_end 18 = .ok (.getfield 12, 3) := by decide +kernel
theorem dX11_end_21 : decode cX11_end 21 = .ok (.iload_n 1, 1) := by decide +kernel
theorem dX11_end_22 : decode cX11_end 22 = .ok (.putfield 95, 3) := by decide +kernel
theorem dX11_end_25 : decode cX11_end 25 = .ok (.iload_n 1, 1) := by decide +kernel
theorem dX11_end_26 : decode cX11_end 26 = .ok (.ireturn, 1) := by decide +kernel
theorem dX4_advance_0 : decode cX4_advance 0 = .ok (.aload_n 0, 1) := by decide +kernel
theorem dX4_advance_1 : decode cX4_advance 1 = .ok (.aload_n 0, 1) := by decide +kernel
theorem dX4_advance_2 : decode cX4_advance 2 = .ok (.getfield 35, 3) := by decide +kernel
theorem dX4_advance_5 : decode cX4_advance 5 = .ok (.putfield 54, 3) := by decide +kernel
theorem dX4_advance_8 : decode cX4_advance 8 = .ok (.iconst 0, 1) := by decide +kernel
theorem dX4_advance_9 : decode cX4_advance 9 = .ok (.istore_n 1, 1) := by decide +kernel
theorem dX4_advance_10 : decode cX4_advance 10 = .ok (.iload_n 1, 1) := by decide +kernel
theorem dX4_advance_11 : decode cX4_advance 11 = .ok (.sipush 1000, 3) := by decide +kernel
theorem dX4_advance_14 : decode cX4_advance 14 = .ok (.if_icmp .ge 31, 3) := by decide +kernel
theorem dX4_advance_17 : decode cX4_advance 17 = .ok (.aload_n 0, 1) := by decide +kernel
theorem dX4_advance_18 : decode cX4_advance 18 = .ok (.aload_n 0, 1) := by decide +kernel
theorem dX4_advance_19 : decode cX4_advance 19 = .ok (.getfield 54, 3) := by decide +kernel
theorem dX4_advance_22 : decode cX4_advance 22 = .ok (.invokevirtual 57, 3) := by decide +kernel
theorem dX4_advance_25 : decode cX4_advance 25 = .ok (.iconst 5, 1) := by decide +kernel
theorem dX4_advance_26 : decode cX4_advance 26 = .ok (.if_icmp .ne 19, 3) := by decide +kernel
theorem dX4_advance_45 : decode cX4_advance 45 = .ok (.aload_n 0, 1) := by decide +kernel
theorem dX4_advance_46 : decode cX4_advance 46 = .ok (.aload_n 0, 1) := by decide +kernel
theorem dX4_advance_47 : decode cX4_advance 47 = .ok (.aload_n 0, 1) := by decide +kernel
theorem dX4_advance_48 : decode cX4_advance 48 = .ok (.getfield 54, 3) := by decide +kernel
theorem dX4_advance_51 : decode cX4_advance 51 = .ok (.invokevirtual 57, 3) := by decide +kernel
theorem dX4_advance_54 : decode cX4_advance 54 = .ok (.putfield 41, 3) := by decide +kernel
theorem dX4_advance_57 : decode cX4_advance 57 = .ok (.aload_n 0, 1) := by decide +kernel
theorem dX4_advance_58 : decode cX4_advance 58 = .ok (.aload_n 0, 1) := by decide +kernel
theorem dX4_advance_59 : decode cX4_advance 59 = .ok (.getfield 54, 3) := by decide +kernel
theorem dX4_advance_62 : decode cX4_advance 62 = .ok (.iconst 1, 1) := by decide +kernel
theorem dX4_advance_63 : decode cX4_advance 63 = .ok (.iadd, 1) := by decide +kernel
theorem dX4_advance_64 : decode cX4_advance 64 = .ok (.putfield 35, 3) := by decide +kernel
theorem dX4_advance_67 : decode cX4_advance 67 = .ok (.aload_n 0, 1) := by decide +kernel
theorem dX4_advance_68 : decode cX4_advance 68 = .ok (.aload_n 0, 1) := by decide +kernel
theorem dX4_advance_69 : decode cX4_advance 69 = .ok (.aload_n 0, 1) := by decide +kernel
theorem dX4_advance_70 : decode cX4_advance 70 = .ok (.getfield 54, 3) := by decide +kernel
theorem dX4_advance_73 : decode cX4_advance 73 = .ok (.invokevirtual 61, 3) := by decide +kernel
theorem dX4_advance_76 : decode cX4_advance 76 = .ok (.bipush 48, 2) := by decide +kernel
theorem dX4_advance_78 : decode cX4_advance 78 = .ok (.isub, 1) := by decide +kernel
theorem dX4_advance_79 : decode cX4_advance 79 = .ok (.putfield 64, 3) := by decide +kernel
theorem dX4_advance_82 : decode cX4_advance 82 = .ok (.aload_n 0, 1) := by decide +kernel
theorem dX4_advance_83 : decode cX4_advance 83 = .ok (.getfield 41, 3) := by decide +kernel
theorem dX4_advance_86 : decode cX4_advance 86 = .ok (.iconst 1, 1) := by decide +kernel
theorem dX4_advance_87 : decode cX4_advance 87 = .ok (.if_icmp .eq 11, 3) := by decide +kernel
theorem dX4_advance_90 : decode cX4_advance 90 = .ok (.aload_n 0, 1) := by decide +kernel
theorem dX4_advance_91 : decode cX4_advance 91 = .ok (.getfield 41, 3) := by decide +kernel
theorem dX4_advance_94 : decode cX4_advance 94 = .ok (.iconst 2, 1) := by decide +kernel
theorem dX4_advance_95 : decode cX4_advance 95 = .ok (.if_icmp .ne 7, 3) := by decide +kernel
theorem dX4_advance_102 : decode cX4_advance 102 = .ok (.iconst 0, 1) := by decide +kernel
theorem dX4_advance_103 : decode cX4_advance 103 = .ok (.istore_n 1, 1) := by decide +kernel
theorem dX4_advance_104 : decode cX4_advance 104 = .ok (.iconst 0, 1) := by decide +kernel
theorem dX4_advance_105 : decode cX4_advance 105 = .ok (.istore_n 2, 1) := by decide +kernel
theorem dX4_advance_106 : decode cX4_advance 106 = .ok (.iload_n 2, 1) := by decide +kernel
theorem dX4_advance_107 : decode cX4_advance 107 = .ok (.sipush 1000, 3) := by decide +kernel
theorem dX4_advance_110 : decode cX4_advance 110 = .ok (.if_icmp .ge 66, 3) := by decide +kernel
theorem dX4_advance_113 : decode cX4_advance 113 = .ok (.iload_n 1, 1) := by decide +kernel
theorem dX4_advance_114 : decode cX4_advance 114 = .ok (.ifCond .eq 62, 3) := by decide +kernel
theorem dX4_advance_176 : decode cX4_advance 176 = .ok (.return_, 1) := by decide +kernel
theorem dX10_clear_0 : decode cX10_clear 0 = .ok (.aload_n 0, 1) := by decide +kernel
theorem dX10_clear_1 : decode cX10_clear 1 = .ok (.getfield 15, 3) := by decide +kernel
theorem dX10_clear_4 : decode cX10_clear 4 = .ok (.iconst 0, 1) := by decide +kernel
theorem dX10_clear_5 : decode cX10_clear 5 = .ok (.invokestatic 36, 3) := by decide +kernel
theorem dX10_clear_8 : decode cX10_clear 8 = .ok (.iconst 0, 1) := by decide +kernel
theorem dX10_clear_9 : decode cX10_clear 9 = .ok (.istore_n 1, 1) := by decide +kernel
theorem dX10_clear_10 : decode cX10_clear 10 = .ok (.iload_n 1, 1) := by decide +kernel
theorem dX10_clear_11 : decode cX10_clear 11 = .ok (.aload_n 0, 1) := by decide +kernel
theorem dX10_clear_12 : decode cX10_clear 12 = .ok (.getfield 9, 3) := by decide +kernel
theorem dX10_clear_15 : decode cX10_clear 15 = .ok (.arraylength, 1) := by decide +kernel
theorem dX10_clear_16 : decode cX10_clear 16 = .ok (.if_icmp .ge 18, 3) := by decide +kernel
theorem dX10_clear_34 : decode cX10_clear 34 = .ok (.aload_n 0, 1) := by decide +kernel
theorem dX10_clear_35 : decode cX10_clear 35 = .ok (.iconst 0, 1) := by decide +kernel
theorem dX10_clear_36 : decode cX10_clear 36 = .ok (.putfield 42, 3) := by decide +kernel
theorem dX10_clear_39 : decode cX10_clear 39 = .ok (.aload_n 0, 1) := by decide +kernel
theorem dX10_clear_40 : decode cX10_clear 40 = .ok (.iconst 0, 1) := by decide +kernel
theorem dX10_clear_41 : decode cX10_clear 41 = .ok (.putfield 46, 3) := by decide +kernel
theorem dX10_clear_44 : decode cX10_clear 44 = .ok (.aload_n 0, 1) := by decide +kernel
theorem dX10_clear_45 : decode cX10_clear 45 = .ok (.iconst 0, 1) := by decide +kernel
theorem dX10_clear_46 : decode cX10_clear 46 = .ok (.putfield 49, 3) := by decide +kernel
theorem dX10_clear_49 : decode cX10_clear 49 = .ok (.aload_n 0, 1) := by decide +kernel
theorem dX10_clear_50 : decode cX10_clear 50 = .ok (.iconst 0, 1) := by decide +kernel
theorem dX10_clear_51 : decode cX10_clear 51 = .ok (.putfield 52, 3) := by decide +kernel
theorem dX10_clear_54 : decode cX10_clear 54 = .ok (.return_, 1) := by decide +kernel
theorem dX10_clear_19 : decode cX10_clear 19 = .ok (.aload_n 0, 1) := by decide +kernel
theorem dX10_clear_20 : decode cX10_clear 20 = .ok (.getfield 9, 3) := by decide +kernel
theorem dX10_clear_23 : decode cX10_clear 23 = .ok (.iload_n 1, 1) := by decide +kernel
theorem dX10_clear_24 : decode cX10_clear 24 = .ok (.iload_n 1, 1) := by decide +kernel
theorem dX10_clear_25 : decode cX10_clear 25 = .ok (.iconst 4, 1) := by decide +kernel
theorem dX10_clear_26 : decode cX10_clear 26 = .ok (.idiv, 1) := by decide +kernel
theorem dX10_clear_27 : decode cX10_clear 27 = .ok (.iastore, 1) := by decide +kernel
theorem dX10_clear_28 : decode cX10_clear 28 = .ok (.iinc 1 1, 3) := by decide +kernel
theorem dX10_clear_31 : decode cX10_clear 31 = .ok (.goto (-21), 3) := by decide +kernel
theorem dX4_parse_0 : decode cX4_parse 0 = .ok (.aload_n 0, 1) := by decide +kernel
theorem dX4_parse_1 : decode cX4_parse 1 = .ok (.getfield 22, 3) := by decide +kernel
theorem dX4_parse_4 : decode cX4_parse 4 = .ok (.invokevirtual 29, 3) := by decide +kernel
theorem dX4_parse_7 : decode cX4_parse 7 = .ok (.aload_n 0, 1) := by decide +kernel
theorem dX4_parse_8 : decode cX4_parse 8 = .ok (.iconst 0, 1) := by decide +kernel
theorem dX4_parse_9 : decode cX4_parse 9 = .ok (.putfield 32, 3) := by decide +kernel
theorem dX4_parse_12 : decode cX4_parse 12 = .ok (.aload_n 0, 1) := by decide +kernel
theorem dX4_parse_13 : decode cX4_parse 13 = .ok (.iconst (-1), 1) := by decide +kernel
theorem dX4_parse_14 : decode cX4_parse 14 = .ok (.putfield 15, 3) := by decide +kernel
theorem dX4_parse_17 : decode cX4_parse 17 = .ok (.aload_n 0, 1) := by decide +kernel
theorem dX4_parse_18 : decode cX4_parse 18 = .ok (.iconst 0, 1) := by decide +kernel
theorem dX4_parse_19 : decode cX4_parse 19 = .ok (.putfield 35, 3) := by decide +kernel
theorem dX4_parse_22 : decode cX4_parse 22 = .ok (.aload_n 0, 1) := by decide +kernel
theorem dX4_parse_23 : decode cX4_parse 23 = .ok (.invokevirtual 38, 3) := by decide +kernel
theorem dX4_parse_26 : decode cX4_parse 26 = .ok (.iconst 0, 1) := by decide +kernel
theorem dX4_parse_27 : decode cX4_parse 27 = .ok (.istore_n 1, 1) := by decide +kernel
theorem dX4_parse_28 : decode cX4_parse 28 = .ok (.iload_n 1, 1) := by decide +kernel
theorem dX4_parse_29 : decode cX4_parse 29 = .ok (.sipush 1000, 3) := by decide +kernel
theorem dX4_parse_32 : decode cX4_parse 32 = .ok (.if_icmp .gt 43, 3) := by decide +kernel
theorem dX4_parse_35 : decode cX4_parse 35 = .ok (.aload_n 0, 1) := by decide +kernel
theorem dX4_parse_36 : decode cX4_parse 36 = .ok (.getfield 41, 3) := by decide +kernel
theorem dX4_parse_39 : decode cX4_parse 39 = .ok (.ifCond .eq 36, 3) := by decide +kernel
theorem dX4_parse_75 : decode cX4_parse 75 = .ok (.aload_n 0, 1) := by decide +kernel
theorem dX4_parse_76 : decode cX4_parse 76 = .ok (.getfield 32, 3) := by decide +kernel
theorem dX4_parse_79 : decode cX4_parse 79 = .ok (.ifCond .ne 7, 3) := by decide +kernel
theorem dX4_parse_82 : decode cX4_parse 82 = .ok (.iconst 1, 1) := by decide +kernel
theorem dX4_parse_83 : decode cX4_parse 83 = .ok (.goto 4, 3) := by decide +kernel
theorem dX4_parse_87 : decode cX4_parse 87 = .ok (.ireturn, 1) := by decide +kernel
theorem dX10_copyFrom_0 : decode cX10_copyFrom 0 = .ok (.aload_n 1, 1) := by decide +kernel
theorem dX10_copyFrom_1 : decode cX10_copyFrom 1 = .ok (.getfield 9, 3) := by decide +kernel
theorem dX10_copyFrom_4 : decode cX10_copyFrom 4 = .ok (.iconst 0, 1) := by decide +kernel
theorem dX10_copyFrom_5 : decode cX10_copyFrom 5 = .ok (.aload_n 0, 1) := by decide +kernel
theorem dX10_copyFrom_6 : decode cX10_copyFrom 6 = .ok (.getfield 9, 3) := by decide +kernel
theorem dX10_copyFrom_9 : decode cX10_copyFrom 9 = .ok (.iconst 0, 1) := by decide +kernel
theorem dX10_copyFrom_10 : decode cX10_copyFrom 10 = .ok (.aload_n 0, 1) := by decide +kernel
theorem dX10_copyFrom_11 : decode cX10_copyFrom 11 = .ok (.getfield 9, 3) := by decide +kernel
theorem dX10_copyFrom_14 : decode cX10_copyFrom 14 = .ok (.arraylength, 1) := by decide +kernel
theorem dX10_copyFrom_15 : decode cX10_copyFrom 15 = .ok (.invokestatic 55, 3) := by decide +kernel
theorem dX10_copyFrom_18 : decode cX10_copyFrom 18 = .ok (.aload_n 1, 1) := by decide +kernel
theorem dX10_copyFrom_19 : decode cX10_copyFrom 19 = .ok (.getfield 15, 3) := by decide +kernel
theorem dX10_copyFrom_22 : decode cX10_copyFrom 22 = .ok (.iconst 0, 1) := by decide +kernel
theorem dX10_copyFrom_23 : decode cX10_copyFrom 23 = .ok (.aload_n 0, 1) := by decide +kernel
theorem dX10_copyFrom_24 : decode cX10_copyFrom 24 = .ok (.getfield 15, 3) := by decide +kernel
theorem dX10_copyFrom_27 : decode cX10_copyFrom 27 = .ok (.iconst 0, 1) := by decide +kernel
theorem dX10_copyFrom_28 : decode cX10_copyFrom 28 = .ok (.aload_n 0, 1) := by decide +kernel
theorem dX10_copyFrom_29 : decode cX10_copyFrom 29 = .ok (.getfield 15, 3) := by decide +kernel
theorem dX10_copyFrom_32 : decode cX10_copyFrom 32 = .ok (.arraylength, 1) := by decide +kernel
theorem dX10_copyFrom_33 : decode cX10_copyFrom 33 = .ok (.invokestatic 55, 3) := by decide +kernel
theorem dX10_copyFrom_36 : decode cX10_copyFrom 36 = .ok (.aload_n 1, 1) := by decide +kernel
theorem dX10_copyFrom_37 : decode cX10_copyFrom 37 = .ok (.getfield 18, 3) := by decide +kernel
theorem dX10_copyFrom_40 : decode cX10_copyFrom 40 = .ok (.iconst 0, 1) := by decide +kernel
theorem dX10_copyFrom_41 : decode cX10_copyFrom 41 = .ok (.aload_n 0, 1) := by decide +kernel
theorem dX10_copyFrom_42 : decode cX10_copyFrom 42 = .ok (.getfield 18, 3) := by decide +kernel
theorem dX10_copyFrom_45 : decode cX10_copyFrom 45 = .ok (.iconst 0, 1) := by decide +kernel
theorem dX10_copyFrom_46 : decode cX10_copyFrom 46 = .ok (.aload_n 0, 1) := by decide +kernel
theorem dX10_copyFrom_47 : decode cX10_copyFrom 47 = .ok (.getfield 18, 3) := by decide +kernel
theorem dX10_copyFrom_50 : decode cX10_copyFrom 50 = .ok (.arraylength, 1) := by decide +kernel
theorem dX10_copyFrom_51 : decode cX10_copyFrom 51 = .ok (.invokestatic 55, 3) := by decide +kernel
theorem dX10_copyFrom_54 : decode cX10_copyFrom 54 = .ok (.aload_n 1, 1) := by decide +kernel
theorem dX10_copyFrom_55 : decode cX10_copyFrom 55 = .ok (.getfield 21, 3) := by decide +kernel
theorem dX10_copyFrom_58 : decode cX10_copyFrom 58 = .ok (.iconst 0, 1) := by decide +kernel
theorem dX10_copyFrom_59 : decode cX10_copyFrom 59 = .ok (.aload_n 0, 1) := by decide +kernel
theorem dX10_copyFrom_60 : decode cX10_copyFrom 60 = .ok (.getfield 21, 3) := by decide +kernel
theorem dX10_copyFrom_63 : decode cX10_copyFrom 63 = .ok (.iconst 0, 1) := by decide +kernel
theorem dX10_copyFrom_64 : decode cX10_copyFrom 64 = .ok (.aload_n 0, 1) := by decide +kernel
theorem dX10_copyFrom_65 : decode cX10_copyFrom 65 = .ok (.getfield 21, 3) := by decide +kernel
theorem dX10_copyFrom_68 : decode cX10_copyFrom 68 = .ok (.arraylength, 1) := by decide +kernel
theorem dX10_copyFrom_69 : decode cX10_copyFrom 69 = .ok (.invokestatic 55, 3) := by decide +kernel
theorem dX10_copyFrom_72 : decode cX10_copyFrom 72 = .ok (.aload_n 1, 1) := by decide +kernel
theorem dX10_copyFrom_73 : decode cX10_copyFrom 73 = .ok (.getfield 24, 3) := by decide +kernel
theorem dX10_copyFrom_76 : decode cX10_copyFrom 76 = .ok (.iconst 0, 1) := by decide +kernel
theorem dX10_copyFrom_77 : decode cX10_copyFrom 77 = .ok (.aload_n 0, 1) := by decide +kernel
theorem dX10_copyFrom_78 : decode cX10_copyFrom 78 = .ok (.getfield 24, 3) := by decide +kernel
theorem dX10_copyFrom_81 : decode cX10_copyFrom 81 = .ok (.iconst 0, 1) := by decide +kernel
theorem dX10_copyFrom_82 : decode cX10_copyFrom 82 = .ok (.aload_n 0, 1) := by decide +kernel
theorem dX10_copyFrom_83 : decode cX10_copyFrom 83 = .ok (.getfield 24, 3) := by decide +kernel
theorem dX10_copyFrom_86 : decode cX10_copyFrom 86 = .ok (.arraylength, 1) := by decide +kernel
theorem dX10_copyFrom_87 : decode cX10_copyFrom 87 = .ok (.invokestatic 55, 3) := by decide +kernel
theorem dX10_copyFrom_90 : decode cX10_copyFrom 90 = .ok (.aload_n 1, 1) := by decide +kernel
theorem dX10_copyFrom_91 : decode cX10_copyFrom 91 = .ok (.getfield 27, 3) := by decide +kernel
theorem dX10_copyFrom_94 : decode cX10_copyFrom 94 = .ok (.iconst 0, 1) := by decide +kernel
theorem dX10_copyFrom_95 : decode cX10_copyFrom 95 = .ok (.aload_n 0, 1) := by decide +kernel
theorem dX10_copyFrom_96 : decode cX10_copyFrom 96 = .ok (.getfield 27, 3) := by decide +kernel
theorem dX10_copyFrom_99 : decode cX10_copyFrom 99 = .ok (.iconst 0, 1) := by decide +kernel
theorem dX10_copyFrom_100 : decode cX10_copyFrom 100 = .ok (.aload_n 0, 1) := by decide +kernel
theorem dX10_copyFrom_101 : decode cX10_copyFrom 101 = .ok (.getfield 27, 3) := by decide +kernel
theorem dX10_copyFrom_104 : decode cX10_copyFrom 104 = .ok (.arraylength, 1) := by decide +kernel
theorem dX10_copyFrom_105 : decode cX10_copyFrom 105 = .ok (.invokestatic 55, 3) := by decide +kernel
theorem dX10_copyFrom_108 : decode cX10_copyFrom 108 = .ok (.aload_n 1, 1) := by decide +kernel
theorem dX10_copyFrom_109 : decode cX10_copyFrom 109 = .ok (.getfield 30, 3) := by decide +kernel
theorem dX10_copyFrom_112 : decode cX10_copyFrom 112 = .ok (.iconst 0, 1) := by decide +kernel
theorem dX10_copyFrom_113 : decode cX10_copyFrom 113 = .ok (.aload_n 0, 1) := by decide +kernel
theorem dX10_copyFrom_114 : decode cX10_copyFrom 114 = .ok (.getfield 30, 3) := by decide +kernel
theorem dX10_copyFrom_117 : decode cX10_copyFrom 117 = .ok (.iconst 0, 1) := by decide +kernel
theorem dX10_copyFrom_118 : decode cX10_copyFrom 118 = .ok (.aload_n 0, 1) := by decide +kernel
theorem dX10_copyFrom_119 : decode cX10_copyFrom 119 = .ok (.getfield 30, 3) := by decide +kernel
theorem dX10_copyFrom_122 : decode cX10_copyFrom 122 = .ok (.arraylength, 1) := by decide +kernel
theorem dX10_copyFrom_123 : decode cX10_copyFrom 123 = .ok (.invokestatic 55, 3) := by decide +kernel
theorem dX10_copyFrom_126 : decode cX10_copyFrom 126 = .ok (.aload_n 1, 1) := by decide +kernel
theorem dX10_copyFrom_127 : decode cX10_copyFrom 127 = .ok (.getfield 33, 3) := by decide +kernel
theorem dX10_copyFrom_130 : decode cX10_copyFrom 130 = .ok (.iconst 0, 1) := by decide +kernel
theorem dX10_copyFrom_131 : decode cX10_copyFrom 131 = .ok (.aload_n 0, 1) := by decide +kernel
theorem dX10_copyFrom_132 : decode cX10_copyFrom 132 = .ok (.getfield 33, 3) := by decide +kernel
theorem dX10_copyFrom_135 : decode cX10_copyFrom 135 = .ok (.iconst 0, 1) := by decide +kernel
theorem dX10_copyFrom_136 : decode cX10_copyFrom 136 = .ok (.aload_n 0, 1) := by decide +kernel
theorem dX10_copyFrom_137 : decode cX10_copyFrom 137 = .ok (.getfield 33, 3) := by decide +kernel
theorem dX10_copyFrom_140 : decode cX10_copyFrom 140 = .ok (.arraylength, 1) := by decide +kernel
theorem dX10_copyFrom_141 : decode cX10_copyFrom 141 = .ok (.invokestatic 55, 3) := by decide +kernel
theorem dX10_copyFrom_144 : decode cX10_copyFrom 144 = .ok (.aload_n 0, 1) := by decide +kernel
theorem dX10_copyFrom_145 : decode cX10_copyFrom 145 = .ok (.aload_n 1, 1) := by decide +kernel
theorem dX10_copyFrom_146 : decode cX10_copyFrom 146 = .ok (.getfield 42, 3) := by decide +kernel
theorem dX10_copyFrom_149 : decode cX10_copyFrom 149 = .ok (.putfield 42, 3) := by decide +kernel
theorem dX10_copyFrom_152 : decode cX10_copyFrom 152 = .ok (.aload_n 0, 1) := by decide +kernel
theorem dX10_copyFrom_153 : decode cX10_copyFrom 153 = .ok (.aload_n 1, 1) := by decide +kernel
theorem dX10_copyFrom_154 : decode cX10_copyFrom 154 = .ok (.getfield 46, 3) := by decide +kernel
theorem dX10_copyFrom_157 : decode cX10_copyFrom 157 = .ok (.putfield 46, 3) := by decide +kernel
theorem dX10_copyFrom_160 : decode cX10_copyFrom 160 = .ok (.aload_n 0, 1) := by decide +kernel
theorem dX10_copyFrom_161 : decode cX10_copyFrom 161 = .ok (.aload_n 1, 1) := by decide +kernel
theorem dX10_copyFrom_162 : decode cX10_copyFrom 162 = .ok (.getfield 49, 3) := by decide +kernel
theorem dX10_copyFrom_165 : decode cX10_copyFrom 165 = .ok (.putfield 49, 3) := by decide +kernel
theorem dX10_copyFrom_168 : decode cX10_copyFrom 168 = .ok (.aload_n 0, 1) := by decide +kernel
theorem dX10_copyFrom_169 : decode cX10_copyFrom 169 = .ok (.aload_n 1, 1) := by decide +kernel
theorem dX10_copyFrom_170 : decode cX10_copyFrom 170 = .ok (.getfield 52, 3) := by decide +kernel
theorem dX10_copyFrom_173 : decode cX10_copyFrom 173 = .ok (.putfield 52, 3) := by decide +kernel
theorem dX10_copyFrom_176 : decode cX10_copyFrom 176 = .ok (.return_, 1) := by decide +kernel
theorem dX2_copyFrom_0 : decode cX2_copyFrom 0 = .ok (.aload_n 1, 1) := by decide +kernel
theorem dX2_copyFrom_1 : decode cX2_copyFrom 1 = .ok (.getfield 9, 3) := by decide +kernel
theorem dX2_copyFrom_4 : decode cX2_copyFrom 4 = .ok (.iconst 0, 1) := by decide +kernel
theorem dX2_copyFrom_5 : decode cX2_copyFrom 5 = .ok (.aload_n 0, 1) := by decide +kernel
theorem dX2_copyFrom_6 : decode cX2_copyFrom 6 = .ok (.getfield 9, 3) := by decide +kernel
theorem dX2_copyFrom_9 : decode cX2_copyFrom 9 = .ok (.iconst 0, 1) := by decide +kernel
theorem dX2_copyFrom_10 : decode cX2_copyFrom 10 = .ok (.aload_n 0, 1) := by decide +kernel
theorem dX2_copyFrom_11 : decode cX2_copyFrom 11 = .ok (.getfield 9, 3) := by decide +kernel
theorem dX2_copyFrom_14 : decode cX2_copyFrom 14 = .ok (.arraylength, 1) := by decide +kernel
theorem dX2_copyFrom_15 : decode cX2_copyFrom 15 = .ok (.invokestatic 39, 3) := by decide +kernel
theorem dX2_copyFrom_18 : decode cX2_copyFrom 18 = .ok (.aload_n 1, 1) := by decide +kernel
theorem dX2_copyFrom_19 : decode cX2_copyFrom 19 = .ok (.getfield 15, 3) := by decide +kernel
theorem dX2_copyFrom_22 : decode cX2_copyFrom 22 = .ok (.iconst 0, 1) := by decide +kernel
theorem dX2_copyFrom_23 : decode cX2_copyFrom 23 = .ok (.aload_n 0, 1) := by decide +kernel
theorem dX2_copyFrom_24 : decode cX2_copyFrom 24 = .ok (.getfield 15, 3) := by decide +kernel
theorem dX2_copyFrom_27 : decode cX2_copyFrom 27 = .ok (.iconst 0, 1) := by decide +kernel
theorem dX2_copyFrom_28 : decode cX2_copyFrom 28 = .ok (.aload_n 0, 1) := by decide +kernel
theorem dX2_copyFrom_29 : decode cX2_copyFrom 29 = .ok (.getfield 15, 3) := by decide +kernel
