theorem dX12_wood_0 : decode cX12_wood 0 = .ok (.aload_n 0, 1) := by decide +kernel
theorem dX12_wood_1 : decode cX12_wood 1 = .ok (.aload_n 0, 1) := by decide +kernel
theorem dX12_wood_2 : decode cX12_wood 2 = .ok (.getfield 133, 3) := by decide +kernel
theorem dX12_wood_5 : decode cX12_wood 5 = .ok (.putfield 136, 3) := by decide +kernel
theorem dX12_wood_8 : decode cX12_wood 8 = .ok (.aload_n 0, 1) := by decide +kernel
theorem dX12_wood_9 : decode cX12_wood 9 = .ok (.iconst 0, 1) := by decide +kernel
theorem dX12_wood_10 : decode cX12_wood 10 = .ok (.putfield 133, 3) := by decide +kernel
theorem dX12_wood_13 : decode cX12_wood 13 = .ok (.aload_n 0, 1) := by decide +kernel
theorem dX12_wood_14 : decode cX12_wood 14 = .ok (.iconst 0, 1) := by decide +kernel
theorem dX12_wood_15 : decode cX12_wood 15 = .ok (.putfield 139, 3) := by decide +kernel
theorem dX12_wood_18 : decode cX12_wood 18 = .ok (.aload_n 0, 1) := by decide +kernel
theorem dX12_wood_19 : decode cX12_wood 19 = .ok (.iconst 0, 1) := by decide +kernel
theorem dX12_wood_20 : decode cX12_wood 20 = .ok (.putfield 170, 3) := by decide +kernel
theorem dX12_wood_23 : decode cX12_wood 23 = .ok (.aload_n 0, 1) := by decide +kernel
theorem dX12_wood_24 : decode cX12_wood 24 = .ok (.iconst (-1), 1) := by decide +kernel
theorem dX12_wood_25 : decode cX12_wood 25 = .ok (.putfield 27, 3) := by decide +kernel
theorem dX12_wood_28 : decode cX12_wood 28 = .ok (.iconst 0, 1) := by decide +kernel
theorem dX12_wood_29 : decode cX12_wood 29 = .ok (.istore_n 1, 1) := by decide +kernel
theorem dX12_wood_30 : decode cX12_wood 30 = .ok (.iload_n 1, 1) := by decide +kernel
theorem dX12_wood_31 : decode cX12_wood 31 = .ok (.sipush 262, 3) := by decide +kernel
theorem dX12_wood_34 : decode cX12_wood 34 = .ok (.if_icmp .ge 16, 3) := by decide +kernel
theorem dX12_wood_50 : decode cX12_wood 50 = .ok (.aload_n 0, 1) := by decide +kernel
theorem dX12_wood_51 : decode cX12_wood 51 = .ok (.invokevirtual 189, 3) := by decide +kernel
theorem dX12_wood_54 : decode cX12_wood 54 = .ok (.aload_n 0, 1) := by decide +kernel
theorem dX12_wood_55 : decode cX12_wood 55 = .ok (.invokevirtual 173, 3) := by decide +kernel
theorem dX12_wood_58 : decode cX12_wood 58 = .ok (.ifCond .eq 17, 3) := by decide +kernel
theorem dX12_wood_61 : decode cX12_wood 61 = .ok (.aload_n 0, 1) := by decide +kernel
theorem dX12_wood_62 : decode cX12_wood 62 = .ok (.getfield 149, 3) := by decide +kernel
theorem dX12_wood_65 : decode cX12_wood 65 = .ok (.ifCond .eq 10, 3) := by decide +kernel
theorem dX12_wood_75 : decode cX12_wood 75 = .ok (.aload_n 0, 1) := by decide +kernel
theorem dX12_wood_76 : decode cX12_wood 76 = .ok (.invokevirtual 173, 3) := by decide +kernel
theorem dX12_wood_79 : decode cX12_wood 79 = .ok (.ifCond .ne 6, 3) := by decide +kernel
theorem dX12_wood_85 : decode cX12_wood 85 = .ok (.iconst 0, 1) := by decide +kernel
theorem dX12_wood_86 : decode cX12_wood 86 = .ok (.istore_n 1, 1) := by decide +kernel
theorem dX12_wood_87 : decode cX12_wood 87 = .ok (.iload_n 1, 1) := by decide +kernel
theorem dX12_wood_88 : decode cX12_wood 88 = .ok (.sipush 262, 3) := by decide +kernel
theorem dX12_wood_91 : decode cX12_wood 91 = .ok (.if_icmp .ge 21, 3) := by decide +kernel
theorem dX12_wood_112 : decode cX12_wood 112 = .ok (.aload_n 0, 1) := by decide +kernel
theorem dX12_wood_113 : decode cX12_wood 113 = .ok (.getfield 9, 3) := by decide +kernel
theorem dX12_wood_116 : decode cX12_wood 116 = .ok (.iconst 3, 1) := by decide +kernel
theorem dX12_wood_117 : decode cX12_wood 117 = .ok (.iaload, 1) := by decide +kernel
theorem dX12_wood_118 : decode cX12_wood 118 = .ok (.ireturn, 1) := by decide +kernel
theorem dX12_wood_94 : decode cX12_wood 94 = .ok (.aload_n 0, 1) := by decide +kernel
theorem dX12_wood_95 : decode cX12_wood 95 = .ok (.getfield 9, 3) := by decide +kernel
theorem dX12_wood_98 : decode cX12_wood 98 = .ok (.iload_n 1, 1) := by decide +kernel
theorem dX12_wood_99 : decode cX12_wood 99 = .ok (.aload_n 0, 1) := by decide +kernel
theorem dX12_wood_100 : decode cX12_wood 100 = .ok (.getfield 31, 3) := by decide +kernel
theorem dX12_wood_103 : decode cX12_wood 103 = .ok (.iload_n 1, 1) := by decide +kernel
theorem dX12_wood_104 : decode cX12_wood 104 = .ok (.iaload, 1) := by decide +kernel
theorem dX12_wood_105 : decode cX12_wood 105 = .ok (.iastore, 1) := by decide +kernel
theorem dX12_wood_106 : decode cX12_wood 106 = .ok (.iinc 1 1, 3) := by decide +kernel
theorem dX12_wood_109 : decode cX12_wood 109 = .ok (.goto (-22), 3) := by decide +kernel
theorem dX12_wood_82 : decode cX12_wood 82 = .ok (.bipush (-4), 2) := by decide +kernel
theorem dX12_wood_84 : decode cX12_wood 84 = .ok (.ireturn, 1) := by decide +kernel
theorem dX12_wood_68 : decode cX12_wood 68 = .ok (.aload_n 0, 1) := by decide +kernel
theorem dX12_wood_69 : decode cX12_wood 69 = .ok (.invokevirtual 267, 3) := by decide +kernel
theorem dX12_wood_72 : decode cX12_wood 72 = .ok (.goto (-18), 3) := by decide +kernel
theorem dX12_wood_37 : decode cX12_wood 37 = .ok (.aload_n 0, 1) := by decide +kernel
theorem dX12_wood_38 : decode cX12_wood 38 = .ok (.getfield 31, 3) := by decide +kernel
theorem dX12_wood_41 : decode cX12_wood 41 = .ok (.iload_n 1, 1) := by decide +kernel
theorem dX12_wood_42 : decode cX12_wood 42 = .ok (.iconst 0, 1) := by decide +kernel
theorem dX12_wood_43 : decode cX12_wood 43 = .ok (.iastore, 1) := by decide +kernel
theorem dX12_wood_44 : decode cX12_wood 44 = .ok (.iinc 1 1, 3) := by decide +kernel
theorem dX12_wood_47 : decode cX12_wood 47 = .ok (.goto (-17), 3) := by decide +kernel
