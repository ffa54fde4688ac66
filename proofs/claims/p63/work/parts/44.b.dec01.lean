theorem dX12_knows_23 : decode cX12_knows 23 = .ok (.ireturn, 1) := by decide +kernel
theorem dX12_loses_0 : decode cX12_loses 0 = .ok (.aload_n 0, 1) := by decide +kernel
theorem dX12_loses_1 : decode cX12_loses 1 = .ok (.iload_n 1, 1) := by decide +kernel
theorem dX12_loses_2 : decode cX12_loses 2 = .ok (.iload_n 2, 1) := by decide +kernel
theorem dX12_loses_3 : decode cX12_loses 3 = .ok (.invokevirtual 353, 3) := by decide +kernel
theorem dX12_loses_6 : decode cX12_loses 6 = .ok (.istore_n 3, 1) := by decide +kernel
theorem dX12_loses_7 : decode cX12_loses 7 = .ok (.iload_n 3, 1) := by decide +kernel
theorem dX12_loses_8 : decode cX12_loses 8 = .ok (.ifCond .ge 5, 3) := by decide +kernel
theorem dX12_loses_11 : decode cX12_loses 11 = .ok (.iload_n 3, 1) := by decide +kernel
theorem dX12_loses_12 : decode cX12_loses 12 = .ok (.ireturn, 1) := by decide +kernel
theorem dX12_loses_13 : decode cX12_loses 13 = .ok (.aload_n 0, 1) := by decide +kernel
theorem dX12_loses_14 : decode cX12_loses 14 = .ok (.iload_n 1, 1) := by decide +kernel
theorem dX12_loses_15 : decode cX12_loses 15 = .ok (.iload_n 2, 1) := by decide +kernel
theorem dX12_loses_16 : decode cX12_loses 16 = .ok (.invokevirtual 356, 3) := by decide +kernel
theorem dX12_loses_19 : decode cX12_loses 19 = .ok (.aload_n 0, 1) := by decide +kernel
theorem dX12_loses_20 : decode cX12_loses 20 = .ok (.getfield 344, 3) := by decide +kernel
theorem dX12_loses_23 : decode cX12_loses 23 = .ok (.ireturn, 1) := by decide +kernel
theorem dX12_doubts_0 : decode cX12_doubts 0 = .ok (.aload_n 0, 1) := by decide +kernel
theorem dX12_doubts_1 : decode cX12_doubts 1 = .ok (.iload_n 1, 1) := by decide +kernel
theorem dX12_doubts_2 : decode cX12_doubts 2 = .ok (.iload_n 2, 1) := by decide +kernel
theorem dX12_doubts_3 : decode cX12_doubts 3 = .ok (.invokevirtual 353, 3) := by decide +kernel
theorem dX12_doubts_6 : decode cX12_doubts 6 = .ok (.istore_n 3, 1) := by decide +kernel
theorem dX12_doubts_7 : decode cX12_doubts 7 = .ok (.iload_n 3, 1) := by decide +kernel
theorem dX12_doubts_8 : decode cX12_doubts 8 = .ok (.ifCond .ge 5, 3) := by decide +kernel
theorem dX12_doubts_11 : decode cX12_doubts 11 = .ok (.iload_n 3, 1) := by decide +kernel
theorem dX12_doubts_12 : decode cX12_doubts 12 = .ok (.ireturn, 1) := by decide +kernel
theorem dX12_doubts_13 : decode cX12_doubts 13 = .ok (.aload_n 0, 1) := by decide +kernel
theorem dX12_doubts_14 : decode cX12_doubts 14 = .ok (.iload_n 1, 1) := by decide +kernel
theorem dX12_doubts_15 : decode cX12_doubts 15 = .ok (.iload_n 2, 1) := by decide +kernel
theorem dX12_doubts_16 : decode cX12_doubts 16 = .ok (.invokevirtual 356, 3) := by decide +kernel
theorem dX12_doubts_19 : decode cX12_doubts 19 = .ok (.aload_n 0, 1) := by decide +kernel
theorem dX12_doubts_20 : decode cX12_doubts 20 = .ok (.getfield 347, 3) := by decide +kernel
theorem dX12_doubts_23 : decode cX12_doubts 23 = .ok (.ireturn, 1) := by decide +kernel
