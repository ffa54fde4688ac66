theorem dX10_copyFrom_65 : decode cX10_copyFrom 65 = .ok (.getfield 21, 3) := by decide +kernel
theorem dX10_copyFrom_68 : decode cX10_copyFrom 68 = .ok (.arraylength, 1) := by decide +kernel
theorem dX10_copyFrom_69 : decode cX10_copyFrom 69 = .ok (.invokestatic 55, 3) := by decide +kernel
theorem dX10_copyFrom_72 : decode cX10_copyFrom 72 = .ok (.aload_n 1, 1) := by decide +kernel
theorem dX10_copyFrom_73 : decode cX10_copyFrom 73 = .ok (.getfield 24, 3) := by decide +kernel
theorem dX10_copyFrom_76 : decode cX10_copyFrom 76 = .ok (.iconst 0, 1) := by decide +kernel
theorem dX10_copyFrom_77 : decode cX10_copyFrom 77 = .ok (.aload_n 0, 1) := by decide +kernel
theorem dX10_copyFrom_78 : decode cX10_copyFrom 78 = .ok (.getfield 24, 3) := by decide +kernel
theorem dX10_copyFrom_81 : decode cX10_copyFrom 81 = .ok (.iconst 0, 1) := by decide +kernel
theorem dX10_copyFrom_82 : decode cX10_copyFrom 82 = .ok (.aload_n 0, 1) := by decide +kernel
theorem dX10_copyFrom_83 : decode cX10_copyFrom 83 = .ok (.getfield 24, 3) := by decide +kernel
theorem dX10_copyFrom_86 : decode cX10_copyFrom 86 = .ok (.arraylength, 1) := by decide +kernel
theorem dX10_copyFrom_87 : decode cX10_copyFrom 87 = .ok (.invokestatic 55, 3) := by decide +kernel
theorem dX10_copyFrom_90 : decode cX10_copyFrom 90 = .ok (.aload_n 1, 1) := by decide +kernel
theorem dX10_copyFrom_91 : decode cX10_copyFrom 91 = .ok (.getfield 27, 3) := by decide +kernel
theorem dX10_copyFrom_94 : decode cX10_copyFrom 94 = .ok (.iconst 0, 1) := by decide +kernel
theorem dX10_copyFrom_95 : decode cX10_copyFrom 95 = .ok (.aload_n 0, 1) := by decide +kernel
theorem dX10_copyFrom_96 : decode cX10_copyFrom 96 = .ok (.getfield 27, 3) := by decide +kernel
theorem dX10_copyFrom_99 : decode cX10_copyFrom 99 = .ok (.iconst 0, 1) := by decide +kernel
theorem dX10_copyFrom_100 : decode cX10_copyFrom 100 = .ok (.aload_n 0, 1) := by decide +kernel
theorem dX10_copyFrom_101 : decode cX10_copyFrom 101 = .ok (.getfield 27, 3) := by decide +kernel
theorem dX10_copyFrom_104 : decode cX10_copyFrom 104 = .ok (.arraylength, 1) := by decide +kernel
theorem dX10_copyFrom_105 : decode cX10_copyFrom 105 = .ok (.invokestatic 55, 3) := by decide +kernel
theorem dX10_copyFrom_108 : decode cX10_copyFrom 108 = .ok (.aload_n 1, 1) := by decide +kernel
theorem dX10_copyFrom_109 : decode cX10_copyFrom 109 = .ok (.getfield 30, 3) := by decide +kernel
theorem dX10_copyFrom_112 : decode cX10_copyFrom 112 = .ok (.iconst 0, 1) := by decide +kernel
theorem dX10_copyFrom_113 : decode cX10_copyFrom 113 = .ok (.aload_n 0, 1) := by decide +kernel
theorem dX10_copyFrom_114 : decode cX10_copyFrom 114 = .ok (.getfield 30, 3) := by decide +kernel
theorem dX10_copyFrom_117 : decode cX10_copyFrom 117 = .ok (.iconst 0, 1) := by decide +kernel
theorem dX10_copyFrom_118 : decode cX10_copyFrom 118 = .ok (.aload_n 0, 1) := by decide +kernel
theorem dX10_copyFrom_119 : decode cX10_copyFrom 119 = .ok (.getfield 30, 3) := by decide +kernel
theorem dX10_copyFrom_122 : decode cX10_copyFrom 122 = .ok (.arraylength, 1) := by decide +kernel
theorem dX10_copyFrom_123 : decode cX10_copyFrom 123 = .ok (.invokestatic 55, 3) := by decide +kernel
theorem dX10_copyFrom_126 : decode cX10_copyFrom 126 = .ok (.aload_n 1, 1) := by decide +kernel
theorem dX10_copyFrom_127 : decode cX10_copyFrom 127 = .ok (.getfield 33, 3) := by decide +kernel
theorem dX10_copyFrom_130 : decode cX10_copyFrom 130 = .ok (.iconst 0, 1) := by decide +kernel
theorem dX10_copyFrom_131 : decode cX10_copyFrom 131 = .ok (.aload_n 0, 1) := by decide +kernel
theorem dX10_copyFrom_132 : decode cX10_copyFrom 132 = .ok (.getfield 33, 3) := by decide +kernel
theorem dX10_copyFrom_135 : decode cX10_copyFrom 135 = .ok (.iconst 0, 1) := by decide +kernel
theorem dX10_copyFrom_136 : decode cX10_copyFrom 136 = .ok (.aload_n 0, 1) := by decide +kernel
theorem dX10_copyFrom_137 : decode cX10_copyFrom 137 = .ok (.getfield 33, 3) := by decide +kernel
theorem dX10_copyFrom_140 : decode cX10_copyFrom 140 = .ok (.arraylength, 1) := by decide +kernel
theorem dX10_copyFrom_141 : decode cX10_copyFrom 141 = .ok (.invokestatic 55, 3) := by decide +kernel
theorem dX10_copyFrom_144 : decode cX10_copyFrom 144 = .ok (.aload_n 0, 1) := by decide +kernel
theorem dX10_copyFrom_145 : decode cX10_copyFrom 145 = .ok (.aload_n 1, 1) := by decide +kernel
theorem dX10_copyFrom_146 : decode cX10_copyFrom 146 = .ok (.getfield 42, 3) := by decide +kernel
theorem dX10_copyFrom_149 : decode cX10_copyFrom 149 = .ok (.putfield 42, 3) := by decide +kernel
theorem dX10_copyFrom_152 : decode cX10_copyFrom 152 = .ok (.aload_n 0, 1) := by decide +kernel
theorem dX10_copyFrom_153 : decode cX10_copyFrom 153 = .ok (.aload_n 1, 1) := by decide +kernel
theorem dX10_copyFrom_154 : decode cX10_copyFrom 154 = .ok (.getfield 46, 3) := by decide +kernel
theorem dX10_copyFrom_157 : decode cX10_copyFrom 157 = .ok (.putfield 46, 3) := by decide +kernel
theorem dX10_copyFrom_160 : decode cX10_copyFrom 160 = .ok (.aload_n 0, 1) := by decide +kernel
theorem dX10_copyFrom_161 : decode cX10_copyFrom 161 = .ok (.aload_n 1, 1) := by decide +kernel
theorem dX10_copyFrom_162 : decode cX10_copyFrom 162 = .ok (.getfield 49, 3) := by decide +kernel
theorem dX10_copyFrom_165 : decode cX10_copyFrom 165 = .ok (.putfield 49, 3) := by decide +kernel
theorem dX10_copyFrom_168 : decode cX10_copyFrom 168 = .ok (.aload_n 0, 1) := by decide +kernel
theorem dX10_copyFrom_169 : decode cX10_copyFrom 169 = .ok (.aload_n 1, 1) := by decide +kernel
theorem dX10_copyFrom_170 : decode cX10_copyFrom 170 = .ok (.getfield 52, 3) := by decide +kernel
theorem dX10_copyFrom_173 : decode cX10_copyFrom 173 = .ok (.putfield 52, 3) := by decide +kernel
theorem dX10_copyFrom_176 : decode cX10_copyFrom 176 = .ok (.return_, 1) := by decide +kernel
theorem dX10_addPupil_0 : decode cX10_addPupil 0 = .ok (.aload_n 0, 1) := by decide +kernel
theorem dX10_addPupil_1 : decode cX10_addPupil 1 = .ok (.getfield 46, 3) := by decide +kernel
theorem dX10_addPupil_4 : decode cX10_addPupil 4 = .ok (.iconst 4, 1) := by decide +kernel
theorem dX10_addPupil_5 : decode cX10_addPupil 5 = .ok (.if_icmp .ge 43, 3) := by decide +kernel
theorem dX10_addPupil_48 : decode cX10_addPupil 48 = .ok (.return_, 1) := by decide +kernel
theorem dX10_addPupil_8 : decode cX10_addPupil 8 = .ok (.aload_n 0, 1) := by decide +kernel
theorem dX10_addPupil_9 : decode cX10_addPupil 9 = .ok (.getfield 18, 3) := by decide +kernel
theorem dX10_addPupil_12 : decode cX10_addPupil 12 = .ok (.aload_n 0, 1) := by decide +kernel
theorem dX10_addPupil_13 : decode cX10_addPupil 13 = .ok (.getfield 46, 3) := by decide +kernel
theorem dX10_addPupil_16 : decode cX10_addPupil 16 = .ok (.iload_n 1, 1) := by decide +kernel
theorem dX10_addPupil_17 : decode cX10_addPupil 17 = .ok (.iastore, 1) := by decide +kernel
theorem dX10_addPupil_18 : decode cX10_addPupil 18 = .ok (.aload_n 0, 1) := by decide +kernel
theorem dX10_addPupil_19 : decode cX10_addPupil 19 = .ok (.getfield 21, 3) := by decide +kernel
theorem dX10_addPupil_22 : decode cX10_addPupil 22 = .ok (.aload_n 0, 1) := by decide +kernel
theorem dX10_addPupil_23 : decode cX10_addPupil 23 = .ok (.getfield 46, 3) := by decide +kernel
theorem dX10_addPupil_26 : decode cX10_addPupil 26 = .ok (.iload_n 2, 1) := by decide +kernel
theorem dX10_addPupil_27 : decode cX10_addPupil 27 = .ok (.iastore, 1) := by decide +kernel
theorem dX10_addPupil_28 : decode cX10_addPupil 28 = .ok (.aload_n 0, 1) := by decide +kernel
theorem dX10_addPupil_29 : decode cX10_addPupil 29 = .ok (.getfield 24, 3) := by decide +kernel
theorem dX10_addPupil_32 : decode cX10_addPupil 32 = .ok (.aload_n 0, 1) := by decide +kernel
theorem dX10_addPupil_33 : decode cX10_addPupil 33 = .ok (.getfield 46, 3) := by decide +kernel
theorem dX10_addPupil_36 : decode cX10_addPupil 36 = .ok (.iload_n 3, 1) := by decide +kernel
theorem dX10_addPupil_37 : decode cX10_addPupil 37 = .ok (.iastore, 1) := by decide +kernel
theorem dX10_addPupil_38 : decode cX10_addPupil 38 = .ok (.aload_n 0, 1) := by decide +kernel
theorem dX10_addPupil_39 : decode cX10_addPupil 39 = .ok (.dup, 1) := by decide +kernel
theorem dX10_addPupil_40 : decode cX10_addPupil 40 = .ok (.getfield 46, 3) := by decide +kernel
theorem dX10_addPupil_43 : decode cX10_addPupil 43 = .ok (.iconst 1, 1) := by decide +kernel
theorem dX10_addPupil_44 : decode cX10_addPupil 44 = .ok (.iadd, 1) := by decide +kernel
theorem dX10_addPupil_45 : decode cX10_addPupil 45 = .ok (.putfield 46, 3) := by decide +kernel
theorem dX10_addLesson_0 : decode cX10_addLesson 0 = .ok (.aload_n 0, 1) := by decide +kernel
theorem dX10_addLesson_1 : decode cX10_addLesson 1 = .ok (.getfield 49, 3) := by decide +kernel
theorem dX10_addLesson_4 : decode cX10_addLesson 4 = .ok (.iconst 5, 1) := by decide +kernel
theorem dX10_addLesson_5 : decode cX10_addLesson 5 = .ok (.if_icmp .ge 43, 3) := by decide +kernel
theorem dX10_addLesson_48 : decode cX10_addLesson 48 = .ok (.return_, 1) := by decide +kernel
theorem dX10_addLesson_8 : decode cX10_addLesson 8 = .ok (.aload_n 0, 1) := by decide +kernel
theorem dX10_addLesson_9 : decode cX10_addLesson 9 = .ok (.getfield 27, 3) := by decide +kernel
theorem dX10_addLesson_12 : decode cX10_addLesson 12 = .ok (.aload_n 0, 1) := by decide +kernel
theorem dX10_addLesson_13 : decode cX10_addLesson 13 = .ok (.getfield 49, 3) := by decide +kernel
theorem dX10_addLesson_16 : decode cX10_addLesson 16 = .ok (.iload_n 1, 1) := by decide +kernel
theorem dX10_addLesson_17 : decode cX10_addLesson 17 = .ok (.iastore, 1) := by decide +kernel
theorem dX10_addLesson_18 : decode cX10_addLesson 18 = .ok (.aload_n 0, 1) := by decide +kernel
theorem dX10_addLesson_19 : decode cX10_addLesson 19 = .ok (.getfield 30, 3) := by decide +kernel
theorem dX10_addLesson_22 : decode cX10_addLesson 22 = .ok (.aload_n 0, 1) := by decide +kernel
theorem dX10_addLesson_23 : decode cX10_addLesson 23 = .ok (.getfield 49, 3) := by decide +kernel
theorem dX10_addLesson_26 : decode cX10_addLesson 26 = .ok (.iload_n 2, 1) := by decide +kernel
theorem dX10_addLesson_27 : decode cX10_addLesson 27 = .ok (.iastore, 1) := by decide +kernel
theorem dX10_addLesson_28 : decode cX10_addLesson 28 = .ok (.aload_n 0, 1) := by decide +kernel
theorem dX10_addLesson_29 : decode cX10_addLesson 29 = .ok (.getfield 33, 3) := by decide +kernel
theorem dX10_addLesson_32 : decode cX10_addLesson 32 = .ok (.aload_n 0, 1) := by decide +kernel
theorem dX10_addLesson_33 : decode cX10_addLesson 33 = .ok (.getfield 49, 3) := by decide +kernel
theorem dX10_addLesson_36 : decode cX10_addLesson 36 = .ok (.iload_n 3, 1) := by decide +kernel
theorem dX10_addLesson_37 : decode cX10_addLesson 37 = .ok (.iastore, 1) := by decide +kernel
theorem dX10_addLesson_38 : decode cX10_addLesson 38 = .ok (.aload_n 0, 1) := by decide +kernel
theorem dX10_addLesson_39 : decode cX10_addLesson 39 = .ok (.dup, 1) := by decide +kernel
theorem dX10_addLesson_40 : decode cX10_addLesson 40 = .ok (.getfield 49, 3) := by decide +kernel
theorem dX10_addLesson_43 : decode cX10_addLesson 43 = .ok (.iconst 1, 1) := by decide +kernel
theorem dX10_addLesson_44 : decode cX10_addLesson 44 = .ok (.iadd, 1) := by decide +kernel
theorem dX10_addLesson_45 : decode cX10_addLesson 45 = .ok (.putfield 49, 3) := by decide +kernel
theorem dX10_setWay_0 : decode cX10_setWay 0 = .ok (.aload_n 0, 1) := by decide +kernel
theorem dX10_setWay_1 : decode cX10_setWay 1 = .ok (.iload_n 1, 1) := by decide +kernel
theorem dX10_setWay_2 : decode cX10_setWay 2 = .ok (.invokevirtual 65, 3) := by decide +kernel
theorem dX10_setWay_5 : decode cX10_setWay 5 = .ok (.ifCond .eq 29, 3) := by decide +kernel
theorem dX10_setWay_34 : decode cX10_setWay 34 = .ok (.return_, 1) := by decide +kernel
theorem dX10_setWay_8 : decode cX10_setWay 8 = .ok (.iload_n 2, 1) := by decide +kernel
theorem dX10_setWay_9 : decode cX10_setWay 9 = .ok (.invokestatic 69, 3) := by decide +kernel
theorem dX10_setWay_12 : decode cX10_setWay 12 = .ok (.ifCond .eq 22, 3) := by decide +kernel
theorem dX10_setWay_15 : decode cX10_setWay 15 = .ok (.aload_n 0, 1) := by decide +kernel
theorem dX10_setWay_16 : decode cX10_setWay 16 = .ok (.iload_n 3, 1) := by decide +kernel
theorem dX10_setWay_17 : decode cX10_setWay 17 = .ok (.invokevirtual 65, 3) := by decide +kernel
theorem dX10_setWay_20 : decode cX10_setWay 20 = .ok (.ifCond .eq 14, 3) := by decide +kernel
theorem dX10_setWay_23 : decode cX10_setWay 23 = .ok (.aload_n 0, 1) := by decide +kernel
theorem dX10_setWay_24 : decode cX10_setWay 24 = .ok (.getfield 9, 3) := by decide +kernel
theorem dX10_setWay_27 : decode cX10_setWay 27 = .ok (.iload_n 1, 1) := by decide +kernel
theorem dX10_setWay_28 : decode cX10_setWay 28 = .ok (.iconst 4, 1) := by decide +kernel
theorem dX10_setWay_29 : decode cX10_setWay 29 = .ok (.imul, 1) := by decide +kernel
theorem dX10_setWay_30 : decode cX10_setWay 30 = .ok (.iload_n 2, 1) := by decide +kernel
theorem dX10_setWay_31 : decode cX10_setWay 31 = .ok (.iadd, 1) := by decide +kernel
theorem dX10_setWay_32 : decode cX10_setWay 32 = .ok (.iload_n 3, 1) := by decide +kernel
theorem dX10_setWay_33 : decode cX10_setWay 33 = .ok (.iastore, 1) := by decide +kernel
theorem dX10_setSign_0 : decode cX10_setSign 0 = .ok (.aload_n 0, 1) := by decide +kernel
theorem dX10_setSign_1 : decode cX10_setSign 1 = .ok (.iload_n 1, 1) := by decide +kernel
theorem dX10_setSign_2 : decode cX10_setSign 2 = .ok (.invokevirtual 65, 3) := by decide +kernel
theorem dX10_setSign_5 : decode cX10_setSign 5 = .ok (.ifCond .eq 10, 3) := by decide +kernel
theorem dX10_setSign_15 : decode cX10_setSign 15 = .ok (.return_, 1) := by decide +kernel
theorem dX10_setSign_8 : decode cX10_setSign 8 = .ok (.aload_n 0, 1) := by decide +kernel
theorem dX10_setSign_9 : decode cX10_setSign 9 = .ok (.getfield 15, 3) := by decide +kernel
theorem dX10_setSign_12 : decode cX10_setSign 12 = .ok (.iload_n 1, 1) := by decide +kernel
theorem dX10_setSign_13 : decode cX10_setSign 13 = .ok (.iload_n 2, 1) := by decide +kernel
theorem dX10_setSign_14 : decode cX10_setSign 14 = .ok (.iastore, 1) := by decide +kernel
theorem dX5_has_0 : decode cX5_has 0 = .ok (.iload_n 1, 1) := by decide +kernel
theorem dX5_has_1 : decode cX5_has 1 = .ok (.invokestatic 28, 3) := by decide +kernel
theorem dX5_has_4 : decode cX5_has 4 = .ok (.ifCond .eq 17, 3) := by decide +kernel
theorem dX5_has_21 : decode cX5_has 21 = .ok (.iconst 0, 1) := by decide +kernel
theorem dX5_has_22 : decode cX5_has 22 = .ok (.ireturn, 1) := by decide +kernel
theorem dX5_has_7 : decode cX5_has 7 = .ok (.aload_n 0, 1) := by decide +kernel
theorem dX5_has_8 : decode cX5_has 8 = .ok (.getfield 19, 3) := by decide +kernel
theorem dX5_has_11 : decode cX5_has 11 = .ok (.iload_n 1, 1) := by decide +kernel
theorem dX5_has_12 : decode cX5_has 12 = .ok (.iaload, 1) := by decide +kernel
theorem dX5_has_13 : decode cX5_has 13 = .ok (.iconst (-1), 1) := by decide +kernel
theorem dX5_has_14 : decode cX5_has 14 = .ok (.if_icmp .eq 7, 3) := by decide +kernel
theorem dX5_has_17 : decode cX5_has 17 = .ok (.iconst 1, 1) := by decide +kernel
theorem dX5_has_18 : decode cX5_has 18 = .ok (.goto 4, 3) := by decide +kernel
theorem dX5_width_0 : decode cX5_width 0 = .ok (.iload_n 1, 1) := by decide +kernel
theorem dX5_width_1 : decode cX5_width 1 = .ok (.invokestatic 28, 3) := by decide +kernel
theorem dX5_width_4 : decode cX5_width 4 = .ok (.ifCond .eq 12, 3) := by decide +kernel
theorem dX5_width_16 : decode cX5_width 16 = .ok (.iconst (-1), 1) := by decide +kernel
theorem dX5_width_17 : decode cX5_width 17 = .ok (.ireturn, 1) := by decide +kernel
theorem dX5_width_7 : decode cX5_width 7 = .ok (.aload_n 0, 1) := by decide +kernel
theorem dX5_width_8 : decode cX5_width 8 = .ok (.getfield 15, 3) := by decide +kernel
theorem dX5_width_11 : decode cX5_width 11 = .ok (.iload_n 1, 1) := by decide +kernel
theorem dX5_width_12 : decode cX5_width 12 = .ok (.iaload, 1) := by decide +kernel
theorem dX5_width_13 : decode cX5_width 13 = .ok (.goto 4, 3) := by decide +kernel
theorem dX5_size_0 : decode cX5_size 0 = .ok (.aload_n 0, 1) := by decide +kernel
theorem dX5_size_1 : decode cX5_size 1 = .ok (.iload_n 1, 1) := by decide +kernel
theorem dX5_size_2 : decode cX5_size 2 = .ok (.invokevirtual 35, 3) := by decide +kernel
theorem dX5_size_5 : decode cX5_size 5 = .ok (.ifCond .eq 12, 3) := by decide +kernel
theorem dX5_size_17 : decode cX5_size 17 = .ok (.iconst 0, 1) := by decide +kernel
theorem dX5_size_18 : decode cX5_size 18 = .ok (.ireturn, 1) := by decide +kernel
theorem dX5_size_8 : decode cX5_size 8 = .ok (.aload_n 0, 1) := by decide +kernel
theorem dX5_size_9 : decode cX5_size 9 = .ok (.getfield 19, 3) := by decide +kernel
theorem dX5_size_12 : decode cX5_size 12 = .ok (.iload_n 1, 1) := by decide +kernel
theorem dX5_size_13 : decode cX5_size 13 = .ok (.iaload, 1) := by decide +kernel
theorem dX5_size_14 : decode cX5_size 14 = .ok (.goto 4, 3) := by decide +kernel
theorem dX5_kept_0 : decode cX5_kept 0 = .ok (.iconst 0, 1) := by decide +kernel
theorem dX5_kept_1 : decode cX5_kept 1 = .ok (.istore_n 1, 1) := by decide +kernel
theorem dX5_kept_2 : decode cX5_kept 2 = .ok (.iconst 0, 1) := by decide +kernel
theorem dX5_kept_3 : decode cX5_kept 3 = .ok (.istore_n 2, 1) := by decide +kernel
theorem dX5_kept_4 : decode cX5_kept 4 = .ok (.iload_n 2, 1) := by decide +kernel
theorem dX5_kept_5 : decode cX5_kept 5 = .ok (.iconst 4, 1) := by decide +kernel
theorem dX5_kept_6 : decode cX5_kept 6 = .ok (.if_icmp .ge 25, 3) := by decide +kernel
theorem dX5_kept_31 : decode cX5_kept 31 = .ok (.iload_n 1, 1) := by decide +kernel
theorem dX5_kept_32 : decode cX5_kept 32 = .ok (.ireturn, 1) := by decide +kernel
theorem dX5_kept_9 : decode cX5_kept 9 = .ok (.iload_n 1, 1) := by decide +kernel
theorem dX5_kept_10 : decode cX5_kept 10 = .ok (.aload_n 0, 1) := by decide +kernel
theorem dX5_kept_11 : decode cX5_kept 11 = .ok (.iload_n 2, 1) := by decide +kernel
theorem dX5_kept_12 : decode cX5_kept 12 = .ok (.invokevirtual 35, 3) := by decide +kernel
theorem dX5_kept_15 : decode cX5_kept 15 = .ok (.ifCond .eq 7, 3) := by decide +kernel
theorem dX5_kept_22 : decode cX5_kept 22 = .ok (.iconst 0, 1) := by decide +kernel
theorem dX5_kept_23 : decode cX5_kept 23 = .ok (.iadd, 1) := by decide +kernel
theorem dX5_kept_24 : decode cX5_kept 24 = .ok (.istore_n 1, 1) := by decide +kernel
theorem dX5_kept_25 : decode cX5_kept 25 = .ok (.iinc 2 1, 3) := by decide +kernel
theorem dX5_kept_28 : decode cX5_kept 28 = .ok (.goto (-24), 3) := by decide +kernel
theorem dX5_kept_18 : decode cX5_kept 18 = .ok (.iconst 1, 1) := by decide +kernel
theorem dX5_kept_19 : decode cX5_kept 19 = .ok (.goto 4, 3) := by decide +kernel
theorem dX5_cut_0 : decode cX5_cut 0 = .ok (.iload_n 2, 1) := by decide +kernel
theorem dX5_cut_1 : decode cX5_cut 1 = .ok (.tableswitch 41 0 2 #[27, 32, 37], 27) := by decide +kernel
theorem dX5_cut_28 : decode cX5_cut 28 = .ok (.lload_n 0, 1) := by decide +kernel
theorem dX5_cut_29 : decode cX5_cut 29 = .ok (.l2i, 1) := by decide +kernel
theorem dX5_cut_30 : decode cX5_cut 30 = .ok (.i2b, 1) := by decide +kernel
theorem dX5_cut_31 : decode cX5_cut 31 = .ok (.i2l, 1) := by decide +kernel
theorem dX5_cut_32 : decode cX5_cut 32 = .ok (.lreturn, 1) := by decide +kernel
theorem dX5_cut_33 : decode cX5_cut 33 = .ok (.lload_n 0, 1) := by decide +kernel
theorem dX5_cut_34 : decode cX5_cut 34 = .ok (.l2i, 1) := by decide +kernel
theorem dX5_cut_35 : decode cX5_cut 35 = .ok (.i2s, 1) := by decide +kernel
theorem dX5_cut_36 : decode cX5_cut 36 = .ok (.i2l, 1) := by decide +kernel
theorem dX5_cut_37 : decode cX5_cut 37 = .ok (.lreturn, 1) := by decide +kernel
theorem dX5_cut_38 : decode cX5_cut 38 = .ok (.lload_n 0, 1) := by decide +kernel
theorem dX5_cut_39 : decode cX5_cut 39 = .ok (.l2i, 1) := by decide +kernel
theorem dX5_cut_40 : decode cX5_cut 40 = .ok (.i2l, 1) := by decide +kernel
theorem dX5_cut_41 : decode cX5_cut 41 = .ok (.lreturn, 1) := by decide +kernel
theorem dX5_cut_42 : decode cX5_cut 42 = .ok (.lload_n 0, 1) := by decide +kernel
theorem dX5_cut_43 : decode cX5_cut 43 = .ok (.lreturn, 1) := by decide +kernel
theorem dX5_isWithin_0 : decode cX5_isWithin 0 = .ok (.iload_n 2, 1) := by decide +kernel
theorem dX5_isWithin_1 : decode cX5_isWithin 1 = .ok (.ifCond .lt 12, 3) := by decide +kernel
theorem dX5_isWithin_13 : decode cX5_isWithin 13 = .ok (.iconst 0, 1) := by decide +kernel
theorem dX5_isWithin_14 : decode cX5_isWithin 14 = .ok (.ireturn, 1) := by decide +kernel
theorem dX5_isWithin_4 : decode cX5_isWithin 4 = .ok (.iload_n 2, 1) := by decide +kernel
theorem dX5_isWithin_5 : decode cX5_isWithin 5 = .ok (.aload_n 0, 1) := by decide +kernel
theorem dX5_isWithin_6 : decode cX5_isWithin 6 = .ok (.iload_n 1, 1) := by decide +kernel
theorem dX5_isWithin_7 : decode cX5_isWithin 7 = .ok (.invokevirtual 38, 3) := by decide +kernel
theorem dX5_isWithin_10 : decode cX5_isWithin 10 = .ok (.if_icmp .lt 5, 3) := by decide +kernel
theorem dX5_isWithin_15 : decode cX5_isWithin 15 = .ok (.aload_n 0, 1) := by decide +kernel
theorem dX5_isWithin_16 : decode cX5_isWithin 16 = .ok (.getfield 9, 3) := by decide +kernel
theorem dX5_isWithin_19 : decode cX5_isWithin 19 = .ok (.iload_n 1, 1) := by decide +kernel
theorem dX5_isWithin_20 : decode cX5_isWithin 20 = .ok (.bipush 60, 2) := by decide +kernel
theorem dX5_isWithin_22 : decode cX5_isWithin 22 = .ok (.imul, 1) := by decide +kernel
theorem dX5_isWithin_23 : decode cX5_isWithin 23 = .ok (.iload_n 2, 1) := by decide +kernel
theorem dX5_isWithin_24 : decode cX5_isWithin 24 = .ok (.iadd, 1) := by decide +kernel
theorem dX5_isWithin_25 : decode cX5_isWithin 25 = .ok (.laload, 1) := by decide +kernel
theorem dX5_isWithin_26 : decode cX5_isWithin 26 = .ok (.lstore 4, 2) := by decide +kernel
theorem dX5_isWithin_28 : decode cX5_isWithin 28 = .ok (.lload 4, 2) := by decide +kernel
theorem dX5_isWithin_30 : decode cX5_isWithin 30 = .ok (.lconst 0, 1) := by decide +kernel
theorem dX5_isWithin_31 : decode cX5_isWithin 31 = .ok (.lcmp, 1) := by decide +kernel
theorem dX5_isWithin_32 : decode cX5_isWithin 32 = .ok (.ifCond .lt 15, 3) := by decide +kernel
theorem dX5_isWithin_47 : decode cX5_isWithin 47 = .ok (.iconst 0, 1) := by decide +kernel
theorem dX5_isWithin_48 : decode cX5_isWithin 48 = .ok (.ireturn, 1) := by decide +kernel
theorem dX5_isWithin_35 : decode cX5_isWithin 35 = .ok (.lload 4, 2) := by decide +kernel
theorem dX5_isWithin_37 : decode cX5_isWithin 37 = .ok (.iload_n 3, 1) := by decide +kernel
theorem dX5_isWithin_38 : decode cX5_isWithin 38 = .ok (.i2l, 1) := by decide +kernel
theorem dX5_isWithin_39 : decode cX5_isWithin 39 = .ok (.lcmp, 1) := by decide +kernel
theorem dX5_isWithin_40 : decode cX5_isWithin 40 = .ok (.ifCond .ge 7, 3) := by decide +kernel
theorem dX5_isWithin_43 : decode cX5_isWithin 43 = .ok (.iconst 1, 1) := by decide +kernel
theorem dX5_isWithin_44 : decode cX5_isWithin 44 = .ok (.goto 4, 3) := by decide +kernel
theorem dX5_small_0 : decode cX5_small 0 = .ok (.iload_n 2, 1) := by decide +kernel
theorem dX5_small_1 : decode cX5_small 1 = .ok (.ifCond .lt 27, 3) := by decide +kernel
theorem dX5_small_28 : decode cX5_small 28 = .ok (.iconst 0, 1) := by decide +kernel
theorem dX5_small_29 : decode cX5_small 29 = .ok (.ireturn, 1) := by decide +kernel
theorem dX5_small_4 : decode cX5_small 4 = .ok (.iload_n 2, 1) := by decide +kernel
theorem dX5_small_5 : decode cX5_small 5 = .ok (.aload_n 0, 1) := by decide +kernel
theorem dX5_small_6 : decode cX5_small 6 = .ok (.iload_n 1, 1) := by decide +kernel
theorem dX5_small_7 : decode cX5_small 7 = .ok (.invokevirtual 38, 3) := by decide +kernel
theorem dX5_small_10 : decode cX5_small 10 = .ok (.if_icmp .ge 18, 3) := by decide +kernel
theorem dX5_small_13 : decode cX5_small 13 = .ok (.aload_n 0, 1) := by decide +kernel
theorem dX5_small_14 : decode cX5_small 14 = .ok (.getfield 9, 3) := by decide +kernel
theorem dX5_small_17 : decode cX5_small 17 = .ok (.iload_n 1, 1) := by decide +kernel
theorem dX5_small_18 : decode cX5_small 18 = .ok (.bipush 60, 2) := by decide +kernel
theorem dX5_small_20 : decode cX5_small 20 = .ok (.imul, 1) := by decide +kernel
theorem dX5_small_21 : decode cX5_small 21 = .ok (.iload_n 2, 1) := by decide +kernel
theorem dX5_small_22 : decode cX5_small 22 = .ok (.iadd, 1) := by decide +kernel
theorem dX5_small_23 : decode cX5_small 23 = .ok (.laload, 1) := by decide +kernel
theorem dX5_small_24 : decode cX5_small 24 = .ok (.l2i, 1) := by decide +kernel
theorem dX5_small_25 : decode cX5_small 25 = .ok (.goto 4, 3) := by decide +kernel
theorem dX5_put_0 : decode cX5_put 0 = .ok (.iload_n 2, 1) := by decide +kernel
theorem dX5_put_1 : decode cX5_put 1 = .ok (.ifCond .lt 32, 3) := by decide +kernel
theorem dX5_put_33 : decode cX5_put 33 = .ok (.return_, 1) := by decide +kernel
theorem dX5_put_4 : decode cX5_put 4 = .ok (.iload_n 2, 1) := by decide +kernel
theorem dX5_put_5 : decode cX5_put 5 = .ok (.aload_n 0, 1) := by decide +kernel
theorem dX5_put_6 : decode cX5_put 6 = .ok (.iload_n 1, 1) := by decide +kernel
theorem dX5_put_7 : decode cX5_put 7 = .ok (.invokevirtual 38, 3) := by decide +kernel
theorem dX5_put_10 : decode cX5_put 10 = .ok (.if_icmp .ge 23, 3) := by decide +kernel
theorem dX5_put_13 : decode cX5_put 13 = .ok (.aload_n 0, 1) := by decide +kernel
theorem dX5_put_14 : decode cX5_put 14 = .ok (.getfield 9, 3) := by decide +kernel
theorem dX5_put_17 : decode cX5_put 17 = .ok (.iload_n 1, 1) := by decide +kernel
theorem dX5_put_18 : decode cX5_put 18 = .ok (.bipush 60, 2) := by decide +kernel
theorem dX5_put_20 : decode cX5_put 20 = .ok (.imul, 1) := by decide +kernel
theorem dX5_put_21 : decode cX5_put 21 = .ok (.iload_n 2, 1) := by decide +kernel
theorem dX5_put_22 : decode cX5_put 22 = .ok (.iadd, 1) := by decide +kernel
theorem dX5_put_23 : decode cX5_put 23 = .ok (.lload_n 3, 1) := by decide +kernel
theorem dX5_put_24 : decode cX5_put 24 = .ok (.aload_n 0, 1) := by decide +kernel
theorem dX5_put_25 : decode cX5_put 25 = .ok (.iload_n 1, 1) := by decide +kernel
theorem dX5_put_26 : decode cX5_put 26 = .ok (.invokevirtual 42, 3) := by decide +kernel
theorem dX5_put_29 : decode cX5_put 29 = .ok (.invokestatic 45, 3) := by decide +kernel
theorem dX5_put_32 : decode cX5_put 32 = .ok (.lastore, 1) := by decide +kernel
theorem dX5_covers_0 : decode cX5_covers 0 = .ok (.iload_n 2, 1) := by decide +kernel
theorem dX5_covers_1 : decode cX5_covers 1 = .ok (.ifCond .lt 31, 3) := by decide +kernel
theorem dX5_covers_32 : decode cX5_covers 32 = .ok (.iconst 0, 1) := by decide +kernel
theorem dX5_covers_33 : decode cX5_covers 33 = .ok (.ireturn, 1) := by decide +kernel
theorem dX5_covers_4 : decode cX5_covers 4 = .ok (.iload_n 3, 1) := by decide +kernel
theorem dX5_covers_5 : decode cX5_covers 5 = .ok (.ifCond .lt 27, 3) := by decide +kernel
theorem dX5_covers_8 : decode cX5_covers 8 = .ok (.iload_n 2, 1) := by decide +kernel
theorem dX5_covers_9 : decode cX5_covers 9 = .ok (.aload_n 0, 1) := by decide +kernel
theorem dX5_covers_10 : decode cX5_covers 10 = .ok (.iload_n 1, 1) := by decide +kernel
theorem dX5_covers_11 : decode cX5_covers 11 = .ok (.invokevirtual 38, 3) := by decide +kernel
theorem dX5_covers_14 : decode cX5_covers 14 = .ok (.if_icmp .gt 18, 3) := by decide +kernel
theorem dX5_covers_17 : decode cX5_covers 17 = .ok (.iload_n 3, 1) := by decide +kernel
theorem dX5_covers_18 : decode cX5_covers 18 = .ok (.aload_n 0, 1) := by decide +kernel
theorem dX5_covers_19 : decode cX5_covers 19 = .ok (.iload_n 1, 1) := by decide +kernel
theorem dX5_covers_20 : decode cX5_covers 20 = .ok (.invokevirtual 38, 3) := by decide +kernel
theorem dX5_covers_23 : decode cX5_covers 23 = .ok (.iload_n 2, 1) := by decide +kernel
theorem dX5_covers_24 : decode cX5_covers 24 = .ok (.isub, 1) := by decide +kernel
theorem dX5_covers_25 : decode cX5_covers 25 = .ok (.if_icmp .gt 7, 3) := by decide +kernel
theorem dX5_covers_28 : decode cX5_covers 28 = .ok (.iconst 1, 1) := by decide +kernel
theorem dX5_covers_29 : decode cX5_covers 29 = .ok (.goto 4, 3) := by decide +kernel
theorem dX5_move_0 : decode cX5_move 0 = .ok (.aload_n 0, 1) := by decide +kernel
theorem dX5_move_1 : decode cX5_move 1 = .ok (.iload_n 1, 1) := by decide +kernel
theorem dX5_move_2 : decode cX5_move 2 = .ok (.iload_n 2, 1) := by decide +kernel
theorem dX5_move_3 : decode cX5_move 3 = .ok (.iload 5, 2) := by decide +kernel
theorem dX5_move_5 : decode cX5_move 5 = .ok (.invokevirtual 49, 3) := by decide +kernel
theorem dX5_move_8 : decode cX5_move 8 = .ok (.ifCond .eq 55, 3) := by decide +kernel
theorem dX5_move_63 : decode cX5_move 63 = .ok (.return_, 1) := by decide +kernel
theorem dX5_move_11 : decode cX5_move 11 = .ok (.aload_n 0, 1) := by decide +kernel
theorem dX5_move_12 : decode cX5_move 12 = .ok (.iload_n 3, 1) := by decide +kernel
theorem dX5_move_13 : decode cX5_move 13 = .ok (.iload 4, 2) := by decide +kernel
theorem dX5_move_15 : decode cX5_move 15 = .ok (.iload 5, 2) := by decide +kernel
theorem dX5_move_17 : decode cX5_move 17 = .ok (.invokevirtual 49, 3) := by decide +kernel
theorem dX5_move_20 : decode cX5_move 20 = .ok (.ifCond .eq 43, 3) := by decide +kernel
theorem dX5_move_23 : decode cX5_move 23 = .ok (.iload_n 1, 1) := by decide +kernel
theorem dX5_move_24 : decode cX5_move 24 = .ok (.invokestatic 28, 3) := by decide +kernel
theorem dX5_move_27 : decode cX5_move 27 = .ok (.ifCond .eq 36, 3) := by decide +kernel
theorem dX5_move_30 : decode cX5_move 30 = .ok (.iload_n 3, 1) := by decide +kernel
theorem dX5_move_31 : decode cX5_move 31 = .ok (.invokestatic 28, 3) := by decide +kernel
theorem dX5_move_34 : decode cX5_move 34 = .ok (.ifCond .eq 29, 3) := by decide +kernel
theorem dX5_move_37 : decode cX5_move 37 = .ok (.aload_n 0, 1) := by decide +kernel
theorem dX5_move_38 : decode cX5_move 38 = .ok (.getfield 9, 3) := by decide +kernel
theorem dX5_move_41 : decode cX5_move 41 = .ok (.iload_n 1, 1) := by decide +kernel
theorem dX5_move_42 : decode cX5_move 42 = .ok (.bipush 60, 2) := by decide +kernel
theorem dX5_move_44 : decode cX5_move 44 = .ok (.imul, 1) := by decide +kernel
theorem dX5_move_45 : decode cX5_move 45 = .ok (.iload_n 2, 1) := by decide +kernel
theorem dX5_move_46 : decode cX5_move 46 = .ok (.iadd, 1) := by decide +kernel
theorem dX5_move_47 : decode cX5_move 47 = .ok (.aload_n 0, 1) := by decide +kernel
theorem dX5_move_48 : decode cX5_move 48 = .ok (.getfield 9, 3) := by decide +kernel
theorem dX5_move_51 : decode cX5_move 51 = .ok (.iload_n 3, 1) := by decide +kernel
theorem dX5_move_52 : decode cX5_move 52 = .ok (.bipush 60, 2) := by decide +kernel
theorem dX5_move_54 : decode cX5_move 54 = .ok (.imul, 1) := by decide +kernel
theorem dX5_move_55 : decode cX5_move 55 = .ok (.iload 4, 2) := by decide +kernel
theorem dX5_move_57 : decode cX5_move 57 = .ok (.iadd, 1) := by decide +kernel
theorem dX5_move_58 : decode cX5_move 58 = .ok (.iload 5, 2) := by decide +kernel
theorem dX5_move_60 : decode cX5_move 60 = .ok (.invokestatic 53, 3) := by decide +kernel
theorem dJ7_rangeCheck_23922_0 : decode cJ7_rangeCheck_23922 0 = .ok (.iload_n 1, 1) := by decide +kernel
theorem dJ7_rangeCheck_23922_1 : decode cJ7_rangeCheck_23922 1 = .ok (.iload_n 2, 1) := by decide +kernel
theorem dJ7_rangeCheck_23922_2 : decode cJ7_rangeCheck_23922 2 = .ok (.if_icmp .le 44, 3) := by decide +kernel
theorem dJ7_rangeCheck_23922_46 : decode cJ7_rangeCheck_23922 46 = .ok (.iload_n 1, 1) := by decide +kernel
theorem dJ7_rangeCheck_23922_47 : decode cJ7_rangeCheck_23922 47 = .ok (.ifCond .ge 12, 3) := by decide +kernel
theorem dJ7_rangeCheck_23922_59 : decode cJ7_rangeCheck_23922 59 = .ok (.iload_n 2, 1) := by decide +kernel
theorem dJ7_rangeCheck_23922_60 : decode cJ7_rangeCheck_23922 60 = .ok (.iload_n 0, 1) := by decide +kernel
theorem dJ7_rangeCheck_23922_61 : decode cJ7_rangeCheck_23922 61 = .ok (.if_icmp .le 12, 3) := by decide +kernel
theorem dJ7_rangeCheck_23922_73 : decode cJ7_rangeCheck_23922 73 = .ok (.return_, 1) := by decide +kernel
theorem dJ7_fill_bad5a_0 : decode cJ7_fill_bad5a 0 = .ok (.aload_n 0, 1) := by decide +kernel
theorem dJ7_fill_bad5a_1 : decode cJ7_fill_bad5a 1 = .ok (.arraylength, 1) := by decide +kernel
theorem dJ7_fill_bad5a_2 : decode cJ7_fill_bad5a 2 = .ok (.iload_n 1, 1) := by decide +kernel
theorem dJ7_fill_bad5a_3 : decode cJ7_fill_bad5a 3 = .ok (.iload_n 2, 1) := by decide +kernel
theorem dJ7_fill_bad5a_4 : decode cJ7_fill_bad5a 4 = .ok (.invokestatic 13, 3) := by decide +kernel
theorem dJ7_fill_bad5a_7 : decode cJ7_fill_bad5a 7 = .ok (.iload_n 1, 1) := by decide +kernel
theorem dJ7_fill_bad5a_8 : decode cJ7_fill_bad5a 8 = .ok (.istore 5, 2) := by decide +kernel
theorem dJ7_fill_bad5a_10 : decode cJ7_fill_bad5a 10 = .ok (.iload 5, 2) := by decide +kernel
theorem dJ7_fill_bad5a_12 : decode cJ7_fill_bad5a 12 = .ok (.iload_n 2, 1) := by decide +kernel
theorem dJ7_fill_bad5a_13 : decode cJ7_fill_bad5a 13 = .ok (.if_icmp .ge 14, 3) := by decide +kernel
theorem dJ7_fill_bad5a_27 : decode cJ7_fill_bad5a 27 = .ok (.return_, 1) := by decide +kernel
theorem dJ7_fill_bad5a_16 : decode cJ7_fill_bad5a 16 = .ok (.aload_n 0, 1) := by decide +kernel
theorem dJ7_fill_bad5a_17 : decode cJ7_fill_bad5a 17 = .ok (.iload 5, 2) := by decide +kernel
theorem dJ7_fill_bad5a_19 : decode cJ7_fill_bad5a 19 = .ok (.lload_n 3, 1) := by decide +kernel
theorem dJ7_fill_bad5a_20 : decode cJ7_fill_bad5a 20 = .ok (.lastore, 1) := by decide +kernel
theorem dJ7_fill_bad5a_21 : decode cJ7_fill_bad5a 21 = .ok (.iinc 5 1, 3) := by decide +kernel
theorem dJ7_fill_bad5a_24 : decode cJ7_fill_bad5a 24 = .ok (.goto (-14), 3) := by decide +kernel
theorem dJ7_fill_53178_0 : decode cJ7_fill_53178 0 = .ok (.iconst 0, 1) := by decide +kernel
theorem dJ7_fill_53178_1 : decode cJ7_fill_53178 1 = .ok (.istore_n 2, 1) := by decide +kernel
theorem dJ7_fill_53178_2 : decode cJ7_fill_53178 2 = .ok (.aload_n 0, 1) := by decide +kernel
theorem dJ7_fill_53178_3 : decode cJ7_fill_53178 3 = .ok (.arraylength, 1) := by decide +kernel
theorem dJ7_fill_53178_4 : decode cJ7_fill_53178 4 = .ok (.istore_n 3, 1) := by decide +kernel
theorem dJ7_fill_53178_5 : decode cJ7_fill_53178 5 = .ok (.iload_n 2, 1) := by decide +kernel
theorem dJ7_fill_53178_6 : decode cJ7_fill_53178 6 = .ok (.iload_n 3, 1) := by decide +kernel
theorem dJ7_fill_53178_7 : decode cJ7_fill_53178 7 = .ok (.if_icmp .ge 13, 3) := by decide +kernel
theorem dJ7_fill_53178_20 : decode cJ7_fill_53178 20 = .ok (.return_, 1) := by decide +kernel
theorem dJ7_fill_53178_10 : decode cJ7_fill_53178 10 = .ok (.aload_n 0, 1) := by decide +kernel
theorem dJ7_fill_53178_11 : decode cJ7_fill_53178 11 = .ok (.iload_n 2, 1) := by decide +kernel
theorem dJ7_fill_53178_12 : decode cJ7_fill_53178 12 = .ok (.iload_n 1, 1) := by decide +kernel
theorem dJ7_fill_53178_13 : decode cJ7_fill_53178 13 = .ok (.iastore, 1) := by decide +kernel
theorem dJ7_fill_53178_14 : decode cJ7_fill_53178 14 = .ok (.iinc 2 1, 3) := by decide +kernel
theorem dJ7_fill_53178_17 : decode cJ7_fill_53178 17 = .ok (.goto (-12), 3) := by decide +kernel
theorem dX10_clear_0 : decode cX10_clear 0 = .ok (.aload_n 0, 1) := by decide +kernel
theorem dX10_clear_1 : decode cX10_clear 1 = .ok (.getfield 15, 3) := by decide +kernel
theorem dX10_clear_4 : decode cX10_clear 4 = .ok (.iconst 0, 1) := by decide +kernel
theorem dX10_clear_5 : decode cX10_clear 5 = .ok (.invokestatic 36, 3) := by decide +kernel
theorem dX10_clear_8 : decode cX10_clear 8 = .ok (.iconst 0, 1) := by decide +kernel
theorem dX10_clear_9 : decode cX10_clear 9 = .ok (.istore_n 1, 1) := by decide +kernel
theorem dX10_clear_10 : decode cX10_clear 10 = .ok (.iload_n 1, 1) := by decide +kernel
theorem dX10_clear_11 : decode cX10_clear 11 = .ok (.aload_n 0, 1) := by decide +kernel
theorem dX10_clear_12 : decode cX10_clear 12 = .ok (.getfield 9, 3) := by decide +kernel
theorem dX10_clear_15 : decode cX10_clear 15 = .ok (.arraylength, 1) := by decide +kernel
theorem dX10_clear_16 : decode cX10_clear 16 = .ok (.if_icmp .ge 18, 3) := by decide +kernel
theorem dX10_clear_34 : decode cX10_clear 34 = .ok (.aload_n 0, 1) := by decide +kernel
theorem dX10_clear_35 : decode cX10_clear 35 = .ok (.iconst 0, 1) := by decide +kernel
theorem dX10_clear_36 : decode cX10_clear 36 = .ok (.putfield 42, 3) := by decide +kernel
theorem dX10_clear_39 : decode cX10_clear 39 = .ok (.aload_n 0, 1) := by decide +kernel
theorem dX10_clear_40 : decode cX10_clear 40 = .ok (.iconst 0, 1) := by decide +kernel
theorem dX10_clear_41 : decode cX10_clear 41 = .ok (.putfield 46, 3) := by decide +kernel
theorem dX10_clear_44 : decode cX10_clear 44 = .ok (.aload_n 0, 1) := by decide +kernel
theorem dX10_clear_45 : decode cX10_clear 45 = .ok (.iconst 0, 1) := by decide +kernel
theorem dX10_clear_46 : decode cX10_clear 46 = .ok (.putfield 49, 3) := by decide +kernel
theorem dX10_clear_49 : decode cX10_clear 49 = .ok (.aload_n 0, 1) := by decide +kernel
theorem dX10_clear_50 : decode cX10_clear 50 = .ok (.iconst 0, 1) := by decide +kernel
theorem dX10_clear_51 : decode cX10_clear 51 = .ok (.putfield 52, 3) := by decide +kernel
theorem dX10_clear_54 : decode cX10_clear 54 = .ok (.return_, 1) := by decide +kernel
theorem dX10_clear_19 : decode cX10_clear 19 = .ok (.aload_n 0, 1) := by decide +kernel
theorem dX10_clear_20 : decode cX10_clear 20 = .ok (.getfield 9, 3) := by decide +kernel
theorem dX10_clear_23 : decode cX10_clear 23 = .ok (.iload_n 1, 1) := by decide +kernel
theorem dX10_clear_24 : decode cX10_clear 24 = .ok (.iload_n 1, 1) := by decide +kernel
theorem dX10_clear_25 : decode cX10_clear 25 = .ok (.iconst 4, 1) := by decide +kernel
theorem dX10_clear_26 : decode cX10_clear 26 = .ok (.idiv, 1) := by decide +kernel
theorem dX10_clear_27 : decode cX10_clear 27 = .ok (.iastore, 1) := by decide +kernel
theorem dX10_clear_28 : decode cX10_clear 28 = .ok (.iinc 1 1, 3) := by decide +kernel
theorem dX10_clear_31 : decode cX10_clear 31 = .ok (.goto (-21), 3) := by decide +kernel
theorem dX5_make_0 : decode cX5_make 0 = .ok (.iload_n 1, 1) := by decide +kernel
theorem dX5_make_1 : decode cX5_make 1 = .ok (.invokestatic 28, 3) := by decide +kernel
theorem dX5_make_4 : decode cX5_make 4 = .ok (.ifCond .eq 13, 3) := by decide +kernel
theorem dX5_make_17 : decode cX5_make 17 = .ok (.return_, 1) := by decide +kernel
theorem dX5_make_7 : decode cX5_make 7 = .ok (.iload_n 3, 1) := by decide +kernel
theorem dX5_make_8 : decode cX5_make 8 = .ok (.ifCond .lt 9, 3) := by decide +kernel
theorem dX5_make_11 : decode cX5_make 11 = .ok (.iload_n 3, 1) := by decide +kernel
theorem dX5_make_12 : decode cX5_make 12 = .ok (.bipush 60, 2) := by decide +kernel
theorem dX5_make_14 : decode cX5_make 14 = .ok (.if_icmp .le 4, 3) := by decide +kernel
theorem dX5_make_18 : decode cX5_make 18 = .ok (.iload_n 1, 1) := by decide +kernel
theorem dX5_make_19 : decode cX5_make 19 = .ok (.bipush 60, 2) := by decide +kernel
theorem dX5_make_21 : decode cX5_make 21 = .ok (.imul, 1) := by decide +kernel
theorem dX5_make_22 : decode cX5_make 22 = .ok (.istore 4, 2) := by decide +kernel
theorem dX5_make_24 : decode cX5_make 24 = .ok (.aload_n 0, 1) := by decide +kernel
theorem dX5_make_25 : decode cX5_make 25 = .ok (.getfield 9, 3) := by decide +kernel
theorem dX5_make_28 : decode cX5_make 28 = .ok (.iload 4, 2) := by decide +kernel
theorem dX5_make_30 : decode cX5_make 30 = .ok (.iload 4, 2) := by decide +kernel
theorem dX5_make_32 : decode cX5_make 32 = .ok (.bipush 60, 2) := by decide +kernel
theorem dX5_make_34 : decode cX5_make 34 = .ok (.iadd, 1) := by decide +kernel
theorem dX5_make_35 : decode cX5_make 35 = .ok (.lconst 0, 1) := by decide +kernel
theorem dX5_make_36 : decode cX5_make 36 = .ok (.invokestatic 32, 3) := by decide +kernel
theorem dX5_make_39 : decode cX5_make 39 = .ok (.aload_n 0, 1) := by decide +kernel
theorem dX5_make_40 : decode cX5_make 40 = .ok (.getfield 15, 3) := by decide +kernel
theorem dX5_make_43 : decode cX5_make 43 = .ok (.iload_n 1, 1) := by decide +kernel
theorem dX5_make_44 : decode cX5_make 44 = .ok (.iload_n 2, 1) := by decide +kernel
theorem dX5_make_45 : decode cX5_make 45 = .ok (.iastore, 1) := by decide +kernel
theorem dX5_make_46 : decode cX5_make 46 = .ok (.aload_n 0, 1) := by decide +kernel
theorem dX5_make_47 : decode cX5_make 47 = .ok (.getfield 19, 3) := by decide +kernel
theorem dX5_make_50 : decode cX5_make 50 = .ok (.iload_n 1, 1) := by decide +kernel
theorem dX5_make_51 : decode cX5_make 51 = .ok (.iload_n 3, 1) := by decide +kernel
theorem dX5_make_52 : decode cX5_make 52 = .ok (.iastore, 1) := by decide +kernel
theorem dX5_make_53 : decode cX5_make 53 = .ok (.return_, 1) := by decide +kernel
theorem dX8_chance_0 : decode cX8_chance 0 = .ok (.iload_n 1, 1) := by decide +kernel
theorem dX8_chance_1 : decode cX8_chance 1 = .ok (.ifCond .lt 18, 3) := by decide +kernel
theorem dX8_chance_19 : decode cX8_chance 19 = .ok (.iconst 0, 1) := by decide +kernel
theorem dX8_chance_20 : decode cX8_chance 20 = .ok (.ireturn, 1) := by decide +kernel
theorem dX8_chance_4 : decode cX8_chance 4 = .ok (.iload_n 1, 1) := by decide +kernel
theorem dX8_chance_5 : decode cX8_chance 5 = .ok (.bipush 10, 2) := by decide +kernel
theorem dX8_chance_7 : decode cX8_chance 7 = .ok (.if_icmp .ge 12, 3) := by decide +kernel
theorem dX8_chance_10 : decode cX8_chance 10 = .ok (.aload_n 0, 1) := by decide +kernel
theorem dX8_chance_11 : decode cX8_chance 11 = .ok (.getfield 15, 3) := by decide +kernel
theorem dX8_chance_14 : decode cX8_chance 14 = .ok (.iload_n 1, 1) := by decide +kernel
theorem dX8_chance_15 : decode cX8_chance 15 = .ok (.iaload, 1) := by decide +kernel
theorem dX8_chance_16 : decode cX8_chance 16 = .ok (.goto 4, 3) := by decide +kernel
theorem dX8_relax_0 : decode cX8_relax 0 = .ok (.aload_n 0, 1) := by decide +kernel
theorem dX8_relax_1 : decode cX8_relax 1 = .ok (.getfield 9, 3) := by decide +kernel
theorem dX8_relax_4 : decode cX8_relax 4 = .ok (.iload_n 2, 1) := by decide +kernel
theorem dX8_relax_5 : decode cX8_relax 5 = .ok (.iaload, 1) := by decide +kernel
theorem dX8_relax_6 : decode cX8_relax 6 = .ok (.ldc 27, 2) := by decide +kernel
theorem dX8_relax_8 : decode cX8_relax 8 = .ok (.if_icmp .ne 4, 3) := by decide +kernel
theorem dX8_relax_12 : decode cX8_relax 12 = .ok (.iconst 0, 1) := by decide +kernel
theorem dX8_relax_13 : decode cX8_relax 13 = .ok (.istore 4, 2) := by decide +kernel
theorem dX8_relax_15 : decode cX8_relax 15 = .ok (.iload 4, 2) := by decide +kernel
theorem dX8_relax_17 : decode cX8_relax 17 = .ok (.iconst 4, 1) := by decide +kernel
theorem dX8_relax_18 : decode cX8_relax 18 = .ok (.if_icmp .ge 71, 3) := by decide +kernel
theorem dX8_relax_89 : decode cX8_relax 89 = .ok (.return_, 1) := by decide +kernel
theorem dX8_relax_21 : decode cX8_relax 21 = .ok (.aload_n 1, 1) := by decide +kernel
theorem dX8_relax_22 : decode cX8_relax 22 = .ok (.iload_n 2, 1) := by decide +kernel
theorem dX8_relax_23 : decode cX8_relax 23 = .ok (.iload 4, 2) := by decide +kernel
theorem dX8_relax_25 : decode cX8_relax 25 = .ok (.invokevirtual 42, 3) := by decide +kernel
theorem dX8_relax_28 : decode cX8_relax 28 = .ok (.istore 5, 2) := by decide +kernel
theorem dX8_relax_30 : decode cX8_relax 30 = .ok (.aload_n 1, 1) := by decide +kernel
theorem dX8_relax_31 : decode cX8_relax 31 = .ok (.iload 5, 2) := by decide +kernel
theorem dX8_relax_33 : decode cX8_relax 33 = .ok (.invokevirtual 21, 3) := by decide +kernel
theorem dX8_relax_36 : decode cX8_relax 36 = .ok (.ifCond .eq 47, 3) := by decide +kernel
theorem dX8_relax_83 : decode cX8_relax 83 = .ok (.iinc 4 1, 3) := by decide +kernel
theorem dX8_relax_86 : decode cX8_relax 86 = .ok (.goto (-71), 3) := by decide +kernel
theorem dX8_relax_39 : decode cX8_relax 39 = .ok (.iconst 1, 1) := by decide +kernel
theorem dX8_relax_40 : decode cX8_relax 40 = .ok (.aload_n 1, 1) := by decide +kernel
theorem dX8_relax_41 : decode cX8_relax 41 = .ok (.iload 5, 2) := by decide +kernel
theorem dX8_relax_43 : decode cX8_relax 43 = .ok (.invokevirtual 46, 3) := by decide +kernel
theorem dX8_relax_46 : decode cX8_relax 46 = .ok (.ifCond .ne 7, 3) := by decide +kernel
theorem dX8_relax_53 : decode cX8_relax 53 = .ok (.iconst 0, 1) := by decide +kernel
theorem dX8_relax_54 : decode cX8_relax 54 = .ok (.iadd, 1) := by decide +kernel
theorem dX8_relax_55 : decode cX8_relax 55 = .ok (.istore 6, 2) := by decide +kernel
theorem dX8_relax_57 : decode cX8_relax 57 = .ok (.aload_n 0, 1) := by decide +kernel
theorem dX8_relax_58 : decode cX8_relax 58 = .ok (.getfield 9, 3) := by decide +kernel
theorem dX8_relax_61 : decode cX8_relax 61 = .ok (.iload 5, 2) := by decide +kernel
theorem dX8_relax_63 : decode cX8_relax 63 = .ok (.aload_n 0, 1) := by decide +kernel
theorem dX8_relax_64 : decode cX8_relax 64 = .ok (.getfield 9, 3) := by decide +kernel
theorem dX8_relax_67 : decode cX8_relax 67 = .ok (.iload 5, 2) := by decide +kernel
theorem dX8_relax_69 : decode cX8_relax 69 = .ok (.iaload, 1) := by decide +kernel
theorem dX8_relax_70 : decode cX8_relax 70 = .ok (.aload_n 0, 1) := by decide +kernel
theorem dX8_relax_71 : decode cX8_relax 71 = .ok (.getfield 9, 3) := by decide +kernel
theorem dX8_relax_74 : decode cX8_relax 74 = .ok (.iload_n 2, 1) := by decide +kernel
theorem dX8_relax_75 : decode cX8_relax 75 = .ok (.iaload, 1) := by decide +kernel
theorem dX8_relax_76 : decode cX8_relax 76 = .ok (.iload 6, 2) := by decide +kernel
theorem dX8_relax_78 : decode cX8_relax 78 = .ok (.iadd, 1) := by decide +kernel
theorem dX8_relax_79 : decode cX8_relax 79 = .ok (.invokestatic 50, 3) := by decide +kernel
theorem dX8_relax_82 : decode cX8_relax 82 = .ok (.iastore, 1) := by decide +kernel
theorem dX8_relax_49 : decode cX8_relax 49 = .ok (.iload_n 3, 1) := by decide +kernel
theorem dX8_relax_50 : decode cX8_relax 50 = .ok (.goto 4, 3) := by decide +kernel
theorem dX8_relax_11 : decode cX8_relax 11 = .ok (.return_, 1) := by decide +kernel
theorem dX8_cheapest_0 : decode cX8_cheapest 0 = .ok (.aload_n 1, 1) := by decide +kernel
theorem dX8_cheapest_1 : decode cX8_cheapest 1 = .ok (.iload_n 2, 1) := by decide +kernel
theorem dX8_cheapest_2 : decode cX8_cheapest 2 = .ok (.invokevirtual 21, 3) := by decide +kernel
theorem dX8_cheapest_5 : decode cX8_cheapest 5 = .ok (.ifCond .eq 11, 3) := by decide +kernel
theorem dX8_cheapest_16 : decode cX8_cheapest 16 = .ok (.iconst (-1), 1) := by decide +kernel
theorem dX8_cheapest_17 : decode cX8_cheapest 17 = .ok (.ireturn, 1) := by decide +kernel
theorem dX8_cheapest_8 : decode cX8_cheapest 8 = .ok (.aload_n 1, 1) := by decide +kernel
theorem dX8_cheapest_9 : decode cX8_cheapest 9 = .ok (.iload_n 3, 1) := by decide +kernel
theorem dX8_cheapest_10 : decode cX8_cheapest 10 = .ok (.invokevirtual 21, 3) := by decide +kernel
theorem dX8_cheapest_13 : decode cX8_cheapest 13 = .ok (.ifCond .ne 5, 3) := by decide +kernel
theorem dX8_cheapest_18 : decode cX8_cheapest 18 = .ok (.aload_n 0, 1) := by decide +kernel
theorem dX8_cheapest_19 : decode cX8_cheapest 19 = .ok (.getfield 9, 3) := by decide +kernel
theorem dX8_cheapest_22 : decode cX8_cheapest 22 = .ok (.ldc 27, 2) := by decide +kernel
theorem dX8_cheapest_24 : decode cX8_cheapest 24 = .ok (.invokestatic 28, 3) := by decide +kernel
theorem dX8_cheapest_27 : decode cX8_cheapest 27 = .ok (.aload_n 0, 1) := by decide +kernel
theorem dX8_cheapest_28 : decode cX8_cheapest 28 = .ok (.getfield 9, 3) := by decide +kernel
theorem dX8_cheapest_31 : decode cX8_cheapest 31 = .ok (.iload_n 2, 1) := by decide +kernel
theorem dX8_cheapest_32 : decode cX8_cheapest 32 = .ok (.iconst 0, 1) := by decide +kernel
theorem dX8_cheapest_33 : decode cX8_cheapest 33 = .ok (.iastore, 1) := by decide +kernel
theorem dX8_cheapest_34 : decode cX8_cheapest 34 = .ok (.iconst 0, 1) := by decide +kernel
theorem dX8_cheapest_35 : decode cX8_cheapest 35 = .ok (.istore 5, 2) := by decide +kernel
theorem dX8_cheapest_37 : decode cX8_cheapest 37 = .ok (.iload 5, 2) := by decide +kernel
theorem dX8_cheapest_39 : decode cX8_cheapest 39 = .ok (.bipush 10, 2) := by decide +kernel
theorem dX8_cheapest_41 : decode cX8_cheapest 41 = .ok (.if_icmp .ge 43, 3) := by decide +kernel
theorem dX8_cheapest_84 : decode cX8_cheapest 84 = .ok (.aload_n 0, 1) := by decide +kernel
theorem dX8_cheapest_85 : decode cX8_cheapest 85 = .ok (.getfield 9, 3) := by decide +kernel
theorem dX8_cheapest_88 : decode cX8_cheapest 88 = .ok (.iload_n 3, 1) := by decide +kernel
theorem dX8_cheapest_89 : decode cX8_cheapest 89 = .ok (.iaload, 1) := by decide +kernel
theorem dX8_cheapest_90 : decode cX8_cheapest 90 = .ok (.ldc 27, 2) := by decide +kernel
theorem dX8_cheapest_92 : decode cX8_cheapest 92 = .ok (.if_icmp .ne 7, 3) := by decide +kernel
theorem dX8_cheapest_99 : decode cX8_cheapest 99 = .ok (.aload_n 0, 1) := by decide +kernel
theorem dX8_cheapest_100 : decode cX8_cheapest 100 = .ok (.getfield 9, 3) := by decide +kernel
theorem dX8_cheapest_103 : decode cX8_cheapest 103 = .ok (.iload_n 3, 1) := by decide +kernel
theorem dX8_cheapest_104 : decode cX8_cheapest 104 = .ok (.iaload, 1) := by decide +kernel
theorem dX8_cheapest_105 : decode cX8_cheapest 105 = .ok (.ireturn, 1) := by decide +kernel
theorem dX8_cheapest_95 : decode cX8_cheapest 95 = .ok (.iconst (-1), 1) := by decide +kernel
theorem dX8_cheapest_96 : decode cX8_cheapest 96 = .ok (.goto 9, 3) := by decide +kernel
theorem dX8_cheapest_44 : decode cX8_cheapest 44 = .ok (.iconst 0, 1) := by decide +kernel
theorem dX8_cheapest_45 : decode cX8_cheapest 45 = .ok (.istore 6, 2) := by decide +kernel
theorem dX8_cheapest_47 : decode cX8_cheapest 47 = .ok (.iload 6, 2) := by decide +kernel
theorem dX8_cheapest_49 : decode cX8_cheapest 49 = .ok (.aload_n 1, 1) := by decide +kernel
theorem dX8_cheapest_50 : decode cX8_cheapest 50 = .ok (.getfield 34, 3) := by decide +kernel
theorem dX8_cheapest_53 : decode cX8_cheapest 53 = .ok (.if_icmp .ge 25, 3) := by decide +kernel
theorem dX8_cheapest_78 : decode cX8_cheapest 78 = .ok (.iinc 5 1, 3) := by decide +kernel
theorem dX8_cheapest_81 : decode cX8_cheapest 81 = .ok (.goto (-44), 3) := by decide +kernel
theorem dX8_cheapest_56 : decode cX8_cheapest 56 = .ok (.iload 6, 2) := by decide +kernel
theorem dX8_cheapest_58 : decode cX8_cheapest 58 = .ok (.bipush 10, 2) := by decide +kernel
theorem dX8_cheapest_60 : decode cX8_cheapest 60 = .ok (.if_icmp .ge 18, 3) := by decide +kernel
theorem dX8_cheapest_63 : decode cX8_cheapest 63 = .ok (.aload_n 0, 1) := by decide +kernel
theorem dX8_cheapest_64 : decode cX8_cheapest 64 = .ok (.aload_n 1, 1) := by decide +kernel
theorem dX8_cheapest_65 : decode cX8_cheapest 65 = .ok (.iload 6, 2) := by decide +kernel
theorem dX8_cheapest_67 : decode cX8_cheapest 67 = .ok (.iload 4, 2) := by decide +kernel
theorem dX8_cheapest_69 : decode cX8_cheapest 69 = .ok (.invokevirtual 38, 3) := by decide +kernel
theorem dX8_cheapest_72 : decode cX8_cheapest 72 = .ok (.iinc 6 1, 3) := by decide +kernel
theorem dX8_cheapest_75 : decode cX8_cheapest 75 = .ok (.goto (-28), 3) := by decide +kernel
theorem dX8_drift_0 : decode cX8_drift 0 = .ok (.aload_n 0, 1) := by decide +kernel
theorem dX8_drift_1 : decode cX8_drift 1 = .ok (.getfield 15, 3) := by decide +kernel
theorem dX8_drift_4 : decode cX8_drift 4 = .ok (.iconst 0, 1) := by decide +kernel
theorem dX8_drift_5 : decode cX8_drift 5 = .ok (.invokestatic 28, 3) := by decide +kernel
theorem dX8_drift_8 : decode cX8_drift 8 = .ok (.aload_n 1, 1) := by decide +kernel
theorem dX8_drift_9 : decode cX8_drift 9 = .ok (.iload_n 2, 1) := by decide +kernel
theorem dX8_drift_10 : decode cX8_drift 10 = .ok (.invokevirtual 21, 3) := by decide +kernel
theorem dX8_drift_13 : decode cX8_drift 13 = .ok (.ifCond .eq 10, 3) := by decide +kernel
theorem dX8_drift_23 : decode cX8_drift 23 = .ok (.iconst 0, 1) := by decide +kernel
theorem dX8_drift_24 : decode cX8_drift 24 = .ok (.istore 4, 2) := by decide +kernel
theorem dX8_drift_26 : decode cX8_drift 26 = .ok (.iload 4, 2) := by decide +kernel
theorem dX8_drift_28 : decode cX8_drift 28 = .ok (.iload_n 3, 1) := by decide +kernel
theorem dX8_drift_29 : decode cX8_drift 29 = .ok (.if_icmp .ge 111, 3) := by decide +kernel
theorem dX8_drift_140 : decode cX8_drift 140 = .ok (.return_, 1) := by decide +kernel
theorem dX8_drift_32 : decode cX8_drift 32 = .ok (.aload_n 0, 1) := by decide +kernel
theorem dX8_drift_33 : decode cX8_drift 33 = .ok (.getfield 18, 3) := by decide +kernel
theorem dX8_drift_36 : decode cX8_drift 36 = .ok (.iconst 0, 1) := by decide +kernel
theorem dX8_drift_37 : decode cX8_drift 37 = .ok (.invokestatic 28, 3) := by decide +kernel
theorem dX8_drift_40 : decode cX8_drift 40 = .ok (.iconst 0, 1) := by decide +kernel
theorem dX8_drift_41 : decode cX8_drift 41 = .ok (.istore 5, 2) := by decide +kernel
theorem dX8_drift_43 : decode cX8_drift 43 = .ok (.iload 5, 2) := by decide +kernel
theorem dX8_drift_45 : decode cX8_drift 45 = .ok (.aload_n 1, 1) := by decide +kernel
theorem dX8_drift_46 : decode cX8_drift 46 = .ok (.getfield 34, 3) := by decide +kernel
theorem dX8_drift_49 : decode cX8_drift 49 = .ok (.if_icmp .ge 67, 3) := by decide +kernel
theorem dX8_drift_116 : decode cX8_drift 116 = .ok (.aload_n 0, 1) := by decide +kernel
theorem dX8_drift_117 : decode cX8_drift 117 = .ok (.getfield 18, 3) := by decide +kernel
theorem dX8_drift_120 : decode cX8_drift 120 = .ok (.iconst 0, 1) := by decide +kernel
theorem dX8_drift_121 : decode cX8_drift 121 = .ok (.aload_n 0, 1) := by decide +kernel
theorem dX8_drift_122 : decode cX8_drift 122 = .ok (.getfield 15, 3) := by decide +kernel
theorem dX8_drift_125 : decode cX8_drift 125 = .ok (.iconst 0, 1) := by decide +kernel
theorem dX8_drift_126 : decode cX8_drift 126 = .ok (.aload_n 0, 1) := by decide +kernel
theorem dX8_drift_127 : decode cX8_drift 127 = .ok (.getfield 15, 3) := by decide +kernel
theorem dX8_drift_130 : decode cX8_drift 130 = .ok (.arraylength, 1) := by decide +kernel
theorem dX8_drift_131 : decode cX8_drift 131 = .ok (.invokestatic 55, 3) := by decide +kernel
theorem dX8_drift_134 : decode cX8_drift 134 = .ok (.iinc 4 1, 3) := by decide +kernel
theorem dX8_drift_137 : decode cX8_drift 137 = .ok (.goto (-111), 3) := by decide +kernel
theorem dX8_drift_52 : decode cX8_drift 52 = .ok (.iload 5, 2) := by decide +kernel
theorem dX8_drift_54 : decode cX8_drift 54 = .ok (.bipush 10, 2) := by decide +kernel
theorem dX8_drift_56 : decode cX8_drift 56 = .ok (.if_icmp .ge 60, 3) := by decide +kernel
theorem dX8_drift_59 : decode cX8_drift 59 = .ok (.iconst 0, 1) := by decide +kernel
theorem dX8_drift_60 : decode cX8_drift 60 = .ok (.istore 6, 2) := by decide +kernel
theorem dX8_drift_62 : decode cX8_drift 62 = .ok (.iload 6, 2) := by decide +kernel
theorem dX8_drift_64 : decode cX8_drift 64 = .ok (.iconst 4, 1) := by decide +kernel
theorem dX8_drift_65 : decode cX8_drift 65 = .ok (.if_icmp .ge 45, 3) := by decide +kernel
theorem dX8_drift_110 : decode cX8_drift 110 = .ok (.iinc 5 1, 3) := by decide +kernel
theorem dX8_drift_113 : decode cX8_drift 113 = .ok (.goto (-70), 3) := by decide +kernel
theorem dX8_drift_68 : decode cX8_drift 68 = .ok (.aload_n 1, 1) := by decide +kernel
theorem dX8_drift_69 : decode cX8_drift 69 = .ok (.iload 5, 2) := by decide +kernel
theorem dX8_drift_71 : decode cX8_drift 71 = .ok (.iload 6, 2) := by decide +kernel
theorem dX8_drift_73 : decode cX8_drift 73 = .ok (.invokevirtual 42, 3) := by decide +kernel
theorem dX8_drift_76 : decode cX8_drift 76 = .ok (.istore 7, 2) := by decide +kernel
theorem dX8_drift_78 : decode cX8_drift 78 = .ok (.aload_n 1, 1) := by decide +kernel
theorem dX8_drift_79 : decode cX8_drift 79 = .ok (.iload 7, 2) := by decide +kernel
theorem dX8_drift_81 : decode cX8_drift 81 = .ok (.invokevirtual 21, 3) := by decide +kernel
theorem dX8_drift_84 : decode cX8_drift 84 = .ok (.ifCond .eq 20, 3) := by decide +kernel
theorem dX8_drift_104 : decode cX8_drift 104 = .ok (.iinc 6 1, 3) := by decide +kernel
theorem dX8_drift_107 : decode cX8_drift 107 = .ok (.goto (-45), 3) := by decide +kernel
theorem dX8_drift_87 : decode cX8_drift 87 = .ok (.aload_n 0, 1) := by decide +kernel
theorem dX8_drift_88 : decode cX8_drift 88 = .ok (.getfield 18, 3) := by decide +kernel
theorem dX8_drift_91 : decode cX8_drift 91 = .ok (.iload 7, 2) := by decide +kernel
theorem dX8_drift_93 : decode cX8_drift 93 = .ok (.dup2, 1) := by decide +kernel
theorem dX8_drift_94 : decode cX8_drift 94 = .ok (.iaload, 1) := by decide +kernel
theorem dX8_drift_95 : decode cX8_drift 95 = .ok (.aload_n 0, 1) := by decide +kernel
theorem dX8_drift_96 : decode cX8_drift 96 = .ok (.getfield 15, 3) := by decide +kernel
theorem dX8_drift_99 : decode cX8_drift 99 = .ok (.iload 5, 2) := by decide +kernel
theorem dX8_drift_101 : decode cX8_drift 101 = .ok (.iaload, 1) := by decide +kernel
theorem dX8_drift_102 : decode cX8_drift 102 = .ok (.iadd, 1) := by decide +kernel
theorem dX8_drift_103 : decode cX8_drift 103 = .ok (.iastore, 1) := by decide +kernel
theorem dX8_drift_16 : decode cX8_drift 16 = .ok (.aload_n 0, 1) := by decide +kernel
theorem dX8_drift_17 : decode cX8_drift 17 = .ok (.getfield 15, 3) := by decide +kernel
theorem dX8_drift_20 : decode cX8_drift 20 = .ok (.iload_n 2, 1) := by decide +kernel
theorem dX8_drift_21 : decode cX8_drift 21 = .ok (.iconst 1, 1) := by decide +kernel
theorem dX8_drift_22 : decode cX8_drift 22 = .ok (.iastore, 1) := by decide +kernel
theorem dX3_isEven_0 : decode cX3_isEven 0 = .ok (.iload_n 1, 1) := by decide +kernel
theorem dX3_isEven_1 : decode cX3_isEven 1 = .ok (.invokestatic 65, 3) := by decide +kernel
theorem dX3_isEven_4 : decode cX3_isEven 4 = .ok (.istore_n 2, 1) := by decide +kernel
theorem dX3_isEven_5 : decode cX3_isEven 5 = .ok (.iload_n 2, 1) := by decide +kernel
theorem dX3_isEven_6 : decode cX3_isEven 6 = .ok (.ifCond .lt 26, 3) := by decide +kernel
theorem dX3_isEven_32 : decode cX3_isEven 32 = .ok (.iconst 0, 1) := by decide +kernel
theorem dX3_isEven_33 : decode cX3_isEven 33 = .ok (.ireturn, 1) := by decide +kernel
theorem dX3_isEven_9 : decode cX3_isEven 9 = .ok (.iload_n 2, 1) := by decide +kernel
theorem dX3_isEven_10 : decode cX3_isEven 10 = .ok (.bipush 10, 2) := by decide +kernel
theorem dX3_isEven_12 : decode cX3_isEven 12 = .ok (.if_icmp .ge 20, 3) := by decide +kernel
theorem dX3_isEven_15 : decode cX3_isEven 15 = .ok (.iload_n 1, 1) := by decide +kernel
theorem dX3_isEven_16 : decode cX3_isEven 16 = .ok (.aload_n 0, 1) := by decide +kernel
theorem dX3_isEven_17 : decode cX3_isEven 17 = .ok (.getfield 18, 3) := by decide +kernel
theorem dX3_isEven_20 : decode cX3_isEven 20 = .ok (.iload_n 2, 1) := by decide +kernel
theorem dX3_isEven_21 : decode cX3_isEven 21 = .ok (.iaload, 1) := by decide +kernel
theorem dX3_isEven_22 : decode cX3_isEven 22 = .ok (.iconst (-1), 1) := by decide +kernel
theorem dX3_isEven_23 : decode cX3_isEven 23 = .ok (.ixor, 1) := by decide +kernel
theorem dX3_isEven_24 : decode cX3_isEven 24 = .ok (.iand, 1) := by decide +kernel
theorem dX3_isEven_25 : decode cX3_isEven 25 = .ok (.ifCond .ne 7, 3) := by decide +kernel
theorem dX3_isEven_28 : decode cX3_isEven 28 = .ok (.iconst 1, 1) := by decide +kernel
theorem dX3_isEven_29 : decode cX3_isEven 29 = .ok (.goto 4, 3) := by decide +kernel
theorem dX3_deepest_0 : decode cX3_deepest 0 = .ok (.iconst 0, 1) := by decide +kernel
theorem dX3_deepest_1 : decode cX3_deepest 1 = .ok (.istore_n 2, 1) := by decide +kernel
theorem dX3_deepest_2 : decode cX3_deepest 2 = .ok (.iload_n 1, 1) := by decide +kernel
theorem dX3_deepest_3 : decode cX3_deepest 3 = .ok (.aload_n 0, 1) := by decide +kernel
theorem dX3_deepest_4 : decode cX3_deepest 4 = .ok (.getfield 37, 3) := by decide +kernel
theorem dX3_deepest_7 : decode cX3_deepest 7 = .ok (.iand, 1) := by decide +kernel
theorem dX3_deepest_8 : decode cX3_deepest 8 = .ok (.istore_n 3, 1) := by decide +kernel
theorem dX3_deepest_9 : decode cX3_deepest 9 = .ok (.iconst 0, 1) := by decide +kernel
theorem dX3_deepest_10 : decode cX3_deepest 10 = .ok (.istore 4, 2) := by decide +kernel
theorem dX3_deepest_12 : decode cX3_deepest 12 = .ok (.iload 4, 2) := by decide +kernel
theorem dX3_deepest_14 : decode cX3_deepest 14 = .ok (.bipush 10, 2) := by decide +kernel
theorem dX3_deepest_16 : decode cX3_deepest 16 = .ok (.if_icmp .ge 72, 3) := by decide +kernel
theorem dX3_deepest_88 : decode cX3_deepest 88 = .ok (.iload_n 2, 1) := by decide +kernel
theorem dX3_deepest_89 : decode cX3_deepest 89 = .ok (.ireturn, 1) := by decide +kernel
theorem dX3_deepest_19 : decode cX3_deepest 19 = .ok (.iload_n 3, 1) := by decide +kernel
theorem dX3_deepest_20 : decode cX3_deepest 20 = .ok (.ifCond .eq 68, 3) := by decide +kernel
theorem dX3_deepest_23 : decode cX3_deepest 23 = .ok (.iload_n 3, 1) := by decide +kernel
theorem dX3_deepest_24 : decode cX3_deepest 24 = .ok (.iload 4, 2) := by decide +kernel
theorem dX3_deepest_26 : decode cX3_deepest 26 = .ok (.ishr, 1) := by decide +kernel
theorem dX3_deepest_27 : decode cX3_deepest 27 = .ok (.iconst 1, 1) := by decide +kernel
theorem dX3_deepest_28 : decode cX3_deepest 28 = .ok (.iand, 1) := by decide +kernel
theorem dX3_deepest_29 : decode cX3_deepest 29 = .ok (.ifCond .ne 6, 3) := by decide +kernel
theorem dX3_deepest_35 : decode cX3_deepest 35 = .ok (.aload_n 0, 1) := by decide +kernel
theorem dX3_deepest_36 : decode cX3_deepest 36 = .ok (.getfield 9, 3) := by decide +kernel
theorem dX3_deepest_39 : decode cX3_deepest 39 = .ok (.iload_n 3, 1) := by decide +kernel
theorem dX3_deepest_40 : decode cX3_deepest 40 = .ok (.aload_n 0, 1) := by decide +kernel
theorem dX3_deepest_41 : decode cX3_deepest 41 = .ok (.getfield 18, 3) := by decide +kernel
theorem dX3_deepest_44 : decode cX3_deepest 44 = .ok (.iload 4, 2) := by decide +kernel
theorem dX3_deepest_46 : decode cX3_deepest 46 = .ok (.iaload, 1) := by decide +kernel
theorem dX3_deepest_47 : decode cX3_deepest 47 = .ok (.iand, 1) := by decide +kernel
theorem dX3_deepest_48 : decode cX3_deepest 48 = .ok (.sipush 1023, 3) := by decide +kernel
theorem dX3_deepest_51 : decode cX3_deepest 51 = .ok (.iand, 1) := by decide +kernel
theorem dX3_deepest_52 : decode cX3_deepest 52 = .ok (.iaload, 1) := by decide +kernel
theorem dX3_deepest_53 : decode cX3_deepest 53 = .ok (.istore 5, 2) := by decide +kernel
theorem dX3_deepest_55 : decode cX3_deepest 55 = .ok (.iload 5, 2) := by decide +kernel
theorem dX3_deepest_57 : decode cX3_deepest 57 = .ok (.iconst (-1), 1) := by decide +kernel
