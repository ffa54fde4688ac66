theorem dX10_copyFrom_65 : decode cX10_copyFrom 65 = .ok (.getfield 21, 3) := by decide +kernel
theorem dX10_copyFrom_68 : decode cX10_copyFrom 68 = .ok (.arraylength, 1) := by decide +kernel
theorem dX10_copyFrom_69 : decode cX10_copyFrom 69 = .ok (.invokestatic 55, 3) := by decide +kernel
theorem dX10_copyFrom_72 : decode cX10_copyFrom 72 = .ok (.aload_n 1, 1) := by decide +kernel
theorem dX10_copyFrom_73 : decode cX10_copyFrom 73 = .ok (.getfield 24, 3) := by decide +kernel
theorem dX10_copyFrom_76 : decode cX10_copyFrom 76 = .ok (.iconst 0, 1) := by decide +kernel
theorem dX10_copyFrom_77 : decode cX10_copyFrom 77 = .ok (.aload_n 0, 1) := by decide +kernel
theorem dX10_copyFrom_78 : decode cX10_copyFrom 78 = .ok (.getfield 24, 3) := by decide +kernel
theorem dX10_copyFrom_81 : decode cX10_copyFrom 81 = .ok (.iconst 0, 1) := by decide +kernel
theorem dX10_copyFrom_82 : decode cX10_copyFrom 82 = .ok (.aload_n 0, 1) := by decide +kernel
theorem dX10_copyFrom_83 : decode cX10_copyFrom 83 = .ok (.getfield 24, 3) := by decide +kernel
theorem dX10_copyFrom_86 : decode cX10_copyFrom 86 = .ok (.arraylength, 1) := by decide +kernel
theorem dX10_copyFrom_87 : decode cX10_copyFrom 87 = .ok (.invokestatic 55, 3) := by decide +kernel
theorem dX10_copyFrom_90 : decode cX10_copyFrom 90 = .ok (.aload_n 1, 1) := by decide +kernel
theorem dX10_copyFrom_91 : decode cX10_copyFrom 91 = .ok (.getfield 27, 3) := by decide +kernel
theorem dX10_copyFrom_94 : decode cX10_copyFrom 94 = .ok (.iconst 0, 1) := by decide +kernel
theorem dX10_copyFrom_95 : decode cX10_copyFrom 95 = .ok (.aload_n 0, 1) := by decide +kernel
theorem dX10_copyFrom_96 : decode cX10_copyFrom 96 = .ok (.getfield 27, 3) := by decide +kernel
theorem dX10_copyFrom_99 : decode cX10_copyFrom 99 = .ok (.iconst 0, 1) := by decide +kernel
theorem dX10_copyFrom_100 : decode cX10_copyFrom 100 = .ok (.aload_n 0, 1) := by decide +kernel
theorem dX10_copyFrom_101 : decode cX10_copyFrom 101 = .ok (.getfield 27, 3) := by decide +kernel
theorem dX10_copyFrom_104 : decode cX10_copyFrom 104 = .ok (.arraylength, 1) := by decide +kernel
theorem dX10_copyFrom_105 : decode cX10_copyFrom 105 = .ok (.invokestatic 55, 3) := by decide +kernel
theorem dX10_copyFrom_108 : decode cX10_copyFrom 108 = .ok (.aload_n 1, 1) := by decide +kernel
theorem dX10_copyFrom_109 : decode cX10_copyFrom 109 = .ok (.getfield 30, 3) := by decide +kernel
theorem dX10_copyFrom_112 : decode cX10_copyFrom 112 = .ok (.iconst 0, 1) := by decide +kernel
theorem dX10_copyFrom_113 : decode cX10_copyFrom 113 = .ok (.aload_n 0, 1) := by decide +kernel
theorem dX10_copyFrom_114 : decode cX10_copyFrom 114 = .ok (.getfield 30, 3) := by decide +kernel
theorem dX10_copyFrom_117 : decode cX10_copyFrom 117 = .ok (.iconst 0, 1) := by decide +kernel
theorem dX10_copyFrom_118 : decode cX10_copyFrom 118 = .ok (.aload_n 0, 1) := by decide +kernel
theorem dX10_copyFrom_119 : decode cX10_copyFrom 119 = .ok (.getfield 30, 3) := by decide +kernel
theorem dX10_copyFrom_122 : decode cX10_copyFrom 122 = .ok (.arraylength, 1) := by decide +kernel
theorem dX10_copyFrom_123 : decode cX10_copyFrom 123 = .ok (.invokestatic 55, 3) := by decide +kernel
theorem dX10_copyFrom_126 : decode cX10_copyFrom 126 = .ok (.aload_n 1, 1) := by decide +kernel
theorem dX10_copyFrom_127 : decode cX10_copyFrom 127 = .ok (.getfield 33, 3) := by decide +kernel
theorem dX10_copyFrom_130 : decode cX10_copyFrom 130 = .ok (.iconst 0, 1) := by decide +kernel
theorem dX10_copyFrom_131 : decode cX10_copyFrom 131 = .ok (.aload_n 0, 1) := by decide +kernel
theorem dX10_copyFrom_132 : decode cX10_copyFrom 132 = .ok (.getfield 33, 3) := by decide +kernel
theorem dX10_copyFrom_135 : decode cX10_copyFrom 135 = .ok (.iconst 0, 1) := by decide +kernel
theorem dX10_copyFrom_136 : decode cX10_copyFrom 136 = .ok (.aload_n 0, 1) := by decide +kernel
theorem dX10_copyFrom_137 : decode cX10_copyFrom 137 = .ok (.getfield 33, 3) := by decide +kernel
theorem dX10_copyFrom_140 : decode cX10_copyFrom 140 = .ok (.arraylength, 1) := by decide +kernel
theorem dX10_copyFrom_141 : decode cX10_copyFrom 141 = .ok (.invokestatic 55, 3) := by decide +kernel
theorem dX10_copyFrom_144 : decode cX10_copyFrom 144 = .ok (.aload_n 0, 1) := by decide +kernel
theorem dX10_copyFrom_145 : decode cX10_copyFrom 145 = .ok (.aload_n 1, 1) := by decide +kernel
theorem dX10_copyFrom_146 : decode cX10_copyFrom 146 = .ok (.getfield 42, 3) := by decide +kernel
theorem dX10_copyFrom_149 : decode cX10_copyFrom 149 = .ok (.putfield 42, 3) := by decide +kernel
theorem dX10_copyFrom_152 : decode cX10_copyFrom 152 = .ok (.aload_n 0, 1) := by decide +kernel
theorem dX10_copyFrom_153 : decode cX10_copyFrom 153 = .ok (.aload_n 1, 1) := by decide +kernel
theorem dX10_copyFrom_154 : decode cX10_copyFrom 154 = .ok (.getfield 46, 3) := by decide +kernel
theorem dX10_copyFrom_157 : decode cX10_copyFrom 157 = .ok (.putfield 46, 3) := by decide +kernel
theorem dX10_copyFrom_160 : decode cX10_copyFrom 160 = .ok (.aload_n 0, 1) := by decide +kernel
theorem dX10_copyFrom_161 : decode cX10_copyFrom 161 = .ok (.aload_n 1, 1) := by decide +kernel
theorem dX10_copyFrom_162 : decode cX10_copyFrom 162 = .ok (.getfield 49, 3) := by decide +kernel
theorem dX10_copyFrom_165 : decode cX10_copyFrom 165 = .ok (.putfield 49, 3) := by decide +kernel
theorem dX10_copyFrom_168 : decode cX10_copyFrom 168 = .ok (.aload_n 0, 1) := by decide +kernel
theorem dX10_copyFrom_169 : decode cX10_copyFrom 169 = .ok (.aload_n 1, 1) := by decide +kernel
theorem dX10_copyFrom_170 : decode cX10_copyFrom 170 = .ok (.getfield 52, 3) := by decide +kernel
theorem dX10_copyFrom_173 : decode cX10_copyFrom 173 = .ok (.putfield 52, 3) := by decide +kernel
theorem dX10_copyFrom_176 : decode cX10_copyFrom 176 = .ok (.return_, 1) := by decide +kernel
theorem dX10_addPupil_0 : decode cX10_addPupil 0 = .ok (.aload_n 0, 1) := by decide +kernel
theorem dX10_addPupil_1 : decode cX10_addPupil 1 = .ok (.getfield 46, 3) := by decide +kernel
theorem dX10_addPupil_4 : decode cX10_addPupil 4 = .ok (.iconst 4, 1) := by decide +kernel
theorem dX10_addPupil_5 : decode cX10_addPupil 5 = .ok (.if_icmp .ge 43, 3) := by decide +kernel
theorem dX10_addPupil_48 : decode cX10_addPupil 48 = .ok (.return_, 1) := by decide +kernel
theorem dX10_addPupil_8 : decode cX10_addPupil 8 = .ok (.aload_n 0, 1) := by decide +kernel
theorem dX10_addPupil_9 : decode cX10_addPupil 9 = .ok (.getfield 18, 3) := by decide +kernel
theorem dX10_addPupil_12 : decode cX10_addPupil 12 = .ok (.aload_n 0, 1) := by decide +kernel
theorem dX10_addPupil_13 : decode cX10_addPupil 13 = .ok (.getfield 46, 3) := by decide +kernel
theorem dX10_addPupil_16 : decode cX10_addPupil 16 = .ok (.iload_n 1, 1) := by decide +kernel
theorem dX10_addPupil_17 : decode cX10_addPupil 17 = .ok (.iastore, 1) := by decide +kernel
theorem dX10_addPupil_18 : decode cX10_addPupil 18 = .ok (.aload_n 0, 1) := by decide +kernel
theorem dX10_addPupil_19 : decode cX10_addPupil 19 = .ok (.getfield 21, 3) := by decide +kernel
theorem dX10_addPupil_22 : decode cX10_addPupil 22 = .ok (.aload_n 0, 1) := by decide +kernel
theorem dX10_addPupil_23 : decode cX10_addPupil 23 = .ok (.getfield 46, 3) := by decide +kernel
theorem dX10_addPupil_26 : decode cX10_addPupil 26 = .ok (.iload_n 2, 1) := by decide +kernel
theorem dX10_addPupil_27 : decode cX10_addPupil 27 = .ok (.iastore, 1) := by decide +kernel
theorem dX10_addPupil_28 : decode cX10_addPupil 28 = .ok (.aload_n 0, 1) := by decide +kernel
theorem dX10_addPupil_29 : decode cX10_addPupil 29 = .ok (.getfield 24, 3) := by decide +kernel
theorem dX10_addPupil_32 : decode cX10_addPupil 32 = .ok (.aload_n 0, 1) := by decide +kernel
theorem dX10_addPupil_33 : decode cX10_addPupil 33 = .ok (.getfield 46, 3) := by decide +kernel
theorem dX10_addPupil_36 : decode cX10_addPupil 36 = .ok (.iload_n 3, 1) := by decide +kernel
theorem dX10_addPupil_37 : decode cX10_addPupil 37 = .ok (.iastore, 1) := by decide +kernel
theorem dX10_addPupil_38 : decode cX10_addPupil 38 = .ok (.aload_n 0, 1) := by decide +kernel
theorem dX10_addPupil_39 : decode cX10_addPupil 39 = .ok (.dup, 1) := by decide +kernel
theorem dX10_addPupil_40 : decode cX10_addPupil 40 = .ok (.getfield 46, 3) := by decide +kernel
theorem dX10_addPupil_43 : decode cX10_addPupil 43 = .ok (.iconst 1, 1) := by decide +kernel
theorem dX10_addPupil_44 : decode cX10_addPupil 44 = .ok (.iadd, 1) := by decide +kernel
theorem dX10_addPupil_45 : decode cX10_addPupil 45 = .ok (.putfield 46, 3) := by decide +kernel
theorem dX10_addLesson_0 : decode cX10_addLesson 0 = .ok (.aload_n 0, 1) := by decide +kernel
theorem dX10_addLesson_1 : decode cX10_addLesson 1 = .ok (.getfield 49, 3) := by decide +kernel
theorem dX10_addLesson_4 : decode cX10_addLesson 4 = .ok (.iconst 5, 1) := by decide +kernel
theorem dX10_addLesson_5 : decode cX10_addLesson 5 = .ok (.if_icmp .ge 43, 3) := by decide +kernel
theorem dX10_addLesson_48 : decode cX10_addLesson 48 = .ok (.return_, 1) := by decide +kernel
theorem dX10_addLesson_8 : decode cX10_addLesson 8 = .ok (.aload_n 0, 1) := by decide +kernel
theorem dX10_addLesson_9 : decode cX10_addLesson 9 = .ok (.getfield 27, 3) := by decide +kernel
theorem dX10_addLesson_12 : decode cX10_addLesson 12 = .ok (.aload_n 0, 1) := by decide +kernel
theorem dX10_addLesson_13 : decode cX10_addLesson 13 = .ok (.getfield 49, 3) := by decide +kernel
theorem dX10_addLesson_16 : decode cX10_addLesson 16 = .ok (.iload_n 1, 1) := by decide +kernel
theorem dX10_addLesson_17 : decode cX10_addLesson 17 = .ok (.iastore, 1) := by decide +kernel
theorem dX10_addLesson_18 : decode cX10_addLesson 18 = .ok (.aload_n 0, 1) := by decide +kernel
theorem dX10_addLesson_19 : decode cX10_addLesson 19 = .ok (.getfield 30, 3) := by decide +kernel
theorem dX10_addLesson_22 : decode cX10_addLesson 22 = .ok (.aload_n 0, 1) := by decide +kernel
theorem dX10_addLesson_23 : decode cX10_addLesson 23 = .ok (.getfield 49, 3) := by decide +kernel
theorem dX10_addLesson_26 : decode cX10_addLesson 26 = .ok (.iload_n 2, 1) := by decide +kernel
theorem dX10_addLesson_27 : decode cX10_addLesson 27 = .ok (.iastore, 1) := by decide +kernel
theorem dX10_addLesson_28 : decode cX10_addLesson 28 = .ok (.aload_n 0, 1) := by decide +kernel
theorem dX10_addLesson_29 : decode cX10_addLesson 29 = .ok (.getfield 33, 3) := by decide +kernel
theorem dX10_addLesson_32 : decode cX10_addLesson 32 = .ok (.aload_n 0, 1) := by decide +kernel
theorem dX10_addLesson_33 : decode cX10_addLesson 33 = .ok (.getfield 49, 3) := by decide +kernel
theorem dX10_addLesson_36 : decode cX10_addLesson 36 = .ok (.iload_n 3, 1) := by decide +kernel
theorem dX10_addLesson_37 : decode cX10_addLesson 37 = .ok (.iastore, 1) := by decide +kernel
theorem dX10_addLesson_38 : decode cX10_addLesson 38 = .ok (.aload_n 0, 1) := by decide +kernel
theorem dX10_addLesson_39 : decode cX10_addLesson 39 = .ok (.dup, 1) := by decide +kernel
theorem dX10_addLesson_40 : decode cX10_addLesson 40 = .ok (.getfield 49, 3) := by decide +kernel
theorem dX10_addLesson_43 : decode cX10_addLesson 43 = .ok (.iconst 1, 1) := by decide +kernel
theorem dX10_addLesson_44 : decode cX10_addLesson 44 = .ok (.iadd, 1) := by decide +kernel
theorem dX10_addLesson_45 : decode cX10_addLesson 45 = .ok (.putfield 49, 3) := by decide +kernel
theorem dX10_setWay_0 : decode cX10_setWay 0 = .ok (.aload_n 0, 1) := by decide +kernel
theorem dX10_setWay_1 : decode cX10_setWay 1 = .ok (.iload_n 1, 1) := by decide +kernel
theorem dX10_setWay_2 : decode cX10_setWay 2 = .ok (.invokevirtual 65, 3) := by decide +kernel
theorem dX10_setWay_5 : decode cX10_setWay 5 = .ok (.ifCond .eq 29, 3) := by decide +kernel
theorem dX10_setWay_34 : decode cX10_setWay 34 = .ok (.return_, 1) := by decide +kernel
theorem dX10_setWay_8 : decode cX10_setWay 8 = .ok (.iload_n 2, 1) := by decide +kernel
theorem dX10_setWay_9 : decode cX10_setWay 9 = .ok (.invokestatic 69, 3) := by decide +kernel
theorem dX10_setWay_12 : decode cX10_setWay 12 = .ok (.ifCond .eq 22, 3) := by decide +kernel
theorem dX10_setWay_15 : decode cX10_setWay 15 = .ok (.aload_n 0, 1) := by decide +kernel
theorem dX10_setWay_16 : decode cX10_setWay 16 = .ok (.iload_n 3, 1) := by decide +kernel
theorem dX10_setWay_17 : decode cX10_setWay 17 = .ok (.invokevirtual 65, 3) := by decide +kernel
theorem dX10_setWay_20 : decode cX10_setWay 20 = .ok (.ifCond .eq 14, 3) := by decide +kernel
theorem dX10_setWay_23 : decode cX10_setWay 23 = .ok (.aload_n 0, 1) := by decide +kernel
theorem dX10_setWay_24 : decode cX10_setWay 24 = .ok (.getfield 9, 3) := by decide +kernel
theorem dX10_setWay_27 : decode cX10_setWay 27 = .ok (.iload_n 1, 1) := by decide +kernel
theorem dX10_setWay_28 : decode cX10_setWay 28 = .ok (.iconst 4, 1) := by decide +kernel
theorem dX10_setWay_29 : decode cX10_setWay 29 = .ok (.imul, 1) := by decide +kernel
theorem dX10_setWay_30 : decode cX10_setWay 30 = .ok (.iload_n 2, 1) := by decide +kernel
theorem dX10_setWay_31 : decode cX10_setWay 31 = .ok (.iadd, 1) := by decide +kernel
theorem dX10_setWay_32 : decode cX10_setWay 32 = .ok (.iload_n 3, 1) := by decide +kernel
theorem dX10_setWay_33 : decode cX10_setWay 33 = .ok (.iastore, 1) := by decide +kernel
theorem dX10_setSign_0 : decode cX10_setSign 0 = .ok (.aload_n 0, 1) := by decide +kernel
theorem dX10_setSign_1 : decode cX10_setSign 1 = .ok (.iload_n 1, 1) := by decide +kernel
theorem dX10_setSign_2 : decode cX10_setSign 2 = .ok (.invokevirtual 65, 3) := by decide +kernel
theorem dX10_setSign_5 : decode cX10_setSign 5 = .ok (.ifCond .eq 10, 3) := by decide +kernel
theorem dX10_setSign_15 : decode cX10_setSign 15 = .ok (.return_, 1) := by decide +kernel
theorem dX10_setSign_8 : decode cX10_setSign 8 = .ok (.aload_n 0, 1) := by decide +kernel
theorem dX10_setSign_9 : decode cX10_setSign 9 = .ok (.getfield 15, 3) := by decide +kernel
theorem dX10_setSign_12 : decode cX10_setSign 12 = .ok (.iload_n 1, 1) := by decide +kernel
theorem dX10_setSign_13 : decode cX10_setSign 13 = .ok (.iload_n 2, 1) := by decide +kernel
theorem dX10_setSign_14 : decode cX10_setSign 14 = .ok (.iastore, 1) := by decide +kernel
theorem dX5_has_0 : decode cX5_has 0 = .ok (.iload_n 1, 1) := by decide +kernel
theorem dX5_has_1 : decode cX5_has 1 = .ok (.invokestatic 28, 3) := by decide +kernel
theorem dX5_has_4 : decode cX5_has 4 = .ok (.ifCond .eq 17, 3) := by decide +kernel
theorem dX5_has_21 : decode cX5_has 21 = .ok (.iconst 0, 1) := by decide +kernel
theorem dX5_has_22 : decode cX5_has 22 = .ok (.ireturn, 1) := by decide +kernel
theorem dX5_has_7 : decode cX5_has 7 = .ok (.aload_n 0, 1) := by decide +kernel
theorem dX5_has_8 : decode cX5_has 8 = .ok (.getfield 19, 3) := by decide +kernel
theorem dX5_has_11 : decode cX5_has 11 = .ok (.iload_n 1, 1) := by decide +kernel
theorem dX5_has_12 : decode cX5_has 12 = .ok (.iaload, 1) := by decide +kernel
theorem dX5_has_13 : decode cX5_has 13 = .ok (.iconst (-1), 1) := by decide +kernel
theorem dX5_has_14 : decode cX5_has 14 = .ok (.if_icmp .eq 7, 3) := by decide +kernel
theorem dX5_has_17 : decode cX5_has 17 = .ok (.iconst 1, 1) := by decide +kernel
theorem dX5_has_18 : decode cX5_has 18 = .ok (.goto 4, 3) := by decide +kernel
theorem dX5_width_0 : decode cX5_width 0 = .ok (.iload_n 1, 1) := by decide +kernel
theorem dX5_width_1 : decode cX5_width 1 = .ok (.invokestatic 28, 3) := by decide +kernel
theorem dX5_width_4 : decode cX5_width 4 = .ok (.ifCond .eq 12, 3) := by decide +kernel
theorem dX5_width_16 : decode cX5_width 16 = .ok (.iconst (-1), 1) := by decide +kernel
theorem dX5_width_17 : decode cX5_width 17 = .ok (.ireturn, 1) := by decide +kernel
theorem dX5_width_7 : decode cX5_width 7 = .ok (.aload_n 0, 1) := by decide +kernel
theorem dX5_width_8 : decode cX5_width 8 = .ok (.getfield 15, 3) := by decide +kernel
theorem dX5_width_11 : decode cX5_width 11 = .ok (.iload_n 1, 1) := by decide +kernel
theorem dX5_width_12 : decode cX5_width 12 = .ok (.iaload, 1) := by decide +kernel
theorem dX5_width_13 : decode cX5_width 13 = .ok (.goto 4, 3) := by decide +kernel
theorem dX5_size_0 : decode cX5_size 0 = .ok (.aload_n 0, 1) := by decide +kernel
theorem dX5_size_1 : decode cX5_size 1 = .ok (.iload_n 1, 1) := by decide +kernel
theorem dX5_size_2 : decode cX5_size 2 = .ok (.invokevirtual 35, 3) := by decide +kernel
theorem dX5_size_5 : decode cX5_size 5 = .ok (.ifCond .eq 12, 3) := by decide +kernel
theorem dX5_size_17 : decode cX5_size 17 = .ok (.iconst 0, 1) := by decide +kernel
theorem dX5_size_18 : decode cX5_size 18 = .ok (.ireturn, 1) := by decide +kernel
theorem dX5_size_8 : decode cX5_size 8 = .ok (.aload_n 0, 1) := by decide +kernel
theorem dX5_size_9 : decode cX5_size 9 = .ok (.getfield 19, 3) := by decide +kernel
theorem dX5_size_12 : decode cX5_size 12 = .ok (.iload_n 1, 1) := by decide +kernel
theorem dX5_size_13 : decode cX5_size 13 = .ok (.iaload, 1) := by decide +kernel
theorem dX5_size_14 : decode cX5_size 14 = .ok (.goto 4, 3) := by decide +kernel
theorem dX5_kept_0 : decode cX5_kept 0 = .ok (.iconst 0, 1) := by decide +kernel
theorem dX5_kept_1 : decode cX5_kept 1 = .ok (.istore_n 1, 1) := by decide +kernel
theorem dX5_kept_2 : decode cX5_kept 2 = .ok (.iconst 0, 1) := by decide +kernel
theorem dX5_kept_3 : decode cX5_kept 3 = .ok (.istore_n 2, 1) := by decide +kernel
theorem dX5_kept_4 : decode cX5_kept 4 = .ok (.iload_n 2, 1) := by decide +kernel
theorem dX5_kept_5 : decode cX5_kept 5 = .ok (.iconst 4, 1) := by decide +kernel
theorem dX5_kept_6 : decode cX5_kept 6 = .ok (.if_icmp .ge 25, 3) := by decide +kernel
theorem dX5_kept_31 : decode cX5_kept 31 = .ok (.iload_n 1, 1) := by decide +kernel
theorem dX5_kept_32 : decode cX5_kept 32 = .ok (.ireturn, 1) := by decide +kernel
theorem dX5_kept_9 : decode cX5_kept 9 = .ok (.iload_n 1, 1) := by decide +kernel
theorem dX5_kept_10 : decode cX5_kept 10 = .ok (.aload_n 0, 1) := by decide +kernel
theorem dX5_kept_11 : decode cX5_kept 11 = .ok (.iload_n 2, 1) := by decide +kernel
theorem dX5_kept_12 : decode cX5_kept 12 = .ok (.invokevirtual 35, 3) := by decide +kernel
theorem dX5_kept_15 : decode cX5_kept 15 = .ok (.ifCond .eq 7, 3) := by decide +kernel
theorem dX5_kept_22 : decode cX5_kept 22 = .ok (.iconst 0, 1) := by decide +kernel
theorem dX5_kept_23 : decode cX5_kept 23 = .ok (.iadd, 1) := by decide +kernel
theorem dX5_kept_24 : decode cX5_kept 24 = .ok (.istore_n 1, 1) := by decide +kernel
theorem dX5_kept_25 : decode cX5_kept 25 = .ok (.iinc 2 1, 3) := by decide +kernel
theorem dX5_kept_28 : decode cX5_kept 28 = .ok (.goto (-24), 3) := by decide +kernel
theorem dX5_kept_18 : decode cX5_kept 18 = .ok (.iconst 1, 1) := by decide +kernel
theorem dX5_kept_19 : decode cX5_kept 19 = .ok (.goto 4, 3) := by decide +kernel
