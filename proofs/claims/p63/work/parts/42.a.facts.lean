set_option maxRecDepth 20000 in
theorem w_858 : Cond.methodLink RX12 176 yJ0_length_8abf5 ∈ wl := tm_7 (List.mem_of_getElem? (i := 35) rfl) rfl
set_option maxRecDepth 20000 in
theorem w_859 : Cond.methodLink RX12 181 yJ0_charAt_5068e ∈ wl := tm_7 (List.mem_of_getElem? (i := 36) rfl) rfl
set_option maxRecDepth 20000 in
theorem w_860 : Cond.code yX12_is cX12_is 4 (some .boolean) ∈ wl := tm_7 (List.mem_of_getElem? (i := 34) rfl) rfl
set_option maxRecDepth 20000 in
theorem w_861 : Cond.methodLink RX12 185 yX12_is ∈ wl := tm_7 (List.mem_of_getElem? (i := 31) rfl) rfl
set_option maxRecDepth 20000 in
theorem w_862 : Cond.instanceMethod yX12_is ∈ wl := tm_7 (List.mem_of_getElem? (i := 33) rfl) rfl
set_option maxRecDepth 20000 in
theorem w_863 : Cond.selects RX12 yX12_is yX12_is ∈ wl := tp_3 (q := (yX12_is, 53)) (List.mem_of_getElem? (i := 13) rfl)
set_option maxRecDepth 20000 in
theorem w_864 : Cond.code yX12_advance cX12_advance 2 none ∈ wl := tm_6 (List.mem_of_getElem? (i := 239) rfl) rfl
set_option maxRecDepth 20000 in
theorem w_865 : Cond.methodLink RX12 189 yX12_advance ∈ wl := tm_6 (List.mem_of_getElem? (i := 236) rfl) rfl
set_option maxRecDepth 20000 in
theorem w_866 : Cond.instanceMethod yX12_advance ∈ wl := tm_6 (List.mem_of_getElem? (i := 238) rfl) rfl
set_option maxRecDepth 20000 in
theorem w_867 : Cond.selects RX12 yX12_advance yX12_advance ∈ wl := tp_3 (q := (yX12_advance, 53)) (List.mem_of_getElem? (i := 6) rfl)
set_option maxRecDepth 20000 in
theorem w_868 : Cond.code yX12_takes cX12_takes 3 (some .boolean) ∈ wl := tm_7 (List.mem_of_getElem? (i := 30) rfl) rfl
set_option maxRecDepth 20000 in
theorem w_869 : Cond.methodLink RX12 192 yX12_takes ∈ wl := tm_7 (List.mem_of_getElem? (i := 27) rfl) rfl
set_option maxRecDepth 20000 in
theorem w_870 : Cond.instanceMethod yX12_takes ∈ wl := tm_7 (List.mem_of_getElem? (i := 29) rfl) rfl
set_option maxRecDepth 20000 in
theorem w_871 : Cond.selects RX12 yX12_takes yX12_takes ∈ wl := tp_3 (q := (yX12_takes, 53)) (List.mem_of_getElem? (i := 12) rfl)
set_option maxRecDepth 20000 in
theorem w_872 : Cond.code yX12_errs cX12_errs 2 none ∈ wl := tm_7 (List.mem_of_getElem? (i := 40) rfl) rfl
set_option maxRecDepth 20000 in
theorem w_873 : Cond.methodLink RX12 195 yX12_errs ∈ wl := tm_7 (List.mem_of_getElem? (i := 37) rfl) rfl
set_option maxRecDepth 20000 in
theorem w_874 : Cond.instanceMethod yX12_errs ∈ wl := tm_7 (List.mem_of_getElem? (i := 39) rfl) rfl
set_option maxRecDepth 20000 in
theorem w_875 : Cond.selects RX12 yX12_errs yX12_errs ∈ wl := tp_3 (q := (yX12_errs, 53)) (List.mem_of_getElem? (i := 14) rfl)
set_option maxRecDepth 20000 in
theorem w_876 : Cond.code yX12_needs cX12_needs 2 none ∈ wl := tm_7 (List.mem_of_getElem? (i := 26) rfl) rfl
set_option maxRecDepth 20000 in
theorem w_877 : Cond.methodLink RX12 199 yX12_needs ∈ wl := tm_7 (List.mem_of_getElem? (i := 23) rfl) rfl
set_option maxRecDepth 20000 in
theorem w_878 : Cond.instanceMethod yX12_needs ∈ wl := tm_7 (List.mem_of_getElem? (i := 25) rfl) rfl
set_option maxRecDepth 20000 in
theorem w_879 : Cond.selects RX12 yX12_needs yX12_needs ∈ wl := tp_3 (q := (yX12_needs, 53)) (List.mem_of_getElem? (i := 11) rfl)
set_option maxRecDepth 20000 in
theorem w_880 : Cond.code yX12_number cX12_number 4 (some .int) ∈ wl := tm_7 (List.mem_of_getElem? (i := 49) rfl) rfl
set_option maxRecDepth 20000 in
theorem w_881 : Cond.methodLink RX12 203 yX12_number ∈ wl := tm_7 (List.mem_of_getElem? (i := 46) rfl) rfl
set_option maxRecDepth 20000 in
theorem w_882 : Cond.instanceMethod yX12_number ∈ wl := tm_7 (List.mem_of_getElem? (i := 48) rfl) rfl
set_option maxRecDepth 20000 in
theorem w_883 : Cond.selects RX12 yX12_number yX12_number ∈ wl := tp_4 (q := (yX12_number, 53)) (List.mem_of_getElem? (i := 0) rfl)
set_option maxRecDepth 20000 in
theorem w_884 : Cond.fieldLink RX12 31 "LostWoodModel" "fresh" "[I" ∈ wl := tm_6 (List.mem_of_getElem? (i := 61) rfl) rfl
set_option maxRecDepth 20000 in
theorem w_885 : Cond.code yX12_told cX12_told 4 (some .int) ∈ wl := tm_7 (List.mem_of_getElem? (i := 45) rfl) rfl
set_option maxRecDepth 20000 in
theorem w_886 : Cond.methodLink RX12 218 yX12_told ∈ wl := tm_7 (List.mem_of_getElem? (i := 42) rfl) rfl
set_option maxRecDepth 20000 in
theorem w_887 : Cond.instanceMethod yX12_told ∈ wl := tm_7 (List.mem_of_getElem? (i := 44) rfl) rfl
set_option maxRecDepth 20000 in
theorem w_888 : Cond.selects RX12 yX12_told yX12_told ∈ wl := tp_3 (q := (yX12_told, 53)) (List.mem_of_getElem? (i := 15) rfl)
set_option maxRecDepth 20000 in
theorem w_889 : Cond.code yX12_freshPlace cX12_freshPlace 1 (some .int) ∈ wl := tm_7 (List.mem_of_getElem? (i := 65) rfl) rfl
set_option maxRecDepth 20000 in
theorem w_890 : Cond.methodLink RX12 222 yX12_freshPlace ∈ wl := tm_7 (List.mem_of_getElem? (i := 62) rfl) rfl
set_option maxRecDepth 20000 in
theorem w_891 : Cond.instanceMethod yX12_freshPlace ∈ wl := tm_7 (List.mem_of_getElem? (i := 64) rfl) rfl
set_option maxRecDepth 20000 in
theorem w_892 : Cond.selects RX12 yX12_freshPlace yX12_freshPlace ∈ wl := tp_4 (q := (yX12_freshPlace, 53)) (List.mem_of_getElem? (i := 3) rfl)
set_option maxRecDepth 20000 in
theorem w_893 : Cond.code yX12_freshWind cX12_freshWind 1 (some .int) ∈ wl := tm_7 (List.mem_of_getElem? (i := 69) rfl) rfl
set_option maxRecDepth 20000 in
theorem w_894 : Cond.methodLink RX12 225 yX12_freshWind ∈ wl := tm_7 (List.mem_of_getElem? (i := 66) rfl) rfl
set_option maxRecDepth 20000 in
theorem w_895 : Cond.instanceMethod yX12_freshWind ∈ wl := tm_7 (List.mem_of_getElem? (i := 68) rfl) rfl
set_option maxRecDepth 20000 in
theorem w_896 : Cond.selects RX12 yX12_freshWind yX12_freshWind ∈ wl := tp_4 (q := (yX12_freshWind, 53)) (List.mem_of_getElem? (i := 4) rfl)
set_option maxRecDepth 20000 in
theorem w_897 : Cond.code yX12_readLesson cX12_readLesson 2 none ∈ wl := tm_7 (List.mem_of_getElem? (i := 90) rfl) rfl
set_option maxRecDepth 20000 in
theorem w_898 : Cond.methodLink RX12 258 yX12_readLesson ∈ wl := tm_7 (List.mem_of_getElem? (i := 87) rfl) rfl
set_option maxRecDepth 20000 in
theorem w_899 : Cond.instanceMethod yX12_readLesson ∈ wl := tm_7 (List.mem_of_getElem? (i := 89) rfl) rfl
set_option maxRecDepth 20000 in
theorem w_900 : Cond.selects RX12 yX12_readLesson yX12_readLesson ∈ wl := tp_4 (q := (yX12_readLesson, 53)) (List.mem_of_getElem? (i := 7) rfl)
set_option maxRecDepth 20000 in
theorem w_901 : Cond.code yX12_readPupil cX12_readPupil 4 none ∈ wl := tm_7 (List.mem_of_getElem? (i := 83) rfl) rfl
set_option maxRecDepth 20000 in
theorem w_902 : Cond.methodLink RX12 255 yX12_readPupil ∈ wl := tm_7 (List.mem_of_getElem? (i := 80) rfl) rfl
set_option maxRecDepth 20000 in
theorem w_903 : Cond.instanceMethod yX12_readPupil ∈ wl := tm_7 (List.mem_of_getElem? (i := 82) rfl) rfl
set_option maxRecDepth 20000 in
theorem w_904 : Cond.selects RX12 yX12_readPupil yX12_readPupil ∈ wl := tp_4 (q := (yX12_readPupil, 53)) (List.mem_of_getElem? (i := 6) rfl)
set_option maxRecDepth 20000 in
theorem w_905 : Cond.code yX12_readMark cX12_readMark 3 none ∈ wl := tm_7 (List.mem_of_getElem? (i := 79) rfl) rfl
set_option maxRecDepth 20000 in
theorem w_906 : Cond.methodLink RX12 252 yX12_readMark ∈ wl := tm_7 (List.mem_of_getElem? (i := 76) rfl) rfl
set_option maxRecDepth 20000 in
theorem w_907 : Cond.instanceMethod yX12_readMark ∈ wl := tm_7 (List.mem_of_getElem? (i := 78) rfl) rfl
set_option maxRecDepth 20000 in
theorem w_908 : Cond.selects RX12 yX12_readMark yX12_readMark ∈ wl := tp_4 (q := (yX12_readMark, 53)) (List.mem_of_getElem? (i := 5) rfl)
set_option maxRecDepth 20000 in
theorem w_909 : Cond.code yX12_readWay cX12_readWay 5 none ∈ wl := tm_7 (List.mem_of_getElem? (i := 61) rfl) rfl
set_option maxRecDepth 20000 in
theorem w_910 : Cond.methodLink RX12 249 yX12_readWay ∈ wl := tm_7 (List.mem_of_getElem? (i := 58) rfl) rfl
set_option maxRecDepth 20000 in
theorem w_911 : Cond.instanceMethod yX12_readWay ∈ wl := tm_7 (List.mem_of_getElem? (i := 60) rfl) rfl
set_option maxRecDepth 20000 in
theorem w_912 : Cond.selects RX12 yX12_readWay yX12_readWay ∈ wl := tp_4 (q := (yX12_readWay, 53)) (List.mem_of_getElem? (i := 2) rfl)
set_option maxRecDepth 20000 in
theorem w_913 : Cond.code yX12_readNext cX12_readNext 2 none ∈ wl := tm_7 (List.mem_of_getElem? (i := 53) rfl) rfl
set_option maxRecDepth 20000 in
theorem w_914 : Cond.methodLink RX12 264 yX12_readNext ∈ wl := tm_7 (List.mem_of_getElem? (i := 50) rfl) rfl
set_option maxRecDepth 20000 in
theorem w_915 : Cond.instanceMethod yX12_readNext ∈ wl := tm_7 (List.mem_of_getElem? (i := 52) rfl) rfl
set_option maxRecDepth 20000 in
theorem w_916 : Cond.selects RX12 yX12_readNext yX12_readNext ∈ wl := tp_4 (q := (yX12_readNext, 53)) (List.mem_of_getElem? (i := 1) rfl)
set_option maxRecDepth 20000 in
theorem w_917 : Cond.code yX12_readFirst cX12_readFirst 3 none ∈ wl := tm_7 (List.mem_of_getElem? (i := 21) rfl) rfl
set_option maxRecDepth 20000 in
theorem w_918 : Cond.methodLink RX12 261 yX12_readFirst ∈ wl := tm_7 (List.mem_of_getElem? (i := 18) rfl) rfl
set_option maxRecDepth 20000 in
theorem w_919 : Cond.instanceMethod yX12_readFirst ∈ wl := tm_7 (List.mem_of_getElem? (i := 20) rfl) rfl
set_option maxRecDepth 20000 in
theorem w_920 : Cond.selects RX12 yX12_readFirst yX12_readFirst ∈ wl := tp_3 (q := (yX12_readFirst, 53)) (List.mem_of_getElem? (i := 10) rfl)
theorem kd_X12_is : okD yX12_is 1 := by decide +kernel
theorem kd_X12_advance : okD yX12_advance 0 := by decide +kernel
theorem kd_X12_takes : okD yX12_takes 1 := by decide +kernel
theorem kd_X12_errs : okD yX12_errs 1 := by decide +kernel
theorem kd_X12_needs : okD yX12_needs 1 := by decide +kernel
theorem kd_X12_number : okD yX12_number 2 := by decide +kernel
theorem kd_X12_told : okD yX12_told 3 := by decide +kernel
theorem kd_X12_freshPlace : okD yX12_freshPlace 0 := by decide +kernel
theorem kd_X12_freshWind : okD yX12_freshWind 0 := by decide +kernel
theorem kd_X12_readLesson : okD yX12_readLesson 0 := by decide +kernel
theorem kd_X12_readPupil : okD yX12_readPupil 0 := by decide +kernel
theorem kd_X12_readMark : okD yX12_readMark 0 := by decide +kernel
theorem kd_X12_readWay : okD yX12_readWay 0 := by decide +kernel
theorem kd_X12_readNext : okD yX12_readNext 0 := by decide +kernel
theorem kd_X12_readFirst : okD yX12_readFirst 0 := by decide +kernel
set_option maxRecDepth 20000 in
theorem kV_X12_176 : okV RX12 176 yJ0_length_8abf5 cJ0_length_8abf5 1 (some .int) 0 := ⟨⟨w_858, w_419, w_370, kd_J0_length_8abf5⟩, w_421, w_422⟩
set_option maxRecDepth 20000 in
theorem kV_X12_181 : okV RX12 181 yJ0_charAt_5068e cJ0_charAt_5068e 2 (some .char) 1 := ⟨⟨w_859, w_423, w_370, kd_J0_charAt_5068e⟩, w_425, w_426⟩
set_option maxRecDepth 20000 in
theorem kV_X12_185 : okV RX12 185 yX12_is cX12_is 4 (some .boolean) 1 := ⟨⟨w_861, w_860, w_765, kd_X12_is⟩, w_862, w_863⟩
set_option maxRecDepth 20000 in
theorem kV_X12_189 : okV RX12 189 yX12_advance cX12_advance 2 none 0 := ⟨⟨w_865, w_864, w_765, kd_X12_advance⟩, w_866, w_867⟩
set_option maxRecDepth 20000 in
theorem kV_X12_192 : okV RX12 192 yX12_takes cX12_takes 3 (some .boolean) 1 := ⟨⟨w_869, w_868, w_765, kd_X12_takes⟩, w_870, w_871⟩
set_option maxRecDepth 20000 in
theorem kV_X12_195 : okV RX12 195 yX12_errs cX12_errs 2 none 1 := ⟨⟨w_873, w_872, w_765, kd_X12_errs⟩, w_874, w_875⟩
set_option maxRecDepth 20000 in
theorem kV_X12_199 : okV RX12 199 yX12_needs cX12_needs 2 none 1 := ⟨⟨w_877, w_876, w_765, kd_X12_needs⟩, w_878, w_879⟩
set_option maxRecDepth 20000 in
theorem kV_X12_203 : okV RX12 203 yX12_number cX12_number 4 (some .int) 2 := ⟨⟨w_881, w_880, w_765, kd_X12_number⟩, w_882, w_883⟩
set_option maxRecDepth 20000 in
theorem kV_X12_218 : okV RX12 218 yX12_told cX12_told 4 (some .int) 3 := ⟨⟨w_886, w_885, w_765, kd_X12_told⟩, w_887, w_888⟩
set_option maxRecDepth 20000 in
theorem kV_X12_222 : okV RX12 222 yX12_freshPlace cX12_freshPlace 1 (some .int) 0 := ⟨⟨w_890, w_889, w_765, kd_X12_freshPlace⟩, w_891, w_892⟩
set_option maxRecDepth 20000 in
theorem kV_X12_225 : okV RX12 225 yX12_freshWind cX12_freshWind 1 (some .int) 0 := ⟨⟨w_894, w_893, w_765, kd_X12_freshWind⟩, w_895, w_896⟩
set_option maxRecDepth 20000 in
theorem kV_X12_258 : okV RX12 258 yX12_readLesson cX12_readLesson 2 none 0 := ⟨⟨w_898, w_897, w_765, kd_X12_readLesson⟩, w_899, w_900⟩
set_option maxRecDepth 20000 in
theorem kV_X12_255 : okV RX12 255 yX12_readPupil cX12_readPupil 4 none 0 := ⟨⟨w_902, w_901, w_765, kd_X12_readPupil⟩, w_903, w_904⟩
set_option maxRecDepth 20000 in
theorem kV_X12_252 : okV RX12 252 yX12_readMark cX12_readMark 3 none 0 := ⟨⟨w_906, w_905, w_765, kd_X12_readMark⟩, w_907, w_908⟩
set_option maxRecDepth 20000 in
theorem kV_X12_249 : okV RX12 249 yX12_readWay cX12_readWay 5 none 0 := ⟨⟨w_910, w_909, w_765, kd_X12_readWay⟩, w_911, w_912⟩
set_option maxRecDepth 20000 in
theorem kV_X12_264 : okV RX12 264 yX12_readNext cX12_readNext 2 none 0 := ⟨⟨w_914, w_913, w_765, kd_X12_readNext⟩, w_915, w_916⟩
set_option maxRecDepth 20000 in
theorem kV_X12_261 : okV RX12 261 yX12_readFirst cX12_readFirst 3 none 0 := ⟨⟨w_918, w_917, w_765, kd_X12_readFirst⟩, w_919, w_920⟩
