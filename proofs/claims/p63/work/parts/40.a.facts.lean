set_option maxRecDepth 20000 in
theorem w_763 : Cond.constantLong RX12 123 (3) ∈ wl := tm_7 (List.mem_of_getElem? (i := 104) rfl) rfl
set_option maxRecDepth 20000 in
theorem w_764 : Cond.code yX12_in cX12_in 6 (some .boolean) ∈ wl := tm_6 (List.mem_of_getElem? (i := 215) rfl) rfl
set_option maxRecDepth 20000 in
theorem w_765 : Cond.initialized RX12 ∈ wl := tm_1 (List.mem_of_getElem? (i := 15) rfl) rfl
set_option maxRecDepth 20000 in
theorem w_766 : Cond.methodLink RX12 115 yX12_in ∈ wl := tm_6 (List.mem_of_getElem? (i := 213) rfl) rfl
set_option maxRecDepth 20000 in
theorem w_767 : Cond.static yX12_in ∈ wl := tm_6 (List.mem_of_getElem? (i := 214) rfl) rfl
set_option maxRecDepth 20000 in
theorem w_768 : Cond.lays "LostWoodModel" "LostWoodModel" "thrown" "I" ∈ wl := tm_6 (List.mem_of_getElem? (i := 100) rfl) rfl
set_option maxRecDepth 20000 in
theorem w_769 : Cond.laysFinal "LostWoodModel" "LostWoodModel" "world" "[I" ∈ wl := tm_6 (List.mem_of_getElem? (i := 102) rfl) rfl
set_option maxRecDepth 20000 in
theorem w_770 : Cond.laysFinal "LostWoodModel" "LostWoodModel" "images" "[I" ∈ wl := tm_6 (List.mem_of_getElem? (i := 104) rfl) rfl
set_option maxRecDepth 20000 in
theorem w_771 : Cond.laysFinal "LostWoodModel" "LostWoodModel" "hasImage" "[Z" ∈ wl := tm_6 (List.mem_of_getElem? (i := 106) rfl) rfl
set_option maxRecDepth 20000 in
theorem w_772 : Cond.laysFinal "LostWoodModel" "LostWoodModel" "tape" "[B" ∈ wl := tm_6 (List.mem_of_getElem? (i := 108) rfl) rfl
set_option maxRecDepth 20000 in
theorem w_773 : Cond.lays "LostWoodModel" "LostWoodModel" "taped" "I" ∈ wl := tm_6 (List.mem_of_getElem? (i := 110) rfl) rfl
set_option maxRecDepth 20000 in
theorem w_774 : Cond.laysFinal "LostWoodModel" "LostWoodModel" "five" "[I" ∈ wl := tm_6 (List.mem_of_getElem? (i := 112) rfl) rfl
set_option maxRecDepth 20000 in
theorem w_775 : Cond.lays "LostWoodModel" "LostWoodModel" "size" "I" ∈ wl := tm_6 (List.mem_of_getElem? (i := 114) rfl) rfl
set_option maxRecDepth 20000 in
theorem w_776 : Cond.lays "LostWoodModel" "LostWoodModel" "at" "I" ∈ wl := tm_6 (List.mem_of_getElem? (i := 116) rfl) rfl
set_option maxRecDepth 20000 in
theorem w_777 : Cond.lays "LostWoodModel" "LostWoodModel" "from" "I" ∈ wl := tm_6 (List.mem_of_getElem? (i := 118) rfl) rfl
set_option maxRecDepth 20000 in
theorem w_778 : Cond.lays "LostWoodModel" "LostWoodModel" "token" "I" ∈ wl := tm_6 (List.mem_of_getElem? (i := 120) rfl) rfl
set_option maxRecDepth 20000 in
theorem w_779 : Cond.lays "LostWoodModel" "LostWoodModel" "value" "I" ∈ wl := tm_6 (List.mem_of_getElem? (i := 122) rfl) rfl
set_option maxRecDepth 20000 in
theorem w_780 : Cond.lays "LostWoodModel" "LostWoodModel" "faultKind" "I" ∈ wl := tm_6 (List.mem_of_getElem? (i := 124) rfl) rfl
set_option maxRecDepth 20000 in
theorem w_781 : Cond.lays "LostWoodModel" "LostWoodModel" "faultPlace" "I" ∈ wl := tm_6 (List.mem_of_getElem? (i := 126) rfl) rfl
set_option maxRecDepth 20000 in
theorem w_782 : Cond.laysFinal "LostWoodModel" "LostWoodModel" "fresh" "[I" ∈ wl := tm_6 (List.mem_of_getElem? (i := 128) rfl) rfl
set_option maxRecDepth 20000 in
theorem w_783 : Cond.lays "LostWoodModel" "LostWoodModel" "where" "I" ∈ wl := tm_6 (List.mem_of_getElem? (i := 130) rfl) rfl
set_option maxRecDepth 20000 in
theorem w_784 : Cond.lays "LostWoodModel" "LostWoodModel" "thinks" "I" ∈ wl := tm_6 (List.mem_of_getElem? (i := 132) rfl) rfl
set_option maxRecDepth 20000 in
theorem w_785 : Cond.lays "LostWoodModel" "LostWoodModel" "lies" "I" ∈ wl := tm_6 (List.mem_of_getElem? (i := 134) rfl) rfl
set_option maxRecDepth 20000 in
theorem w_786 : Cond.lays "LostWoodModel" "LostWoodModel" "firstKnows" "I" ∈ wl := tm_6 (List.mem_of_getElem? (i := 136) rfl) rfl
set_option maxRecDepth 20000 in
theorem w_787 : Cond.lays "LostWoodModel" "LostWoodModel" "firstLost" "I" ∈ wl := tm_6 (List.mem_of_getElem? (i := 138) rfl) rfl
set_option maxRecDepth 20000 in
theorem w_788 : Cond.lays "LostWoodModel" "LostWoodModel" "mostDoubt" "I" ∈ wl := tm_6 (List.mem_of_getElem? (i := 140) rfl) rfl
set_option maxRecDepth 20000 in
theorem w_789 : Cond.laysFinal "LostWoodModel" "LostWoodModel" "queue" "[I" ∈ wl := tm_6 (List.mem_of_getElem? (i := 142) rfl) rfl
set_option maxRecDepth 20000 in
theorem w_790 : Cond.laysFinal "LostWoodModel" "LostWoodModel" "farOf" "[I" ∈ wl := tm_6 (List.mem_of_getElem? (i := 144) rfl) rfl
set_option maxRecDepth 20000 in
theorem w_791 : Cond.laysFinal "LostWoodModel" "LostWoodModel" "cameBy" "[I" ∈ wl := tm_6 (List.mem_of_getElem? (i := 146) rfl) rfl
set_option maxRecDepth 20000 in
theorem w_792 : Cond.laysFinal "LostWoodModel" "LostWoodModel" "cameFrom" "[I" ∈ wl := tm_6 (List.mem_of_getElem? (i := 148) rfl) rfl
set_option maxRecDepth 20000 in
theorem w_793 : Cond.lays "LostWoodModel" "LostWoodModel" "queued" "I" ∈ wl := tm_6 (List.mem_of_getElem? (i := 150) rfl) rfl
set_option maxRecDepth 20000 in
theorem w_794 : Cond.laysFinal "LostWoodModel" "LostWoodModel" "depth" "[I" ∈ wl := tm_6 (List.mem_of_getElem? (i := 152) rfl) rfl
set_option maxRecDepth 20000 in
theorem w_795 : Cond.laysFinal "LostWoodModel" "LostWoodModel" "kind" "[I" ∈ wl := tm_6 (List.mem_of_getElem? (i := 154) rfl) rfl
set_option maxRecDepth 20000 in
theorem w_796 : Cond.laysFinal "LostWoodModel" "LostWoodModel" "kindThen" "[I" ∈ wl := tm_6 (List.mem_of_getElem? (i := 156) rfl) rfl
set_option maxRecDepth 20000 in
theorem w_797 : Cond.laysFinal "LostWoodModel" "LostWoodModel" "twos" "[I" ∈ wl := tm_6 (List.mem_of_getElem? (i := 158) rfl) rfl
set_option maxRecDepth 20000 in
theorem w_798 : Cond.laysFinal "LostWoodModel" "LostWoodModel" "twoFar" "[I" ∈ wl := tm_6 (List.mem_of_getElem? (i := 160) rfl) rfl
set_option maxRecDepth 20000 in
theorem w_799 : Cond.laysFinal "LostWoodModel" "LostWoodModel" "twoBy" "[I" ∈ wl := tm_6 (List.mem_of_getElem? (i := 162) rfl) rfl
set_option maxRecDepth 20000 in
theorem w_800 : Cond.laysFinal "LostWoodModel" "LostWoodModel" "twoFrom" "[I" ∈ wl := tm_6 (List.mem_of_getElem? (i := 164) rfl) rfl
set_option maxRecDepth 20000 in
theorem w_801 : Cond.laysFinal "LostWoodModel" "LostWoodModel" "setQueue" "[I" ∈ wl := tm_6 (List.mem_of_getElem? (i := 166) rfl) rfl
set_option maxRecDepth 20000 in
theorem w_802 : Cond.laysFinal "LostWoodModel" "LostWoodModel" "setFar" "[I" ∈ wl := tm_6 (List.mem_of_getElem? (i := 168) rfl) rfl
set_option maxRecDepth 20000 in
theorem w_803 : Cond.laysFinal "LostWoodModel" "LostWoodModel" "setBy" "[I" ∈ wl := tm_6 (List.mem_of_getElem? (i := 170) rfl) rfl
set_option maxRecDepth 20000 in
theorem w_804 : Cond.laysFinal "LostWoodModel" "LostWoodModel" "setFrom" "[I" ∈ wl := tm_6 (List.mem_of_getElem? (i := 172) rfl) rfl
set_option maxRecDepth 20000 in
theorem w_805 : Cond.lays "LostWoodModel" "LostWoodModel" "setQueued" "I" ∈ wl := tm_6 (List.mem_of_getElem? (i := 174) rfl) rfl
set_option maxRecDepth 20000 in
theorem w_806 : Cond.lays "LostWoodModel" "LostWoodModel" "meetSteps" "I" ∈ wl := tm_6 (List.mem_of_getElem? (i := 176) rfl) rfl
set_option maxRecDepth 20000 in
theorem w_807 : Cond.lays "LostWoodModel" "LostWoodModel" "meetSet" "I" ∈ wl := tm_6 (List.mem_of_getElem? (i := 178) rfl) rfl
set_option maxRecDepth 20000 in
theorem w_808 : Cond.laysFinal "LostWoodModel" "LostWoodModel" "order" "[I" ∈ wl := tm_6 (List.mem_of_getElem? (i := 180) rfl) rfl
set_option maxRecDepth 20000 in
theorem w_809 : Cond.laysFinal "LostWoodModel" "LostWoodModel" "bestOrder" "[I" ∈ wl := tm_6 (List.mem_of_getElem? (i := 182) rfl) rfl
set_option maxRecDepth 20000 in
theorem w_810 : Cond.laysFinal "LostWoodModel" "LostWoodModel" "kept" "[I" ∈ wl := tm_6 (List.mem_of_getElem? (i := 184) rfl) rfl
set_option maxRecDepth 20000 in
theorem w_811 : Cond.lays "LostWoodModel" "LostWoodModel" "courseMost" "I" ∈ wl := tm_6 (List.mem_of_getElem? (i := 186) rfl) rfl
set_option maxRecDepth 20000 in
theorem w_812 : Cond.lays "LostWoodModel" "LostWoodModel" "courseLeast" "I" ∈ wl := tm_6 (List.mem_of_getElem? (i := 188) rfl) rfl
set_option maxRecDepth 20000 in
theorem w_813 : Cond.laysFinal "LostWoodModel" "LostWoodModel" "cost" "[I" ∈ wl := tm_6 (List.mem_of_getElem? (i := 190) rfl) rfl
set_option maxRecDepth 20000 in
theorem w_814 : Cond.laysFinal "LostWoodModel" "LostWoodModel" "rows" "[I" ∈ wl := tm_6 (List.mem_of_getElem? (i := 192) rfl) rfl
set_option maxRecDepth 20000 in
theorem w_815 : Cond.laysFinal "LostWoodModel" "LostWoodModel" "rowsThen" "[I" ∈ wl := tm_6 (List.mem_of_getElem? (i := 194) rfl) rfl
set_option maxRecDepth 20000 in
theorem w_816 : Cond.lays "LostWoodModel" "LostWoodModel" "knewOften" "I" ∈ wl := tm_6 (List.mem_of_getElem? (i := 196) rfl) rfl
set_option maxRecDepth 20000 in
theorem w_817 : Cond.laysFinal "LostWoodModel" "LostWoodModel" "many" "[I" ∈ wl := tm_6 (List.mem_of_getElem? (i := 198) rfl) rfl
set_option maxRecDepth 20000 in
theorem w_818 : Cond.laysFinal "LostWoodModel" "LostWoodModel" "width" "[I" ∈ wl := tm_6 (List.mem_of_getElem? (i := 200) rfl) rfl
set_option maxRecDepth 20000 in
theorem w_819 : Cond.laysFinal "LostWoodModel" "LostWoodModel" "numbers" "[J" ∈ wl := tm_6 (List.mem_of_getElem? (i := 202) rfl) rfl
set_option maxRecDepth 20000 in
theorem w_820 : Cond.laysFinal "LostWoodModel" "LostWoodModel" "moving" "[J" ∈ wl := tm_6 (List.mem_of_getElem? (i := 204) rfl) rfl
set_option maxRecDepth 20000 in
theorem w_821 : Cond.fieldLink RX12 9 "LostWoodModel" "world" "[I" ∈ wl := tm_6 (List.mem_of_getElem? (i := 48) rfl) rfl
set_option maxRecDepth 20000 in
theorem w_822 : Cond.code yX12_isPlace cX12_isPlace 3 (some .boolean) ∈ wl := tm_7 (List.mem_of_getElem? (i := 100) rfl) rfl
set_option maxRecDepth 20000 in
theorem w_823 : Cond.methodLink RX12 119 yX12_isPlace ∈ wl := tm_7 (List.mem_of_getElem? (i := 97) rfl) rfl
set_option maxRecDepth 20000 in
theorem w_824 : Cond.instanceMethod yX12_isPlace ∈ wl := tm_7 (List.mem_of_getElem? (i := 99) rfl) rfl
set_option maxRecDepth 20000 in
theorem w_825 : Cond.selects RX12 yX12_isPlace yX12_isPlace ∈ wl := tp_4 (q := (yX12_isPlace, 53)) (List.mem_of_getElem? (i := 8) rfl)
set_option maxRecDepth 20000 in
theorem w_826 : Cond.code yX12_isWood cX12_isWood 1 (some .boolean) ∈ wl := tm_7 (List.mem_of_getElem? (i := 128) rfl) rfl
set_option maxRecDepth 20000 in
theorem w_827 : Cond.methodLink RX12 125 yX12_isWood ∈ wl := tm_7 (List.mem_of_getElem? (i := 125) rfl) rfl
set_option maxRecDepth 20000 in
theorem w_828 : Cond.instanceMethod yX12_isWood ∈ wl := tm_7 (List.mem_of_getElem? (i := 127) rfl) rfl
set_option maxRecDepth 20000 in
theorem w_829 : Cond.selects RX12 yX12_isWood yX12_isWood ∈ wl := tp_4 (q := (yX12_isWood, 53)) (List.mem_of_getElem? (i := 12) rfl)
set_option maxRecDepth 20000 in
theorem w_830 : Cond.code yX12_allPlaces cX12_allPlaces 1 (some .int) ∈ wl := tm_7 (List.mem_of_getElem? (i := 132) rfl) rfl
set_option maxRecDepth 20000 in
theorem w_831 : Cond.methodLink RX12 129 yX12_allPlaces ∈ wl := tm_7 (List.mem_of_getElem? (i := 129) rfl) rfl
set_option maxRecDepth 20000 in
theorem w_832 : Cond.instanceMethod yX12_allPlaces ∈ wl := tm_7 (List.mem_of_getElem? (i := 131) rfl) rfl
set_option maxRecDepth 20000 in
theorem w_833 : Cond.selects RX12 yX12_allPlaces yX12_allPlaces ∈ wl := tp_4 (q := (yX12_allPlaces, 53)) (List.mem_of_getElem? (i := 13) rfl)
set_option maxRecDepth 20000 in
theorem w_834 : Cond.fieldLink RX12 27 "LostWoodModel" "faultPlace" "I" ∈ wl := tm_6 (List.mem_of_getElem? (i := 60) rfl) rfl
set_option maxRecDepth 20000 in
theorem w_835 : Cond.fieldLink RX12 170 "LostWoodModel" "faultKind" "I" ∈ wl := tm_6 (List.mem_of_getElem? (i := 59) rfl) rfl
set_option maxRecDepth 20000 in
theorem w_836 : Cond.fieldLink RX12 133 "LostWoodModel" "taped" "I" ∈ wl := tm_6 (List.mem_of_getElem? (i := 52) rfl) rfl
set_option maxRecDepth 20000 in
theorem w_837 : Cond.fieldLink RX12 24 "LostWoodModel" "five" "[I" ∈ wl := tm_6 (List.mem_of_getElem? (i := 53) rfl) rfl
set_option maxRecDepth 20000 in
theorem w_838 : Cond.fieldLink RX12 20 "LostWoodModel" "tape" "[B" ∈ wl := tm_6 (List.mem_of_getElem? (i := 51) rfl) rfl
set_option maxRecDepth 20000 in
theorem w_839 : Cond.fieldLink RX12 136 "LostWoodModel" "size" "I" ∈ wl := tm_6 (List.mem_of_getElem? (i := 54) rfl) rfl
set_option maxRecDepth 20000 in
theorem w_840 : Cond.fieldLink RX12 139 "LostWoodModel" "at" "I" ∈ wl := tm_6 (List.mem_of_getElem? (i := 55) rfl) rfl
set_option maxRecDepth 20000 in
theorem w_841 : Cond.fieldLink RX12 146 "LostWoodModel" "from" "I" ∈ wl := tm_6 (List.mem_of_getElem? (i := 56) rfl) rfl
set_option maxRecDepth 20000 in
theorem w_842 : Cond.fieldLink RX12 149 "LostWoodModel" "token" "I" ∈ wl := tm_6 (List.mem_of_getElem? (i := 57) rfl) rfl
set_option maxRecDepth 20000 in
theorem w_843 : Cond.constantLong RX12 152 (97) ∈ wl := tm_7 (List.mem_of_getElem? (i := 4) rfl) rfl
set_option maxRecDepth 20000 in
theorem w_844 : Cond.constantLong RX12 154 (122) ∈ wl := tm_7 (List.mem_of_getElem? (i := 5) rfl) rfl
set_option maxRecDepth 20000 in
theorem w_845 : Cond.constantLong RX12 156 (48) ∈ wl := tm_7 (List.mem_of_getElem? (i := 6) rfl) rfl
set_option maxRecDepth 20000 in
theorem w_846 : Cond.constantLong RX12 158 (57) ∈ wl := tm_7 (List.mem_of_getElem? (i := 7) rfl) rfl
set_option maxRecDepth 20000 in
theorem w_847 : Cond.fieldLink RX12 160 "LostWoodModel" "value" "I" ∈ wl := tm_6 (List.mem_of_getElem? (i := 58) rfl) rfl
set_option maxRecDepth 20000 in
theorem w_848 : Cond.methodLink RX12 164 Lib.Math.min.name ∈ wl := tm_7 (List.mem_of_getElem? (i := 9) rfl) rfl
set_option maxRecDepth 20000 in
theorem w_849 : Cond.code yX12_see cX12_see 2 (some .int) ∈ wl := tm_7 (List.mem_of_getElem? (i := 3) rfl) rfl
set_option maxRecDepth 20000 in
theorem w_850 : Cond.methodLink RX12 142 yX12_see ∈ wl := tm_7 (List.mem_of_getElem? (i := 0) rfl) rfl
set_option maxRecDepth 20000 in
theorem w_851 : Cond.instanceMethod yX12_see ∈ wl := tm_7 (List.mem_of_getElem? (i := 2) rfl) rfl
set_option maxRecDepth 20000 in
theorem w_852 : Cond.selects RX12 yX12_see yX12_see ∈ wl := tp_3 (q := (yX12_see, 53)) (List.mem_of_getElem? (i := 7) rfl)
set_option maxRecDepth 20000 in
theorem w_853 : Cond.constant RX12 163 (99999) ∈ wl := tm_7 (List.mem_of_getElem? (i := 8) rfl) rfl
set_option maxRecDepth 20000 in
theorem w_854 : Cond.code yX12_good cX12_good 1 (some .boolean) ∈ wl := tm_7 (List.mem_of_getElem? (i := 13) rfl) rfl
set_option maxRecDepth 20000 in
theorem w_855 : Cond.methodLink RX12 173 yX12_good ∈ wl := tm_7 (List.mem_of_getElem? (i := 10) rfl) rfl
set_option maxRecDepth 20000 in
theorem w_856 : Cond.instanceMethod yX12_good ∈ wl := tm_7 (List.mem_of_getElem? (i := 12) rfl) rfl
set_option maxRecDepth 20000 in
theorem w_857 : Cond.selects RX12 yX12_good yX12_good ∈ wl := tp_3 (q := (yX12_good, 53)) (List.mem_of_getElem? (i := 8) rfl)
set_option maxRecDepth 20000 in
theorem in_X12 : ∀ w ∈ wsX120, w ∈ wl := List.forall_mem_cons.mpr ⟨w_768, List.forall_mem_cons.mpr ⟨w_769, List.forall_mem_cons.mpr ⟨w_770, List.forall_mem_cons.mpr ⟨w_771, List.forall_mem_cons.mpr ⟨w_772, List.forall_mem_cons.mpr ⟨w_773, List.forall_mem_cons.mpr ⟨w_774, List.forall_mem_cons.mpr ⟨w_775, List.forall_mem_cons.mpr ⟨w_776, List.forall_mem_cons.mpr ⟨w_777, List.forall_mem_cons.mpr ⟨w_778, List.forall_mem_cons.mpr ⟨w_779, List.forall_mem_cons.mpr ⟨w_780, List.forall_mem_cons.mpr ⟨w_781, List.forall_mem_cons.mpr ⟨w_782, List.forall_mem_cons.mpr ⟨w_783, List.forall_mem_cons.mpr ⟨w_784, List.forall_mem_cons.mpr ⟨w_785, List.forall_mem_cons.mpr ⟨w_786, List.forall_mem_cons.mpr ⟨w_787, List.forall_mem_cons.mpr ⟨w_788, List.forall_mem_cons.mpr ⟨w_789, List.forall_mem_cons.mpr ⟨w_790, List.forall_mem_cons.mpr ⟨w_791, List.forall_mem_cons.mpr ⟨w_792, List.forall_mem_cons.mpr ⟨w_793, List.forall_mem_cons.mpr ⟨w_794, List.forall_mem_cons.mpr ⟨w_795, List.forall_mem_cons.mpr ⟨w_796, List.forall_mem_cons.mpr ⟨w_797, List.forall_mem_cons.mpr ⟨w_798, List.forall_mem_cons.mpr ⟨w_799, List.forall_mem_cons.mpr ⟨w_800, List.forall_mem_cons.mpr ⟨w_801, List.forall_mem_cons.mpr ⟨w_802, List.forall_mem_cons.mpr ⟨w_803, List.forall_mem_cons.mpr ⟨w_804, List.forall_mem_cons.mpr ⟨w_805, List.forall_mem_cons.mpr ⟨w_806, List.forall_mem_cons.mpr ⟨w_807, List.forall_mem_cons.mpr ⟨w_808, List.forall_mem_cons.mpr ⟨w_809, List.forall_mem_cons.mpr ⟨w_810, List.forall_mem_cons.mpr ⟨w_811, List.forall_mem_cons.mpr ⟨w_812, List.forall_mem_cons.mpr ⟨w_813, List.forall_mem_cons.mpr ⟨w_814, List.forall_mem_cons.mpr ⟨w_815, List.forall_mem_cons.mpr ⟨w_816, List.forall_mem_cons.mpr ⟨w_817, List.forall_mem_cons.mpr ⟨w_818, List.forall_mem_cons.mpr ⟨w_819, List.forall_mem_cons.mpr ⟨w_820, fun _ h => absurd h List.not_mem_nil⟩⟩⟩⟩⟩⟩⟩⟩⟩⟩⟩⟩⟩⟩⟩⟩⟩⟩⟩⟩⟩⟩⟩⟩⟩⟩⟩⟩⟩⟩⟩⟩⟩⟩⟩⟩⟩⟩⟩⟩⟩⟩⟩⟩⟩⟩⟩⟩⟩⟩⟩⟩⟩
theorem kd_X12_in : okD yX12_in 3 := by decide +kernel
theorem kd_X12_isPlace : okD yX12_isPlace 1 := by decide +kernel
theorem kd_X12_isWood : okD yX12_isWood 0 := by decide +kernel
theorem kd_X12_allPlaces : okD yX12_allPlaces 0 := by decide +kernel
theorem kd_X12_see : okD yX12_see 1 := by decide +kernel
theorem kd_X12_good : okD yX12_good 0 := by decide +kernel
set_option maxRecDepth 20000 in
theorem kS_X12_115 : okS RX12 115 yX12_in cX12_in 6 (some .boolean) 3 := ⟨⟨w_766, w_764, w_765, kd_X12_in⟩, w_767⟩
set_option maxRecDepth 20000 in
theorem kV_X12_119 : okV RX12 119 yX12_isPlace cX12_isPlace 3 (some .boolean) 1 := ⟨⟨w_823, w_822, w_765, kd_X12_isPlace⟩, w_824, w_825⟩
set_option maxRecDepth 20000 in
theorem kV_X12_125 : okV RX12 125 yX12_isWood cX12_isWood 1 (some .boolean) 0 := ⟨⟨w_827, w_826, w_765, kd_X12_isWood⟩, w_828, w_829⟩
set_option maxRecDepth 20000 in
theorem kV_X12_129 : okV RX12 129 yX12_allPlaces cX12_allPlaces 1 (some .int) 0 := ⟨⟨w_831, w_830, w_765, kd_X12_allPlaces⟩, w_832, w_833⟩
set_option maxRecDepth 20000 in
theorem kV_X12_142 : okV RX12 142 yX12_see cX12_see 2 (some .int) 1 := ⟨⟨w_850, w_849, w_765, kd_X12_see⟩, w_851, w_852⟩
set_option maxRecDepth 20000 in
theorem kV_X12_173 : okV RX12 173 yX12_good cX12_good 1 (some .boolean) 0 := ⟨⟨w_855, w_854, w_765, kd_X12_good⟩, w_856, w_857⟩
