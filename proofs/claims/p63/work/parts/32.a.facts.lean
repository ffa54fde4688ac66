set_option maxRecDepth 20000 in
theorem w_582 : Cond.fieldLink RX11 12 "LostWood" "reader" "LLostWood$Reader;" ∈ wl := tm_2 (List.mem_of_getElem? (i := 111) rfl) rfl
set_option maxRecDepth 20000 in
theorem w_583 : Cond.fieldLink RX11 95 "LostWood$Reader" "length" "I" ∈ wl := tm_1 (List.mem_of_getElem? (i := 100) rfl) rfl
set_option maxRecDepth 20000 in
theorem w_584 : Cond.code yX4_hasRoom cX4_hasRoom 2 (some .boolean) ∈ wl := tm_2 (List.mem_of_getElem? (i := 155) rfl) rfl
set_option maxRecDepth 20000 in
theorem w_585 : Cond.methodLink RX11 87 yX4_hasRoom ∈ wl := tm_2 (List.mem_of_getElem? (i := 152) rfl) rfl
set_option maxRecDepth 20000 in
theorem w_586 : Cond.instanceMethod yX4_hasRoom ∈ wl := tm_2 (List.mem_of_getElem? (i := 153) rfl) rfl
set_option maxRecDepth 20000 in
theorem w_587 : Cond.selects RX4 yX4_hasRoom yX4_hasRoom ∈ wl := tm_2 (List.mem_of_getElem? (i := 154) rfl) rfl
set_option maxRecDepth 20000 in
theorem w_588 : Cond.code yX4_append cX4_append 3 none ∈ wl := tm_2 (List.mem_of_getElem? (i := 159) rfl) rfl
set_option maxRecDepth 20000 in
theorem w_589 : Cond.methodLink RX11 91 yX4_append ∈ wl := tm_2 (List.mem_of_getElem? (i := 156) rfl) rfl
set_option maxRecDepth 20000 in
theorem w_590 : Cond.instanceMethod yX4_append ∈ wl := tm_2 (List.mem_of_getElem? (i := 157) rfl) rfl
set_option maxRecDepth 20000 in
theorem w_591 : Cond.selects RX4 yX4_append yX4_append ∈ wl := tm_2 (List.mem_of_getElem? (i := 158) rfl) rfl
set_option maxRecDepth 20000 in
theorem w_592 : Cond.fieldLink RX11 103 "LostWood$Reader" "draft" "LLostWood$Wood;" ∈ wl := tm_1 (List.mem_of_getElem? (i := 106) rfl) rfl
set_option maxRecDepth 20000 in
theorem w_593 : Cond.fieldLink RX11 61 "LostWood" "plans" "LLostWood$Plans;" ∈ wl := tm_2 (List.mem_of_getElem? (i := 118) rfl) rfl
set_option maxRecDepth 20000 in
theorem w_594 : Cond.fieldLink RX11 113 "LostWood$Plans" "ready" "Z" ∈ wl := tm_2 (List.mem_of_getElem? (i := 49) rfl) rfl
set_option maxRecDepth 20000 in
theorem w_595 : Cond.fieldLink RX11 117 "LostWood$Wood" "lines" "I" ∈ wl := tm_1 (List.mem_of_getElem? (i := 69) rfl) rfl
set_option maxRecDepth 20000 in
theorem w_596 : Cond.code yX4_parse cX4_parse 2 (some .boolean) ∈ wl := tm_2 (List.mem_of_getElem? (i := 171) rfl) rfl
set_option maxRecDepth 20000 in
theorem w_597 : Cond.methodLink RX11 99 yX4_parse ∈ wl := tm_2 (List.mem_of_getElem? (i := 168) rfl) rfl
set_option maxRecDepth 20000 in
theorem w_598 : Cond.instanceMethod yX4_parse ∈ wl := tm_2 (List.mem_of_getElem? (i := 169) rfl) rfl
set_option maxRecDepth 20000 in
theorem w_599 : Cond.selects RX4 yX4_parse yX4_parse ∈ wl := tm_2 (List.mem_of_getElem? (i := 170) rfl) rfl
set_option maxRecDepth 20000 in
theorem w_600 : Cond.methodLink RX11 106 yX10_copyFrom ∈ wl := tm_3 (List.mem_of_getElem? (i := 89) rfl) rfl
set_option maxRecDepth 20000 in
theorem w_601 : Cond.code yX2_assemble cX2_assemble 3 none ∈ wl := tm_3 (List.mem_of_getElem? (i := 99) rfl) rfl
set_option maxRecDepth 20000 in
theorem w_602 : Cond.initialized RX2 ∈ wl := tm_1 (List.mem_of_getElem? (i := 4) rfl) rfl
set_option maxRecDepth 20000 in
theorem w_603 : Cond.methodLink RX11 110 yX2_assemble ∈ wl := tm_3 (List.mem_of_getElem? (i := 96) rfl) rfl
set_option maxRecDepth 20000 in
theorem w_604 : Cond.instanceMethod yX2_assemble ∈ wl := tm_3 (List.mem_of_getElem? (i := 97) rfl) rfl
set_option maxRecDepth 20000 in
theorem w_605 : Cond.selects RX2 yX2_assemble yX2_assemble ∈ wl := tm_3 (List.mem_of_getElem? (i := 98) rfl) rfl
set_option maxRecDepth 20000 in
theorem w_606 : Cond.fieldLink RX11 123 "LostWood$Reader" "faultPlace" "I" ∈ wl := tm_1 (List.mem_of_getElem? (i := 104) rfl) rfl
set_option maxRecDepth 20000 in
theorem w_607 : Cond.fieldLink RX11 120 "LostWood$Reader" "faultKind" "I" ∈ wl := tm_1 (List.mem_of_getElem? (i := 102) rfl) rfl
set_option maxRecDepth 20000 in
theorem w_608 : Cond.methodLink RX11 129 yX11_isWind ∈ wl := tm_3 (List.mem_of_getElem? (i := 109) rfl) rfl
set_option maxRecDepth 20000 in
theorem w_609 : Cond.methodLink RX11 132 yX10_after ∈ wl := tm_3 (List.mem_of_getElem? (i := 110) rfl) rfl
set_option maxRecDepth 20000 in
theorem w_610 : Cond.methodLink RX11 136 yX10_sign ∈ wl := tm_3 (List.mem_of_getElem? (i := 118) rfl) rfl
set_option maxRecDepth 20000 in
theorem w_611 : Cond.code yX10_hasSet cX10_hasSet 2 (some .boolean) ∈ wl := tm_3 (List.mem_of_getElem? (i := 129) rfl) rfl
set_option maxRecDepth 20000 in
theorem w_612 : Cond.methodLink RX11 140 yX10_hasSet ∈ wl := tm_3 (List.mem_of_getElem? (i := 126) rfl) rfl
set_option maxRecDepth 20000 in
theorem w_613 : Cond.instanceMethod yX10_hasSet ∈ wl := tm_3 (List.mem_of_getElem? (i := 127) rfl) rfl
set_option maxRecDepth 20000 in
theorem w_614 : Cond.selects RX10 yX10_hasSet yX10_hasSet ∈ wl := tm_3 (List.mem_of_getElem? (i := 128) rfl) rfl
set_option maxRecDepth 20000 in
theorem w_615 : Cond.code yX11_isMark cX11_isMark 1 (some .boolean) ∈ wl := tm_3 (List.mem_of_getElem? (i := 144) rfl) rfl
set_option maxRecDepth 20000 in
theorem w_616 : Cond.methodLink RX11 146 yX11_isMark ∈ wl := tm_3 (List.mem_of_getElem? (i := 142) rfl) rfl
set_option maxRecDepth 20000 in
theorem w_617 : Cond.static yX11_isMark ∈ wl := tm_3 (List.mem_of_getElem? (i := 143) rfl) rfl
set_option maxRecDepth 20000 in
theorem w_618 : Cond.methodLink RX11 164 yX9_doubt ∈ wl := tm_3 (List.mem_of_getElem? (i := 173) rfl) rfl
set_option maxRecDepth 20000 in
theorem w_619 : Cond.fieldLink RX11 174 "LostWood$Party" "steps" "I" ∈ wl := tm_1 (List.mem_of_getElem? (i := 149) rfl) rfl
set_option maxRecDepth 20000 in
theorem w_620 : Cond.code yX2_keepStep cX2_keepStep 3 none ∈ wl := tm_3 (List.mem_of_getElem? (i := 207) rfl) rfl
set_option maxRecDepth 20000 in
theorem w_621 : Cond.methodLink RX11 181 yX2_keepStep ∈ wl := tm_3 (List.mem_of_getElem? (i := 204) rfl) rfl
set_option maxRecDepth 20000 in
theorem w_622 : Cond.instanceMethod yX2_keepStep ∈ wl := tm_3 (List.mem_of_getElem? (i := 205) rfl) rfl
set_option maxRecDepth 20000 in
theorem w_623 : Cond.selects RX2 yX2_keepStep yX2_keepStep ∈ wl := tm_3 (List.mem_of_getElem? (i := 206) rfl) rfl
set_option maxRecDepth 20000 in
theorem w_624 : Cond.code yX2_takeBack cX2_takeBack 2 (some .boolean) ∈ wl := tm_3 (List.mem_of_getElem? (i := 227) rfl) rfl
set_option maxRecDepth 20000 in
theorem w_625 : Cond.methodLink RX11 188 yX2_takeBack ∈ wl := tm_3 (List.mem_of_getElem? (i := 224) rfl) rfl
set_option maxRecDepth 20000 in
theorem w_626 : Cond.instanceMethod yX2_takeBack ∈ wl := tm_3 (List.mem_of_getElem? (i := 225) rfl) rfl
set_option maxRecDepth 20000 in
theorem w_627 : Cond.selects RX2 yX2_takeBack yX2_takeBack ∈ wl := tm_3 (List.mem_of_getElem? (i := 226) rfl) rfl
set_option maxRecDepth 20000 in
theorem w_628 : Cond.code yX11_refuseWalk cX11_refuseWalk 4 (some .int) ∈ wl := tm_3 (List.mem_of_getElem? (i := 239) rfl) rfl
set_option maxRecDepth 20000 in
theorem w_629 : Cond.methodLink RX11 191 yX11_refuseWalk ∈ wl := tm_3 (List.mem_of_getElem? (i := 236) rfl) rfl
set_option maxRecDepth 20000 in
theorem w_630 : Cond.instanceMethod yX11_refuseWalk ∈ wl := tm_3 (List.mem_of_getElem? (i := 238) rfl) rfl
set_option maxRecDepth 20000 in
theorem w_631 : Cond.selects RX11 yX11_refuseWalk yX11_refuseWalk ∈ wl := tp_2 (q := (yX11_refuseWalk, 12)) (List.mem_of_getElem? (i := 0) rfl)
set_option maxRecDepth 20000 in
theorem w_632 : Cond.code yX11_walkRow cX11_walkRow 3 none ∈ wl := tm_4 (List.mem_of_getElem? (i := 21) rfl) rfl
set_option maxRecDepth 20000 in
theorem w_633 : Cond.methodLink RX11 194 yX11_walkRow ∈ wl := tm_4 (List.mem_of_getElem? (i := 18) rfl) rfl
set_option maxRecDepth 20000 in
theorem w_634 : Cond.instanceMethod yX11_walkRow ∈ wl := tm_4 (List.mem_of_getElem? (i := 20) rfl) rfl
set_option maxRecDepth 20000 in
theorem w_635 : Cond.selects RX11 yX11_walkRow yX11_walkRow ∈ wl := tp_2 (q := (yX11_walkRow, 12)) (List.mem_of_getElem? (i := 1) rfl)
set_option maxRecDepth 20000 in
theorem w_636 : Cond.code yX11_stepsUntil cX11_stepsUntil 5 (some .int) ∈ wl := tm_4 (List.mem_of_getElem? (i := 37) rfl) rfl
set_option maxRecDepth 20000 in
theorem w_637 : Cond.methodLink RX11 197 yX11_stepsUntil ∈ wl := tm_4 (List.mem_of_getElem? (i := 34) rfl) rfl
set_option maxRecDepth 20000 in
theorem w_638 : Cond.instanceMethod yX11_stepsUntil ∈ wl := tm_4 (List.mem_of_getElem? (i := 36) rfl) rfl
set_option maxRecDepth 20000 in
theorem w_639 : Cond.selects RX11 yX11_stepsUntil yX11_stepsUntil ∈ wl := tp_2 (q := (yX11_stepsUntil, 12)) (List.mem_of_getElem? (i := 2) rfl)
set_option maxRecDepth 20000 in
theorem w_640 : Cond.code yX11_seek cX11_seek 4 (some .boolean) ∈ wl := tm_4 (List.mem_of_getElem? (i := 55) rfl) rfl
set_option maxRecDepth 20000 in
theorem w_641 : Cond.methodLink RX11 212 yX11_seek ∈ wl := tm_4 (List.mem_of_getElem? (i := 52) rfl) rfl
set_option maxRecDepth 20000 in
theorem w_642 : Cond.instanceMethod yX11_seek ∈ wl := tm_4 (List.mem_of_getElem? (i := 54) rfl) rfl
set_option maxRecDepth 20000 in
theorem w_643 : Cond.selects RX11 yX11_seek yX11_seek ∈ wl := tp_2 (q := (yX11_seek, 12)) (List.mem_of_getElem? (i := 3) rfl)
set_option maxRecDepth 20000 in
theorem w_644 : Cond.methodLink RX11 216 ⟨"LostWood$Minds", "goalLength", "()I"⟩ ∈ wl := tm_4 (List.mem_of_getElem? (i := 99) rfl) rfl
set_option maxRecDepth 20000 in
theorem w_645 : Cond.sameMethod "LostWood$Minds" "LostWood$Search" "goalLength" "()I" ∈ wl := tm_4 (List.mem_of_getElem? (i := 100) rfl) rfl
set_option maxRecDepth 20000 in
theorem w_646 : Cond.selects RX1 ⟨"LostWood$Minds", "goalLength", "()I"⟩ yX6_goalLength ∈ wl := tm_4 (List.mem_of_getElem? (i := 102) rfl) rfl
set_option maxRecDepth 20000 in
theorem w_647 : Cond.methodLink RX11 219 ⟨"LostWood$Minds", "goalWind", "(I)I"⟩ ∈ wl := tm_4 (List.mem_of_getElem? (i := 115) rfl) rfl
set_option maxRecDepth 20000 in
theorem w_648 : Cond.sameMethod "LostWood$Minds" "LostWood$Search" "goalWind" "(I)I" ∈ wl := tm_4 (List.mem_of_getElem? (i := 116) rfl) rfl
set_option maxRecDepth 20000 in
theorem w_649 : Cond.instanceMethod yX6_goalWind ∈ wl := tm_4 (List.mem_of_getElem? (i := 119) rfl) rfl
set_option maxRecDepth 20000 in
theorem w_650 : Cond.code yX6_goalWind cX6_goalWind 5 (some .int) ∈ wl := tm_4 (List.mem_of_getElem? (i := 120) rfl) rfl
set_option maxRecDepth 20000 in
theorem w_651 : Cond.selects RX1 ⟨"LostWood$Minds", "goalWind", "(I)I"⟩ yX6_goalWind ∈ wl := tm_4 (List.mem_of_getElem? (i := 118) rfl) rfl
set_option maxRecDepth 20000 in
theorem w_652 : Cond.fieldLink RX11 222 "LostWood$Minds" "size" "I" ∈ wl := tm_1 (List.mem_of_getElem? (i := 236) rfl) rfl
set_option maxRecDepth 20000 in
theorem w_653 : Cond.sameField "LostWood$Minds" "LostWood$Search" "size" "I" ∈ wl := tm_1 (List.mem_of_getElem? (i := 237) rfl) rfl
set_option maxRecDepth 20000 in
theorem w_654 : Cond.code yX3_prepare cX3_prepare 4 none ∈ wl := tm_4 (List.mem_of_getElem? (i := 149) rfl) rfl
set_option maxRecDepth 20000 in
theorem w_655 : Cond.methodLink RX11 224 yX3_prepare ∈ wl := tm_4 (List.mem_of_getElem? (i := 146) rfl) rfl
set_option maxRecDepth 20000 in
theorem w_656 : Cond.instanceMethod yX3_prepare ∈ wl := tm_4 (List.mem_of_getElem? (i := 147) rfl) rfl
set_option maxRecDepth 20000 in
theorem w_657 : Cond.selects RX3 yX3_prepare yX3_prepare ∈ wl := tm_4 (List.mem_of_getElem? (i := 148) rfl) rfl
set_option maxRecDepth 20000 in
theorem w_658 : Cond.methodLink RX11 227 yX3_deepest ∈ wl := tm_4 (List.mem_of_getElem? (i := 180) rfl) rfl
set_option maxRecDepth 20000 in
theorem w_659 : Cond.code yX3_leastWind cX3_leastWind 2 (some .int) ∈ wl := tm_4 (List.mem_of_getElem? (i := 188) rfl) rfl
set_option maxRecDepth 20000 in
theorem w_660 : Cond.methodLink RX11 230 yX3_leastWind ∈ wl := tm_4 (List.mem_of_getElem? (i := 185) rfl) rfl
set_option maxRecDepth 20000 in
theorem w_661 : Cond.instanceMethod yX3_leastWind ∈ wl := tm_4 (List.mem_of_getElem? (i := 186) rfl) rfl
set_option maxRecDepth 20000 in
theorem w_662 : Cond.selects RX3 yX3_leastWind yX3_leastWind ∈ wl := tm_4 (List.mem_of_getElem? (i := 187) rfl) rfl
set_option maxRecDepth 20000 in
theorem w_663 : Cond.fieldLink RX11 233 "LostWood$Wood" "places" "I" ∈ wl := tm_1 (List.mem_of_getElem? (i := 60) rfl) rfl
set_option maxRecDepth 20000 in
theorem w_664 : Cond.code yX11_arePlaces cX11_arePlaces 3 (some .boolean) ∈ wl := tm_4 (List.mem_of_getElem? (i := 200) rfl) rfl
set_option maxRecDepth 20000 in
theorem w_665 : Cond.methodLink RX11 236 yX11_arePlaces ∈ wl := tm_4 (List.mem_of_getElem? (i := 197) rfl) rfl
set_option maxRecDepth 20000 in
theorem w_666 : Cond.instanceMethod yX11_arePlaces ∈ wl := tm_4 (List.mem_of_getElem? (i := 199) rfl) rfl
set_option maxRecDepth 20000 in
theorem w_667 : Cond.selects RX11 yX11_arePlaces yX11_arePlaces ∈ wl := tp_2 (q := (yX11_arePlaces, 12)) (List.mem_of_getElem? (i := 7) rfl)
set_option maxRecDepth 20000 in
theorem w_668 : Cond.code yX11_lookSame cX11_lookSame 3 (some .boolean) ∈ wl := tm_4 (List.mem_of_getElem? (i := 204) rfl) rfl
set_option maxRecDepth 20000 in
theorem w_669 : Cond.methodLink RX11 240 yX11_lookSame ∈ wl := tm_4 (List.mem_of_getElem? (i := 201) rfl) rfl
set_option maxRecDepth 20000 in
theorem w_670 : Cond.instanceMethod yX11_lookSame ∈ wl := tm_4 (List.mem_of_getElem? (i := 203) rfl) rfl
set_option maxRecDepth 20000 in
theorem w_671 : Cond.selects RX11 yX11_lookSame yX11_lookSame ∈ wl := tp_2 (q := (yX11_lookSame, 12)) (List.mem_of_getElem? (i := 8) rfl)
set_option maxRecDepth 20000 in
theorem w_672 : Cond.methodLink RX11 246 ⟨"LostWood$Sets", "goalLength", "()I"⟩ ∈ wl := tm_4 (List.mem_of_getElem? (i := 220) rfl) rfl
set_option maxRecDepth 20000 in
theorem w_673 : Cond.methodLink RX11 247 ⟨"LostWood$Sets", "goalWind", "(I)I"⟩ ∈ wl := tm_4 (List.mem_of_getElem? (i := 227) rfl) rfl
set_option maxRecDepth 20000 in
theorem w_674 : Cond.sameMethod "LostWood$Sets" "LostWood$Search" "goalWind" "(I)I" ∈ wl := tm_4 (List.mem_of_getElem? (i := 228) rfl) rfl
set_option maxRecDepth 20000 in
theorem w_675 : Cond.selects RX7 ⟨"LostWood$Sets", "goalWind", "(I)I"⟩ yX6_goalWind ∈ wl := tm_4 (List.mem_of_getElem? (i := 229) rfl) rfl
set_option maxRecDepth 20000 in
theorem w_676 : Cond.code yX11_leastBare cX11_leastBare 7 (some .int) ∈ wl := tm_4 (List.mem_of_getElem? (i := 237) rfl) rfl
set_option maxRecDepth 20000 in
theorem w_677 : Cond.methodLink RX11 248 yX11_leastBare ∈ wl := tm_4 (List.mem_of_getElem? (i := 234) rfl) rfl
set_option maxRecDepth 20000 in
theorem w_678 : Cond.instanceMethod yX11_leastBare ∈ wl := tm_4 (List.mem_of_getElem? (i := 236) rfl) rfl
set_option maxRecDepth 20000 in
theorem w_679 : Cond.selects RX11 yX11_leastBare yX11_leastBare ∈ wl := tp_2 (q := (yX11_leastBare, 12)) (List.mem_of_getElem? (i := 9) rfl)
set_option maxRecDepth 20000 in
theorem w_680 : Cond.code yX7_leastGathered cX7_leastGathered 6 (some .int) ∈ wl := tm_5 (List.mem_of_getElem? (i := 27) rfl) rfl
set_option maxRecDepth 20000 in
theorem w_681 : Cond.methodLink RX11 256 yX7_leastGathered ∈ wl := tm_5 (List.mem_of_getElem? (i := 24) rfl) rfl
set_option maxRecDepth 20000 in
theorem w_682 : Cond.instanceMethod yX7_leastGathered ∈ wl := tm_5 (List.mem_of_getElem? (i := 25) rfl) rfl
set_option maxRecDepth 20000 in
theorem w_683 : Cond.selects RX7 yX7_leastGathered yX7_leastGathered ∈ wl := tm_5 (List.mem_of_getElem? (i := 26) rfl) rfl
set_option maxRecDepth 20000 in
theorem w_684 : Cond.code yX11_stepsToMeet cX11_stepsToMeet 6 (some .int) ∈ wl := tm_5 (List.mem_of_getElem? (i := 43) rfl) rfl
set_option maxRecDepth 20000 in
theorem w_685 : Cond.methodLink RX11 260 yX11_stepsToMeet ∈ wl := tm_5 (List.mem_of_getElem? (i := 40) rfl) rfl
set_option maxRecDepth 20000 in
theorem w_686 : Cond.instanceMethod yX11_stepsToMeet ∈ wl := tm_5 (List.mem_of_getElem? (i := 42) rfl) rfl
set_option maxRecDepth 20000 in
theorem w_687 : Cond.selects RX11 yX11_stepsToMeet yX11_stepsToMeet ∈ wl := tp_2 (q := (yX11_stepsToMeet, 12)) (List.mem_of_getElem? (i := 10) rfl)
set_option maxRecDepth 20000 in
theorem w_688 : Cond.code yX11_reach cX11_reach 5 (some .int) ∈ wl := tm_5 (List.mem_of_getElem? (i := 56) rfl) rfl
set_option maxRecDepth 20000 in
theorem w_689 : Cond.methodLink RX11 263 yX11_reach ∈ wl := tm_5 (List.mem_of_getElem? (i := 53) rfl) rfl
set_option maxRecDepth 20000 in
theorem w_690 : Cond.instanceMethod yX11_reach ∈ wl := tm_5 (List.mem_of_getElem? (i := 55) rfl) rfl
set_option maxRecDepth 20000 in
theorem w_691 : Cond.selects RX11 yX11_reach yX11_reach ∈ wl := tp_2 (q := (yX11_reach, 12)) (List.mem_of_getElem? (i := 11) rfl)
set_option maxRecDepth 20000 in
theorem w_692 : Cond.methodLink RX11 266 yX11_lowest ∈ wl := tm_5 (List.mem_of_getElem? (i := 57) rfl) rfl
set_option maxRecDepth 20000 in
theorem w_693 : Cond.code yX11_refuseReading cX11_refuseReading 3 (some .int) ∈ wl := tm_5 (List.mem_of_getElem? (i := 65) rfl) rfl
set_option maxRecDepth 20000 in
theorem w_694 : Cond.methodLink RX11 269 yX11_refuseReading ∈ wl := tm_5 (List.mem_of_getElem? (i := 62) rfl) rfl
set_option maxRecDepth 20000 in
theorem w_695 : Cond.instanceMethod yX11_refuseReading ∈ wl := tm_5 (List.mem_of_getElem? (i := 64) rfl) rfl
set_option maxRecDepth 20000 in
theorem w_696 : Cond.selects RX11 yX11_refuseReading yX11_refuseReading ∈ wl := tp_2 (q := (yX11_refuseReading, 12)) (List.mem_of_getElem? (i := 12) rfl)
set_option maxRecDepth 20000 in
theorem w_697 : Cond.methodLink RX11 272 yX10_all ∈ wl := tm_5 (List.mem_of_getElem? (i := 66) rfl) rfl
set_option maxRecDepth 20000 in
theorem w_698 : Cond.code yX11_fitting cX11_fitting 7 (some .int) ∈ wl := tm_5 (List.mem_of_getElem? (i := 70) rfl) rfl
set_option maxRecDepth 20000 in
theorem w_699 : Cond.methodLink RX11 275 yX11_fitting ∈ wl := tm_5 (List.mem_of_getElem? (i := 67) rfl) rfl
set_option maxRecDepth 20000 in
theorem w_700 : Cond.instanceMethod yX11_fitting ∈ wl := tm_5 (List.mem_of_getElem? (i := 69) rfl) rfl
set_option maxRecDepth 20000 in
theorem w_701 : Cond.selects RX11 yX11_fitting yX11_fitting ∈ wl := tp_2 (q := (yX11_fitting, 12)) (List.mem_of_getElem? (i := 13) rfl)
set_option maxRecDepth 20000 in
theorem w_702 : Cond.code yX11_bestWind cX11_bestWind 4 (some .int) ∈ wl := tm_5 (List.mem_of_getElem? (i := 82) rfl) rfl
set_option maxRecDepth 20000 in
theorem w_703 : Cond.methodLink RX11 278 yX11_bestWind ∈ wl := tm_5 (List.mem_of_getElem? (i := 79) rfl) rfl
set_option maxRecDepth 20000 in
theorem w_704 : Cond.instanceMethod yX11_bestWind ∈ wl := tm_5 (List.mem_of_getElem? (i := 81) rfl) rfl
set_option maxRecDepth 20000 in
theorem w_705 : Cond.selects RX11 yX11_bestWind yX11_bestWind ∈ wl := tp_2 (q := (yX11_bestWind, 12)) (List.mem_of_getElem? (i := 14) rfl)
set_option maxRecDepth 20000 in
theorem w_706 : Cond.fieldLink RX11 68 "LostWood" "courses" "LLostWood$Courses;" ∈ wl := tm_2 (List.mem_of_getElem? (i := 119) rfl) rfl
set_option maxRecDepth 20000 in
theorem w_707 : Cond.fieldLink RX11 288 "LostWood$Courses" "greatest" "I" ∈ wl := tm_2 (List.mem_of_getElem? (i := 77) rfl) rfl
set_option maxRecDepth 20000 in
theorem w_708 : Cond.code yX0_tryAll cX0_tryAll 9 none ∈ wl := tm_5 (List.mem_of_getElem? (i := 98) rfl) rfl
set_option maxRecDepth 20000 in
theorem w_709 : Cond.methodLink RX11 284 yX0_tryAll ∈ wl := tm_5 (List.mem_of_getElem? (i := 95) rfl) rfl
set_option maxRecDepth 20000 in
theorem w_710 : Cond.instanceMethod yX0_tryAll ∈ wl := tm_5 (List.mem_of_getElem? (i := 96) rfl) rfl
set_option maxRecDepth 20000 in
theorem w_711 : Cond.selects RX0 yX0_tryAll yX0_tryAll ∈ wl := tm_5 (List.mem_of_getElem? (i := 97) rfl) rfl
set_option maxRecDepth 20000 in
theorem w_712 : Cond.fieldLink RX11 291 "LostWood$Wood" "lessons" "I" ∈ wl := tm_1 (List.mem_of_getElem? (i := 67) rfl) rfl
set_option maxRecDepth 20000 in
theorem w_713 : Cond.fieldLink RX11 294 "LostWood$Courses" "worst" "[I" ∈ wl := tm_2 (List.mem_of_getElem? (i := 75) rfl) rfl
set_option maxRecDepth 20000 in
theorem w_714 : Cond.fieldLink RX11 298 "LostWood$Courses" "least" "I" ∈ wl := tm_2 (List.mem_of_getElem? (i := 79) rfl) rfl
set_option maxRecDepth 20000 in
theorem w_715 : Cond.fieldLink RX11 75 "LostWood" "travel" "LLostWood$Travel;" ∈ wl := tm_2 (List.mem_of_getElem? (i := 120) rfl) rfl
set_option maxRecDepth 20000 in
theorem w_716 : Cond.code yX8_cheapest cX8_cheapest 7 (some .int) ∈ wl := tm_5 (List.mem_of_getElem? (i := 140) rfl) rfl
set_option maxRecDepth 20000 in
theorem w_717 : Cond.methodLink RX11 301 yX8_cheapest ∈ wl := tm_5 (List.mem_of_getElem? (i := 137) rfl) rfl
set_option maxRecDepth 20000 in
theorem w_718 : Cond.instanceMethod yX8_cheapest ∈ wl := tm_5 (List.mem_of_getElem? (i := 138) rfl) rfl
set_option maxRecDepth 20000 in
theorem w_719 : Cond.selects RX8 yX8_cheapest yX8_cheapest ∈ wl := tm_5 (List.mem_of_getElem? (i := 139) rfl) rfl
set_option maxRecDepth 20000 in
theorem w_720 : Cond.code yX11_isFogLength cX11_isFogLength 1 (some .boolean) ∈ wl := tm_5 (List.mem_of_getElem? (i := 165) rfl) rfl
set_option maxRecDepth 20000 in
theorem w_721 : Cond.methodLink RX11 305 yX11_isFogLength ∈ wl := tm_5 (List.mem_of_getElem? (i := 163) rfl) rfl
set_option maxRecDepth 20000 in
theorem w_722 : Cond.static yX11_isFogLength ∈ wl := tm_5 (List.mem_of_getElem? (i := 164) rfl) rfl
set_option maxRecDepth 20000 in
theorem w_723 : Cond.code yX8_drift cX8_drift 8 none ∈ wl := tm_5 (List.mem_of_getElem? (i := 169) rfl) rfl
set_option maxRecDepth 20000 in
theorem w_724 : Cond.methodLink RX11 308 yX8_drift ∈ wl := tm_5 (List.mem_of_getElem? (i := 166) rfl) rfl
set_option maxRecDepth 20000 in
theorem w_725 : Cond.instanceMethod yX8_drift ∈ wl := tm_5 (List.mem_of_getElem? (i := 167) rfl) rfl
set_option maxRecDepth 20000 in
theorem w_726 : Cond.selects RX8 yX8_drift yX8_drift ∈ wl := tm_5 (List.mem_of_getElem? (i := 168) rfl) rfl
set_option maxRecDepth 20000 in
theorem w_727 : Cond.code yX8_chance cX8_chance 2 (some .int) ∈ wl := tm_5 (List.mem_of_getElem? (i := 174) rfl) rfl
set_option maxRecDepth 20000 in
theorem w_728 : Cond.methodLink RX11 311 yX8_chance ∈ wl := tm_5 (List.mem_of_getElem? (i := 171) rfl) rfl
set_option maxRecDepth 20000 in
theorem w_729 : Cond.instanceMethod yX8_chance ∈ wl := tm_5 (List.mem_of_getElem? (i := 172) rfl) rfl
set_option maxRecDepth 20000 in
theorem w_730 : Cond.selects RX8 yX8_chance yX8_chance ∈ wl := tm_5 (List.mem_of_getElem? (i := 173) rfl) rfl
set_option maxRecDepth 20000 in
theorem w_731 : Cond.methodLink RX11 320 yX10_setWay ∈ wl := tm_5 (List.mem_of_getElem? (i := 187) rfl) rfl
set_option maxRecDepth 20000 in
theorem w_732 : Cond.methodLink RX11 324 yX10_setSign ∈ wl := tm_5 (List.mem_of_getElem? (i := 192) rfl) rfl
set_option maxRecDepth 20000 in
theorem w_733 : Cond.code yX11_isDraw cX11_isDraw 2 (some .boolean) ∈ wl := tm_5 (List.mem_of_getElem? (i := 199) rfl) rfl
set_option maxRecDepth 20000 in
theorem w_734 : Cond.methodLink RX11 328 yX11_isDraw ∈ wl := tm_5 (List.mem_of_getElem? (i := 197) rfl) rfl
set_option maxRecDepth 20000 in
theorem w_735 : Cond.static yX11_isDraw ∈ wl := tm_5 (List.mem_of_getElem? (i := 198) rfl) rfl
set_option maxRecDepth 20000 in
theorem w_736 : Cond.code yX11_drawWalk cX11_drawWalk 7 (some .int) ∈ wl := tm_5 (List.mem_of_getElem? (i := 204) rfl) rfl
set_option maxRecDepth 20000 in
theorem w_737 : Cond.methodLink RX11 331 yX11_drawWalk ∈ wl := tm_5 (List.mem_of_getElem? (i := 201) rfl) rfl
set_option maxRecDepth 20000 in
theorem w_738 : Cond.instanceMethod yX11_drawWalk ∈ wl := tm_5 (List.mem_of_getElem? (i := 203) rfl) rfl
set_option maxRecDepth 20000 in
theorem w_739 : Cond.selects RX11 yX11_drawWalk yX11_drawWalk ∈ wl := tp_3 (q := (yX11_drawWalk, 12)) (List.mem_of_getElem? (i := 5) rfl)
set_option maxRecDepth 20000 in
theorem w_740 : Cond.code yX10_waysElsewhere cX10_waysElsewhere 4 (some .int) ∈ wl := tm_5 (List.mem_of_getElem? (i := 219) rfl) rfl
set_option maxRecDepth 20000 in
theorem w_741 : Cond.methodLink RX11 337 yX10_waysElsewhere ∈ wl := tm_5 (List.mem_of_getElem? (i := 216) rfl) rfl
set_option maxRecDepth 20000 in
theorem w_742 : Cond.instanceMethod yX10_waysElsewhere ∈ wl := tm_5 (List.mem_of_getElem? (i := 217) rfl) rfl
set_option maxRecDepth 20000 in
theorem w_743 : Cond.selects RX10 yX10_waysElsewhere yX10_waysElsewhere ∈ wl := tm_5 (List.mem_of_getElem? (i := 218) rfl) rfl
set_option maxRecDepth 20000 in
theorem w_744 : Cond.fieldLink RX11 343 "LostWood$Wood" "pupils" "I" ∈ wl := tm_1 (List.mem_of_getElem? (i := 63) rfl) rfl
set_option maxRecDepth 20000 in
theorem w_745 : Cond.code yX5_kept cX5_kept 3 (some .int) ∈ wl := tm_5 (List.mem_of_getElem? (i := 224) rfl) rfl
set_option maxRecDepth 20000 in
theorem w_746 : Cond.methodLink RX11 346 yX5_kept ∈ wl := tm_5 (List.mem_of_getElem? (i := 221) rfl) rfl
set_option maxRecDepth 20000 in
theorem w_747 : Cond.instanceMethod yX5_kept ∈ wl := tm_5 (List.mem_of_getElem? (i := 222) rfl) rfl
set_option maxRecDepth 20000 in
theorem w_748 : Cond.selects RX5 yX5_kept yX5_kept ∈ wl := tm_5 (List.mem_of_getElem? (i := 223) rfl) rfl
set_option maxRecDepth 20000 in
theorem w_749 : Cond.code yX5_make cX5_make 5 none ∈ wl := tm_6 (List.mem_of_getElem? (i := 5) rfl) rfl
set_option maxRecDepth 20000 in
theorem w_750 : Cond.methodLink RX11 355 yX5_make ∈ wl := tm_6 (List.mem_of_getElem? (i := 2) rfl) rfl
set_option maxRecDepth 20000 in
theorem w_751 : Cond.instanceMethod yX5_make ∈ wl := tm_6 (List.mem_of_getElem? (i := 3) rfl) rfl
set_option maxRecDepth 20000 in
theorem w_752 : Cond.selects RX5 yX5_make yX5_make ∈ wl := tm_6 (List.mem_of_getElem? (i := 4) rfl) rfl
set_option maxRecDepth 20000 in
theorem w_753 : Cond.code yX5_put cX5_put 5 none ∈ wl := tm_6 (List.mem_of_getElem? (i := 19) rfl) rfl
set_option maxRecDepth 20000 in
theorem w_754 : Cond.methodLink RX11 361 yX5_put ∈ wl := tm_6 (List.mem_of_getElem? (i := 16) rfl) rfl
set_option maxRecDepth 20000 in
theorem w_755 : Cond.instanceMethod yX5_put ∈ wl := tm_6 (List.mem_of_getElem? (i := 17) rfl) rfl
set_option maxRecDepth 20000 in
theorem w_756 : Cond.selects RX5 yX5_put yX5_put ∈ wl := tm_6 (List.mem_of_getElem? (i := 18) rfl) rfl
set_option maxRecDepth 20000 in
theorem w_757 : Cond.methodLink RX11 365 yX5_width ∈ wl := tm_6 (List.mem_of_getElem? (i := 31) rfl) rfl
set_option maxRecDepth 20000 in
theorem w_758 : Cond.methodLink RX11 368 yX5_covers ∈ wl := tm_6 (List.mem_of_getElem? (i := 32) rfl) rfl
set_option maxRecDepth 20000 in
theorem w_759 : Cond.code yX5_move cX5_move 6 none ∈ wl := tm_6 (List.mem_of_getElem? (i := 39) rfl) rfl
set_option maxRecDepth 20000 in
theorem w_760 : Cond.methodLink RX11 371 yX5_move ∈ wl := tm_6 (List.mem_of_getElem? (i := 36) rfl) rfl
set_option maxRecDepth 20000 in
theorem w_761 : Cond.instanceMethod yX5_move ∈ wl := tm_6 (List.mem_of_getElem? (i := 37) rfl) rfl
set_option maxRecDepth 20000 in
theorem w_762 : Cond.selects RX5 yX5_move yX5_move ∈ wl := tm_6 (List.mem_of_getElem? (i := 38) rfl) rfl
theorem kd_X4_hasRoom : okD yX4_hasRoom 1 := by decide +kernel
theorem kd_X4_append : okD yX4_append 1 := by decide +kernel
theorem kd_X4_parse : okD yX4_parse 0 := by decide +kernel
theorem kd_X2_assemble : okD yX2_assemble 1 := by decide +kernel
theorem kd_X10_hasSet : okD yX10_hasSet 1 := by decide +kernel
theorem kd_X11_isMark : okD yX11_isMark 1 := by decide +kernel
theorem kd_X2_keepStep : okD yX2_keepStep 2 := by decide +kernel
theorem kd_X2_takeBack : okD yX2_takeBack 0 := by decide +kernel
theorem kd_X11_refuseWalk : okD yX11_refuseWalk 2 := by decide +kernel
theorem kd_X11_walkRow : okD yX11_walkRow 1 := by decide +kernel
theorem kd_X11_stepsUntil : okD yX11_stepsUntil 2 := by decide +kernel
theorem kd_X11_seek : okD yX11_seek 3 := by decide +kernel
theorem kd_X3_prepare : okD yX3_prepare 1 := by decide +kernel
theorem kd_X3_leastWind : okD yX3_leastWind 1 := by decide +kernel
theorem kd_X11_arePlaces : okD yX11_arePlaces 2 := by decide +kernel
theorem kd_X11_lookSame : okD yX11_lookSame 2 := by decide +kernel
theorem kd_X11_leastBare : okD yX11_leastBare 2 := by decide +kernel
theorem kd_X7_leastGathered : okD yX7_leastGathered 2 := by decide +kernel
theorem kd_X11_stepsToMeet : okD yX11_stepsToMeet 2 := by decide +kernel
theorem kd_X11_reach : okD yX11_reach 2 := by decide +kernel
theorem kd_X11_refuseReading : okD yX11_refuseReading 1 := by decide +kernel
theorem kd_X11_fitting : okD yX11_fitting 2 := by decide +kernel
theorem kd_X11_bestWind : okD yX11_bestWind 1 := by decide +kernel
theorem kd_X0_tryAll : okD yX0_tryAll 4 := by decide +kernel
theorem kd_X8_cheapest : okD yX8_cheapest 4 := by decide +kernel
theorem kd_X11_isFogLength : okD yX11_isFogLength 1 := by decide +kernel
theorem kd_X8_drift : okD yX8_drift 3 := by decide +kernel
theorem kd_X8_chance : okD yX8_chance 1 := by decide +kernel
theorem kd_X11_isDraw : okD yX11_isDraw 2 := by decide +kernel
theorem kd_X11_drawWalk : okD yX11_drawWalk 2 := by decide +kernel
theorem kd_X10_waysElsewhere : okD yX10_waysElsewhere 0 := by decide +kernel
theorem kd_X5_kept : okD yX5_kept 0 := by decide +kernel
theorem kd_X5_make : okD yX5_make 3 := by decide +kernel
theorem kd_X5_put : okD yX5_put 3 := by decide +kernel
theorem kd_X5_move : okD yX5_move 5 := by decide +kernel
set_option maxRecDepth 20000 in
theorem kV_X11_87 : okV RX11 87 yX4_hasRoom cX4_hasRoom 2 (some .boolean) 1 := ⟨⟨w_585, w_584, w_408, kd_X4_hasRoom⟩, w_586, w_587⟩
set_option maxRecDepth 20000 in
theorem kV_X11_91 : okV RX11 91 yX4_append cX4_append 3 none 1 := ⟨⟨w_589, w_588, w_408, kd_X4_append⟩, w_590, w_591⟩
set_option maxRecDepth 20000 in
theorem kV_X11_99 : okV RX11 99 yX4_parse cX4_parse 2 (some .boolean) 0 := ⟨⟨w_597, w_596, w_408, kd_X4_parse⟩, w_598, w_599⟩
set_option maxRecDepth 20000 in
theorem kV_X11_106 : okV RX11 106 yX10_copyFrom cX10_copyFrom 2 none 1 := ⟨⟨w_600, w_225, w_25, kd_X10_copyFrom⟩, w_227, w_228⟩
set_option maxRecDepth 20000 in
theorem kV_X11_110 : okV RX11 110 yX2_assemble cX2_assemble 3 none 1 := ⟨⟨w_603, w_601, w_602, kd_X2_assemble⟩, w_604, w_605⟩
set_option maxRecDepth 20000 in
theorem kS_X11_129 : okS RX11 129 yX11_isWind cX11_isWind 1 (some .boolean) 1 := ⟨⟨w_608, w_33, w_34, kd_X11_isWind⟩, w_35⟩
set_option maxRecDepth 20000 in
theorem kV_X11_132 : okV RX11 132 yX10_after cX10_after 3 (some .int) 2 := ⟨⟨w_609, w_46, w_25, kd_X10_after⟩, w_48, w_49⟩
set_option maxRecDepth 20000 in
theorem kV_X11_136 : okV RX11 136 yX10_sign cX10_sign 2 (some .int) 1 := ⟨⟨w_610, w_60, w_25, kd_X10_sign⟩, w_62, w_63⟩
set_option maxRecDepth 20000 in
theorem kV_X11_140 : okV RX11 140 yX10_hasSet cX10_hasSet 2 (some .boolean) 1 := ⟨⟨w_612, w_611, w_25, kd_X10_hasSet⟩, w_613, w_614⟩
set_option maxRecDepth 20000 in
theorem kS_X11_146 : okS RX11 146 yX11_isMark cX11_isMark 1 (some .boolean) 1 := ⟨⟨w_616, w_615, w_34, kd_X11_isMark⟩, w_617⟩
set_option maxRecDepth 20000 in
theorem kV_X11_164 : okV RX11 164 yX9_doubt cX9_doubt 1 (some .int) 0 := ⟨⟨w_618, w_234, w_230, kd_X9_doubt⟩, w_236, w_237⟩
set_option maxRecDepth 20000 in
theorem kV_X11_181 : okV RX11 181 yX2_keepStep cX2_keepStep 3 none 2 := ⟨⟨w_621, w_620, w_602, kd_X2_keepStep⟩, w_622, w_623⟩
set_option maxRecDepth 20000 in
theorem kV_X11_188 : okV RX11 188 yX2_takeBack cX2_takeBack 2 (some .boolean) 0 := ⟨⟨w_625, w_624, w_602, kd_X2_takeBack⟩, w_626, w_627⟩
set_option maxRecDepth 20000 in
theorem kV_X11_191 : okV RX11 191 yX11_refuseWalk cX11_refuseWalk 4 (some .int) 2 := ⟨⟨w_629, w_628, w_34, kd_X11_refuseWalk⟩, w_630, w_631⟩
set_option maxRecDepth 20000 in
theorem kV_X11_194 : okV RX11 194 yX11_walkRow cX11_walkRow 3 none 1 := ⟨⟨w_633, w_632, w_34, kd_X11_walkRow⟩, w_634, w_635⟩
set_option maxRecDepth 20000 in
theorem kV_X11_197 : okV RX11 197 yX11_stepsUntil cX11_stepsUntil 5 (some .int) 2 := ⟨⟨w_637, w_636, w_34, kd_X11_stepsUntil⟩, w_638, w_639⟩
set_option maxRecDepth 20000 in
theorem kV_X11_212 : okV RX11 212 yX11_seek cX11_seek 4 (some .boolean) 3 := ⟨⟨w_641, w_640, w_34, kd_X11_seek⟩, w_642, w_643⟩
set_option maxRecDepth 20000 in
theorem kU_X11_216_X6_goalLength : okU RX11 216 RX6 ⟨"LostWood$Minds", "goalLength", "()I"⟩ yX6_goalLength cX6_goalLength 1 (some .int) 0 := ⟨w_644, w_645, w_288, w_283, w_289, by decide +kernel⟩
set_option maxRecDepth 20000 in
theorem kU_X11_219_X6_goalWind : okU RX11 219 RX6 ⟨"LostWood$Minds", "goalWind", "(I)I"⟩ yX6_goalWind cX6_goalWind 5 (some .int) 1 := ⟨w_647, w_648, w_649, w_283, w_650, by decide +kernel⟩
set_option maxRecDepth 20000 in
theorem kV_X11_224 : okV RX11 224 yX3_prepare cX3_prepare 4 none 1 := ⟨⟨w_655, w_654, w_173, kd_X3_prepare⟩, w_656, w_657⟩
set_option maxRecDepth 20000 in
theorem kV_X11_227 : okV RX11 227 yX3_deepest cX3_deepest 6 (some .int) 1 := ⟨⟨w_658, w_172, w_173, kd_X3_deepest⟩, w_175, w_176⟩
set_option maxRecDepth 20000 in
theorem kV_X11_230 : okV RX11 230 yX3_leastWind cX3_leastWind 2 (some .int) 1 := ⟨⟨w_660, w_659, w_173, kd_X3_leastWind⟩, w_661, w_662⟩
set_option maxRecDepth 20000 in
theorem kV_X11_236 : okV RX11 236 yX11_arePlaces cX11_arePlaces 3 (some .boolean) 2 := ⟨⟨w_665, w_664, w_34, kd_X11_arePlaces⟩, w_666, w_667⟩
set_option maxRecDepth 20000 in
theorem kV_X11_240 : okV RX11 240 yX11_lookSame cX11_lookSame 3 (some .boolean) 2 := ⟨⟨w_669, w_668, w_34, kd_X11_lookSame⟩, w_670, w_671⟩
set_option maxRecDepth 20000 in
theorem kU_X11_246_X6_goalLength : okU RX11 246 RX6 ⟨"LostWood$Sets", "goalLength", "()I"⟩ yX6_goalLength cX6_goalLength 1 (some .int) 0 := ⟨w_672, w_360, w_288, w_283, w_289, by decide +kernel⟩
set_option maxRecDepth 20000 in
theorem kU_X11_247_X6_goalWind : okU RX11 247 RX6 ⟨"LostWood$Sets", "goalWind", "(I)I"⟩ yX6_goalWind cX6_goalWind 5 (some .int) 1 := ⟨w_673, w_674, w_649, w_283, w_650, by decide +kernel⟩
set_option maxRecDepth 20000 in
theorem kV_X11_248 : okV RX11 248 yX11_leastBare cX11_leastBare 7 (some .int) 2 := ⟨⟨w_677, w_676, w_34, kd_X11_leastBare⟩, w_678, w_679⟩
set_option maxRecDepth 20000 in
theorem kV_X11_256 : okV RX11 256 yX7_leastGathered cX7_leastGathered 6 (some .int) 2 := ⟨⟨w_681, w_680, w_321, kd_X7_leastGathered⟩, w_682, w_683⟩
set_option maxRecDepth 20000 in
theorem kV_X11_260 : okV RX11 260 yX11_stepsToMeet cX11_stepsToMeet 6 (some .int) 2 := ⟨⟨w_685, w_684, w_34, kd_X11_stepsToMeet⟩, w_686, w_687⟩
set_option maxRecDepth 20000 in
theorem kV_X11_263 : okV RX11 263 yX11_reach cX11_reach 5 (some .int) 2 := ⟨⟨w_689, w_688, w_34, kd_X11_reach⟩, w_690, w_691⟩
set_option maxRecDepth 20000 in
theorem kS_X11_266 : okS RX11 266 yX11_lowest cX11_lowest 1 (some .int) 1 := ⟨⟨w_692, w_158, w_34, kd_X11_lowest⟩, w_159⟩
set_option maxRecDepth 20000 in
theorem kV_X11_269 : okV RX11 269 yX11_refuseReading cX11_refuseReading 3 (some .int) 1 := ⟨⟨w_694, w_693, w_34, kd_X11_refuseReading⟩, w_695, w_696⟩
set_option maxRecDepth 20000 in
theorem kV_X11_272 : okV RX11 272 yX10_all cX10_all 1 (some .int) 0 := ⟨⟨w_697, w_24, w_25, kd_X10_all⟩, w_27, w_28⟩
set_option maxRecDepth 20000 in
theorem kV_X11_275 : okV RX11 275 yX11_fitting cX11_fitting 7 (some .int) 2 := ⟨⟨w_699, w_698, w_34, kd_X11_fitting⟩, w_700, w_701⟩
set_option maxRecDepth 20000 in
theorem kV_X11_278 : okV RX11 278 yX11_bestWind cX11_bestWind 4 (some .int) 1 := ⟨⟨w_703, w_702, w_34, kd_X11_bestWind⟩, w_704, w_705⟩
set_option maxRecDepth 20000 in
theorem kV_X11_284 : okV RX11 284 yX0_tryAll cX0_tryAll 9 none 4 := ⟨⟨w_709, w_708, w_204, kd_X0_tryAll⟩, w_710, w_711⟩
set_option maxRecDepth 20000 in
theorem kV_X11_301 : okV RX11 301 yX8_cheapest cX8_cheapest 7 (some .int) 4 := ⟨⟨w_717, w_716, w_152, kd_X8_cheapest⟩, w_718, w_719⟩
set_option maxRecDepth 20000 in
theorem kS_X11_305 : okS RX11 305 yX11_isFogLength cX11_isFogLength 1 (some .boolean) 1 := ⟨⟨w_721, w_720, w_34, kd_X11_isFogLength⟩, w_722⟩
set_option maxRecDepth 20000 in
theorem kV_X11_308 : okV RX11 308 yX8_drift cX8_drift 8 none 3 := ⟨⟨w_724, w_723, w_152, kd_X8_drift⟩, w_725, w_726⟩
set_option maxRecDepth 20000 in
theorem kV_X11_311 : okV RX11 311 yX8_chance cX8_chance 2 (some .int) 1 := ⟨⟨w_728, w_727, w_152, kd_X8_chance⟩, w_729, w_730⟩
set_option maxRecDepth 20000 in
theorem kV_X11_320 : okV RX11 320 yX10_setWay cX10_setWay 4 none 3 := ⟨⟨w_731, w_218, w_25, kd_X10_setWay⟩, w_220, w_221⟩
set_option maxRecDepth 20000 in
theorem kV_X11_324 : okV RX11 324 yX10_setSign cX10_setSign 3 none 2 := ⟨⟨w_732, w_214, w_25, kd_X10_setSign⟩, w_216, w_217⟩
set_option maxRecDepth 20000 in
theorem kS_X11_328 : okS RX11 328 yX11_isDraw cX11_isDraw 2 (some .boolean) 2 := ⟨⟨w_734, w_733, w_34, kd_X11_isDraw⟩, w_735⟩
set_option maxRecDepth 20000 in
theorem kV_X11_331 : okV RX11 331 yX11_drawWalk cX11_drawWalk 7 (some .int) 2 := ⟨⟨w_737, w_736, w_34, kd_X11_drawWalk⟩, w_738, w_739⟩
set_option maxRecDepth 20000 in
theorem kV_X11_337 : okV RX11 337 yX10_waysElsewhere cX10_waysElsewhere 4 (some .int) 0 := ⟨⟨w_741, w_740, w_25, kd_X10_waysElsewhere⟩, w_742, w_743⟩
set_option maxRecDepth 20000 in
theorem kV_X11_346 : okV RX11 346 yX5_kept cX5_kept 3 (some .int) 0 := ⟨⟨w_746, w_745, w_105, kd_X5_kept⟩, w_747, w_748⟩
set_option maxRecDepth 20000 in
theorem kV_X11_355 : okV RX11 355 yX5_make cX5_make 5 none 3 := ⟨⟨w_750, w_749, w_105, kd_X5_make⟩, w_751, w_752⟩
set_option maxRecDepth 20000 in
theorem kV_X11_361 : okV RX11 361 yX5_put cX5_put 5 none 3 := ⟨⟨w_754, w_753, w_105, kd_X5_put⟩, w_755, w_756⟩
set_option maxRecDepth 20000 in
theorem kV_X11_365 : okV RX11 365 yX5_width cX5_width 2 (some .int) 1 := ⟨⟨w_757, w_114, w_105, kd_X5_width⟩, w_116, w_117⟩
set_option maxRecDepth 20000 in
theorem kV_X11_368 : okV RX11 368 yX5_covers cX5_covers 4 (some .boolean) 3 := ⟨⟨w_758, w_122, w_105, kd_X5_covers⟩, w_124, w_125⟩
set_option maxRecDepth 20000 in
theorem kV_X11_371 : okV RX11 371 yX5_move cX5_move 6 none 5 := ⟨⟨w_760, w_759, w_105, kd_X5_move⟩, w_761, w_762⟩
