set_option maxRecDepth 40000 in
set_option maxHeartbeats 4000000 in
theorem law_16 {p : Program} {l : Launch} {e : Env} {s : State} {m : MethodId} {below : List Frame} {meth : Method} {c : Code} {b : Nat} {xs : Nat → Int32} {D : va_G} {K : Nat → ClassId} (hC : CallFix p m c cL_law 4 s #[Value.ref b] wl RL) (hr : meth.sig.returnType = ret) (hk : meth.locks = false) (hX : va_X b 6 xs s s.heap) (hbl : b < s.heap.size) (hE : ev D K s) (x y : Nat → Nat) (fs fm : Nat → Int32) (hfs : ∀ j, j < 4 → fs j = -1) (hfm : ∀ j, j < 4 → fm j = -1) (H : Heap) (locs : List Loc) (hP : va_P D vwCl (fxL K x fs ++ mdL K y fm) H) (hD : va_D (fun q : Nat => s.heap.size ≤ q) (fxL K x fs ++ mdL K y fm)) (hPx : va_P D vwCl (fxL K x fs) H) (hPm : va_P D vwCl (mdL K y fm) H) (hS : va_S (fun q : Nat => s.heap.size ≤ q) s.heap H locs) (ls : Array Slot) (hl : lv_has ls 4 [(3, .int 0), (2, .ref (y 0)), (1, .ref (x 0)), (0, .ref b)]) : W p l e room_1 s m #[Value.ref b] below meth c H locs 900 150000 (lw_Z below #[Value.ref b] s) (F0 m 726 ls []) := by
  have hx := hC.1
  have hb := hC.2.1
  have hown := hC.2.2.2.1
  have hts := hC.2.2.2.2
  have hbA : ¬ (fun q : Nat => s.heap.size ≤ q) b := Nat.not_le.mpr hbl
  refine lv_aload_n hx hb dL_law_726 rfl (lv_at hl 2 rfl) ?_
  refine lv_aload_n hx hb dL_law_727 rfl (lv_at hl 3 rfl) ?_
  refine lv_iload_n hx hb dL_law_728 rfl (lv_at hl 0 rfl) ?_
  refine lv_iconst (v := 1) hx hb dL_law_729 (by decide) ?_
  refine lv_iadd hx hb dL_law_730 ?_
  refine tc (y := 1) (by decide) ?_
  refine va_sld hx hb hX hbl hbA hS (in_c (by decide)) dL_law_731 ?_
  refine tc (y := xs 1) (congrArg xs (by decide)) ?_
  refine lv_aload_n hx hb dL_law_732 rfl (lv_at hl 3 rfl) ?_
  refine lv_iload_n hx hb dL_law_733 rfl (lv_at hl 0 rfl) ?_
  refine lv_iconst (v := 2) hx hb dL_law_734 (by decide) ?_
  refine lv_iadd hx hb dL_law_735 ?_
  refine tc (y := 2) (by decide) ?_
  refine va_sld hx hb hX hbl hbA hS (in_c (by decide)) dL_law_736 ?_
  refine tc (y := xs 2) (congrArg xs (by decide)) ?_
  refine ro_V (As := [.int (xs 1), .int (xs 2)]) (rest := []) hC hE kV_L_81 (c_X11_would l D K x fs hfs (xs 1) (xs 2)) hPx 0 10 rfl rfl rfl hl.1 rfl (Nat.le_of_ble_eq_true rfl) ⟨(Nat.le_of_ble_eq_true rfl), (Nat.le_of_ble_eq_true rfl)⟩ ⟨(Nat.le_of_ble_eq_true rfl), (Nat.le_of_ble_eq_true rfl)⟩ dL_law_737 (fun r1 hw1 => ?_)
  refine lv_aload_n hx hb dL_law_740 rfl (lv_at hl 1 rfl) ?_
  refine lv_aload_n hx hb dL_law_741 rfl (lv_at hl 3 rfl) ?_
  refine lv_iload_n hx hb dL_law_742 rfl (lv_at hl 0 rfl) ?_
  refine lv_iconst (v := 1) hx hb dL_law_743 (by decide) ?_
  refine lv_iadd hx hb dL_law_744 ?_
  refine tc (y := 1) (by decide) ?_
  refine va_sld hx hb hX hbl hbA hS (in_c (by decide)) dL_law_745 ?_
  refine tc (y := xs 1) (congrArg xs (by decide)) ?_
  refine lv_aload_n hx hb dL_law_746 rfl (lv_at hl 3 rfl) ?_
  refine lv_iload_n hx hb dL_law_747 rfl (lv_at hl 0 rfl) ?_
  refine lv_iconst (v := 2) hx hb dL_law_748 (by decide) ?_
  refine lv_iadd hx hb dL_law_749 ?_
  refine tc (y := 2) (by decide) ?_
  refine va_sld hx hb hX hbl hbA hS (in_c (by decide)) dL_law_750 ?_
  refine tc (y := xs 2) (congrArg xs (by decide)) ?_
  refine ro_V (As := [.int (xs 1), .int (xs 2)]) (rest := [.int r1]) hC hE kV_L_84 (c_X12_would l D K y fm hfm (xs 1) (xs 2)) hPm 0 11 rfl rfl rfl hl.1 rfl (Nat.le_of_ble_eq_true rfl) ⟨(Nat.le_of_ble_eq_true rfl), (Nat.le_of_ble_eq_true rfl)⟩ ⟨(Nat.le_of_ble_eq_true rfl), (Nat.le_of_ble_eq_true rfl)⟩ dL_law_751 (fun r2 hw2 => ?_)
  refine lv_icmp_eq (tgt := 2343) hx hb dL_law_754 (by decide) (fun _ => ?_) (fun h => absurd (hw1.trans hw2.symm) h)
  refine W.widen (k := 1000) (n := 200000) (Nat.le_of_ble_eq_true rfl) (Nat.le_of_ble_eq_true rfl) ?_
  exact law_next hC hr hk hX hbl hS (lv_sub hl [3, 0] rfl)
set_option maxRecDepth 40000 in
set_option maxHeartbeats 4000000 in
theorem law_17 {p : Program} {l : Launch} {e : Env} {s : State} {m : MethodId} {below : List Frame} {meth : Method} {c : Code} {b : Nat} {xs : Nat → Int32} {D : va_G} {K : Nat → ClassId} (hC : CallFix p m c cL_law 4 s #[Value.ref b] wl RL) (hr : meth.sig.returnType = ret) (hk : meth.locks = false) (hX : va_X b 6 xs s s.heap) (hbl : b < s.heap.size) (hE : ev D K s) (x y : Nat → Nat) (fs fm : Nat → Int32) (hfs : ∀ j, j < 4 → fs j = -1) (hfm : ∀ j, j < 4 → fm j = -1) (H : Heap) (locs : List Loc) (hP : va_P D vwCl (fxL K x fs ++ mdL K y fm) H) (hD : va_D (fun q : Nat => s.heap.size ≤ q) (fxL K x fs ++ mdL K y fm)) (hPx : va_P D vwCl (fxL K x fs) H) (hPm : va_P D vwCl (mdL K y fm) H) (hS : va_S (fun q : Nat => s.heap.size ≤ q) s.heap H locs) (ls : Array Slot) (hl : lv_has ls 4 [(3, .int 0), (2, .ref (y 0)), (1, .ref (x 0)), (0, .ref b)]) : W p l e room_1 s m #[Value.ref b] below meth c H locs 900 150000 (lw_Z below #[Value.ref b] s) (F0 m 759 ls []) := by
  have hx := hC.1
  have hb := hC.2.1
  have hown := hC.2.2.2.1
  have hts := hC.2.2.2.2
  have hbA : ¬ (fun q : Nat => s.heap.size ≤ q) b := Nat.not_le.mpr hbl
  refine lv_aload_n hx hb dL_law_759 rfl (lv_at hl 2 rfl) ?_
  refine lv_aload_n hx hb dL_law_760 rfl (lv_at hl 3 rfl) ?_
  refine lv_iload_n hx hb dL_law_761 rfl (lv_at hl 0 rfl) ?_
  refine lv_iconst (v := 1) hx hb dL_law_762 (by decide) ?_
  refine lv_iadd hx hb dL_law_763 ?_
  refine tc (y := 1) (by decide) ?_
  refine va_sld hx hb hX hbl hbA hS (in_c (by decide)) dL_law_764 ?_
  refine tc (y := xs 1) (congrArg xs (by decide)) ?_
  refine lv_aload_n hx hb dL_law_765 rfl (lv_at hl 3 rfl) ?_
  refine lv_iload_n hx hb dL_law_766 rfl (lv_at hl 0 rfl) ?_
  refine lv_iconst (v := 2) hx hb dL_law_767 (by decide) ?_
  refine lv_iadd hx hb dL_law_768 ?_
  refine tc (y := 2) (by decide) ?_
  refine va_sld hx hb hX hbl hbA hS (in_c (by decide)) dL_law_769 ?_
  refine tc (y := xs 2) (congrArg xs (by decide)) ?_
  refine ro_V (As := [.int (xs 1), .int (xs 2)]) (rest := []) hC hE kV_L_85 (c_X11_think l D K x fs hfs (xs 1) (xs 2)) hPx 0 10 rfl rfl rfl hl.1 rfl (Nat.le_of_ble_eq_true rfl) ⟨(Nat.le_of_ble_eq_true rfl), (Nat.le_of_ble_eq_true rfl)⟩ ⟨(Nat.le_of_ble_eq_true rfl), (Nat.le_of_ble_eq_true rfl)⟩ dL_law_770 (fun r1 hw1 => ?_)
  refine lv_aload_n hx hb dL_law_773 rfl (lv_at hl 1 rfl) ?_
  refine lv_aload_n hx hb dL_law_774 rfl (lv_at hl 3 rfl) ?_
  refine lv_iload_n hx hb dL_law_775 rfl (lv_at hl 0 rfl) ?_
  refine lv_iconst (v := 1) hx hb dL_law_776 (by decide) ?_
  refine lv_iadd hx hb dL_law_777 ?_
  refine tc (y := 1) (by decide) ?_
  refine va_sld hx hb hX hbl hbA hS (in_c (by decide)) dL_law_778 ?_
  refine tc (y := xs 1) (congrArg xs (by decide)) ?_
  refine lv_aload_n hx hb dL_law_779 rfl (lv_at hl 3 rfl) ?_
  refine lv_iload_n hx hb dL_law_780 rfl (lv_at hl 0 rfl) ?_
  refine lv_iconst (v := 2) hx hb dL_law_781 (by decide) ?_
  refine lv_iadd hx hb dL_law_782 ?_
  refine tc (y := 2) (by decide) ?_
  refine va_sld hx hb hX hbl hbA hS (in_c (by decide)) dL_law_783 ?_
  refine tc (y := xs 2) (congrArg xs (by decide)) ?_
  refine ro_V (As := [.int (xs 1), .int (xs 2)]) (rest := [.int r1]) hC hE kV_L_88 (c_X12_think l D K y fm hfm (xs 1) (xs 2)) hPm 0 11 rfl rfl rfl hl.1 rfl (Nat.le_of_ble_eq_true rfl) ⟨(Nat.le_of_ble_eq_true rfl), (Nat.le_of_ble_eq_true rfl)⟩ ⟨(Nat.le_of_ble_eq_true rfl), (Nat.le_of_ble_eq_true rfl)⟩ dL_law_784 (fun r2 hw2 => ?_)
  refine lv_icmp_eq (tgt := 2343) hx hb dL_law_787 (by decide) (fun _ => ?_) (fun h => absurd (hw1.trans hw2.symm) h)
  refine W.widen (k := 1000) (n := 200000) (Nat.le_of_ble_eq_true rfl) (Nat.le_of_ble_eq_true rfl) ?_
  exact law_next hC hr hk hX hbl hS (lv_sub hl [3, 0] rfl)
set_option maxRecDepth 40000 in
set_option maxHeartbeats 4000000 in
theorem law_18 {p : Program} {l : Launch} {e : Env} {s : State} {m : MethodId} {below : List Frame} {meth : Method} {c : Code} {b : Nat} {xs : Nat → Int32} {D : va_G} {K : Nat → ClassId} (hC : CallFix p m c cL_law 4 s #[Value.ref b] wl RL) (hr : meth.sig.returnType = ret) (hk : meth.locks = false) (hX : va_X b 6 xs s s.heap) (hbl : b < s.heap.size) (hE : ev D K s) (x y : Nat → Nat) (fs fm : Nat → Int32) (hfs : ∀ j, j < 4 → fs j = -1) (hfm : ∀ j, j < 4 → fm j = -1) (H : Heap) (locs : List Loc) (hP : va_P D vwCl (fxL K x fs ++ mdL K y fm) H) (hD : va_D (fun q : Nat => s.heap.size ≤ q) (fxL K x fs ++ mdL K y fm)) (hPx : va_P D vwCl (fxL K x fs) H) (hPm : va_P D vwCl (mdL K y fm) H) (hS : va_S (fun q : Nat => s.heap.size ≤ q) s.heap H locs) (ls : Array Slot) (hl : lv_has ls 4 [(3, .int 0), (2, .ref (y 0)), (1, .ref (x 0)), (0, .ref b)]) : W p l e room_1 s m #[Value.ref b] below meth c H locs 900 150000 (lw_Z below #[Value.ref b] s) (F0 m 792 ls []) := by
  have hx := hC.1
  have hb := hC.2.1
  have hown := hC.2.2.2.1
  have hts := hC.2.2.2.2
  have hbA : ¬ (fun q : Nat => s.heap.size ≤ q) b := Nat.not_le.mpr hbl
  refine lv_aload_n hx hb dL_law_792 rfl (lv_at hl 2 rfl) ?_
  refine lv_aload_n hx hb dL_law_793 rfl (lv_at hl 3 rfl) ?_
  refine lv_iload_n hx hb dL_law_794 rfl (lv_at hl 0 rfl) ?_
  refine lv_iconst (v := 1) hx hb dL_law_795 (by decide) ?_
  refine lv_iadd hx hb dL_law_796 ?_
  refine tc (y := 1) (by decide) ?_
  refine va_sld hx hb hX hbl hbA hS (in_c (by decide)) dL_law_797 ?_
  refine tc (y := xs 1) (congrArg xs (by decide)) ?_
  refine lv_aload_n hx hb dL_law_798 rfl (lv_at hl 3 rfl) ?_
  refine lv_iload_n hx hb dL_law_799 rfl (lv_at hl 0 rfl) ?_
  refine lv_iconst (v := 2) hx hb dL_law_800 (by decide) ?_
  refine lv_iadd hx hb dL_law_801 ?_
  refine tc (y := 2) (by decide) ?_
  refine va_sld hx hb hX hbl hbA hS (in_c (by decide)) dL_law_802 ?_
  refine tc (y := xs 2) (congrArg xs (by decide)) ?_
  refine ro_V (As := [.int (xs 1), .int (xs 2)]) (rest := []) hC hE kV_L_89 (c_X11_knows l D K x fs hfs (xs 1) (xs 2)) hPx 0 10 rfl rfl rfl hl.1 rfl (Nat.le_of_ble_eq_true rfl) ⟨(Nat.le_of_ble_eq_true rfl), (Nat.le_of_ble_eq_true rfl)⟩ ⟨(Nat.le_of_ble_eq_true rfl), (Nat.le_of_ble_eq_true rfl)⟩ dL_law_803 (fun r1 hw1 => ?_)
  refine lv_aload_n hx hb dL_law_806 rfl (lv_at hl 1 rfl) ?_
  refine lv_aload_n hx hb dL_law_807 rfl (lv_at hl 3 rfl) ?_
  refine lv_iload_n hx hb dL_law_808 rfl (lv_at hl 0 rfl) ?_
  refine lv_iconst (v := 1) hx hb dL_law_809 (by decide) ?_
  refine lv_iadd hx hb dL_law_810 ?_
  refine tc (y := 1) (by decide) ?_
  refine va_sld hx hb hX hbl hbA hS (in_c (by decide)) dL_law_811 ?_
  refine tc (y := xs 1) (congrArg xs (by decide)) ?_
  refine lv_aload_n hx hb dL_law_812 rfl (lv_at hl 3 rfl) ?_
  refine lv_iload_n hx hb dL_law_813 rfl (lv_at hl 0 rfl) ?_
  refine lv_iconst (v := 2) hx hb dL_law_814 (by decide) ?_
  refine lv_iadd hx hb dL_law_815 ?_
  refine tc (y := 2) (by decide) ?_
  refine va_sld hx hb hX hbl hbA hS (in_c (by decide)) dL_law_816 ?_
  refine tc (y := xs 2) (congrArg xs (by decide)) ?_
  refine ro_V (As := [.int (xs 1), .int (xs 2)]) (rest := [.int r1]) hC hE kV_L_92 (c_X12_knows l D K y fm hfm (xs 1) (xs 2)) hPm 0 11 rfl rfl rfl hl.1 rfl (Nat.le_of_ble_eq_true rfl) ⟨(Nat.le_of_ble_eq_true rfl), (Nat.le_of_ble_eq_true rfl)⟩ ⟨(Nat.le_of_ble_eq_true rfl), (Nat.le_of_ble_eq_true rfl)⟩ dL_law_817 (fun r2 hw2 => ?_)
  refine lv_icmp_eq (tgt := 2343) hx hb dL_law_820 (by decide) (fun _ => ?_) (fun h => absurd (hw1.trans hw2.symm) h)
  refine W.widen (k := 1000) (n := 200000) (Nat.le_of_ble_eq_true rfl) (Nat.le_of_ble_eq_true rfl) ?_
  exact law_next hC hr hk hX hbl hS (lv_sub hl [3, 0] rfl)
set_option maxRecDepth 40000 in
set_option maxHeartbeats 4000000 in
theorem law_19 {p : Program} {l : Launch} {e : Env} {s : State} {m : MethodId} {below : List Frame} {meth : Method} {c : Code} {b : Nat} {xs : Nat → Int32} {D : va_G} {K : Nat → ClassId} (hC : CallFix p m c cL_law 4 s #[Value.ref b] wl RL) (hr : meth.sig.returnType = ret) (hk : meth.locks = false) (hX : va_X b 6 xs s s.heap) (hbl : b < s.heap.size) (hE : ev D K s) (x y : Nat → Nat) (fs fm : Nat → Int32) (hfs : ∀ j, j < 4 → fs j = -1) (hfm : ∀ j, j < 4 → fm j = -1) (H : Heap) (locs : List Loc) (hP : va_P D vwCl (fxL K x fs ++ mdL K y fm) H) (hD : va_D (fun q : Nat => s.heap.size ≤ q) (fxL K x fs ++ mdL K y fm)) (hPx : va_P D vwCl (fxL K x fs) H) (hPm : va_P D vwCl (mdL K y fm) H) (hS : va_S (fun q : Nat => s.heap.size ≤ q) s.heap H locs) (ls : Array Slot) (hl : lv_has ls 4 [(3, .int 0), (2, .ref (y 0)), (1, .ref (x 0)), (0, .ref b)]) : W p l e room_1 s m #[Value.ref b] below meth c H locs 900 150000 (lw_Z below #[Value.ref b] s) (F0 m 825 ls []) := by
  have hx := hC.1
  have hb := hC.2.1
  have hown := hC.2.2.2.1
  have hts := hC.2.2.2.2
  have hbA : ¬ (fun q : Nat => s.heap.size ≤ q) b := Nat.not_le.mpr hbl
  refine lv_aload_n hx hb dL_law_825 rfl (lv_at hl 2 rfl) ?_
  refine lv_aload_n hx hb dL_law_826 rfl (lv_at hl 3 rfl) ?_
  refine lv_iload_n hx hb dL_law_827 rfl (lv_at hl 0 rfl) ?_
  refine lv_iconst (v := 1) hx hb dL_law_828 (by decide) ?_
  refine lv_iadd hx hb dL_law_829 ?_
  refine tc (y := 1) (by decide) ?_
  refine va_sld hx hb hX hbl hbA hS (in_c (by decide)) dL_law_830 ?_
  refine tc (y := xs 1) (congrArg xs (by decide)) ?_
  refine lv_aload_n hx hb dL_law_831 rfl (lv_at hl 3 rfl) ?_
  refine lv_iload_n hx hb dL_law_832 rfl (lv_at hl 0 rfl) ?_
  refine lv_iconst (v := 2) hx hb dL_law_833 (by decide) ?_
  refine lv_iadd hx hb dL_law_834 ?_
  refine tc (y := 2) (by decide) ?_
  refine va_sld hx hb hX hbl hbA hS (in_c (by decide)) dL_law_835 ?_
  refine tc (y := xs 2) (congrArg xs (by decide)) ?_
  refine ro_V (As := [.int (xs 1), .int (xs 2)]) (rest := []) hC hE kV_L_93 (c_X11_loses l D K x fs hfs (xs 1) (xs 2)) hPx 0 10 rfl rfl rfl hl.1 rfl (Nat.le_of_ble_eq_true rfl) ⟨(Nat.le_of_ble_eq_true rfl), (Nat.le_of_ble_eq_true rfl)⟩ ⟨(Nat.le_of_ble_eq_true rfl), (Nat.le_of_ble_eq_true rfl)⟩ dL_law_836 (fun r1 hw1 => ?_)
  refine lv_aload_n hx hb dL_law_839 rfl (lv_at hl 1 rfl) ?_
  refine lv_aload_n hx hb dL_law_840 rfl (lv_at hl 3 rfl) ?_
  refine lv_iload_n hx hb dL_law_841 rfl (lv_at hl 0 rfl) ?_
  refine lv_iconst (v := 1) hx hb dL_law_842 (by decide) ?_
  refine lv_iadd hx hb dL_law_843 ?_
  refine tc (y := 1) (by decide) ?_
  refine va_sld hx hb hX hbl hbA hS (in_c (by decide)) dL_law_844 ?_
  refine tc (y := xs 1) (congrArg xs (by decide)) ?_
  refine lv_aload_n hx hb dL_law_845 rfl (lv_at hl 3 rfl) ?_
  refine lv_iload_n hx hb dL_law_846 rfl (lv_at hl 0 rfl) ?_
  refine lv_iconst (v := 2) hx hb dL_law_847 (by decide) ?_
  refine lv_iadd hx hb dL_law_848 ?_
  refine tc (y := 2) (by decide) ?_
  refine va_sld hx hb hX hbl hbA hS (in_c (by decide)) dL_law_849 ?_
  refine tc (y := xs 2) (congrArg xs (by decide)) ?_
  refine ro_V (As := [.int (xs 1), .int (xs 2)]) (rest := [.int r1]) hC hE kV_L_96 (c_X12_loses l D K y fm hfm (xs 1) (xs 2)) hPm 0 11 rfl rfl rfl hl.1 rfl (Nat.le_of_ble_eq_true rfl) ⟨(Nat.le_of_ble_eq_true rfl), (Nat.le_of_ble_eq_true rfl)⟩ ⟨(Nat.le_of_ble_eq_true rfl), (Nat.le_of_ble_eq_true rfl)⟩ dL_law_850 (fun r2 hw2 => ?_)
  refine lv_icmp_eq (tgt := 2343) hx hb dL_law_853 (by decide) (fun _ => ?_) (fun h => absurd (hw1.trans hw2.symm) h)
  refine W.widen (k := 1000) (n := 200000) (Nat.le_of_ble_eq_true rfl) (Nat.le_of_ble_eq_true rfl) ?_
  exact law_next hC hr hk hX hbl hS (lv_sub hl [3, 0] rfl)
set_option maxRecDepth 40000 in
set_option maxHeartbeats 4000000 in
theorem law_20 {p : Program} {l : Launch} {e : Env} {s : State} {m : MethodId} {below : List Frame} {meth : Method} {c : Code} {b : Nat} {xs : Nat → Int32} {D : va_G} {K : Nat → ClassId} (hC : CallFix p m c cL_law 4 s #[Value.ref b] wl RL) (hr : meth.sig.returnType = ret) (hk : meth.locks = false) (hX : va_X b 6 xs s s.heap) (hbl : b < s.heap.size) (hE : ev D K s) (x y : Nat → Nat) (fs fm : Nat → Int32) (hfs : ∀ j, j < 4 → fs j = -1) (hfm : ∀ j, j < 4 → fm j = -1) (H : Heap) (locs : List Loc) (hP : va_P D vwCl (fxL K x fs ++ mdL K y fm) H) (hD : va_D (fun q : Nat => s.heap.size ≤ q) (fxL K x fs ++ mdL K y fm)) (hPx : va_P D vwCl (fxL K x fs) H) (hPm : va_P D vwCl (mdL K y fm) H) (hS : va_S (fun q : Nat => s.heap.size ≤ q) s.heap H locs) (ls : Array Slot) (hl : lv_has ls 4 [(3, .int 0), (2, .ref (y 0)), (1, .ref (x 0)), (0, .ref b)]) : W p l e room_1 s m #[Value.ref b] below meth c H locs 900 150000 (lw_Z below #[Value.ref b] s) (F0 m 858 ls []) := by
  have hx := hC.1
  have hb := hC.2.1
  have hown := hC.2.2.2.1
  have hts := hC.2.2.2.2
  have hbA : ¬ (fun q : Nat => s.heap.size ≤ q) b := Nat.not_le.mpr hbl
  refine lv_aload_n hx hb dL_law_858 rfl (lv_at hl 2 rfl) ?_
  refine lv_aload_n hx hb dL_law_859 rfl (lv_at hl 3 rfl) ?_
  refine lv_iload_n hx hb dL_law_860 rfl (lv_at hl 0 rfl) ?_
  refine lv_iconst (v := 1) hx hb dL_law_861 (by decide) ?_
  refine lv_iadd hx hb dL_law_862 ?_
  refine tc (y := 1) (by decide) ?_
  refine va_sld hx hb hX hbl hbA hS (in_c (by decide)) dL_law_863 ?_
  refine tc (y := xs 1) (congrArg xs (by decide)) ?_
  refine lv_aload_n hx hb dL_law_864 rfl (lv_at hl 3 rfl) ?_
  refine lv_iload_n hx hb dL_law_865 rfl (lv_at hl 0 rfl) ?_
  refine lv_iconst (v := 2) hx hb dL_law_866 (by decide) ?_
  refine lv_iadd hx hb dL_law_867 ?_
  refine tc (y := 2) (by decide) ?_
  refine va_sld hx hb hX hbl hbA hS (in_c (by decide)) dL_law_868 ?_
  refine tc (y := xs 2) (congrArg xs (by decide)) ?_
  refine ro_V (As := [.int (xs 1), .int (xs 2)]) (rest := []) hC hE kV_L_97 (c_X11_doubts l D K x fs hfs (xs 1) (xs 2)) hPx 0 10 rfl rfl rfl hl.1 rfl (Nat.le_of_ble_eq_true rfl) ⟨(Nat.le_of_ble_eq_true rfl), (Nat.le_of_ble_eq_true rfl)⟩ ⟨(Nat.le_of_ble_eq_true rfl), (Nat.le_of_ble_eq_true rfl)⟩ dL_law_869 (fun r1 hw1 => ?_)
  refine lv_aload_n hx hb dL_law_872 rfl (lv_at hl 1 rfl) ?_
  refine lv_aload_n hx hb dL_law_873 rfl (lv_at hl 3 rfl) ?_
  refine lv_iload_n hx hb dL_law_874 rfl (lv_at hl 0 rfl) ?_
  refine lv_iconst (v := 1) hx hb dL_law_875 (by decide) ?_
  refine lv_iadd hx hb dL_law_876 ?_
  refine tc (y := 1) (by decide) ?_
  refine va_sld hx hb hX hbl hbA hS (in_c (by decide)) dL_law_877 ?_
  refine tc (y := xs 1) (congrArg xs (by decide)) ?_
  refine lv_aload_n hx hb dL_law_878 rfl (lv_at hl 3 rfl) ?_
  refine lv_iload_n hx hb dL_law_879 rfl (lv_at hl 0 rfl) ?_
  refine lv_iconst (v := 2) hx hb dL_law_880 (by decide) ?_
  refine lv_iadd hx hb dL_law_881 ?_
  refine tc (y := 2) (by decide) ?_
  refine va_sld hx hb hX hbl hbA hS (in_c (by decide)) dL_law_882 ?_
  refine tc (y := xs 2) (congrArg xs (by decide)) ?_
  refine ro_V (As := [.int (xs 1), .int (xs 2)]) (rest := [.int r1]) hC hE kV_L_100 (c_X12_doubts l D K y fm hfm (xs 1) (xs 2)) hPm 0 11 rfl rfl rfl hl.1 rfl (Nat.le_of_ble_eq_true rfl) ⟨(Nat.le_of_ble_eq_true rfl), (Nat.le_of_ble_eq_true rfl)⟩ ⟨(Nat.le_of_ble_eq_true rfl), (Nat.le_of_ble_eq_true rfl)⟩ dL_law_883 (fun r2 hw2 => ?_)
  refine lv_icmp_eq (tgt := 2343) hx hb dL_law_886 (by decide) (fun _ => ?_) (fun h => absurd (hw1.trans hw2.symm) h)
  refine W.widen (k := 1000) (n := 200000) (Nat.le_of_ble_eq_true rfl) (Nat.le_of_ble_eq_true rfl) ?_
  exact law_next hC hr hk hX hbl hS (lv_sub hl [3, 0] rfl)
set_option maxRecDepth 40000 in
set_option maxHeartbeats 4000000 in
theorem law_21 {p : Program} {l : Launch} {e : Env} {s : State} {m : MethodId} {below : List Frame} {meth : Method} {c : Code} {b : Nat} {xs : Nat → Int32} {D : va_G} {K : Nat → ClassId} (hC : CallFix p m c cL_law 4 s #[Value.ref b] wl RL) (hr : meth.sig.returnType = ret) (hk : meth.locks = false) (hX : va_X b 6 xs s s.heap) (hbl : b < s.heap.size) (hE : ev D K s) (x y : Nat → Nat) (fs fm : Nat → Int32) (hfs : ∀ j, j < 4 → fs j = -1) (hfm : ∀ j, j < 4 → fm j = -1) (H : Heap) (locs : List Loc) (hP : va_P D vwCl (fxL K x fs ++ mdL K y fm) H) (hD : va_D (fun q : Nat => s.heap.size ≤ q) (fxL K x fs ++ mdL K y fm)) (hPx : va_P D vwCl (fxL K x fs) H) (hPm : va_P D vwCl (mdL K y fm) H) (hS : va_S (fun q : Nat => s.heap.size ≤ q) s.heap H locs) (ls : Array Slot) (hl : lv_has ls 4 [(3, .int 0), (2, .ref (y 0)), (1, .ref (x 0)), (0, .ref b)]) : W p l e room_1 s m #[Value.ref b] below meth c H locs 900 150000 (lw_Z below #[Value.ref b] s) (F0 m 891 ls []) := by
  have hx := hC.1
  have hb := hC.2.1
  have hown := hC.2.2.2.1
  have hts := hC.2.2.2.2
  have hbA : ¬ (fun q : Nat => s.heap.size ≤ q) b := Nat.not_le.mpr hbl
  refine lv_aload_n hx hb dL_law_891 rfl (lv_at hl 2 rfl) ?_
  refine lv_aload_n hx hb dL_law_892 rfl (lv_at hl 3 rfl) ?_
  refine lv_iload_n hx hb dL_law_893 rfl (lv_at hl 0 rfl) ?_
  refine lv_iconst (v := 1) hx hb dL_law_894 (by decide) ?_
  refine lv_iadd hx hb dL_law_895 ?_
  refine tc (y := 1) (by decide) ?_
  refine va_sld hx hb hX hbl hbA hS (in_c (by decide)) dL_law_896 ?_
  refine tc (y := xs 1) (congrArg xs (by decide)) ?_
  refine lv_aload_n hx hb dL_law_897 rfl (lv_at hl 3 rfl) ?_
  refine lv_iload_n hx hb dL_law_898 rfl (lv_at hl 0 rfl) ?_
  refine lv_iconst (v := 2) hx hb dL_law_899 (by decide) ?_
  refine lv_iadd hx hb dL_law_900 ?_
  refine tc (y := 2) (by decide) ?_
  refine va_sld hx hb hX hbl hbA hS (in_c (by decide)) dL_law_901 ?_
  refine tc (y := xs 2) (congrArg xs (by decide)) ?_
  refine ro_V (As := [.int (xs 1), .int (xs 2)]) (rest := []) hC hE kV_L_101 (c_X11_blur l D K x fs hfs (xs 1) (xs 2)) hPx 0 10 rfl rfl rfl hl.1 rfl (Nat.le_of_ble_eq_true rfl) ⟨(Nat.le_of_ble_eq_true rfl), (Nat.le_of_ble_eq_true rfl)⟩ ⟨(Nat.le_of_ble_eq_true rfl), (Nat.le_of_ble_eq_true rfl)⟩ dL_law_902 (fun r1 hw1 => ?_)
  refine lv_aload_n hx hb dL_law_905 rfl (lv_at hl 1 rfl) ?_
  refine lv_aload_n hx hb dL_law_906 rfl (lv_at hl 3 rfl) ?_
  refine lv_iload_n hx hb dL_law_907 rfl (lv_at hl 0 rfl) ?_
  refine lv_iconst (v := 1) hx hb dL_law_908 (by decide) ?_
  refine lv_iadd hx hb dL_law_909 ?_
  refine tc (y := 1) (by decide) ?_
  refine va_sld hx hb hX hbl hbA hS (in_c (by decide)) dL_law_910 ?_
  refine tc (y := xs 1) (congrArg xs (by decide)) ?_
  refine lv_aload_n hx hb dL_law_911 rfl (lv_at hl 3 rfl) ?_
  refine lv_iload_n hx hb dL_law_912 rfl (lv_at hl 0 rfl) ?_
  refine lv_iconst (v := 2) hx hb dL_law_913 (by decide) ?_
  refine lv_iadd hx hb dL_law_914 ?_
  refine tc (y := 2) (by decide) ?_
  refine va_sld hx hb hX hbl hbA hS (in_c (by decide)) dL_law_915 ?_
  refine tc (y := xs 2) (congrArg xs (by decide)) ?_
  refine ro_V (As := [.int (xs 1), .int (xs 2)]) (rest := [.int r1]) hC hE kV_L_104 (c_X12_blur l D K y fm hfm (xs 1) (xs 2)) hPm 0 11 rfl rfl rfl hl.1 rfl (Nat.le_of_ble_eq_true rfl) ⟨(Nat.le_of_ble_eq_true rfl), (Nat.le_of_ble_eq_true rfl)⟩ ⟨(Nat.le_of_ble_eq_true rfl), (Nat.le_of_ble_eq_true rfl)⟩ dL_law_916 (fun r2 hw2 => ?_)
  refine lv_icmp_eq (tgt := 2343) hx hb dL_law_919 (by decide) (fun _ => ?_) (fun h => absurd (hw1.trans hw2.symm) h)
  refine W.widen (k := 1000) (n := 200000) (Nat.le_of_ble_eq_true rfl) (Nat.le_of_ble_eq_true rfl) ?_
  exact law_next hC hr hk hX hbl hS (lv_sub hl [3, 0] rfl)
set_option maxRecDepth 40000 in
set_option maxHeartbeats 4000000 in
theorem law_22 {p : Program} {l : Launch} {e : Env} {s : State} {m : MethodId} {below : List Frame} {meth : Method} {c : Code} {b : Nat} {xs : Nat → Int32} {D : va_G} {K : Nat → ClassId} (hC : CallFix p m c cL_law 4 s #[Value.ref b] wl RL) (hr : meth.sig.returnType = ret) (hk : meth.locks = false) (hX : va_X b 6 xs s s.heap) (hbl : b < s.heap.size) (hE : ev D K s) (x y : Nat → Nat) (fs fm : Nat → Int32) (hfs : ∀ j, j < 4 → fs j = -1) (hfm : ∀ j, j < 4 → fm j = -1) (H : Heap) (locs : List Loc) (hP : va_P D vwCl (fxL K x fs ++ mdL K y fm) H) (hD : va_D (fun q : Nat => s.heap.size ≤ q) (fxL K x fs ++ mdL K y fm)) (hPx : va_P D vwCl (fxL K x fs) H) (hPm : va_P D vwCl (mdL K y fm) H) (hS : va_S (fun q : Nat => s.heap.size ≤ q) s.heap H locs) (ls : Array Slot) (hl : lv_has ls 4 [(3, .int 0), (2, .ref (y 0)), (1, .ref (x 0)), (0, .ref b)]) : W p l e room_1 s m #[Value.ref b] below meth c H locs 900 150000 (lw_Z below #[Value.ref b] s) (F0 m 924 ls []) := by
  have hx := hC.1
  have hb := hC.2.1
  have hown := hC.2.2.2.1
  have hts := hC.2.2.2.2
  have hbA : ¬ (fun q : Nat => s.heap.size ≤ q) b := Nat.not_le.mpr hbl
  refine lv_aload_n hx hb dL_law_924 rfl (lv_at hl 2 rfl) ?_
  refine lv_aload_n hx hb dL_law_925 rfl (lv_at hl 3 rfl) ?_
  refine lv_iload_n hx hb dL_law_926 rfl (lv_at hl 0 rfl) ?_
  refine lv_iconst (v := 1) hx hb dL_law_927 (by decide) ?_
  refine lv_iadd hx hb dL_law_928 ?_
  refine tc (y := 1) (by decide) ?_
  refine va_sld hx hb hX hbl hbA hS (in_c (by decide)) dL_law_929 ?_
  refine tc (y := xs 1) (congrArg xs (by decide)) ?_
  refine lv_aload_n hx hb dL_law_930 rfl (lv_at hl 3 rfl) ?_
  refine lv_iload_n hx hb dL_law_931 rfl (lv_at hl 0 rfl) ?_
  refine lv_iconst (v := 2) hx hb dL_law_932 (by decide) ?_
  refine lv_iadd hx hb dL_law_933 ?_
  refine tc (y := 2) (by decide) ?_
  refine va_sld hx hb hX hbl hbA hS (in_c (by decide)) dL_law_934 ?_
  refine tc (y := xs 2) (congrArg xs (by decide)) ?_
  refine lv_aload_n hx hb dL_law_935 rfl (lv_at hl 3 rfl) ?_
  refine lv_iload_n hx hb dL_law_936 rfl (lv_at hl 0 rfl) ?_
  refine lv_iconst (v := 3) hx hb dL_law_937 (by decide) ?_
  refine lv_iadd hx hb dL_law_938 ?_
  refine tc (y := 3) (by decide) ?_
  refine va_sld hx hb hX hbl hbA hS (in_c (by decide)) dL_law_939 ?_
  refine tc (y := xs 3) (congrArg xs (by decide)) ?_
  refine ro_V (As := [.int (xs 1), .int (xs 2), .int (xs 3)]) (rest := []) hC hE kV_L_105 (c_X11_blurs l D K x fs hfs (xs 1) (xs 2) (xs 3)) hPx 0 10 rfl rfl rfl hl.1 rfl (Nat.le_of_ble_eq_true rfl) ⟨(Nat.le_of_ble_eq_true rfl), (Nat.le_of_ble_eq_true rfl)⟩ ⟨(Nat.le_of_ble_eq_true rfl), (Nat.le_of_ble_eq_true rfl)⟩ dL_law_940 (fun r1 hw1 => ?_)
  refine lv_aload_n hx hb dL_law_943 rfl (lv_at hl 1 rfl) ?_
  refine lv_aload_n hx hb dL_law_944 rfl (lv_at hl 3 rfl) ?_
  refine lv_iload_n hx hb dL_law_945 rfl (lv_at hl 0 rfl) ?_
  refine lv_iconst (v := 1) hx hb dL_law_946 (by decide) ?_
  refine lv_iadd hx hb dL_law_947 ?_
  refine tc (y := 1) (by decide) ?_
  refine va_sld hx hb hX hbl hbA hS (in_c (by decide)) dL_law_948 ?_
  refine tc (y := xs 1) (congrArg xs (by decide)) ?_
  refine lv_aload_n hx hb dL_law_949 rfl (lv_at hl 3 rfl) ?_
  refine lv_iload_n hx hb dL_law_950 rfl (lv_at hl 0 rfl) ?_
  refine lv_iconst (v := 2) hx hb dL_law_951 (by decide) ?_
  refine lv_iadd hx hb dL_law_952 ?_
  refine tc (y := 2) (by decide) ?_
  refine va_sld hx hb hX hbl hbA hS (in_c (by decide)) dL_law_953 ?_
  refine tc (y := xs 2) (congrArg xs (by decide)) ?_
  refine lv_aload_n hx hb dL_law_954 rfl (lv_at hl 3 rfl) ?_
  refine lv_iload_n hx hb dL_law_955 rfl (lv_at hl 0 rfl) ?_
  refine lv_iconst (v := 3) hx hb dL_law_956 (by decide) ?_
  refine lv_iadd hx hb dL_law_957 ?_
  refine tc (y := 3) (by decide) ?_
  refine va_sld hx hb hX hbl hbA hS (in_c (by decide)) dL_law_958 ?_
  refine tc (y := xs 3) (congrArg xs (by decide)) ?_
  refine ro_V (As := [.int (xs 1), .int (xs 2), .int (xs 3)]) (rest := [.int r1]) hC hE kV_L_109 (c_X12_blurs l D K y fm hfm (xs 1) (xs 2) (xs 3)) hPm 0 11 rfl rfl rfl hl.1 rfl (Nat.le_of_ble_eq_true rfl) ⟨(Nat.le_of_ble_eq_true rfl), (Nat.le_of_ble_eq_true rfl)⟩ ⟨(Nat.le_of_ble_eq_true rfl), (Nat.le_of_ble_eq_true rfl)⟩ dL_law_959 (fun r2 hw2 => ?_)
  refine lv_icmp_eq (tgt := 2343) hx hb dL_law_962 (by decide) (fun _ => ?_) (fun h => absurd (hw1.trans hw2.symm) h)
  refine W.widen (k := 1000) (n := 200000) (Nat.le_of_ble_eq_true rfl) (Nat.le_of_ble_eq_true rfl) ?_
  exact law_next hC hr hk hX hbl hS (lv_sub hl [3, 0] rfl)
set_option maxRecDepth 40000 in
set_option maxHeartbeats 4000000 in
theorem law_23 {p : Program} {l : Launch} {e : Env} {s : State} {m : MethodId} {below : List Frame} {meth : Method} {c : Code} {b : Nat} {xs : Nat → Int32} {D : va_G} {K : Nat → ClassId} (hC : CallFix p m c cL_law 4 s #[Value.ref b] wl RL) (hr : meth.sig.returnType = ret) (hk : meth.locks = false) (hX : va_X b 6 xs s s.heap) (hbl : b < s.heap.size) (hE : ev D K s) (x y : Nat → Nat) (fs fm : Nat → Int32) (hfs : ∀ j, j < 4 → fs j = -1) (hfm : ∀ j, j < 4 → fm j = -1) (H : Heap) (locs : List Loc) (hP : va_P D vwCl (fxL K x fs ++ mdL K y fm) H) (hD : va_D (fun q : Nat => s.heap.size ≤ q) (fxL K x fs ++ mdL K y fm)) (hPx : va_P D vwCl (fxL K x fs) H) (hPm : va_P D vwCl (mdL K y fm) H) (hS : va_S (fun q : Nat => s.heap.size ≤ q) s.heap H locs) (ls : Array Slot) (hl : lv_has ls 4 [(3, .int 0), (2, .ref (y 0)), (1, .ref (x 0)), (0, .ref b)]) : W p l e room_1 s m #[Value.ref b] below meth c H locs 900 150000 (lw_Z below #[Value.ref b] s) (F0 m 967 ls []) := by
  have hx := hC.1
  have hb := hC.2.1
  have hown := hC.2.2.2.1
  have hts := hC.2.2.2.2
  have hbA : ¬ (fun q : Nat => s.heap.size ≤ q) b := Nat.not_le.mpr hbl
  refine lv_aload_n hx hb dL_law_967 rfl (lv_at hl 2 rfl) ?_
  refine lv_aload_n hx hb dL_law_968 rfl (lv_at hl 3 rfl) ?_
  refine lv_iload_n hx hb dL_law_969 rfl (lv_at hl 0 rfl) ?_
  refine lv_iconst (v := 1) hx hb dL_law_970 (by decide) ?_
  refine lv_iadd hx hb dL_law_971 ?_
  refine tc (y := 1) (by decide) ?_
  refine va_sld hx hb hX hbl hbA hS (in_c (by decide)) dL_law_972 ?_
  refine tc (y := xs 1) (congrArg xs (by decide)) ?_
  refine ro_V (As := [.int (xs 1)]) (rest := []) hC hE kV_L_110 (c_X11_stray l D K x fs hfs (xs 1)) hPx 0 10 rfl rfl rfl hl.1 rfl (Nat.le_of_ble_eq_true rfl) ⟨(Nat.le_of_ble_eq_true rfl), (Nat.le_of_ble_eq_true rfl)⟩ ⟨(Nat.le_of_ble_eq_true rfl), (Nat.le_of_ble_eq_true rfl)⟩ dL_law_973 (fun r1 hw1 => ?_)
  refine lv_aload_n hx hb dL_law_976 rfl (lv_at hl 1 rfl) ?_
  refine lv_aload_n hx hb dL_law_977 rfl (lv_at hl 3 rfl) ?_
  refine lv_iload_n hx hb dL_law_978 rfl (lv_at hl 0 rfl) ?_
  refine lv_iconst (v := 1) hx hb dL_law_979 (by decide) ?_
  refine lv_iadd hx hb dL_law_980 ?_
  refine tc (y := 1) (by decide) ?_
  refine va_sld hx hb hX hbl hbA hS (in_c (by decide)) dL_law_981 ?_
  refine tc (y := xs 1) (congrArg xs (by decide)) ?_
  refine ro_V (As := [.int (xs 1)]) (rest := [.int r1]) hC hE kV_L_113 (c_X12_stray l D K y fm hfm (xs 1)) hPm 0 11 rfl rfl rfl hl.1 rfl (Nat.le_of_ble_eq_true rfl) ⟨(Nat.le_of_ble_eq_true rfl), (Nat.le_of_ble_eq_true rfl)⟩ ⟨(Nat.le_of_ble_eq_true rfl), (Nat.le_of_ble_eq_true rfl)⟩ dL_law_982 (fun r2 hw2 => ?_)
  refine lv_icmp_eq (tgt := 2343) hx hb dL_law_985 (by decide) (fun _ => ?_) (fun h => absurd (hw1.trans hw2.symm) h)
  refine W.widen (k := 1000) (n := 200000) (Nat.le_of_ble_eq_true rfl) (Nat.le_of_ble_eq_true rfl) ?_
  exact law_next hC hr hk hX hbl hS (lv_sub hl [3, 0] rfl)
set_option maxRecDepth 40000 in
set_option maxHeartbeats 4000000 in
theorem law_24 {p : Program} {l : Launch} {e : Env} {s : State} {m : MethodId} {below : List Frame} {meth : Method} {c : Code} {b : Nat} {xs : Nat → Int32} {D : va_G} {K : Nat → ClassId} (hC : CallFix p m c cL_law 4 s #[Value.ref b] wl RL) (hr : meth.sig.returnType = ret) (hk : meth.locks = false) (hX : va_X b 6 xs s s.heap) (hbl : b < s.heap.size) (hE : ev D K s) (x y : Nat → Nat) (fs fm : Nat → Int32) (hfs : ∀ j, j < 4 → fs j = -1) (hfm : ∀ j, j < 4 → fm j = -1) (H : Heap) (locs : List Loc) (hP : va_P D vwCl (fxL K x fs ++ mdL K y fm) H) (hD : va_D (fun q : Nat => s.heap.size ≤ q) (fxL K x fs ++ mdL K y fm)) (hPx : va_P D vwCl (fxL K x fs) H) (hPm : va_P D vwCl (mdL K y fm) H) (hS : va_S (fun q : Nat => s.heap.size ≤ q) s.heap H locs) (ls : Array Slot) (hl : lv_has ls 4 [(3, .int 0), (2, .ref (y 0)), (1, .ref (x 0)), (0, .ref b)]) : W p l e room_1 s m #[Value.ref b] below meth c H locs 900 150000 (lw_Z below #[Value.ref b] s) (F0 m 990 ls []) := by
  have hx := hC.1
  have hb := hC.2.1
  have hown := hC.2.2.2.1
  have hts := hC.2.2.2.2
  have hbA : ¬ (fun q : Nat => s.heap.size ≤ q) b := Nat.not_le.mpr hbl
  refine lv_aload_n hx hb dL_law_990 rfl (lv_at hl 2 rfl) ?_
  refine lv_aload_n hx hb dL_law_991 rfl (lv_at hl 3 rfl) ?_
  refine lv_iload_n hx hb dL_law_992 rfl (lv_at hl 0 rfl) ?_
  refine lv_iconst (v := 1) hx hb dL_law_993 (by decide) ?_
  refine lv_iadd hx hb dL_law_994 ?_
  refine tc (y := 1) (by decide) ?_
  refine va_sld hx hb hX hbl hbA hS (in_c (by decide)) dL_law_995 ?_
  refine tc (y := xs 1) (congrArg xs (by decide)) ?_
  refine lv_aload_n hx hb dL_law_996 rfl (lv_at hl 3 rfl) ?_
  refine lv_iload_n hx hb dL_law_997 rfl (lv_at hl 0 rfl) ?_
  refine lv_iconst (v := 2) hx hb dL_law_998 (by decide) ?_
  refine lv_iadd hx hb dL_law_999 ?_
  refine tc (y := 2) (by decide) ?_
  refine va_sld hx hb hX hbl hbA hS (in_c (by decide)) dL_law_1000 ?_
  refine tc (y := xs 2) (congrArg xs (by decide)) ?_
  refine ro_V (As := [.int (xs 1), .int (xs 2)]) (rest := []) hC hE kV_L_114 (c_X11_strays l D K x fs hfs (xs 1) (xs 2)) hPx 0 10 rfl rfl rfl hl.1 rfl (Nat.le_of_ble_eq_true rfl) ⟨(Nat.le_of_ble_eq_true rfl), (Nat.le_of_ble_eq_true rfl)⟩ ⟨(Nat.le_of_ble_eq_true rfl), (Nat.le_of_ble_eq_true rfl)⟩ dL_law_1001 (fun r1 hw1 => ?_)
  refine lv_aload_n hx hb dL_law_1004 rfl (lv_at hl 1 rfl) ?_
  refine lv_aload_n hx hb dL_law_1005 rfl (lv_at hl 3 rfl) ?_
  refine lv_iload_n hx hb dL_law_1006 rfl (lv_at hl 0 rfl) ?_
  refine lv_iconst (v := 1) hx hb dL_law_1007 (by decide) ?_
  refine lv_iadd hx hb dL_law_1008 ?_
  refine tc (y := 1) (by decide) ?_
  refine va_sld hx hb hX hbl hbA hS (in_c (by decide)) dL_law_1009 ?_
  refine tc (y := xs 1) (congrArg xs (by decide)) ?_
  refine lv_aload_n hx hb dL_law_1010 rfl (lv_at hl 3 rfl) ?_
  refine lv_iload_n hx hb dL_law_1011 rfl (lv_at hl 0 rfl) ?_
  refine lv_iconst (v := 2) hx hb dL_law_1012 (by decide) ?_
  refine lv_iadd hx hb dL_law_1013 ?_
  refine tc (y := 2) (by decide) ?_
  refine va_sld hx hb hX hbl hbA hS (in_c (by decide)) dL_law_1014 ?_
  refine tc (y := xs 2) (congrArg xs (by decide)) ?_
  refine ro_V (As := [.int (xs 1), .int (xs 2)]) (rest := [.int r1]) hC hE kV_L_117 (c_X12_strays l D K y fm hfm (xs 1) (xs 2)) hPm 0 11 rfl rfl rfl hl.1 rfl (Nat.le_of_ble_eq_true rfl) ⟨(Nat.le_of_ble_eq_true rfl), (Nat.le_of_ble_eq_true rfl)⟩ ⟨(Nat.le_of_ble_eq_true rfl), (Nat.le_of_ble_eq_true rfl)⟩ dL_law_1015 (fun r2 hw2 => ?_)
  refine lv_icmp_eq (tgt := 2343) hx hb dL_law_1018 (by decide) (fun _ => ?_) (fun h => absurd (hw1.trans hw2.symm) h)
  refine W.widen (k := 1000) (n := 200000) (Nat.le_of_ble_eq_true rfl) (Nat.le_of_ble_eq_true rfl) ?_
  exact law_next hC hr hk hX hbl hS (lv_sub hl [3, 0] rfl)
set_option maxRecDepth 40000 in
set_option maxHeartbeats 4000000 in
theorem law_25 {p : Program} {l : Launch} {e : Env} {s : State} {m : MethodId} {below : List Frame} {meth : Method} {c : Code} {b : Nat} {xs : Nat → Int32} {D : va_G} {K : Nat → ClassId} (hC : CallFix p m c cL_law 4 s #[Value.ref b] wl RL) (hr : meth.sig.returnType = ret) (hk : meth.locks = false) (hX : va_X b 6 xs s s.heap) (hbl : b < s.heap.size) (hE : ev D K s) (x y : Nat → Nat) (fs fm : Nat → Int32) (hfs : ∀ j, j < 4 → fs j = -1) (hfm : ∀ j, j < 4 → fm j = -1) (H : Heap) (locs : List Loc) (hP : va_P D vwCl (fxL K x fs ++ mdL K y fm) H) (hD : va_D (fun q : Nat => s.heap.size ≤ q) (fxL K x fs ++ mdL K y fm)) (hPx : va_P D vwCl (fxL K x fs) H) (hPm : va_P D vwCl (mdL K y fm) H) (hS : va_S (fun q : Nat => s.heap.size ≤ q) s.heap H locs) (ls : Array Slot) (hl : lv_has ls 4 [(3, .int 0), (2, .ref (y 0)), (1, .ref (x 0)), (0, .ref b)]) : W p l e room_1 s m #[Value.ref b] below meth c H locs 900 150000 (lw_Z below #[Value.ref b] s) (F0 m 1023 ls []) := by
  have hx := hC.1
  have hb := hC.2.1
  have hown := hC.2.2.2.1
  have hts := hC.2.2.2.2
  have hbA : ¬ (fun q : Nat => s.heap.size ≤ q) b := Nat.not_le.mpr hbl
  refine lv_aload_n hx hb dL_law_1023 rfl (lv_at hl 2 rfl) ?_
  refine lv_aload_n hx hb dL_law_1024 rfl (lv_at hl 3 rfl) ?_
  refine lv_iload_n hx hb dL_law_1025 rfl (lv_at hl 0 rfl) ?_
  refine lv_iconst (v := 1) hx hb dL_law_1026 (by decide) ?_
  refine lv_iadd hx hb dL_law_1027 ?_
  refine tc (y := 1) (by decide) ?_
  refine va_sld hx hb hX hbl hbA hS (in_c (by decide)) dL_law_1028 ?_
  refine tc (y := xs 1) (congrArg xs (by decide)) ?_
  refine ro_V (As := [.int (xs 1)]) (rest := []) hC hE kV_L_118 (c_X11_home l D K x fs hfs (xs 1)) hPx 0 10 rfl rfl rfl hl.1 rfl (Nat.le_of_ble_eq_true rfl) ⟨(Nat.le_of_ble_eq_true rfl), (Nat.le_of_ble_eq_true rfl)⟩ ⟨(Nat.le_of_ble_eq_true rfl), (Nat.le_of_ble_eq_true rfl)⟩ dL_law_1029 (fun r1 hw1 => ?_)
  refine lv_aload_n hx hb dL_law_1032 rfl (lv_at hl 1 rfl) ?_
  refine lv_aload_n hx hb dL_law_1033 rfl (lv_at hl 3 rfl) ?_
  refine lv_iload_n hx hb dL_law_1034 rfl (lv_at hl 0 rfl) ?_
  refine lv_iconst (v := 1) hx hb dL_law_1035 (by decide) ?_
  refine lv_iadd hx hb dL_law_1036 ?_
  refine tc (y := 1) (by decide) ?_
  refine va_sld hx hb hX hbl hbA hS (in_c (by decide)) dL_law_1037 ?_
  refine tc (y := xs 1) (congrArg xs (by decide)) ?_
  refine ro_V (As := [.int (xs 1)]) (rest := [.int r1]) hC hE kV_L_121 (c_X12_home l D K y fm hfm (xs 1)) hPm 0 11 rfl rfl rfl hl.1 rfl (Nat.le_of_ble_eq_true rfl) ⟨(Nat.le_of_ble_eq_true rfl), (Nat.le_of_ble_eq_true rfl)⟩ ⟨(Nat.le_of_ble_eq_true rfl), (Nat.le_of_ble_eq_true rfl)⟩ dL_law_1038 (fun r2 hw2 => ?_)
  refine lv_icmp_eq (tgt := 2343) hx hb dL_law_1041 (by decide) (fun _ => ?_) (fun h => absurd (hw1.trans hw2.symm) h)
  refine W.widen (k := 1000) (n := 200000) (Nat.le_of_ble_eq_true rfl) (Nat.le_of_ble_eq_true rfl) ?_
  exact law_next hC hr hk hX hbl hS (lv_sub hl [3, 0] rfl)
set_option maxRecDepth 40000 in
set_option maxHeartbeats 4000000 in
theorem law_26 {p : Program} {l : Launch} {e : Env} {s : State} {m : MethodId} {below : List Frame} {meth : Method} {c : Code} {b : Nat} {xs : Nat → Int32} {D : va_G} {K : Nat → ClassId} (hC : CallFix p m c cL_law 4 s #[Value.ref b] wl RL) (hr : meth.sig.returnType = ret) (hk : meth.locks = false) (hX : va_X b 6 xs s s.heap) (hbl : b < s.heap.size) (hE : ev D K s) (x y : Nat → Nat) (fs fm : Nat → Int32) (hfs : ∀ j, j < 4 → fs j = -1) (hfm : ∀ j, j < 4 → fm j = -1) (H : Heap) (locs : List Loc) (hP : va_P D vwCl (fxL K x fs ++ mdL K y fm) H) (hD : va_D (fun q : Nat => s.heap.size ≤ q) (fxL K x fs ++ mdL K y fm)) (hPx : va_P D vwCl (fxL K x fs) H) (hPm : va_P D vwCl (mdL K y fm) H) (hS : va_S (fun q : Nat => s.heap.size ≤ q) s.heap H locs) (ls : Array Slot) (hl : lv_has ls 4 [(3, .int 0), (2, .ref (y 0)), (1, .ref (x 0)), (0, .ref b)]) : W p l e room_1 s m #[Value.ref b] below meth c H locs 900 150000 (lw_Z below #[Value.ref b] s) (F0 m 1046 ls []) := by
  have hx := hC.1
  have hb := hC.2.1
  have hown := hC.2.2.2.1
  have hts := hC.2.2.2.2
  have hbA : ¬ (fun q : Nat => s.heap.size ≤ q) b := Nat.not_le.mpr hbl
  refine lv_aload_n hx hb dL_law_1046 rfl (lv_at hl 2 rfl) ?_
  refine lv_aload_n hx hb dL_law_1047 rfl (lv_at hl 3 rfl) ?_
  refine lv_iload_n hx hb dL_law_1048 rfl (lv_at hl 0 rfl) ?_
  refine lv_iconst (v := 1) hx hb dL_law_1049 (by decide) ?_
  refine lv_iadd hx hb dL_law_1050 ?_
  refine tc (y := 1) (by decide) ?_
  refine va_sld hx hb hX hbl hbA hS (in_c (by decide)) dL_law_1051 ?_
  refine tc (y := xs 1) (congrArg xs (by decide)) ?_
  refine lv_aload_n hx hb dL_law_1052 rfl (lv_at hl 3 rfl) ?_
  refine lv_iload_n hx hb dL_law_1053 rfl (lv_at hl 0 rfl) ?_
  refine lv_iconst (v := 2) hx hb dL_law_1054 (by decide) ?_
  refine lv_iadd hx hb dL_law_1055 ?_
  refine tc (y := 2) (by decide) ?_
  refine va_sld hx hb hX hbl hbA hS (in_c (by decide)) dL_law_1056 ?_
  refine tc (y := xs 2) (congrArg xs (by decide)) ?_
  refine ro_V (As := [.int (xs 1), .int (xs 2)]) (rest := []) hC hE kV_L_122 (c_X11_homes l D K x fs hfs (xs 1) (xs 2)) hPx 0 10 rfl rfl rfl hl.1 rfl (Nat.le_of_ble_eq_true rfl) ⟨(Nat.le_of_ble_eq_true rfl), (Nat.le_of_ble_eq_true rfl)⟩ ⟨(Nat.le_of_ble_eq_true rfl), (Nat.le_of_ble_eq_true rfl)⟩ dL_law_1057 (fun r1 hw1 => ?_)
  refine lv_aload_n hx hb dL_law_1060 rfl (lv_at hl 1 rfl) ?_
  refine lv_aload_n hx hb dL_law_1061 rfl (lv_at hl 3 rfl) ?_
  refine lv_iload_n hx hb dL_law_1062 rfl (lv_at hl 0 rfl) ?_
  refine lv_iconst (v := 1) hx hb dL_law_1063 (by decide) ?_
  refine lv_iadd hx hb dL_law_1064 ?_
  refine tc (y := 1) (by decide) ?_
  refine va_sld hx hb hX hbl hbA hS (in_c (by decide)) dL_law_1065 ?_
  refine tc (y := xs 1) (congrArg xs (by decide)) ?_
  refine lv_aload_n hx hb dL_law_1066 rfl (lv_at hl 3 rfl) ?_
  refine lv_iload_n hx hb dL_law_1067 rfl (lv_at hl 0 rfl) ?_
  refine lv_iconst (v := 2) hx hb dL_law_1068 (by decide) ?_
  refine lv_iadd hx hb dL_law_1069 ?_
  refine tc (y := 2) (by decide) ?_
  refine va_sld hx hb hX hbl hbA hS (in_c (by decide)) dL_law_1070 ?_
  refine tc (y := xs 2) (congrArg xs (by decide)) ?_
  refine ro_V (As := [.int (xs 1), .int (xs 2)]) (rest := [.int r1]) hC hE kV_L_125 (c_X12_homes l D K y fm hfm (xs 1) (xs 2)) hPm 0 11 rfl rfl rfl hl.1 rfl (Nat.le_of_ble_eq_true rfl) ⟨(Nat.le_of_ble_eq_true rfl), (Nat.le_of_ble_eq_true rfl)⟩ ⟨(Nat.le_of_ble_eq_true rfl), (Nat.le_of_ble_eq_true rfl)⟩ dL_law_1071 (fun r2 hw2 => ?_)
  refine lv_icmp_eq (tgt := 2343) hx hb dL_law_1074 (by decide) (fun _ => ?_) (fun h => absurd (hw1.trans hw2.symm) h)
  refine W.widen (k := 1000) (n := 200000) (Nat.le_of_ble_eq_true rfl) (Nat.le_of_ble_eq_true rfl) ?_
  exact law_next hC hr hk hX hbl hS (lv_sub hl [3, 0] rfl)
set_option maxRecDepth 40000 in
set_option maxHeartbeats 4000000 in
theorem law_27 {p : Program} {l : Launch} {e : Env} {s : State} {m : MethodId} {below : List Frame} {meth : Method} {c : Code} {b : Nat} {xs : Nat → Int32} {D : va_G} {K : Nat → ClassId} (hC : CallFix p m c cL_law 4 s #[Value.ref b] wl RL) (hr : meth.sig.returnType = ret) (hk : meth.locks = false) (hX : va_X b 6 xs s s.heap) (hbl : b < s.heap.size) (hE : ev D K s) (x y : Nat → Nat) (fs fm : Nat → Int32) (hfs : ∀ j, j < 4 → fs j = -1) (hfm : ∀ j, j < 4 → fm j = -1) (H : Heap) (locs : List Loc) (hP : va_P D vwCl (fxL K x fs ++ mdL K y fm) H) (hD : va_D (fun q : Nat => s.heap.size ≤ q) (fxL K x fs ++ mdL K y fm)) (hPx : va_P D vwCl (fxL K x fs) H) (hPm : va_P D vwCl (mdL K y fm) H) (hS : va_S (fun q : Nat => s.heap.size ≤ q) s.heap H locs) (ls : Array Slot) (hl : lv_has ls 4 [(3, .int 0), (2, .ref (y 0)), (1, .ref (x 0)), (0, .ref b)]) : W p l e room_1 s m #[Value.ref b] below meth c H locs 900 150000 (lw_Z below #[Value.ref b] s) (F0 m 1079 ls []) := by
  have hx := hC.1
  have hb := hC.2.1
  have hown := hC.2.2.2.1
  have hts := hC.2.2.2.2
  have hbA : ¬ (fun q : Nat => s.heap.size ≤ q) b := Nat.not_le.mpr hbl
  refine lv_aload_n hx hb dL_law_1079 rfl (lv_at hl 2 rfl) ?_
  refine lv_aload_n hx hb dL_law_1080 rfl (lv_at hl 3 rfl) ?_
  refine lv_iload_n hx hb dL_law_1081 rfl (lv_at hl 0 rfl) ?_
  refine lv_iconst (v := 1) hx hb dL_law_1082 (by decide) ?_
  refine lv_iadd hx hb dL_law_1083 ?_
  refine tc (y := 1) (by decide) ?_
  refine va_sld hx hb hX hbl hbA hS (in_c (by decide)) dL_law_1084 ?_
  refine tc (y := xs 1) (congrArg xs (by decide)) ?_
  refine ro_V (As := [.int (xs 1)]) (rest := []) hC hE kV_L_126 (c_X11_states l D K x fs hfs (xs 1)) hPx 0 10 rfl rfl rfl hl.1 rfl (Nat.le_of_ble_eq_true rfl) ⟨(Nat.le_of_ble_eq_true rfl), (Nat.le_of_ble_eq_true rfl)⟩ ⟨(Nat.le_of_ble_eq_true rfl), (Nat.le_of_ble_eq_true rfl)⟩ dL_law_1085 (fun r1 hw1 => ?_)
  refine lv_aload_n hx hb dL_law_1088 rfl (lv_at hl 1 rfl) ?_
  refine lv_aload_n hx hb dL_law_1089 rfl (lv_at hl 3 rfl) ?_
  refine lv_iload_n hx hb dL_law_1090 rfl (lv_at hl 0 rfl) ?_
  refine lv_iconst (v := 1) hx hb dL_law_1091 (by decide) ?_
  refine lv_iadd hx hb dL_law_1092 ?_
  refine tc (y := 1) (by decide) ?_
  refine va_sld hx hb hX hbl hbA hS (in_c (by decide)) dL_law_1093 ?_
  refine tc (y := xs 1) (congrArg xs (by decide)) ?_
  refine ro_V (As := [.int (xs 1)]) (rest := [.int r1]) hC hE kV_L_129 (c_X12_states l D K y fm hfm (xs 1)) hPm 0 11 rfl rfl rfl hl.1 rfl (Nat.le_of_ble_eq_true rfl) ⟨(Nat.le_of_ble_eq_true rfl), (Nat.le_of_ble_eq_true rfl)⟩ ⟨(Nat.le_of_ble_eq_true rfl), (Nat.le_of_ble_eq_true rfl)⟩ dL_law_1094 (fun r2 hw2 => ?_)
  refine lv_icmp_eq (tgt := 2343) hx hb dL_law_1097 (by decide) (fun _ => ?_) (fun h => absurd (hw1.trans hw2.symm) h)
  refine W.widen (k := 1000) (n := 200000) (Nat.le_of_ble_eq_true rfl) (Nat.le_of_ble_eq_true rfl) ?_
  exact law_next hC hr hk hX hbl hS (lv_sub hl [3, 0] rfl)
set_option maxRecDepth 40000 in
set_option maxHeartbeats 4000000 in
theorem law_28 {p : Program} {l : Launch} {e : Env} {s : State} {m : MethodId} {below : List Frame} {meth : Method} {c : Code} {b : Nat} {xs : Nat → Int32} {D : va_G} {K : Nat → ClassId} (hC : CallFix p m c cL_law 4 s #[Value.ref b] wl RL) (hr : meth.sig.returnType = ret) (hk : meth.locks = false) (hX : va_X b 6 xs s s.heap) (hbl : b < s.heap.size) (hE : ev D K s) (x y : Nat → Nat) (fs fm : Nat → Int32) (hfs : ∀ j, j < 4 → fs j = -1) (hfm : ∀ j, j < 4 → fm j = -1) (H : Heap) (locs : List Loc) (hP : va_P D vwCl (fxL K x fs ++ mdL K y fm) H) (hD : va_D (fun q : Nat => s.heap.size ≤ q) (fxL K x fs ++ mdL K y fm)) (hPx : va_P D vwCl (fxL K x fs) H) (hPm : va_P D vwCl (mdL K y fm) H) (hS : va_S (fun q : Nat => s.heap.size ≤ q) s.heap H locs) (ls : Array Slot) (hl : lv_has ls 4 [(3, .int 0), (2, .ref (y 0)), (1, .ref (x 0)), (0, .ref b)]) : W p l e room_1 s m #[Value.ref b] below meth c H locs 900 150000 (lw_Z below #[Value.ref b] s) (F0 m 1102 ls []) := by
  have hx := hC.1
  have hb := hC.2.1
  have hown := hC.2.2.2.1
  have hts := hC.2.2.2.2
  have hbA : ¬ (fun q : Nat => s.heap.size ≤ q) b := Nat.not_le.mpr hbl
  refine lv_aload_n hx hb dL_law_1102 rfl (lv_at hl 2 rfl) ?_
  refine lv_aload_n hx hb dL_law_1103 rfl (lv_at hl 3 rfl) ?_
  refine lv_iload_n hx hb dL_law_1104 rfl (lv_at hl 0 rfl) ?_
  refine lv_iconst (v := 1) hx hb dL_law_1105 (by decide) ?_
  refine lv_iadd hx hb dL_law_1106 ?_
  refine tc (y := 1) (by decide) ?_
  refine va_sld hx hb hX hbl hbA hS (in_c (by decide)) dL_law_1107 ?_
  refine tc (y := xs 1) (congrArg xs (by decide)) ?_
  refine ro_V (As := [.int (xs 1)]) (rest := []) hC hE kV_L_130 (c_X11_plan l D K x fs hfs (xs 1)) hPx 0 10 rfl rfl rfl hl.1 rfl (Nat.le_of_ble_eq_true rfl) ⟨(Nat.le_of_ble_eq_true rfl), (Nat.le_of_ble_eq_true rfl)⟩ ⟨(Nat.le_of_ble_eq_true rfl), (Nat.le_of_ble_eq_true rfl)⟩ dL_law_1108 (fun r1 hw1 => ?_)
  refine lv_aload_n hx hb dL_law_1111 rfl (lv_at hl 1 rfl) ?_
  refine lv_aload_n hx hb dL_law_1112 rfl (lv_at hl 3 rfl) ?_
  refine lv_iload_n hx hb dL_law_1113 rfl (lv_at hl 0 rfl) ?_
  refine lv_iconst (v := 1) hx hb dL_law_1114 (by decide) ?_
  refine lv_iadd hx hb dL_law_1115 ?_
  refine tc (y := 1) (by decide) ?_
  refine va_sld hx hb hX hbl hbA hS (in_c (by decide)) dL_law_1116 ?_
  refine tc (y := xs 1) (congrArg xs (by decide)) ?_
  refine ro_V (As := [.int (xs 1)]) (rest := [.int r1]) hC hE kV_L_133 (c_X12_plan l D K y fm hfm (xs 1)) hPm 0 11 rfl rfl rfl hl.1 rfl (Nat.le_of_ble_eq_true rfl) ⟨(Nat.le_of_ble_eq_true rfl), (Nat.le_of_ble_eq_true rfl)⟩ ⟨(Nat.le_of_ble_eq_true rfl), (Nat.le_of_ble_eq_true rfl)⟩ dL_law_1117 (fun r2 hw2 => ?_)
  refine lv_icmp_eq (tgt := 2343) hx hb dL_law_1120 (by decide) (fun _ => ?_) (fun h => absurd (hw1.trans hw2.symm) h)
  refine W.widen (k := 1000) (n := 200000) (Nat.le_of_ble_eq_true rfl) (Nat.le_of_ble_eq_true rfl) ?_
  exact law_next hC hr hk hX hbl hS (lv_sub hl [3, 0] rfl)
set_option maxRecDepth 40000 in
set_option maxHeartbeats 4000000 in
theorem law_29 {p : Program} {l : Launch} {e : Env} {s : State} {m : MethodId} {below : List Frame} {meth : Method} {c : Code} {b : Nat} {xs : Nat → Int32} {D : va_G} {K : Nat → ClassId} (hC : CallFix p m c cL_law 4 s #[Value.ref b] wl RL) (hr : meth.sig.returnType = ret) (hk : meth.locks = false) (hX : va_X b 6 xs s s.heap) (hbl : b < s.heap.size) (hE : ev D K s) (x y : Nat → Nat) (fs fm : Nat → Int32) (hfs : ∀ j, j < 4 → fs j = -1) (hfm : ∀ j, j < 4 → fm j = -1) (H : Heap) (locs : List Loc) (hP : va_P D vwCl (fxL K x fs ++ mdL K y fm) H) (hD : va_D (fun q : Nat => s.heap.size ≤ q) (fxL K x fs ++ mdL K y fm)) (hPx : va_P D vwCl (fxL K x fs) H) (hPm : va_P D vwCl (mdL K y fm) H) (hS : va_S (fun q : Nat => s.heap.size ≤ q) s.heap H locs) (ls : Array Slot) (hl : lv_has ls 4 [(3, .int 0), (2, .ref (y 0)), (1, .ref (x 0)), (0, .ref b)]) : W p l e room_1 s m #[Value.ref b] below meth c H locs 900 150000 (lw_Z below #[Value.ref b] s) (F0 m 1125 ls []) := by
  have hx := hC.1
  have hb := hC.2.1
  have hown := hC.2.2.2.1
  have hts := hC.2.2.2.2
  have hbA : ¬ (fun q : Nat => s.heap.size ≤ q) b := Nat.not_le.mpr hbl
  refine lv_aload_n hx hb dL_law_1125 rfl (lv_at hl 2 rfl) ?_
  refine lv_aload_n hx hb dL_law_1126 rfl (lv_at hl 3 rfl) ?_
  refine lv_iload_n hx hb dL_law_1127 rfl (lv_at hl 0 rfl) ?_
  refine lv_iconst (v := 1) hx hb dL_law_1128 (by decide) ?_
  refine lv_iadd hx hb dL_law_1129 ?_
  refine tc (y := 1) (by decide) ?_
  refine va_sld hx hb hX hbl hbA hS (in_c (by decide)) dL_law_1130 ?_
  refine tc (y := xs 1) (congrArg xs (by decide)) ?_
  refine ro_V (As := [.int (xs 1)]) (rest := []) hC hE kV_L_134 (c_X11_first l D K x fs hfs (xs 1)) hPx 0 10 rfl rfl rfl hl.1 rfl (Nat.le_of_ble_eq_true rfl) ⟨(Nat.le_of_ble_eq_true rfl), (Nat.le_of_ble_eq_true rfl)⟩ ⟨(Nat.le_of_ble_eq_true rfl), (Nat.le_of_ble_eq_true rfl)⟩ dL_law_1131 (fun r1 hw1 => ?_)
  refine lv_aload_n hx hb dL_law_1134 rfl (lv_at hl 1 rfl) ?_
  refine lv_aload_n hx hb dL_law_1135 rfl (lv_at hl 3 rfl) ?_
  refine lv_iload_n hx hb dL_law_1136 rfl (lv_at hl 0 rfl) ?_
  refine lv_iconst (v := 1) hx hb dL_law_1137 (by decide) ?_
  refine lv_iadd hx hb dL_law_1138 ?_
  refine tc (y := 1) (by decide) ?_
  refine va_sld hx hb hX hbl hbA hS (in_c (by decide)) dL_law_1139 ?_
  refine tc (y := xs 1) (congrArg xs (by decide)) ?_
  refine ro_V (As := [.int (xs 1)]) (rest := [.int r1]) hC hE kV_L_137 (c_X12_first l D K y fm hfm (xs 1)) hPm 0 11 rfl rfl rfl hl.1 rfl (Nat.le_of_ble_eq_true rfl) ⟨(Nat.le_of_ble_eq_true rfl), (Nat.le_of_ble_eq_true rfl)⟩ ⟨(Nat.le_of_ble_eq_true rfl), (Nat.le_of_ble_eq_true rfl)⟩ dL_law_1140 (fun r2 hw2 => ?_)
  refine lv_icmp_eq (tgt := 2343) hx hb dL_law_1143 (by decide) (fun _ => ?_) (fun h => absurd (hw1.trans hw2.symm) h)
  refine W.widen (k := 1000) (n := 200000) (Nat.le_of_ble_eq_true rfl) (Nat.le_of_ble_eq_true rfl) ?_
  exact law_next hC hr hk hX hbl hS (lv_sub hl [3, 0] rfl)
set_option maxRecDepth 40000 in
set_option maxHeartbeats 4000000 in
theorem law_30 {p : Program} {l : Launch} {e : Env} {s : State} {m : MethodId} {below : List Frame} {meth : Method} {c : Code} {b : Nat} {xs : Nat → Int32} {D : va_G} {K : Nat → ClassId} (hC : CallFix p m c cL_law 4 s #[Value.ref b] wl RL) (hr : meth.sig.returnType = ret) (hk : meth.locks = false) (hX : va_X b 6 xs s s.heap) (hbl : b < s.heap.size) (hE : ev D K s) (x y : Nat → Nat) (fs fm : Nat → Int32) (hfs : ∀ j, j < 4 → fs j = -1) (hfm : ∀ j, j < 4 → fm j = -1) (H : Heap) (locs : List Loc) (hP : va_P D vwCl (fxL K x fs ++ mdL K y fm) H) (hD : va_D (fun q : Nat => s.heap.size ≤ q) (fxL K x fs ++ mdL K y fm)) (hPx : va_P D vwCl (fxL K x fs) H) (hPm : va_P D vwCl (mdL K y fm) H) (hS : va_S (fun q : Nat => s.heap.size ≤ q) s.heap H locs) (ls : Array Slot) (hl : lv_has ls 4 [(3, .int 0), (2, .ref (y 0)), (1, .ref (x 0)), (0, .ref b)]) : W p l e room_1 s m #[Value.ref b] below meth c H locs 900 150000 (lw_Z below #[Value.ref b] s) (F0 m 1148 ls []) := by
  have hx := hC.1
  have hb := hC.2.1
  have hown := hC.2.2.2.1
  have hts := hC.2.2.2.2
  have hbA : ¬ (fun q : Nat => s.heap.size ≤ q) b := Nat.not_le.mpr hbl
  refine lv_aload_n hx hb dL_law_1148 rfl (lv_at hl 2 rfl) ?_
  refine ro_V (As := []) (rest := []) hC hE kV_L_138 (c_X11_hardest l D K x fs hfs) hPx 0 10 rfl rfl rfl hl.1 rfl (Nat.le_of_ble_eq_true rfl) ⟨(Nat.le_of_ble_eq_true rfl), (Nat.le_of_ble_eq_true rfl)⟩ ⟨(Nat.le_of_ble_eq_true rfl), (Nat.le_of_ble_eq_true rfl)⟩ dL_law_1149 (fun r1 hw1 => ?_)
  refine lv_aload_n hx hb dL_law_1152 rfl (lv_at hl 1 rfl) ?_
  refine ro_V (As := []) (rest := [.int r1]) hC hE kV_L_141 (c_X12_hardest l D K y fm hfm) hPm 0 11 rfl rfl rfl hl.1 rfl (Nat.le_of_ble_eq_true rfl) ⟨(Nat.le_of_ble_eq_true rfl), (Nat.le_of_ble_eq_true rfl)⟩ ⟨(Nat.le_of_ble_eq_true rfl), (Nat.le_of_ble_eq_true rfl)⟩ dL_law_1153 (fun r2 hw2 => ?_)
  refine lv_icmp_eq (tgt := 2343) hx hb dL_law_1156 (by decide) (fun _ => ?_) (fun h => absurd (hw1.trans hw2.symm) h)
  refine W.widen (k := 1000) (n := 200000) (Nat.le_of_ble_eq_true rfl) (Nat.le_of_ble_eq_true rfl) ?_
  exact law_next hC hr hk hX hbl hS (lv_sub hl [3, 0] rfl)
set_option maxRecDepth 40000 in
set_option maxHeartbeats 4000000 in
theorem law_31 {p : Program} {l : Launch} {e : Env} {s : State} {m : MethodId} {below : List Frame} {meth : Method} {c : Code} {b : Nat} {xs : Nat → Int32} {D : va_G} {K : Nat → ClassId} (hC : CallFix p m c cL_law 4 s #[Value.ref b] wl RL) (hr : meth.sig.returnType = ret) (hk : meth.locks = false) (hX : va_X b 6 xs s s.heap) (hbl : b < s.heap.size) (hE : ev D K s) (x y : Nat → Nat) (fs fm : Nat → Int32) (hfs : ∀ j, j < 4 → fs j = -1) (hfm : ∀ j, j < 4 → fm j = -1) (H : Heap) (locs : List Loc) (hP : va_P D vwCl (fxL K x fs ++ mdL K y fm) H) (hD : va_D (fun q : Nat => s.heap.size ≤ q) (fxL K x fs ++ mdL K y fm)) (hPx : va_P D vwCl (fxL K x fs) H) (hPm : va_P D vwCl (mdL K y fm) H) (hS : va_S (fun q : Nat => s.heap.size ≤ q) s.heap H locs) (ls : Array Slot) (hl : lv_has ls 4 [(3, .int 0), (2, .ref (y 0)), (1, .ref (x 0)), (0, .ref b)]) : W p l e room_1 s m #[Value.ref b] below meth c H locs 900 150000 (lw_Z below #[Value.ref b] s) (F0 m 1161 ls []) := by
  have hx := hC.1
  have hb := hC.2.1
  have hown := hC.2.2.2.1
  have hts := hC.2.2.2.2
  have hbA : ¬ (fun q : Nat => s.heap.size ≤ q) b := Nat.not_le.mpr hbl
  refine lv_aload_n hx hb dL_law_1161 rfl (lv_at hl 2 rfl) ?_
  refine lv_aload_n hx hb dL_law_1162 rfl (lv_at hl 3 rfl) ?_
  refine lv_iload_n hx hb dL_law_1163 rfl (lv_at hl 0 rfl) ?_
  refine lv_iconst (v := 1) hx hb dL_law_1164 (by decide) ?_
  refine lv_iadd hx hb dL_law_1165 ?_
  refine tc (y := 1) (by decide) ?_
  refine va_sld hx hb hX hbl hbA hS (in_c (by decide)) dL_law_1166 ?_
  refine tc (y := xs 1) (congrArg xs (by decide)) ?_
  refine lv_aload_n hx hb dL_law_1167 rfl (lv_at hl 3 rfl) ?_
  refine lv_iload_n hx hb dL_law_1168 rfl (lv_at hl 0 rfl) ?_
  refine lv_iconst (v := 2) hx hb dL_law_1169 (by decide) ?_
  refine lv_iadd hx hb dL_law_1170 ?_
  refine tc (y := 2) (by decide) ?_
  refine va_sld hx hb hX hbl hbA hS (in_c (by decide)) dL_law_1171 ?_
  refine tc (y := xs 2) (congrArg xs (by decide)) ?_
  refine ro_V (As := [.int (xs 1), .int (xs 2)]) (rest := []) hC hE kV_L_142 (c_X11_alike l D K x fs hfs (xs 1) (xs 2)) hPx 0 10 rfl rfl rfl hl.1 rfl (Nat.le_of_ble_eq_true rfl) ⟨(Nat.le_of_ble_eq_true rfl), (Nat.le_of_ble_eq_true rfl)⟩ ⟨(Nat.le_of_ble_eq_true rfl), (Nat.le_of_ble_eq_true rfl)⟩ dL_law_1172 (fun r1 hw1 => ?_)
  refine lv_aload_n hx hb dL_law_1175 rfl (lv_at hl 1 rfl) ?_
  refine lv_aload_n hx hb dL_law_1176 rfl (lv_at hl 3 rfl) ?_
  refine lv_iload_n hx hb dL_law_1177 rfl (lv_at hl 0 rfl) ?_
  refine lv_iconst (v := 1) hx hb dL_law_1178 (by decide) ?_
  refine lv_iadd hx hb dL_law_1179 ?_
  refine tc (y := 1) (by decide) ?_
  refine va_sld hx hb hX hbl hbA hS (in_c (by decide)) dL_law_1180 ?_
  refine tc (y := xs 1) (congrArg xs (by decide)) ?_
  refine lv_aload_n hx hb dL_law_1181 rfl (lv_at hl 3 rfl) ?_
  refine lv_iload_n hx hb dL_law_1182 rfl (lv_at hl 0 rfl) ?_
  refine lv_iconst (v := 2) hx hb dL_law_1183 (by decide) ?_
  refine lv_iadd hx hb dL_law_1184 ?_
  refine tc (y := 2) (by decide) ?_
  refine va_sld hx hb hX hbl hbA hS (in_c (by decide)) dL_law_1185 ?_
  refine tc (y := xs 2) (congrArg xs (by decide)) ?_
  refine ro_V (As := [.int (xs 1), .int (xs 2)]) (rest := [.int r1]) hC hE kV_L_145 (c_X12_alike l D K y fm hfm (xs 1) (xs 2)) hPm 0 11 rfl rfl rfl hl.1 rfl (Nat.le_of_ble_eq_true rfl) ⟨(Nat.le_of_ble_eq_true rfl), (Nat.le_of_ble_eq_true rfl)⟩ ⟨(Nat.le_of_ble_eq_true rfl), (Nat.le_of_ble_eq_true rfl)⟩ dL_law_1186 (fun r2 hw2 => ?_)
  refine lv_icmp_eq (tgt := 2343) hx hb dL_law_1189 (by decide) (fun _ => ?_) (fun h => absurd (hw1.trans hw2.symm) h)
  refine W.widen (k := 1000) (n := 200000) (Nat.le_of_ble_eq_true rfl) (Nat.le_of_ble_eq_true rfl) ?_
  exact law_next hC hr hk hX hbl hS (lv_sub hl [3, 0] rfl)
set_option maxRecDepth 40000 in
set_option maxHeartbeats 4000000 in
theorem law_32 {p : Program} {l : Launch} {e : Env} {s : State} {m : MethodId} {below : List Frame} {meth : Method} {c : Code} {b : Nat} {xs : Nat → Int32} {D : va_G} {K : Nat → ClassId} (hC : CallFix p m c cL_law 4 s #[Value.ref b] wl RL) (hr : meth.sig.returnType = ret) (hk : meth.locks = false) (hX : va_X b 6 xs s s.heap) (hbl : b < s.heap.size) (hE : ev D K s) (x y : Nat → Nat) (fs fm : Nat → Int32) (hfs : ∀ j, j < 4 → fs j = -1) (hfm : ∀ j, j < 4 → fm j = -1) (H : Heap) (locs : List Loc) (hP : va_P D vwCl (fxL K x fs ++ mdL K y fm) H) (hD : va_D (fun q : Nat => s.heap.size ≤ q) (fxL K x fs ++ mdL K y fm)) (hPx : va_P D vwCl (fxL K x fs) H) (hPm : va_P D vwCl (mdL K y fm) H) (hS : va_S (fun q : Nat => s.heap.size ≤ q) s.heap H locs) (ls : Array Slot) (hl : lv_has ls 4 [(3, .int 0), (2, .ref (y 0)), (1, .ref (x 0)), (0, .ref b)]) : W p l e room_1 s m #[Value.ref b] below meth c H locs 900 150000 (lw_Z below #[Value.ref b] s) (F0 m 1194 ls []) := by
  have hx := hC.1
  have hb := hC.2.1
  have hown := hC.2.2.2.1
  have hts := hC.2.2.2.2
  have hbA : ¬ (fun q : Nat => s.heap.size ≤ q) b := Nat.not_le.mpr hbl
  refine lv_aload_n hx hb dL_law_1194 rfl (lv_at hl 2 rfl) ?_
  refine ro_V (As := []) (rest := []) hC hE kV_L_146 (c_X11_kinds l D K x fs hfs) hPx 0 10 rfl rfl rfl hl.1 rfl (Nat.le_of_ble_eq_true rfl) ⟨(Nat.le_of_ble_eq_true rfl), (Nat.le_of_ble_eq_true rfl)⟩ ⟨(Nat.le_of_ble_eq_true rfl), (Nat.le_of_ble_eq_true rfl)⟩ dL_law_1195 (fun r1 hw1 => ?_)
  refine lv_aload_n hx hb dL_law_1198 rfl (lv_at hl 1 rfl) ?_
  refine ro_V (As := []) (rest := [.int r1]) hC hE kV_L_149 (c_X12_kinds l D K y fm hfm) hPm 0 11 rfl rfl rfl hl.1 rfl (Nat.le_of_ble_eq_true rfl) ⟨(Nat.le_of_ble_eq_true rfl), (Nat.le_of_ble_eq_true rfl)⟩ ⟨(Nat.le_of_ble_eq_true rfl), (Nat.le_of_ble_eq_true rfl)⟩ dL_law_1199 (fun r2 hw2 => ?_)
  refine lv_icmp_eq (tgt := 2343) hx hb dL_law_1202 (by decide) (fun _ => ?_) (fun h => absurd (hw1.trans hw2.symm) h)
  refine W.widen (k := 1000) (n := 200000) (Nat.le_of_ble_eq_true rfl) (Nat.le_of_ble_eq_true rfl) ?_
  exact law_next hC hr hk hX hbl hS (lv_sub hl [3, 0] rfl)
