set_option maxRecDepth 40000 in
set_option maxHeartbeats 4000000 in
theorem law_50 {p : Program} {l : Launch} {e : Env} {s : State} {m : MethodId} {below : List Frame} {meth : Method} {c : Code} {b : Nat} {xs : Nat → Int32} {D : va_G} {K : Nat → ClassId} (hC : CallFix p m c cL_law 4 s #[Value.ref b] wl RL) (hr : meth.sig.returnType = ret) (hk : meth.locks = false) (hX : va_X b 6 xs s s.heap) (hbl : b < s.heap.size) (hE : ev D K s) (x y : Nat → Nat) (fs fm : Nat → Int32) (hfs : ∀ j, j < 4 → fs j = -1) (hfm : ∀ j, j < 4 → fm j = -1) (H : Heap) (locs : List Loc) (hP : va_P D vwCl (fxL K x fs ++ mdL K y fm) H) (hD : va_D (fun q : Nat => s.heap.size ≤ q) (fxL K x fs ++ mdL K y fm)) (hPx : va_P D vwCl (fxL K x fs) H) (hPm : va_P D vwCl (mdL K y fm) H) (hS : va_S (fun q : Nat => s.heap.size ≤ q) s.heap H locs) (ls : Array Slot) (hl : lv_has ls 4 [(3, .int 0), (2, .ref (y 0)), (1, .ref (x 0)), (0, .ref b)]) : W p l e room_1 s m #[Value.ref b] below meth c H locs 900 150000 (lw_Z below #[Value.ref b] s) (F0 m 1728 ls []) := by
  have hx := hC.1
  have hb := hC.2.1
  have hown := hC.2.2.2.1
  have hts := hC.2.2.2.2
  have hbA : ¬ (fun q : Nat => s.heap.size ≤ q) b := Nat.not_le.mpr hbl
  refine lv_aload_n hx hb dL_law_1728 rfl (lv_at hl 2 rfl) ?_
  refine lv_aload_n hx hb dL_law_1729 rfl (lv_at hl 3 rfl) ?_
  refine lv_iload_n hx hb dL_law_1730 rfl (lv_at hl 0 rfl) ?_
  refine lv_iconst (v := 1) hx hb dL_law_1731 (by decide) ?_
  refine lv_iadd hx hb dL_law_1732 ?_
  refine tc (y := 1) (by decide) ?_
  refine va_sld hx hb hX hbl hbA hS (in_c (by decide)) dL_law_1733 ?_
  refine tc (y := xs 1) (congrArg xs (by decide)) ?_
  refine lv_aload_n hx hb dL_law_1734 rfl (lv_at hl 3 rfl) ?_
  refine lv_iload_n hx hb dL_law_1735 rfl (lv_at hl 0 rfl) ?_
  refine lv_iconst (v := 2) hx hb dL_law_1736 (by decide) ?_
  refine lv_iadd hx hb dL_law_1737 ?_
  refine tc (y := 2) (by decide) ?_
  refine va_sld hx hb hX hbl hbA hS (in_c (by decide)) dL_law_1738 ?_
  refine tc (y := xs 2) (congrArg xs (by decide)) ?_
  refine ro_V (As := [.int (xs 1), .int (xs 2)]) (rest := []) hC hE kV_L_218 (c_X11_dark l D K x fs hfs (xs 1) (xs 2)) hPx 0 10 rfl rfl rfl hl.1 rfl (Nat.le_of_ble_eq_true rfl) ⟨(Nat.le_of_ble_eq_true rfl), (Nat.le_of_ble_eq_true rfl)⟩ ⟨(Nat.le_of_ble_eq_true rfl), (Nat.le_of_ble_eq_true rfl)⟩ dL_law_1739 (fun r1 hw1 => ?_)
  refine lv_aload_n hx hb dL_law_1742 rfl (lv_at hl 1 rfl) ?_
  refine lv_aload_n hx hb dL_law_1743 rfl (lv_at hl 3 rfl) ?_
  refine lv_iload_n hx hb dL_law_1744 rfl (lv_at hl 0 rfl) ?_
  refine lv_iconst (v := 1) hx hb dL_law_1745 (by decide) ?_
  refine lv_iadd hx hb dL_law_1746 ?_
  refine tc (y := 1) (by decide) ?_
  refine va_sld hx hb hX hbl hbA hS (in_c (by decide)) dL_law_1747 ?_
  refine tc (y := xs 1) (congrArg xs (by decide)) ?_
  refine lv_aload_n hx hb dL_law_1748 rfl (lv_at hl 3 rfl) ?_
  refine lv_iload_n hx hb dL_law_1749 rfl (lv_at hl 0 rfl) ?_
  refine lv_iconst (v := 2) hx hb dL_law_1750 (by decide) ?_
  refine lv_iadd hx hb dL_law_1751 ?_
  refine tc (y := 2) (by decide) ?_
  refine va_sld hx hb hX hbl hbA hS (in_c (by decide)) dL_law_1752 ?_
  refine tc (y := xs 2) (congrArg xs (by decide)) ?_
  refine ro_V (As := [.int (xs 1), .int (xs 2)]) (rest := [.int r1]) hC hE kV_L_221 (c_X12_dark l D K y fm hfm (xs 1) (xs 2)) hPm 0 11 rfl rfl rfl hl.1 rfl (Nat.le_of_ble_eq_true rfl) ⟨(Nat.le_of_ble_eq_true rfl), (Nat.le_of_ble_eq_true rfl)⟩ ⟨(Nat.le_of_ble_eq_true rfl), (Nat.le_of_ble_eq_true rfl)⟩ dL_law_1753 (fun r2 hw2 => ?_)
  refine lv_icmp_eq (tgt := 2343) hx hb dL_law_1756 (by decide) (fun _ => ?_) (fun h => absurd (hw1.trans hw2.symm) h)
  refine W.widen (k := 1000) (n := 200000) (Nat.le_of_ble_eq_true rfl) (Nat.le_of_ble_eq_true rfl) ?_
  exact law_next hC hr hk hX hbl hS (lv_sub hl [3, 0] rfl)
set_option maxRecDepth 40000 in
set_option maxHeartbeats 4000000 in
theorem law_51 {p : Program} {l : Launch} {e : Env} {s : State} {m : MethodId} {below : List Frame} {meth : Method} {c : Code} {b : Nat} {xs : Nat → Int32} {D : va_G} {K : Nat → ClassId} (hC : CallFix p m c cL_law 4 s #[Value.ref b] wl RL) (hr : meth.sig.returnType = ret) (hk : meth.locks = false) (hX : va_X b 6 xs s s.heap) (hbl : b < s.heap.size) (hE : ev D K s) (x y : Nat → Nat) (fs fm : Nat → Int32) (hfs : ∀ j, j < 4 → fs j = -1) (hfm : ∀ j, j < 4 → fm j = -1) (H : Heap) (locs : List Loc) (hP : va_P D vwCl (fxL K x fs ++ mdL K y fm) H) (hD : va_D (fun q : Nat => s.heap.size ≤ q) (fxL K x fs ++ mdL K y fm)) (hPx : va_P D vwCl (fxL K x fs) H) (hPm : va_P D vwCl (mdL K y fm) H) (hS : va_S (fun q : Nat => s.heap.size ≤ q) s.heap H locs) (ls : Array Slot) (hl : lv_has ls 4 [(3, .int 0), (2, .ref (y 0)), (1, .ref (x 0)), (0, .ref b)]) : W p l e room_1 s m #[Value.ref b] below meth c H locs 900 150000 (lw_Z below #[Value.ref b] s) (F0 m 1761 ls []) := by
  have hx := hC.1
  have hb := hC.2.1
  have hown := hC.2.2.2.1
  have hts := hC.2.2.2.2
  have hbA : ¬ (fun q : Nat => s.heap.size ≤ q) b := Nat.not_le.mpr hbl
  refine lv_aload_n hx hb dL_law_1761 rfl (lv_at hl 2 rfl) ?_
  refine lv_aload_n hx hb dL_law_1762 rfl (lv_at hl 3 rfl) ?_
  refine lv_iload_n hx hb dL_law_1763 rfl (lv_at hl 0 rfl) ?_
  refine lv_iconst (v := 1) hx hb dL_law_1764 (by decide) ?_
  refine lv_iadd hx hb dL_law_1765 ?_
  refine tc (y := 1) (by decide) ?_
  refine va_sld hx hb hX hbl hbA hS (in_c (by decide)) dL_law_1766 ?_
  refine tc (y := xs 1) (congrArg xs (by decide)) ?_
  refine lv_aload_n hx hb dL_law_1767 rfl (lv_at hl 3 rfl) ?_
  refine lv_iload_n hx hb dL_law_1768 rfl (lv_at hl 0 rfl) ?_
  refine lv_iconst (v := 2) hx hb dL_law_1769 (by decide) ?_
  refine lv_iadd hx hb dL_law_1770 ?_
  refine tc (y := 2) (by decide) ?_
  refine va_sld hx hb hX hbl hbA hS (in_c (by decide)) dL_law_1771 ?_
  refine tc (y := xs 2) (congrArg xs (by decide)) ?_
  refine ro_V (As := [.int (xs 1), .int (xs 2)]) (rest := []) hC hE kV_L_222 (c_X11_detour l D K x fs hfs (xs 1) (xs 2)) hPx 0 10 rfl rfl rfl hl.1 rfl (Nat.le_of_ble_eq_true rfl) ⟨(Nat.le_of_ble_eq_true rfl), (Nat.le_of_ble_eq_true rfl)⟩ ⟨(Nat.le_of_ble_eq_true rfl), (Nat.le_of_ble_eq_true rfl)⟩ dL_law_1772 (fun r1 hw1 => ?_)
  refine lv_aload_n hx hb dL_law_1775 rfl (lv_at hl 1 rfl) ?_
  refine lv_aload_n hx hb dL_law_1776 rfl (lv_at hl 3 rfl) ?_
  refine lv_iload_n hx hb dL_law_1777 rfl (lv_at hl 0 rfl) ?_
  refine lv_iconst (v := 1) hx hb dL_law_1778 (by decide) ?_
  refine lv_iadd hx hb dL_law_1779 ?_
  refine tc (y := 1) (by decide) ?_
  refine va_sld hx hb hX hbl hbA hS (in_c (by decide)) dL_law_1780 ?_
  refine tc (y := xs 1) (congrArg xs (by decide)) ?_
  refine lv_aload_n hx hb dL_law_1781 rfl (lv_at hl 3 rfl) ?_
  refine lv_iload_n hx hb dL_law_1782 rfl (lv_at hl 0 rfl) ?_
  refine lv_iconst (v := 2) hx hb dL_law_1783 (by decide) ?_
  refine lv_iadd hx hb dL_law_1784 ?_
  refine tc (y := 2) (by decide) ?_
  refine va_sld hx hb hX hbl hbA hS (in_c (by decide)) dL_law_1785 ?_
  refine tc (y := xs 2) (congrArg xs (by decide)) ?_
  refine ro_V (As := [.int (xs 1), .int (xs 2)]) (rest := [.int r1]) hC hE kV_L_225 (c_X12_detour l D K y fm hfm (xs 1) (xs 2)) hPm 0 11 rfl rfl rfl hl.1 rfl (Nat.le_of_ble_eq_true rfl) ⟨(Nat.le_of_ble_eq_true rfl), (Nat.le_of_ble_eq_true rfl)⟩ ⟨(Nat.le_of_ble_eq_true rfl), (Nat.le_of_ble_eq_true rfl)⟩ dL_law_1786 (fun r2 hw2 => ?_)
  refine lv_icmp_eq (tgt := 2343) hx hb dL_law_1789 (by decide) (fun _ => ?_) (fun h => absurd (hw1.trans hw2.symm) h)
  refine W.widen (k := 1000) (n := 200000) (Nat.le_of_ble_eq_true rfl) (Nat.le_of_ble_eq_true rfl) ?_
  exact law_next hC hr hk hX hbl hS (lv_sub hl [3, 0] rfl)
set_option maxRecDepth 40000 in
set_option maxHeartbeats 4000000 in
theorem law_52 {p : Program} {l : Launch} {e : Env} {s : State} {m : MethodId} {below : List Frame} {meth : Method} {c : Code} {b : Nat} {xs : Nat → Int32} {D : va_G} {K : Nat → ClassId} (hC : CallFix p m c cL_law 4 s #[Value.ref b] wl RL) (hr : meth.sig.returnType = ret) (hk : meth.locks = false) (hX : va_X b 6 xs s s.heap) (hbl : b < s.heap.size) (hE : ev D K s) (x y : Nat → Nat) (fs fm : Nat → Int32) (hfs : ∀ j, j < 4 → fs j = -1) (hfm : ∀ j, j < 4 → fm j = -1) (H : Heap) (locs : List Loc) (hP : va_P D vwCl (fxL K x fs ++ mdL K y fm) H) (hD : va_D (fun q : Nat => s.heap.size ≤ q) (fxL K x fs ++ mdL K y fm)) (hPx : va_P D vwCl (fxL K x fs) H) (hPm : va_P D vwCl (mdL K y fm) H) (hS : va_S (fun q : Nat => s.heap.size ≤ q) s.heap H locs) (ls : Array Slot) (hl : lv_has ls 4 [(3, .int 0), (2, .ref (y 0)), (1, .ref (x 0)), (0, .ref b)]) : W p l e room_1 s m #[Value.ref b] below meth c H locs 900 150000 (lw_Z below #[Value.ref b] s) (F0 m 1794 ls []) := by
  have hx := hC.1
  have hb := hC.2.1
  have hown := hC.2.2.2.1
  have hts := hC.2.2.2.2
  have hbA : ¬ (fun q : Nat => s.heap.size ≤ q) b := Nat.not_le.mpr hbl
  refine lv_aload_n hx hb dL_law_1794 rfl (lv_at hl 2 rfl) ?_
  refine lv_aload_n hx hb dL_law_1795 rfl (lv_at hl 3 rfl) ?_
  refine lv_iload_n hx hb dL_law_1796 rfl (lv_at hl 0 rfl) ?_
  refine lv_iconst (v := 1) hx hb dL_law_1797 (by decide) ?_
  refine lv_iadd hx hb dL_law_1798 ?_
  refine tc (y := 1) (by decide) ?_
  refine va_sld hx hb hX hbl hbA hS (in_c (by decide)) dL_law_1799 ?_
  refine tc (y := xs 1) (congrArg xs (by decide)) ?_
  refine lv_aload_n hx hb dL_law_1800 rfl (lv_at hl 3 rfl) ?_
  refine lv_iload_n hx hb dL_law_1801 rfl (lv_at hl 0 rfl) ?_
  refine lv_iconst (v := 2) hx hb dL_law_1802 (by decide) ?_
  refine lv_iadd hx hb dL_law_1803 ?_
  refine tc (y := 2) (by decide) ?_
  refine va_sld hx hb hX hbl hbA hS (in_c (by decide)) dL_law_1804 ?_
  refine tc (y := xs 2) (congrArg xs (by decide)) ?_
  refine lv_aload_n hx hb dL_law_1805 rfl (lv_at hl 3 rfl) ?_
  refine lv_iload_n hx hb dL_law_1806 rfl (lv_at hl 0 rfl) ?_
  refine lv_iconst (v := 3) hx hb dL_law_1807 (by decide) ?_
  refine lv_iadd hx hb dL_law_1808 ?_
  refine tc (y := 3) (by decide) ?_
  refine va_sld hx hb hX hbl hbA hS (in_c (by decide)) dL_law_1809 ?_
  refine tc (y := xs 3) (congrArg xs (by decide)) ?_
  refine lv_aload_n hx hb dL_law_1810 rfl (lv_at hl 3 rfl) ?_
  refine lv_iload_n hx hb dL_law_1811 rfl (lv_at hl 0 rfl) ?_
  refine lv_iconst (v := 4) hx hb dL_law_1812 (by decide) ?_
  refine lv_iadd hx hb dL_law_1813 ?_
  refine tc (y := 4) (by decide) ?_
  refine va_sld hx hb hX hbl hbA hS (in_c (by decide)) dL_law_1814 ?_
  refine tc (y := xs 4) (congrArg xs (by decide)) ?_
  refine ro_V (As := [.int (xs 1), .int (xs 2), .int (xs 3), .int (xs 4)]) (rest := []) hC hE kV_L_226 (c_X11_fog l D K x fs hfs (xs 1) (xs 2) (xs 3) (xs 4)) hPx 0 10 rfl rfl rfl hl.1 rfl (Nat.le_of_ble_eq_true rfl) ⟨(Nat.le_of_ble_eq_true rfl), (Nat.le_of_ble_eq_true rfl)⟩ ⟨(Nat.le_of_ble_eq_true rfl), (Nat.le_of_ble_eq_true rfl)⟩ dL_law_1815 (fun r1 hw1 => ?_)
  refine lv_aload_n hx hb dL_law_1818 rfl (lv_at hl 1 rfl) ?_
  refine lv_aload_n hx hb dL_law_1819 rfl (lv_at hl 3 rfl) ?_
  refine lv_iload_n hx hb dL_law_1820 rfl (lv_at hl 0 rfl) ?_
  refine lv_iconst (v := 1) hx hb dL_law_1821 (by decide) ?_
  refine lv_iadd hx hb dL_law_1822 ?_
  refine tc (y := 1) (by decide) ?_
  refine va_sld hx hb hX hbl hbA hS (in_c (by decide)) dL_law_1823 ?_
  refine tc (y := xs 1) (congrArg xs (by decide)) ?_
  refine lv_aload_n hx hb dL_law_1824 rfl (lv_at hl 3 rfl) ?_
  refine lv_iload_n hx hb dL_law_1825 rfl (lv_at hl 0 rfl) ?_
  refine lv_iconst (v := 2) hx hb dL_law_1826 (by decide) ?_
  refine lv_iadd hx hb dL_law_1827 ?_
  refine tc (y := 2) (by decide) ?_
  refine va_sld hx hb hX hbl hbA hS (in_c (by decide)) dL_law_1828 ?_
  refine tc (y := xs 2) (congrArg xs (by decide)) ?_
  refine lv_aload_n hx hb dL_law_1829 rfl (lv_at hl 3 rfl) ?_
  refine lv_iload_n hx hb dL_law_1830 rfl (lv_at hl 0 rfl) ?_
  refine lv_iconst (v := 3) hx hb dL_law_1831 (by decide) ?_
  refine lv_iadd hx hb dL_law_1832 ?_
  refine tc (y := 3) (by decide) ?_
  refine va_sld hx hb hX hbl hbA hS (in_c (by decide)) dL_law_1833 ?_
  refine tc (y := xs 3) (congrArg xs (by decide)) ?_
  refine lv_aload_n hx hb dL_law_1834 rfl (lv_at hl 3 rfl) ?_
  refine lv_iload_n hx hb dL_law_1835 rfl (lv_at hl 0 rfl) ?_
  refine lv_iconst (v := 4) hx hb dL_law_1836 (by decide) ?_
  refine lv_iadd hx hb dL_law_1837 ?_
  refine tc (y := 4) (by decide) ?_
  refine va_sld hx hb hX hbl hbA hS (in_c (by decide)) dL_law_1838 ?_
  refine tc (y := xs 4) (congrArg xs (by decide)) ?_
  refine ro_V (As := [.int (xs 1), .int (xs 2), .int (xs 3), .int (xs 4)]) (rest := [.int r1]) hC hE kV_L_230 (c_X12_fog l D K y fm hfm (xs 1) (xs 2) (xs 3) (xs 4)) hPm 0 11 rfl rfl rfl hl.1 rfl (Nat.le_of_ble_eq_true rfl) ⟨(Nat.le_of_ble_eq_true rfl), (Nat.le_of_ble_eq_true rfl)⟩ ⟨(Nat.le_of_ble_eq_true rfl), (Nat.le_of_ble_eq_true rfl)⟩ dL_law_1839 (fun r2 hw2 => ?_)
  refine lv_icmp_eq (tgt := 2343) hx hb dL_law_1842 (by decide) (fun _ => ?_) (fun h => absurd (hw1.trans hw2.symm) h)
  refine W.widen (k := 1000) (n := 200000) (Nat.le_of_ble_eq_true rfl) (Nat.le_of_ble_eq_true rfl) ?_
  exact law_next hC hr hk hX hbl hS (lv_sub hl [3, 0] rfl)
set_option maxRecDepth 40000 in
set_option maxHeartbeats 4000000 in
theorem law_53 {p : Program} {l : Launch} {e : Env} {s : State} {m : MethodId} {below : List Frame} {meth : Method} {c : Code} {b : Nat} {xs : Nat → Int32} {D : va_G} {K : Nat → ClassId} (hC : CallFix p m c cL_law 4 s #[Value.ref b] wl RL) (hr : meth.sig.returnType = ret) (hk : meth.locks = false) (hX : va_X b 6 xs s s.heap) (hbl : b < s.heap.size) (hE : ev D K s) (x y : Nat → Nat) (fs fm : Nat → Int32) (hfs : ∀ j, j < 4 → fs j = -1) (hfm : ∀ j, j < 4 → fm j = -1) (H : Heap) (locs : List Loc) (hP : va_P D vwCl (fxL K x fs ++ mdL K y fm) H) (hD : va_D (fun q : Nat => s.heap.size ≤ q) (fxL K x fs ++ mdL K y fm)) (hPx : va_P D vwCl (fxL K x fs) H) (hPm : va_P D vwCl (mdL K y fm) H) (hS : va_S (fun q : Nat => s.heap.size ≤ q) s.heap H locs) (ls : Array Slot) (hl : lv_has ls 4 [(3, .int 0), (2, .ref (y 0)), (1, .ref (x 0)), (0, .ref b)]) : W p l e room_1 s m #[Value.ref b] below meth c H locs 900 150000 (lw_Z below #[Value.ref b] s) (F0 m 1847 ls []) := by
  have hx := hC.1
  have hb := hC.2.1
  have hown := hC.2.2.2.1
  have hts := hC.2.2.2.2
  have hbA : ¬ (fun q : Nat => s.heap.size ≤ q) b := Nat.not_le.mpr hbl
  refine lv_aload_n hx hb dL_law_1847 rfl (lv_at hl 2 rfl) ?_
  refine lv_aload_n hx hb dL_law_1848 rfl (lv_at hl 3 rfl) ?_
  refine lv_iload_n hx hb dL_law_1849 rfl (lv_at hl 0 rfl) ?_
  refine lv_iconst (v := 1) hx hb dL_law_1850 (by decide) ?_
  refine lv_iadd hx hb dL_law_1851 ?_
  refine tc (y := 1) (by decide) ?_
  refine va_sld hx hb hX hbl hbA hS (in_c (by decide)) dL_law_1852 ?_
  refine tc (y := xs 1) (congrArg xs (by decide)) ?_
  refine lv_aload_n hx hb dL_law_1853 rfl (lv_at hl 3 rfl) ?_
  refine lv_iload_n hx hb dL_law_1854 rfl (lv_at hl 0 rfl) ?_
  refine lv_iconst (v := 2) hx hb dL_law_1855 (by decide) ?_
  refine lv_iadd hx hb dL_law_1856 ?_
  refine tc (y := 2) (by decide) ?_
  refine va_sld hx hb hX hbl hbA hS (in_c (by decide)) dL_law_1857 ?_
  refine tc (y := xs 2) (congrArg xs (by decide)) ?_
  refine ro_V (As := [.int (xs 1), .int (xs 2)]) (rest := []) hC hE kV_L_231 (c_X11_likely l D K x fs hfs (xs 1) (xs 2)) hPx 0 10 rfl rfl rfl hl.1 rfl (Nat.le_of_ble_eq_true rfl) ⟨(Nat.le_of_ble_eq_true rfl), (Nat.le_of_ble_eq_true rfl)⟩ ⟨(Nat.le_of_ble_eq_true rfl), (Nat.le_of_ble_eq_true rfl)⟩ dL_law_1858 (fun r1 hw1 => ?_)
  refine lv_aload_n hx hb dL_law_1861 rfl (lv_at hl 1 rfl) ?_
  refine lv_aload_n hx hb dL_law_1862 rfl (lv_at hl 3 rfl) ?_
  refine lv_iload_n hx hb dL_law_1863 rfl (lv_at hl 0 rfl) ?_
  refine lv_iconst (v := 1) hx hb dL_law_1864 (by decide) ?_
  refine lv_iadd hx hb dL_law_1865 ?_
  refine tc (y := 1) (by decide) ?_
  refine va_sld hx hb hX hbl hbA hS (in_c (by decide)) dL_law_1866 ?_
  refine tc (y := xs 1) (congrArg xs (by decide)) ?_
  refine lv_aload_n hx hb dL_law_1867 rfl (lv_at hl 3 rfl) ?_
  refine lv_iload_n hx hb dL_law_1868 rfl (lv_at hl 0 rfl) ?_
  refine lv_iconst (v := 2) hx hb dL_law_1869 (by decide) ?_
  refine lv_iadd hx hb dL_law_1870 ?_
  refine tc (y := 2) (by decide) ?_
  refine va_sld hx hb hX hbl hbA hS (in_c (by decide)) dL_law_1871 ?_
  refine tc (y := xs 2) (congrArg xs (by decide)) ?_
  refine ro_V (As := [.int (xs 1), .int (xs 2)]) (rest := [.int r1]) hC hE kV_L_234 (c_X12_likely l D K y fm hfm (xs 1) (xs 2)) hPm 0 11 rfl rfl rfl hl.1 rfl (Nat.le_of_ble_eq_true rfl) ⟨(Nat.le_of_ble_eq_true rfl), (Nat.le_of_ble_eq_true rfl)⟩ ⟨(Nat.le_of_ble_eq_true rfl), (Nat.le_of_ble_eq_true rfl)⟩ dL_law_1872 (fun r2 hw2 => ?_)
  refine lv_icmp_eq (tgt := 2343) hx hb dL_law_1875 (by decide) (fun _ => ?_) (fun h => absurd (hw1.trans hw2.symm) h)
  refine W.widen (k := 1000) (n := 200000) (Nat.le_of_ble_eq_true rfl) (Nat.le_of_ble_eq_true rfl) ?_
  exact law_next hC hr hk hX hbl hS (lv_sub hl [3, 0] rfl)
set_option maxRecDepth 40000 in
set_option maxHeartbeats 4000000 in
theorem law_54 {p : Program} {l : Launch} {e : Env} {s : State} {m : MethodId} {below : List Frame} {meth : Method} {c : Code} {b : Nat} {xs : Nat → Int32} {D : va_G} {K : Nat → ClassId} (hC : CallFix p m c cL_law 4 s #[Value.ref b] wl RL) (hr : meth.sig.returnType = ret) (hk : meth.locks = false) (hX : va_X b 6 xs s s.heap) (hbl : b < s.heap.size) (hE : ev D K s) (x y : Nat → Nat) (fs fm : Nat → Int32) (hfs : ∀ j, j < 4 → fs j = -1) (hfm : ∀ j, j < 4 → fm j = -1) (H : Heap) (locs : List Loc) (hP : va_P D vwCl (fxL K x fs ++ mdL K y fm) H) (hD : va_D (fun q : Nat => s.heap.size ≤ q) (fxL K x fs ++ mdL K y fm)) (hPx : va_P D vwCl (fxL K x fs) H) (hPm : va_P D vwCl (mdL K y fm) H) (hS : va_S (fun q : Nat => s.heap.size ≤ q) s.heap H locs) (ls : Array Slot) (hl : lv_has ls 4 [(3, .int 0), (2, .ref (y 0)), (1, .ref (x 0)), (0, .ref b)]) : W p l e room_1 s m #[Value.ref b] below meth c H locs 900 150000 (lw_Z below #[Value.ref b] s) (F0 m 1880 ls []) := by
  have hx := hC.1
  have hb := hC.2.1
  have hown := hC.2.2.2.1
  have hts := hC.2.2.2.2
  have hbA : ¬ (fun q : Nat => s.heap.size ≤ q) b := Nat.not_le.mpr hbl
  refine lv_aload_n hx hb dL_law_1880 rfl (lv_at hl 2 rfl) ?_
  refine lv_aload_n hx hb dL_law_1881 rfl (lv_at hl 3 rfl) ?_
  refine lv_iload_n hx hb dL_law_1882 rfl (lv_at hl 0 rfl) ?_
  refine lv_iconst (v := 1) hx hb dL_law_1883 (by decide) ?_
  refine lv_iadd hx hb dL_law_1884 ?_
  refine tc (y := 1) (by decide) ?_
  refine va_sld hx hb hX hbl hbA hS (in_c (by decide)) dL_law_1885 ?_
  refine tc (y := xs 1) (congrArg xs (by decide)) ?_
  refine lv_aload_n hx hb dL_law_1886 rfl (lv_at hl 3 rfl) ?_
  refine lv_iload_n hx hb dL_law_1887 rfl (lv_at hl 0 rfl) ?_
  refine lv_iconst (v := 2) hx hb dL_law_1888 (by decide) ?_
  refine lv_iadd hx hb dL_law_1889 ?_
  refine tc (y := 2) (by decide) ?_
  refine va_sld hx hb hX hbl hbA hS (in_c (by decide)) dL_law_1890 ?_
  refine tc (y := xs 2) (congrArg xs (by decide)) ?_
  refine ro_V (As := [.int (xs 1), .int (xs 2)]) (rest := []) hC hE kV_L_235 (c_X11_can l D K x fs hfs (xs 1) (xs 2)) hPx 0 10 rfl rfl rfl hl.1 rfl (Nat.le_of_ble_eq_true rfl) ⟨(Nat.le_of_ble_eq_true rfl), (Nat.le_of_ble_eq_true rfl)⟩ ⟨(Nat.le_of_ble_eq_true rfl), (Nat.le_of_ble_eq_true rfl)⟩ dL_law_1891 (fun r1 hw1 => ?_)
  refine lv_aload_n hx hb dL_law_1894 rfl (lv_at hl 1 rfl) ?_
  refine lv_aload_n hx hb dL_law_1895 rfl (lv_at hl 3 rfl) ?_
  refine lv_iload_n hx hb dL_law_1896 rfl (lv_at hl 0 rfl) ?_
  refine lv_iconst (v := 1) hx hb dL_law_1897 (by decide) ?_
  refine lv_iadd hx hb dL_law_1898 ?_
  refine tc (y := 1) (by decide) ?_
  refine va_sld hx hb hX hbl hbA hS (in_c (by decide)) dL_law_1899 ?_
  refine tc (y := xs 1) (congrArg xs (by decide)) ?_
  refine lv_aload_n hx hb dL_law_1900 rfl (lv_at hl 3 rfl) ?_
  refine lv_iload_n hx hb dL_law_1901 rfl (lv_at hl 0 rfl) ?_
  refine lv_iconst (v := 2) hx hb dL_law_1902 (by decide) ?_
  refine lv_iadd hx hb dL_law_1903 ?_
  refine tc (y := 2) (by decide) ?_
  refine va_sld hx hb hX hbl hbA hS (in_c (by decide)) dL_law_1904 ?_
  refine tc (y := xs 2) (congrArg xs (by decide)) ?_
  refine ro_V (As := [.int (xs 1), .int (xs 2)]) (rest := [.int r1]) hC hE kV_L_238 (c_X12_can l D K y fm hfm (xs 1) (xs 2)) hPm 0 11 rfl rfl rfl hl.1 rfl (Nat.le_of_ble_eq_true rfl) ⟨(Nat.le_of_ble_eq_true rfl), (Nat.le_of_ble_eq_true rfl)⟩ ⟨(Nat.le_of_ble_eq_true rfl), (Nat.le_of_ble_eq_true rfl)⟩ dL_law_1905 (fun r2 hw2 => ?_)
  refine lv_icmp_eq (tgt := 2343) hx hb dL_law_1908 (by decide) (fun _ => ?_) (fun h => absurd (hw1.trans hw2.symm) h)
  refine W.widen (k := 1000) (n := 200000) (Nat.le_of_ble_eq_true rfl) (Nat.le_of_ble_eq_true rfl) ?_
  exact law_next hC hr hk hX hbl hS (lv_sub hl [3, 0] rfl)
set_option maxRecDepth 40000 in
set_option maxHeartbeats 4000000 in
theorem law_55 {p : Program} {l : Launch} {e : Env} {s : State} {m : MethodId} {below : List Frame} {meth : Method} {c : Code} {b : Nat} {xs : Nat → Int32} {D : va_G} {K : Nat → ClassId} (hC : CallFix p m c cL_law 4 s #[Value.ref b] wl RL) (hr : meth.sig.returnType = ret) (hk : meth.locks = false) (hX : va_X b 6 xs s s.heap) (hbl : b < s.heap.size) (hE : ev D K s) (x y : Nat → Nat) (fs fm : Nat → Int32) (hfs : ∀ j, j < 4 → fs j = -1) (hfm : ∀ j, j < 4 → fm j = -1) (H : Heap) (locs : List Loc) (hP : va_P D vwCl (fxL K x fs ++ mdL K y fm) H) (hD : va_D (fun q : Nat => s.heap.size ≤ q) (fxL K x fs ++ mdL K y fm)) (hPx : va_P D vwCl (fxL K x fs) H) (hPm : va_P D vwCl (mdL K y fm) H) (hS : va_S (fun q : Nat => s.heap.size ≤ q) s.heap H locs) (ls : Array Slot) (hl : lv_has ls 4 [(3, .int 0), (2, .ref (y 0)), (1, .ref (x 0)), (0, .ref b)]) : W p l e room_1 s m #[Value.ref b] below meth c H locs 900 150000 (lw_Z below #[Value.ref b] s) (F0 m 1913 ls []) := by
  have hx := hC.1
  have hb := hC.2.1
  have hown := hC.2.2.2.1
  have hts := hC.2.2.2.2
  have hbA : ¬ (fun q : Nat => s.heap.size ≤ q) b := Nat.not_le.mpr hbl
  refine lv_aload_n hx hb dL_law_1913 rfl (lv_at hl 2 rfl) ?_
  refine lv_aload_n hx hb dL_law_1914 rfl (lv_at hl 3 rfl) ?_
  refine lv_iload_n hx hb dL_law_1915 rfl (lv_at hl 0 rfl) ?_
  refine lv_iconst (v := 1) hx hb dL_law_1916 (by decide) ?_
  refine lv_iadd hx hb dL_law_1917 ?_
  refine tc (y := 1) (by decide) ?_
  refine va_sld hx hb hX hbl hbA hS (in_c (by decide)) dL_law_1918 ?_
  refine tc (y := xs 1) (congrArg xs (by decide)) ?_
  refine lv_aload_n hx hb dL_law_1919 rfl (lv_at hl 3 rfl) ?_
  refine lv_iload_n hx hb dL_law_1920 rfl (lv_at hl 0 rfl) ?_
  refine lv_iconst (v := 2) hx hb dL_law_1921 (by decide) ?_
  refine lv_iadd hx hb dL_law_1922 ?_
  refine tc (y := 2) (by decide) ?_
  refine va_sld hx hb hX hbl hbA hS (in_c (by decide)) dL_law_1923 ?_
  refine tc (y := xs 2) (congrArg xs (by decide)) ?_
  refine lv_aload_n hx hb dL_law_1924 rfl (lv_at hl 3 rfl) ?_
  refine lv_iload_n hx hb dL_law_1925 rfl (lv_at hl 0 rfl) ?_
  refine lv_iconst (v := 3) hx hb dL_law_1926 (by decide) ?_
  refine lv_iadd hx hb dL_law_1927 ?_
  refine tc (y := 3) (by decide) ?_
  refine va_sld hx hb hX hbl hbA hS (in_c (by decide)) dL_law_1928 ?_
  refine tc (y := xs 3) (congrArg xs (by decide)) ?_
  refine ro_V (As := [.int (xs 1), .int (xs 2), .int (xs 3)]) (rest := []) hC hE kV_L_239 (c_X11_lead l D K x fs hfs (xs 1) (xs 2) (xs 3)) hPx 0 10 rfl rfl rfl hl.1 rfl (Nat.le_of_ble_eq_true rfl) ⟨(Nat.le_of_ble_eq_true rfl), (Nat.le_of_ble_eq_true rfl)⟩ ⟨(Nat.le_of_ble_eq_true rfl), (Nat.le_of_ble_eq_true rfl)⟩ dL_law_1929 (fun r1 hw1 => ?_)
  refine lv_aload_n hx hb dL_law_1932 rfl (lv_at hl 1 rfl) ?_
  refine lv_aload_n hx hb dL_law_1933 rfl (lv_at hl 3 rfl) ?_
  refine lv_iload_n hx hb dL_law_1934 rfl (lv_at hl 0 rfl) ?_
  refine lv_iconst (v := 1) hx hb dL_law_1935 (by decide) ?_
  refine lv_iadd hx hb dL_law_1936 ?_
  refine tc (y := 1) (by decide) ?_
  refine va_sld hx hb hX hbl hbA hS (in_c (by decide)) dL_law_1937 ?_
  refine tc (y := xs 1) (congrArg xs (by decide)) ?_
  refine lv_aload_n hx hb dL_law_1938 rfl (lv_at hl 3 rfl) ?_
  refine lv_iload_n hx hb dL_law_1939 rfl (lv_at hl 0 rfl) ?_
  refine lv_iconst (v := 2) hx hb dL_law_1940 (by decide) ?_
  refine lv_iadd hx hb dL_law_1941 ?_
  refine tc (y := 2) (by decide) ?_
  refine va_sld hx hb hX hbl hbA hS (in_c (by decide)) dL_law_1942 ?_
  refine tc (y := xs 2) (congrArg xs (by decide)) ?_
  refine lv_aload_n hx hb dL_law_1943 rfl (lv_at hl 3 rfl) ?_
  refine lv_iload_n hx hb dL_law_1944 rfl (lv_at hl 0 rfl) ?_
  refine lv_iconst (v := 3) hx hb dL_law_1945 (by decide) ?_
  refine lv_iadd hx hb dL_law_1946 ?_
  refine tc (y := 3) (by decide) ?_
  refine va_sld hx hb hX hbl hbA hS (in_c (by decide)) dL_law_1947 ?_
  refine tc (y := xs 3) (congrArg xs (by decide)) ?_
  refine ro_V (As := [.int (xs 1), .int (xs 2), .int (xs 3)]) (rest := [.int r1]) hC hE kV_L_242 (c_X12_lead l D K y fm hfm (xs 1) (xs 2) (xs 3)) hPm 0 11 rfl rfl rfl hl.1 rfl (Nat.le_of_ble_eq_true rfl) ⟨(Nat.le_of_ble_eq_true rfl), (Nat.le_of_ble_eq_true rfl)⟩ ⟨(Nat.le_of_ble_eq_true rfl), (Nat.le_of_ble_eq_true rfl)⟩ dL_law_1948 (fun r2 hw2 => ?_)
  refine lv_icmp_eq (tgt := 2343) hx hb dL_law_1951 (by decide) (fun _ => ?_) (fun h => absurd (hw1.trans hw2.symm) h)
  refine W.widen (k := 1000) (n := 200000) (Nat.le_of_ble_eq_true rfl) (Nat.le_of_ble_eq_true rfl) ?_
  exact law_next hC hr hk hX hbl hS (lv_sub hl [3, 0] rfl)
set_option maxRecDepth 40000 in
set_option maxHeartbeats 4000000 in
theorem law_56 {p : Program} {l : Launch} {e : Env} {s : State} {m : MethodId} {below : List Frame} {meth : Method} {c : Code} {b : Nat} {xs : Nat → Int32} {D : va_G} {K : Nat → ClassId} (hC : CallFix p m c cL_law 4 s #[Value.ref b] wl RL) (hr : meth.sig.returnType = ret) (hk : meth.locks = false) (hX : va_X b 6 xs s s.heap) (hbl : b < s.heap.size) (hE : ev D K s) (x y : Nat → Nat) (fs fm : Nat → Int32) (hfs : ∀ j, j < 4 → fs j = -1) (hfm : ∀ j, j < 4 → fm j = -1) (H : Heap) (locs : List Loc) (hP : va_P D vwCl (fxL K x fs ++ mdL K y fm) H) (hD : va_D (fun q : Nat => s.heap.size ≤ q) (fxL K x fs ++ mdL K y fm)) (hPx : va_P D vwCl (fxL K x fs) H) (hPm : va_P D vwCl (mdL K y fm) H) (hS : va_S (fun q : Nat => s.heap.size ≤ q) s.heap H locs) (ls : Array Slot) (hl : lv_has ls 4 [(3, .int 0), (2, .ref (y 0)), (1, .ref (x 0)), (0, .ref b)]) : W p l e room_1 s m #[Value.ref b] below meth c H locs 900 150000 (lw_Z below #[Value.ref b] s) (F0 m 1956 ls []) := by
  have hx := hC.1
  have hb := hC.2.1
  have hown := hC.2.2.2.1
  have hts := hC.2.2.2.2
  have hbA : ¬ (fun q : Nat => s.heap.size ≤ q) b := Nat.not_le.mpr hbl
  refine lv_aload_n hx hb dL_law_1956 rfl (lv_at hl 2 rfl) ?_
  refine lv_aload_n hx hb dL_law_1957 rfl (lv_at hl 3 rfl) ?_
  refine lv_iload_n hx hb dL_law_1958 rfl (lv_at hl 0 rfl) ?_
  refine lv_iconst (v := 1) hx hb dL_law_1959 (by decide) ?_
  refine lv_iadd hx hb dL_law_1960 ?_
  refine tc (y := 1) (by decide) ?_
  refine va_sld hx hb hX hbl hbA hS (in_c (by decide)) dL_law_1961 ?_
  refine tc (y := xs 1) (congrArg xs (by decide)) ?_
  refine lv_aload_n hx hb dL_law_1962 rfl (lv_at hl 3 rfl) ?_
  refine lv_iload_n hx hb dL_law_1963 rfl (lv_at hl 0 rfl) ?_
  refine lv_iconst (v := 2) hx hb dL_law_1964 (by decide) ?_
  refine lv_iadd hx hb dL_law_1965 ?_
  refine tc (y := 2) (by decide) ?_
  refine va_sld hx hb hX hbl hbA hS (in_c (by decide)) dL_law_1966 ?_
  refine tc (y := xs 2) (congrArg xs (by decide)) ?_
  refine ro_V (As := [.int (xs 1), .int (xs 2)]) (rest := []) hC hE kV_L_243 (c_X11_marks l D K x fs hfs (xs 1) (xs 2)) hPx 0 10 rfl rfl rfl hl.1 rfl (Nat.le_of_ble_eq_true rfl) ⟨(Nat.le_of_ble_eq_true rfl), (Nat.le_of_ble_eq_true rfl)⟩ ⟨(Nat.le_of_ble_eq_true rfl), (Nat.le_of_ble_eq_true rfl)⟩ dL_law_1967 (fun r1 hw1 => ?_)
  refine lv_aload_n hx hb dL_law_1970 rfl (lv_at hl 1 rfl) ?_
  refine lv_aload_n hx hb dL_law_1971 rfl (lv_at hl 3 rfl) ?_
  refine lv_iload_n hx hb dL_law_1972 rfl (lv_at hl 0 rfl) ?_
  refine lv_iconst (v := 1) hx hb dL_law_1973 (by decide) ?_
  refine lv_iadd hx hb dL_law_1974 ?_
  refine tc (y := 1) (by decide) ?_
  refine va_sld hx hb hX hbl hbA hS (in_c (by decide)) dL_law_1975 ?_
  refine tc (y := xs 1) (congrArg xs (by decide)) ?_
  refine lv_aload_n hx hb dL_law_1976 rfl (lv_at hl 3 rfl) ?_
  refine lv_iload_n hx hb dL_law_1977 rfl (lv_at hl 0 rfl) ?_
  refine lv_iconst (v := 2) hx hb dL_law_1978 (by decide) ?_
  refine lv_iadd hx hb dL_law_1979 ?_
  refine tc (y := 2) (by decide) ?_
  refine va_sld hx hb hX hbl hbA hS (in_c (by decide)) dL_law_1980 ?_
  refine tc (y := xs 2) (congrArg xs (by decide)) ?_
  refine ro_V (As := [.int (xs 1), .int (xs 2)]) (rest := [.int r1]) hC hE kV_L_246 (c_X12_marks l D K y fm hfm (xs 1) (xs 2)) hPm 0 11 rfl rfl rfl hl.1 rfl (Nat.le_of_ble_eq_true rfl) ⟨(Nat.le_of_ble_eq_true rfl), (Nat.le_of_ble_eq_true rfl)⟩ ⟨(Nat.le_of_ble_eq_true rfl), (Nat.le_of_ble_eq_true rfl)⟩ dL_law_1981 (fun r2 hw2 => ?_)
  refine lv_icmp_eq (tgt := 2343) hx hb dL_law_1984 (by decide) (fun _ => ?_) (fun h => absurd (hw1.trans hw2.symm) h)
  refine W.widen (k := 1000) (n := 200000) (Nat.le_of_ble_eq_true rfl) (Nat.le_of_ble_eq_true rfl) ?_
  exact law_next hC hr hk hX hbl hS (lv_sub hl [3, 0] rfl)
set_option maxRecDepth 40000 in
set_option maxHeartbeats 4000000 in
theorem law_57 {p : Program} {l : Launch} {e : Env} {s : State} {m : MethodId} {below : List Frame} {meth : Method} {c : Code} {b : Nat} {xs : Nat → Int32} {D : va_G} {K : Nat → ClassId} (hC : CallFix p m c cL_law 4 s #[Value.ref b] wl RL) (hr : meth.sig.returnType = ret) (hk : meth.locks = false) (hX : va_X b 6 xs s s.heap) (hbl : b < s.heap.size) (hE : ev D K s) (x y : Nat → Nat) (fs fm : Nat → Int32) (hfs : ∀ j, j < 4 → fs j = -1) (hfm : ∀ j, j < 4 → fm j = -1) (H : Heap) (locs : List Loc) (hP : va_P D vwCl (fxL K x fs ++ mdL K y fm) H) (hD : va_D (fun q : Nat => s.heap.size ≤ q) (fxL K x fs ++ mdL K y fm)) (hPx : va_P D vwCl (fxL K x fs) H) (hPm : va_P D vwCl (mdL K y fm) H) (hS : va_S (fun q : Nat => s.heap.size ≤ q) s.heap H locs) (ls : Array Slot) (hl : lv_has ls 4 [(3, .int 0), (2, .ref (y 0)), (1, .ref (x 0)), (0, .ref b)]) : W p l e room_1 s m #[Value.ref b] below meth c H locs 900 150000 (lw_Z below #[Value.ref b] s) (F0 m 1989 ls []) := by
  have hx := hC.1
  have hb := hC.2.1
  have hown := hC.2.2.2.1
  have hts := hC.2.2.2.2
  have hbA : ¬ (fun q : Nat => s.heap.size ≤ q) b := Nat.not_le.mpr hbl
  refine lv_aload_n hx hb dL_law_1989 rfl (lv_at hl 2 rfl) ?_
  refine lv_aload_n hx hb dL_law_1990 rfl (lv_at hl 3 rfl) ?_
  refine lv_iload_n hx hb dL_law_1991 rfl (lv_at hl 0 rfl) ?_
  refine lv_iconst (v := 1) hx hb dL_law_1992 (by decide) ?_
  refine lv_iadd hx hb dL_law_1993 ?_
  refine tc (y := 1) (by decide) ?_
  refine va_sld hx hb hX hbl hbA hS (in_c (by decide)) dL_law_1994 ?_
  refine tc (y := xs 1) (congrArg xs (by decide)) ?_
  refine lv_aload_n hx hb dL_law_1995 rfl (lv_at hl 3 rfl) ?_
  refine lv_iload_n hx hb dL_law_1996 rfl (lv_at hl 0 rfl) ?_
  refine lv_iconst (v := 2) hx hb dL_law_1997 (by decide) ?_
  refine lv_iadd hx hb dL_law_1998 ?_
  refine tc (y := 2) (by decide) ?_
  refine va_sld hx hb hX hbl hbA hS (in_c (by decide)) dL_law_1999 ?_
  refine tc (y := xs 2) (congrArg xs (by decide)) ?_
  refine lv_aload_n hx hb dL_law_2000 rfl (lv_at hl 3 rfl) ?_
  refine lv_iload_n hx hb dL_law_2001 rfl (lv_at hl 0 rfl) ?_
  refine lv_iconst (v := 3) hx hb dL_law_2002 (by decide) ?_
  refine lv_iadd hx hb dL_law_2003 ?_
  refine tc (y := 3) (by decide) ?_
  refine va_sld hx hb hX hbl hbA hS (in_c (by decide)) dL_law_2004 ?_
  refine tc (y := xs 3) (congrArg xs (by decide)) ?_
  refine lv_aload_n hx hb dL_law_2005 rfl (lv_at hl 3 rfl) ?_
  refine lv_iload_n hx hb dL_law_2006 rfl (lv_at hl 0 rfl) ?_
  refine lv_iconst (v := 4) hx hb dL_law_2007 (by decide) ?_
  refine lv_iadd hx hb dL_law_2008 ?_
  refine tc (y := 4) (by decide) ?_
  refine va_sld hx hb hX hbl hbA hS (in_c (by decide)) dL_law_2009 ?_
  refine tc (y := xs 4) (congrArg xs (by decide)) ?_
  refine ro_V (As := [.int (xs 1), .int (xs 2), .int (xs 3), .int (xs 4)]) (rest := []) hC hE kV_L_247 (c_X11_drawn l D K x fs hfs (xs 1) (xs 2) (xs 3) (xs 4)) hPx 0 10 rfl rfl rfl hl.1 rfl (Nat.le_of_ble_eq_true rfl) ⟨(Nat.le_of_ble_eq_true rfl), (Nat.le_of_ble_eq_true rfl)⟩ ⟨(Nat.le_of_ble_eq_true rfl), (Nat.le_of_ble_eq_true rfl)⟩ dL_law_2010 (fun r1 hw1 => ?_)
  refine lv_aload_n hx hb dL_law_2013 rfl (lv_at hl 1 rfl) ?_
  refine lv_aload_n hx hb dL_law_2014 rfl (lv_at hl 3 rfl) ?_
  refine lv_iload_n hx hb dL_law_2015 rfl (lv_at hl 0 rfl) ?_
  refine lv_iconst (v := 1) hx hb dL_law_2016 (by decide) ?_
  refine lv_iadd hx hb dL_law_2017 ?_
  refine tc (y := 1) (by decide) ?_
  refine va_sld hx hb hX hbl hbA hS (in_c (by decide)) dL_law_2018 ?_
  refine tc (y := xs 1) (congrArg xs (by decide)) ?_
  refine lv_aload_n hx hb dL_law_2019 rfl (lv_at hl 3 rfl) ?_
  refine lv_iload_n hx hb dL_law_2020 rfl (lv_at hl 0 rfl) ?_
  refine lv_iconst (v := 2) hx hb dL_law_2021 (by decide) ?_
  refine lv_iadd hx hb dL_law_2022 ?_
  refine tc (y := 2) (by decide) ?_
  refine va_sld hx hb hX hbl hbA hS (in_c (by decide)) dL_law_2023 ?_
  refine tc (y := xs 2) (congrArg xs (by decide)) ?_
  refine lv_aload_n hx hb dL_law_2024 rfl (lv_at hl 3 rfl) ?_
  refine lv_iload_n hx hb dL_law_2025 rfl (lv_at hl 0 rfl) ?_
  refine lv_iconst (v := 3) hx hb dL_law_2026 (by decide) ?_
  refine lv_iadd hx hb dL_law_2027 ?_
  refine tc (y := 3) (by decide) ?_
  refine va_sld hx hb hX hbl hbA hS (in_c (by decide)) dL_law_2028 ?_
  refine tc (y := xs 3) (congrArg xs (by decide)) ?_
  refine lv_aload_n hx hb dL_law_2029 rfl (lv_at hl 3 rfl) ?_
  refine lv_iload_n hx hb dL_law_2030 rfl (lv_at hl 0 rfl) ?_
  refine lv_iconst (v := 4) hx hb dL_law_2031 (by decide) ?_
  refine lv_iadd hx hb dL_law_2032 ?_
  refine tc (y := 4) (by decide) ?_
  refine va_sld hx hb hX hbl hbA hS (in_c (by decide)) dL_law_2033 ?_
  refine tc (y := xs 4) (congrArg xs (by decide)) ?_
  refine ro_V (As := [.int (xs 1), .int (xs 2), .int (xs 3), .int (xs 4)]) (rest := [.int r1]) hC hE kV_L_250 (c_X12_drawn l D K y fm hfm (xs 1) (xs 2) (xs 3) (xs 4)) hPm 0 11 rfl rfl rfl hl.1 rfl (Nat.le_of_ble_eq_true rfl) ⟨(Nat.le_of_ble_eq_true rfl), (Nat.le_of_ble_eq_true rfl)⟩ ⟨(Nat.le_of_ble_eq_true rfl), (Nat.le_of_ble_eq_true rfl)⟩ dL_law_2034 (fun r2 hw2 => ?_)
  refine lv_icmp_eq (tgt := 2343) hx hb dL_law_2037 (by decide) (fun _ => ?_) (fun h => absurd (hw1.trans hw2.symm) h)
  refine W.widen (k := 1000) (n := 200000) (Nat.le_of_ble_eq_true rfl) (Nat.le_of_ble_eq_true rfl) ?_
  exact law_next hC hr hk hX hbl hS (lv_sub hl [3, 0] rfl)
set_option maxRecDepth 40000 in
set_option maxHeartbeats 4000000 in
theorem law_58 {p : Program} {l : Launch} {e : Env} {s : State} {m : MethodId} {below : List Frame} {meth : Method} {c : Code} {b : Nat} {xs : Nat → Int32} {D : va_G} {K : Nat → ClassId} (hC : CallFix p m c cL_law 4 s #[Value.ref b] wl RL) (hr : meth.sig.returnType = ret) (hk : meth.locks = false) (hX : va_X b 6 xs s s.heap) (hbl : b < s.heap.size) (hE : ev D K s) (x y : Nat → Nat) (fs fm : Nat → Int32) (hfs : ∀ j, j < 4 → fs j = -1) (hfm : ∀ j, j < 4 → fm j = -1) (H : Heap) (locs : List Loc) (hP : va_P D vwCl (fxL K x fs ++ mdL K y fm) H) (hD : va_D (fun q : Nat => s.heap.size ≤ q) (fxL K x fs ++ mdL K y fm)) (hPx : va_P D vwCl (fxL K x fs) H) (hPm : va_P D vwCl (mdL K y fm) H) (hS : va_S (fun q : Nat => s.heap.size ≤ q) s.heap H locs) (ls : Array Slot) (hl : lv_has ls 4 [(3, .int 0), (2, .ref (y 0)), (1, .ref (x 0)), (0, .ref b)]) : W p l e room_1 s m #[Value.ref b] below meth c H locs 900 150000 (lw_Z below #[Value.ref b] s) (F0 m 2042 ls []) := by
  have hx := hC.1
  have hb := hC.2.1
  have hown := hC.2.2.2.1
  have hts := hC.2.2.2.2
  have hbA : ¬ (fun q : Nat => s.heap.size ≤ q) b := Nat.not_le.mpr hbl
  refine lv_aload_n hx hb dL_law_2042 rfl (lv_at hl 2 rfl) ?_
  refine lv_aload_n hx hb dL_law_2043 rfl (lv_at hl 3 rfl) ?_
  refine lv_iload_n hx hb dL_law_2044 rfl (lv_at hl 0 rfl) ?_
  refine lv_iconst (v := 1) hx hb dL_law_2045 (by decide) ?_
  refine lv_iadd hx hb dL_law_2046 ?_
  refine tc (y := 1) (by decide) ?_
  refine va_sld hx hb hX hbl hbA hS (in_c (by decide)) dL_law_2047 ?_
  refine tc (y := xs 1) (congrArg xs (by decide)) ?_
  refine lv_aload_n hx hb dL_law_2048 rfl (lv_at hl 3 rfl) ?_
  refine lv_iload_n hx hb dL_law_2049 rfl (lv_at hl 0 rfl) ?_
  refine lv_iconst (v := 2) hx hb dL_law_2050 (by decide) ?_
  refine lv_iadd hx hb dL_law_2051 ?_
  refine tc (y := 2) (by decide) ?_
  refine va_sld hx hb hX hbl hbA hS (in_c (by decide)) dL_law_2052 ?_
  refine tc (y := xs 2) (congrArg xs (by decide)) ?_
  refine lv_aload_n hx hb dL_law_2053 rfl (lv_at hl 3 rfl) ?_
  refine lv_iload_n hx hb dL_law_2054 rfl (lv_at hl 0 rfl) ?_
  refine lv_iconst (v := 3) hx hb dL_law_2055 (by decide) ?_
  refine lv_iadd hx hb dL_law_2056 ?_
  refine tc (y := 3) (by decide) ?_
  refine va_sld hx hb hX hbl hbA hS (in_c (by decide)) dL_law_2057 ?_
  refine tc (y := xs 3) (congrArg xs (by decide)) ?_
  refine lv_aload_n hx hb dL_law_2058 rfl (lv_at hl 3 rfl) ?_
  refine lv_iload_n hx hb dL_law_2059 rfl (lv_at hl 0 rfl) ?_
  refine lv_iconst (v := 4) hx hb dL_law_2060 (by decide) ?_
  refine lv_iadd hx hb dL_law_2061 ?_
  refine tc (y := 4) (by decide) ?_
  refine va_sld hx hb hX hbl hbA hS (in_c (by decide)) dL_law_2062 ?_
  refine tc (y := xs 4) (congrArg xs (by decide)) ?_
  refine ro_V (As := [.int (xs 1), .int (xs 2), .int (xs 3), .int (xs 4)]) (rest := []) hC hE kV_L_251 (c_X11_luck l D K x fs hfs (xs 1) (xs 2) (xs 3) (xs 4)) hPx 0 10 rfl rfl rfl hl.1 rfl (Nat.le_of_ble_eq_true rfl) ⟨(Nat.le_of_ble_eq_true rfl), (Nat.le_of_ble_eq_true rfl)⟩ ⟨(Nat.le_of_ble_eq_true rfl), (Nat.le_of_ble_eq_true rfl)⟩ dL_law_2063 (fun r1 hw1 => ?_)
  refine lv_aload_n hx hb dL_law_2066 rfl (lv_at hl 1 rfl) ?_
  refine lv_aload_n hx hb dL_law_2067 rfl (lv_at hl 3 rfl) ?_
  refine lv_iload_n hx hb dL_law_2068 rfl (lv_at hl 0 rfl) ?_
  refine lv_iconst (v := 1) hx hb dL_law_2069 (by decide) ?_
  refine lv_iadd hx hb dL_law_2070 ?_
  refine tc (y := 1) (by decide) ?_
  refine va_sld hx hb hX hbl hbA hS (in_c (by decide)) dL_law_2071 ?_
  refine tc (y := xs 1) (congrArg xs (by decide)) ?_
  refine lv_aload_n hx hb dL_law_2072 rfl (lv_at hl 3 rfl) ?_
  refine lv_iload_n hx hb dL_law_2073 rfl (lv_at hl 0 rfl) ?_
  refine lv_iconst (v := 2) hx hb dL_law_2074 (by decide) ?_
  refine lv_iadd hx hb dL_law_2075 ?_
  refine tc (y := 2) (by decide) ?_
  refine va_sld hx hb hX hbl hbA hS (in_c (by decide)) dL_law_2076 ?_
  refine tc (y := xs 2) (congrArg xs (by decide)) ?_
  refine lv_aload_n hx hb dL_law_2077 rfl (lv_at hl 3 rfl) ?_
  refine lv_iload_n hx hb dL_law_2078 rfl (lv_at hl 0 rfl) ?_
  refine lv_iconst (v := 3) hx hb dL_law_2079 (by decide) ?_
  refine lv_iadd hx hb dL_law_2080 ?_
  refine tc (y := 3) (by decide) ?_
  refine va_sld hx hb hX hbl hbA hS (in_c (by decide)) dL_law_2081 ?_
  refine tc (y := xs 3) (congrArg xs (by decide)) ?_
  refine lv_aload_n hx hb dL_law_2082 rfl (lv_at hl 3 rfl) ?_
  refine lv_iload_n hx hb dL_law_2083 rfl (lv_at hl 0 rfl) ?_
  refine lv_iconst (v := 4) hx hb dL_law_2084 (by decide) ?_
  refine lv_iadd hx hb dL_law_2085 ?_
  refine tc (y := 4) (by decide) ?_
  refine va_sld hx hb hX hbl hbA hS (in_c (by decide)) dL_law_2086 ?_
  refine tc (y := xs 4) (congrArg xs (by decide)) ?_
  refine ro_V (As := [.int (xs 1), .int (xs 2), .int (xs 3), .int (xs 4)]) (rest := [.int r1]) hC hE kV_L_254 (c_X12_luck l D K y fm hfm (xs 1) (xs 2) (xs 3) (xs 4)) hPm 0 11 rfl rfl rfl hl.1 rfl (Nat.le_of_ble_eq_true rfl) ⟨(Nat.le_of_ble_eq_true rfl), (Nat.le_of_ble_eq_true rfl)⟩ ⟨(Nat.le_of_ble_eq_true rfl), (Nat.le_of_ble_eq_true rfl)⟩ dL_law_2087 (fun r2 hw2 => ?_)
  refine lv_icmp_eq (tgt := 2343) hx hb dL_law_2090 (by decide) (fun _ => ?_) (fun h => absurd (hw1.trans hw2.symm) h)
  refine W.widen (k := 1000) (n := 200000) (Nat.le_of_ble_eq_true rfl) (Nat.le_of_ble_eq_true rfl) ?_
  exact law_next hC hr hk hX hbl hS (lv_sub hl [3, 0] rfl)
set_option maxRecDepth 40000 in
set_option maxHeartbeats 4000000 in
theorem law_59 {p : Program} {l : Launch} {e : Env} {s : State} {m : MethodId} {below : List Frame} {meth : Method} {c : Code} {b : Nat} {xs : Nat → Int32} {D : va_G} {K : Nat → ClassId} (hC : CallFix p m c cL_law 4 s #[Value.ref b] wl RL) (hr : meth.sig.returnType = ret) (hk : meth.locks = false) (hX : va_X b 6 xs s s.heap) (hbl : b < s.heap.size) (hE : ev D K s) (x y : Nat → Nat) (fs fm : Nat → Int32) (hfs : ∀ j, j < 4 → fs j = -1) (hfm : ∀ j, j < 4 → fm j = -1) (H : Heap) (locs : List Loc) (hP : va_P D vwCl (fxL K x fs ++ mdL K y fm) H) (hD : va_D (fun q : Nat => s.heap.size ≤ q) (fxL K x fs ++ mdL K y fm)) (hPx : va_P D vwCl (fxL K x fs) H) (hPm : va_P D vwCl (mdL K y fm) H) (hS : va_S (fun q : Nat => s.heap.size ≤ q) s.heap H locs) (ls : Array Slot) (hl : lv_has ls 4 [(3, .int 0), (2, .ref (y 0)), (1, .ref (x 0)), (0, .ref b)]) : W p l e room_1 s m #[Value.ref b] below meth c H locs 900 150000 (lw_Z below #[Value.ref b] s) (F0 m 2095 ls []) := by
  have hx := hC.1
  have hb := hC.2.1
  have hown := hC.2.2.2.1
  have hts := hC.2.2.2.2
  have hbA : ¬ (fun q : Nat => s.heap.size ≤ q) b := Nat.not_le.mpr hbl
  refine lv_aload_n hx hb dL_law_2095 rfl (lv_at hl 2 rfl) ?_
  refine lv_aload_n hx hb dL_law_2096 rfl (lv_at hl 3 rfl) ?_
  refine lv_iload_n hx hb dL_law_2097 rfl (lv_at hl 0 rfl) ?_
  refine lv_iconst (v := 1) hx hb dL_law_2098 (by decide) ?_
  refine lv_iadd hx hb dL_law_2099 ?_
  refine tc (y := 1) (by decide) ?_
  refine va_sld hx hb hX hbl hbA hS (in_c (by decide)) dL_law_2100 ?_
  refine tc (y := xs 1) (congrArg xs (by decide)) ?_
  refine ro_V (As := [.int (xs 1)]) (rest := []) hC hE kV_L_255 (c_X11_count l D K x fs hfs (xs 1)) hPx 0 10 rfl rfl rfl hl.1 rfl (Nat.le_of_ble_eq_true rfl) ⟨(Nat.le_of_ble_eq_true rfl), (Nat.le_of_ble_eq_true rfl)⟩ ⟨(Nat.le_of_ble_eq_true rfl), (Nat.le_of_ble_eq_true rfl)⟩ dL_law_2101 (fun r1 hw1 => ?_)
  refine lv_aload_n hx hb dL_law_2104 rfl (lv_at hl 1 rfl) ?_
  refine lv_aload_n hx hb dL_law_2105 rfl (lv_at hl 3 rfl) ?_
  refine lv_iload_n hx hb dL_law_2106 rfl (lv_at hl 0 rfl) ?_
  refine lv_iconst (v := 1) hx hb dL_law_2107 (by decide) ?_
  refine lv_iadd hx hb dL_law_2108 ?_
  refine tc (y := 1) (by decide) ?_
  refine va_sld hx hb hX hbl hbA hS (in_c (by decide)) dL_law_2109 ?_
  refine tc (y := xs 1) (congrArg xs (by decide)) ?_
  refine ro_V (As := [.int (xs 1)]) (rest := [.int r1]) hC hE kV_L_258 (c_X12_count l D K y fm hfm (xs 1)) hPm 0 11 rfl rfl rfl hl.1 rfl (Nat.le_of_ble_eq_true rfl) ⟨(Nat.le_of_ble_eq_true rfl), (Nat.le_of_ble_eq_true rfl)⟩ ⟨(Nat.le_of_ble_eq_true rfl), (Nat.le_of_ble_eq_true rfl)⟩ dL_law_2110 (fun r2 hw2 => ?_)
  refine lv_icmp_eq (tgt := 2343) hx hb dL_law_2113 (by decide) (fun _ => ?_) (fun h => absurd (two_eq hw1 hw2) h)
  refine W.widen (k := 1000) (n := 200000) (Nat.le_of_ble_eq_true rfl) (Nat.le_of_ble_eq_true rfl) ?_
  exact law_next hC hr hk hX hbl hS (lv_sub hl [3, 0] rfl)
set_option maxRecDepth 40000 in
set_option maxHeartbeats 4000000 in
theorem law_60 {p : Program} {l : Launch} {e : Env} {s : State} {m : MethodId} {below : List Frame} {meth : Method} {c : Code} {b : Nat} {xs : Nat → Int32} {D : va_G} {K : Nat → ClassId} (hC : CallFix p m c cL_law 4 s #[Value.ref b] wl RL) (hr : meth.sig.returnType = ret) (hk : meth.locks = false) (hX : va_X b 6 xs s s.heap) (hbl : b < s.heap.size) (hE : ev D K s) (x y : Nat → Nat) (fs fm : Nat → Int32) (hfs : ∀ j, j < 4 → fs j = -1) (hfm : ∀ j, j < 4 → fm j = -1) (H : Heap) (locs : List Loc) (hP : va_P D vwCl (fxL K x fs ++ mdL K y fm) H) (hD : va_D (fun q : Nat => s.heap.size ≤ q) (fxL K x fs ++ mdL K y fm)) (hPx : va_P D vwCl (fxL K x fs) H) (hPm : va_P D vwCl (mdL K y fm) H) (hS : va_S (fun q : Nat => s.heap.size ≤ q) s.heap H locs) (ls : Array Slot) (hl : lv_has ls 4 [(3, .int 0), (2, .ref (y 0)), (1, .ref (x 0)), (0, .ref b)]) : W p l e room_1 s m #[Value.ref b] below meth c H locs 900 150000 (lw_Z below #[Value.ref b] s) (F0 m 2118 ls []) := by
  have hx := hC.1
  have hb := hC.2.1
  have hown := hC.2.2.2.1
  have hts := hC.2.2.2.2
  have hbA : ¬ (fun q : Nat => s.heap.size ≤ q) b := Nat.not_le.mpr hbl
  refine lv_aload_n hx hb dL_law_2118 rfl (lv_at hl 2 rfl) ?_
  refine lv_aload_n hx hb dL_law_2119 rfl (lv_at hl 3 rfl) ?_
  refine lv_iload_n hx hb dL_law_2120 rfl (lv_at hl 0 rfl) ?_
  refine lv_iconst (v := 1) hx hb dL_law_2121 (by decide) ?_
  refine lv_iadd hx hb dL_law_2122 ?_
  refine tc (y := 1) (by decide) ?_
  refine va_sld hx hb hX hbl hbA hS (in_c (by decide)) dL_law_2123 ?_
  refine tc (y := xs 1) (congrArg xs (by decide)) ?_
  refine ci_V (As := [.int (xs 1)]) (rest := []) (wc := [(x 0, .inr (10, [.ref (x 1), .ref (x 2), .ref (x 3), .ref (x 40), .ref (x 4), .ref (x 41), .ref (x 42), .ref (x 5), .ref (x 43), .ref (x 44), .ref (x 6), .ref (x 7)])), (x 2, .inr (9, [.ref (x 10), .ref (x 11), .ref (x 12), .ref (x 13), .ref (x 14), .ref (x 15), .ref (x 16), .ref (x 17), .int 0, .int 0, .int 0, .int 0])), (x 3, .inr (2, [.ref (x 18), .ref (x 19), .ref (x 20), .ref (x 21), .ref (x 22), .int 0])), (x 6, .inl (K 4, 3, .inr (.inr (.inr (.inr (fun _ => none)))))), (x 7, .inl (K 5, 3, .inr (.inr (.inr (.inr (fun _ => none)))))), (x 10, .inl (K 1, 40, .inl (fun _ => 0))), (x 11, .inl (K 1, 10, .inl (fun _ => 0))), (x 12, .inl (K 1, 4, .inl (fun _ => 0))), (x 13, .inl (K 1, 4, .inl (fun _ => 0))), (x 14, .inl (K 1, 4, .inl (fun _ => 0))), (x 15, .inl (K 1, 5, .inl (fun _ => 0))), (x 16, .inl (K 1, 5, .inl (fun _ => 0))), (x 17, .inl (K 1, 5, .inl (fun _ => 0))), (x 18, .inl (K 1, 4, .inl (fun _ => 0))), (x 19, .inl (K 1, 4, .inl (fun _ => 0))), (x 20, .inl (K 1, 60, .inl (fun _ => 0))), (x 21, .inl (K 1, 60, .inl (fun _ => 0))), (x 22, .inl (K 1, 60, .inl (fun _ => 0)))]) (wr := (mdL K y fm)) hC hE kV_L_259 (c_X11_image l D K x (xs 1)) hP hD hS (fun _ h => h) [0, 2, 3, 6, 7, 10, 11, 12, 13, 14, 15, 16, 17, 18, 19, 20, 21, 22] [34, 35, 36, 37, 38, 39, 40, 41, 42, 43] rfl rfl rfl (by decide) (by decide) (by decide) 0 10 rfl rfl rfl hl.1 rfl (Nat.le_of_ble_eq_true rfl) ⟨(Nat.le_of_ble_eq_true rfl), (Nat.le_of_ble_eq_true rfl)⟩ ⟨(Nat.le_of_ble_eq_true rfl), (Nat.le_of_ble_eq_true rfl)⟩ dL_law_2124 (fun r1 _ H locs hw1 hP hD hS => ?_)
  replace hP : va_P D vwCl (mdL K y fm) H := hP
  replace hD : va_D (fun q : Nat => s.heap.size ≤ q) (mdL K y fm) := hD
  refine W.widen (k := 1000) (n := 200000) (Nat.le_of_ble_eq_true rfl) (Nat.le_of_ble_eq_true rfl) ?_
  have hPm := hP
  refine lv_aload_n hx hb dL_law_2127 rfl (lv_at hl 1 rfl) ?_
  refine lv_aload_n hx hb dL_law_2128 rfl (lv_at hl 3 rfl) ?_
  refine lv_iload_n hx hb dL_law_2129 rfl (lv_at hl 0 rfl) ?_
  refine lv_iconst (v := 1) hx hb dL_law_2130 (by decide) ?_
  refine lv_iadd hx hb dL_law_2131 ?_
  refine tc (y := 1) (by decide) ?_
  refine va_sld hx hb hX hbl hbA hS (in_c (by decide)) dL_law_2132 ?_
  refine tc (y := xs 1) (congrArg xs (by decide)) ?_
  refine ci_V (As := [.int (xs 1)]) (rest := [.int r1]) (wc := [(y 0, .inr (11, [.int 0, .ref (y 1), .ref (y 2), .ref (y 3), .ref (y 4), .int 0, .ref (y 5), .int 0, .int 0, .int 0, .int 0, .int 0, .int 0, .int (-1), .ref (y 6), .int 0, .int 0, .int 0, .int 0, .int 0, .int 0, .ref (y 121), .ref (y 122), .ref (y 123), .ref (y 124), .int 0, .ref (y 126), .ref (y 127), .ref (y 128), .ref (y 129), .ref (y 130), .ref (y 131), .ref (y 132), .ref (y 133), .ref (y 134), .ref (y 135), .ref (y 136), .int 0, .int 0, .int 0, .ref (y 140), .ref (y 141), .ref (y 142), .int 0, .int 0, .ref (y 145), .ref (y 146), .ref (y 147), .int 0, .ref (y 7), .ref (y 8), .ref (y 9), .ref (y 152)])), (y 1, .inl (K 1, 262, .inl (fun _ => 0))), (y 2, .inl (K 1, 786, .inl (fun _ => 0))), (y 3, .inl (K 3, 3, .inl (fun _ => 0)))]) (wr := []) hC hE kV_L_262 (c_X12_image l D K y (xs 1)) hP hD hS (fun _ h => h) [0, 1, 2, 3] [] rfl rfl rfl (by decide) (by decide) (by decide) 0 11 rfl rfl rfl hl.1 rfl (Nat.le_of_ble_eq_true rfl) ⟨(Nat.le_of_ble_eq_true rfl), (Nat.le_of_ble_eq_true rfl)⟩ ⟨(Nat.le_of_ble_eq_true rfl), (Nat.le_of_ble_eq_true rfl)⟩ dL_law_2133 (fun r2 _ H locs hw2 hP hD hS => ?_)
  refine W.widen (k := 1000) (n := 200000) (Nat.le_of_ble_eq_true rfl) (Nat.le_of_ble_eq_true rfl) ?_
  refine lv_icmp_eq (tgt := 2343) hx hb dL_law_2136 (by decide) (fun _ => ?_) (fun h => absurd (two_eq hw1 hw2) h)
  exact law_next hC hr hk hX hbl hS (lv_sub hl [3, 0] rfl)
set_option maxRecDepth 40000 in
set_option maxHeartbeats 4000000 in
theorem law_61 {p : Program} {l : Launch} {e : Env} {s : State} {m : MethodId} {below : List Frame} {meth : Method} {c : Code} {b : Nat} {xs : Nat → Int32} {D : va_G} {K : Nat → ClassId} (hC : CallFix p m c cL_law 4 s #[Value.ref b] wl RL) (hr : meth.sig.returnType = ret) (hk : meth.locks = false) (hX : va_X b 6 xs s s.heap) (hbl : b < s.heap.size) (hE : ev D K s) (x y : Nat → Nat) (fs fm : Nat → Int32) (hfs : ∀ j, j < 4 → fs j = -1) (hfm : ∀ j, j < 4 → fm j = -1) (H : Heap) (locs : List Loc) (hP : va_P D vwCl (fxL K x fs ++ mdL K y fm) H) (hD : va_D (fun q : Nat => s.heap.size ≤ q) (fxL K x fs ++ mdL K y fm)) (hPx : va_P D vwCl (fxL K x fs) H) (hPm : va_P D vwCl (mdL K y fm) H) (hS : va_S (fun q : Nat => s.heap.size ≤ q) s.heap H locs) (ls : Array Slot) (hl : lv_has ls 4 [(3, .int 0), (2, .ref (y 0)), (1, .ref (x 0)), (0, .ref b)]) : W p l e room_1 s m #[Value.ref b] below meth c H locs 900 150000 (lw_Z below #[Value.ref b] s) (F0 m 2141 ls []) := by
  have hx := hC.1
  have hb := hC.2.1
  have hown := hC.2.2.2.1
  have hts := hC.2.2.2.2
  have hbA : ¬ (fun q : Nat => s.heap.size ≤ q) b := Nat.not_le.mpr hbl
  refine lv_aload_n hx hb dL_law_2141 rfl (lv_at hl 2 rfl) ?_
  refine lv_aload_n hx hb dL_law_2142 rfl (lv_at hl 3 rfl) ?_
  refine lv_iload_n hx hb dL_law_2143 rfl (lv_at hl 0 rfl) ?_
  refine lv_iconst (v := 1) hx hb dL_law_2144 (by decide) ?_
  refine lv_iadd hx hb dL_law_2145 ?_
  refine tc (y := 1) (by decide) ?_
  refine va_sld hx hb hX hbl hbA hS (in_c (by decide)) dL_law_2146 ?_
  refine tc (y := xs 1) (congrArg xs (by decide)) ?_
  refine ro_V (As := [.int (xs 1)]) (rest := []) hC hE kV_L_263 (c_X11_back l D K x fs hfs (xs 1)) hPx 0 10 rfl rfl rfl hl.1 rfl (Nat.le_of_ble_eq_true rfl) ⟨(Nat.le_of_ble_eq_true rfl), (Nat.le_of_ble_eq_true rfl)⟩ ⟨(Nat.le_of_ble_eq_true rfl), (Nat.le_of_ble_eq_true rfl)⟩ dL_law_2147 (fun r1 hw1 => ?_)
  refine lv_aload_n hx hb dL_law_2150 rfl (lv_at hl 1 rfl) ?_
  refine lv_aload_n hx hb dL_law_2151 rfl (lv_at hl 3 rfl) ?_
  refine lv_iload_n hx hb dL_law_2152 rfl (lv_at hl 0 rfl) ?_
  refine lv_iconst (v := 1) hx hb dL_law_2153 (by decide) ?_
  refine lv_iadd hx hb dL_law_2154 ?_
  refine tc (y := 1) (by decide) ?_
  refine va_sld hx hb hX hbl hbA hS (in_c (by decide)) dL_law_2155 ?_
  refine tc (y := xs 1) (congrArg xs (by decide)) ?_
  refine ro_V (As := [.int (xs 1)]) (rest := [.int r1]) hC hE kV_L_266 (c_X12_back l D K y fm hfm (xs 1)) hPm 0 11 rfl rfl rfl hl.1 rfl (Nat.le_of_ble_eq_true rfl) ⟨(Nat.le_of_ble_eq_true rfl), (Nat.le_of_ble_eq_true rfl)⟩ ⟨(Nat.le_of_ble_eq_true rfl), (Nat.le_of_ble_eq_true rfl)⟩ dL_law_2156 (fun r2 hw2 => ?_)
  refine lv_icmp_eq (tgt := 2343) hx hb dL_law_2159 (by decide) (fun _ => ?_) (fun h => absurd (two_eq hw1 hw2) h)
  refine W.widen (k := 1000) (n := 200000) (Nat.le_of_ble_eq_true rfl) (Nat.le_of_ble_eq_true rfl) ?_
  exact law_next hC hr hk hX hbl hS (lv_sub hl [3, 0] rfl)
set_option maxRecDepth 40000 in
set_option maxHeartbeats 4000000 in
theorem law_62 {p : Program} {l : Launch} {e : Env} {s : State} {m : MethodId} {below : List Frame} {meth : Method} {c : Code} {b : Nat} {xs : Nat → Int32} {D : va_G} {K : Nat → ClassId} (hC : CallFix p m c cL_law 4 s #[Value.ref b] wl RL) (hr : meth.sig.returnType = ret) (hk : meth.locks = false) (hX : va_X b 6 xs s s.heap) (hbl : b < s.heap.size) (hE : ev D K s) (x y : Nat → Nat) (fs fm : Nat → Int32) (hfs : ∀ j, j < 4 → fs j = -1) (hfm : ∀ j, j < 4 → fm j = -1) (H : Heap) (locs : List Loc) (hP : va_P D vwCl (fxL K x fs ++ mdL K y fm) H) (hD : va_D (fun q : Nat => s.heap.size ≤ q) (fxL K x fs ++ mdL K y fm)) (hPx : va_P D vwCl (fxL K x fs) H) (hPm : va_P D vwCl (mdL K y fm) H) (hS : va_S (fun q : Nat => s.heap.size ≤ q) s.heap H locs) (ls : Array Slot) (hl : lv_has ls 4 [(3, .int 0), (2, .ref (y 0)), (1, .ref (x 0)), (0, .ref b)]) : W p l e room_1 s m #[Value.ref b] below meth c H locs 900 150000 (lw_Z below #[Value.ref b] s) (F0 m 2164 ls []) := by
  have hx := hC.1
  have hb := hC.2.1
  have hown := hC.2.2.2.1
  have hts := hC.2.2.2.2
  have hbA : ¬ (fun q : Nat => s.heap.size ≤ q) b := Nat.not_le.mpr hbl
  refine lv_aload_n hx hb dL_law_2164 rfl (lv_at hl 2 rfl) ?_
  refine lv_aload_n hx hb dL_law_2165 rfl (lv_at hl 3 rfl) ?_
  refine lv_iload_n hx hb dL_law_2166 rfl (lv_at hl 0 rfl) ?_
  refine lv_iconst (v := 1) hx hb dL_law_2167 (by decide) ?_
  refine lv_iadd hx hb dL_law_2168 ?_
  refine tc (y := 1) (by decide) ?_
  refine va_sld hx hb hX hbl hbA hS (in_c (by decide)) dL_law_2169 ?_
  refine tc (y := xs 1) (congrArg xs (by decide)) ?_
  refine lv_aload_n hx hb dL_law_2170 rfl (lv_at hl 3 rfl) ?_
  refine lv_iload_n hx hb dL_law_2171 rfl (lv_at hl 0 rfl) ?_
  refine lv_iconst (v := 2) hx hb dL_law_2172 (by decide) ?_
  refine lv_iadd hx hb dL_law_2173 ?_
  refine tc (y := 2) (by decide) ?_
  refine va_sld hx hb hX hbl hbA hS (in_c (by decide)) dL_law_2174 ?_
  refine tc (y := xs 2) (congrArg xs (by decide)) ?_
  refine lv_aload_n hx hb dL_law_2175 rfl (lv_at hl 3 rfl) ?_
  refine lv_iload_n hx hb dL_law_2176 rfl (lv_at hl 0 rfl) ?_
  refine lv_iconst (v := 3) hx hb dL_law_2177 (by decide) ?_
  refine lv_iadd hx hb dL_law_2178 ?_
  refine tc (y := 3) (by decide) ?_
  refine va_sld hx hb hX hbl hbA hS (in_c (by decide)) dL_law_2179 ?_
  refine tc (y := xs 3) (congrArg xs (by decide)) ?_
  refine ci_V (As := [.int (xs 1), .int (xs 2), .int (xs 3)]) (rest := []) (wc := [(x 0, .inr (10, [.ref (x 1), .ref (x 2), .ref (x 3), .ref (x 40), .ref (x 4), .ref (x 41), .ref (x 42), .ref (x 5), .ref (x 43), .ref (x 44), .ref (x 6), .ref (x 7)])), (x 4, .inr (5, [.ref (x 23), .ref (x 24), .ref (x 25)])), (x 23, .inl (K 2, 240, .inr (.inl (fun _ => 0)))), (x 24, .inl (K 1, 4, .inl (fun _ => 0))), (x 25, .inl (K 1, 4, .inl fs))]) (wr := (mdL K y fm)) hC hE kV_L_267 (c_X11_row l D K x fs (xs 1) (xs 2) (xs 3)) hP hD hS (fun _ h => h) [0, 4, 23, 24, 25] [34, 35, 36, 37, 38, 39, 40, 41, 42, 43] rfl rfl rfl (by decide) (by decide) (by decide) 0 10 rfl rfl rfl hl.1 rfl (Nat.le_of_ble_eq_true rfl) ⟨(Nat.le_of_ble_eq_true rfl), (Nat.le_of_ble_eq_true rfl)⟩ ⟨(Nat.le_of_ble_eq_true rfl), (Nat.le_of_ble_eq_true rfl)⟩ dL_law_2180 (fun r1 _ H locs hw1 hP hD hS => ?_)
  replace hP : va_P D vwCl (mdL K y fm) H := hP
  replace hD : va_D (fun q : Nat => s.heap.size ≤ q) (mdL K y fm) := hD
  refine W.widen (k := 1000) (n := 200000) (Nat.le_of_ble_eq_true rfl) (Nat.le_of_ble_eq_true rfl) ?_
  have hPm := hP
  refine lv_aload_n hx hb dL_law_2183 rfl (lv_at hl 1 rfl) ?_
  refine lv_aload_n hx hb dL_law_2184 rfl (lv_at hl 3 rfl) ?_
  refine lv_iload_n hx hb dL_law_2185 rfl (lv_at hl 0 rfl) ?_
  refine lv_iconst (v := 1) hx hb dL_law_2186 (by decide) ?_
  refine lv_iadd hx hb dL_law_2187 ?_
  refine tc (y := 1) (by decide) ?_
  refine va_sld hx hb hX hbl hbA hS (in_c (by decide)) dL_law_2188 ?_
  refine tc (y := xs 1) (congrArg xs (by decide)) ?_
  refine lv_aload_n hx hb dL_law_2189 rfl (lv_at hl 3 rfl) ?_
  refine lv_iload_n hx hb dL_law_2190 rfl (lv_at hl 0 rfl) ?_
  refine lv_iconst (v := 2) hx hb dL_law_2191 (by decide) ?_
  refine lv_iadd hx hb dL_law_2192 ?_
  refine tc (y := 2) (by decide) ?_
  refine va_sld hx hb hX hbl hbA hS (in_c (by decide)) dL_law_2193 ?_
  refine tc (y := xs 2) (congrArg xs (by decide)) ?_
  refine lv_aload_n hx hb dL_law_2194 rfl (lv_at hl 3 rfl) ?_
  refine lv_iload_n hx hb dL_law_2195 rfl (lv_at hl 0 rfl) ?_
  refine lv_iconst (v := 3) hx hb dL_law_2196 (by decide) ?_
  refine lv_iadd hx hb dL_law_2197 ?_
  refine tc (y := 3) (by decide) ?_
  refine va_sld hx hb hX hbl hbA hS (in_c (by decide)) dL_law_2198 ?_
  refine tc (y := xs 3) (congrArg xs (by decide)) ?_
  refine ci_V (As := [.int (xs 1), .int (xs 2), .int (xs 3)]) (rest := [.int r1]) (wc := [(y 0, .inr (11, [.int 0, .ref (y 1), .ref (y 2), .ref (y 3), .ref (y 4), .int 0, .ref (y 5), .int 0, .int 0, .int 0, .int 0, .int 0, .int 0, .int (-1), .ref (y 6), .int 0, .int 0, .int 0, .int 0, .int 0, .int 0, .ref (y 121), .ref (y 122), .ref (y 123), .ref (y 124), .int 0, .ref (y 126), .ref (y 127), .ref (y 128), .ref (y 129), .ref (y 130), .ref (y 131), .ref (y 132), .ref (y 133), .ref (y 134), .ref (y 135), .ref (y 136), .int 0, .int 0, .int 0, .ref (y 140), .ref (y 141), .ref (y 142), .int 0, .int 0, .ref (y 145), .ref (y 146), .ref (y 147), .int 0, .ref (y 7), .ref (y 8), .ref (y 9), .ref (y 152)])), (y 7, .inl (K 1, 4, .inl fm)), (y 8, .inl (K 1, 4, .inl (fun _ => 0))), (y 9, .inl (K 2, 240, .inr (.inl (fun _ => 0))))]) (wr := []) hC hE kV_L_270 (c_X12_row l D K y fm (xs 1) (xs 2) (xs 3)) hP hD hS (fun _ h => h) [0, 7, 8, 9] [] rfl rfl rfl (by decide) (by decide) (by decide) 0 11 rfl rfl rfl hl.1 rfl (Nat.le_of_ble_eq_true rfl) ⟨(Nat.le_of_ble_eq_true rfl), (Nat.le_of_ble_eq_true rfl)⟩ ⟨(Nat.le_of_ble_eq_true rfl), (Nat.le_of_ble_eq_true rfl)⟩ dL_law_2199 (fun r2 _ H locs hw2 hP hD hS => ?_)
  refine W.widen (k := 1000) (n := 200000) (Nat.le_of_ble_eq_true rfl) (Nat.le_of_ble_eq_true rfl) ?_
  refine lv_icmp_eq (tgt := 2343) hx hb dL_law_2202 (by decide) (fun _ => ?_) (fun h => absurd (rowP_eq hw1 hw2) h)
  exact law_next hC hr hk hX hbl hS (lv_sub hl [3, 0] rfl)
set_option maxRecDepth 40000 in
set_option maxHeartbeats 4000000 in
theorem law_63 {p : Program} {l : Launch} {e : Env} {s : State} {m : MethodId} {below : List Frame} {meth : Method} {c : Code} {b : Nat} {xs : Nat → Int32} {D : va_G} {K : Nat → ClassId} (hC : CallFix p m c cL_law 4 s #[Value.ref b] wl RL) (hr : meth.sig.returnType = ret) (hk : meth.locks = false) (hX : va_X b 6 xs s s.heap) (hbl : b < s.heap.size) (hE : ev D K s) (x y : Nat → Nat) (fs fm : Nat → Int32) (hfs : ∀ j, j < 4 → fs j = -1) (hfm : ∀ j, j < 4 → fm j = -1) (H : Heap) (locs : List Loc) (hP : va_P D vwCl (fxL K x fs ++ mdL K y fm) H) (hD : va_D (fun q : Nat => s.heap.size ≤ q) (fxL K x fs ++ mdL K y fm)) (hPx : va_P D vwCl (fxL K x fs) H) (hPm : va_P D vwCl (mdL K y fm) H) (hS : va_S (fun q : Nat => s.heap.size ≤ q) s.heap H locs) (ls : Array Slot) (hl : lv_has ls 4 [(3, .int 0), (2, .ref (y 0)), (1, .ref (x 0)), (0, .ref b)]) : W p l e room_1 s m #[Value.ref b] below meth c H locs 900 150000 (lw_Z below #[Value.ref b] s) (F0 m 2207 ls []) := by
  have hx := hC.1
  have hb := hC.2.1
  have hown := hC.2.2.2.1
  have hts := hC.2.2.2.2
  have hbA : ¬ (fun q : Nat => s.heap.size ≤ q) b := Nat.not_le.mpr hbl
  refine lv_aload_n hx hb dL_law_2207 rfl (lv_at hl 2 rfl) ?_
  refine lv_aload_n hx hb dL_law_2208 rfl (lv_at hl 3 rfl) ?_
  refine lv_iload_n hx hb dL_law_2209 rfl (lv_at hl 0 rfl) ?_
  refine lv_iconst (v := 1) hx hb dL_law_2210 (by decide) ?_
  refine lv_iadd hx hb dL_law_2211 ?_
  refine tc (y := 1) (by decide) ?_
  refine va_sld hx hb hX hbl hbA hS (in_c (by decide)) dL_law_2212 ?_
  refine tc (y := xs 1) (congrArg xs (by decide)) ?_
  refine lv_aload_n hx hb dL_law_2213 rfl (lv_at hl 3 rfl) ?_
  refine lv_iload_n hx hb dL_law_2214 rfl (lv_at hl 0 rfl) ?_
  refine lv_iconst (v := 2) hx hb dL_law_2215 (by decide) ?_
  refine lv_iadd hx hb dL_law_2216 ?_
  refine tc (y := 2) (by decide) ?_
  refine va_sld hx hb hX hbl hbA hS (in_c (by decide)) dL_law_2217 ?_
  refine tc (y := xs 2) (congrArg xs (by decide)) ?_
  refine lv_aload_n hx hb dL_law_2218 rfl (lv_at hl 3 rfl) ?_
  refine lv_iload_n hx hb dL_law_2219 rfl (lv_at hl 0 rfl) ?_
  refine lv_iconst (v := 3) hx hb dL_law_2220 (by decide) ?_
  refine lv_iadd hx hb dL_law_2221 ?_
  refine tc (y := 3) (by decide) ?_
  refine va_sld hx hb hX hbl hbA hS (in_c (by decide)) dL_law_2222 ?_
  refine tc (y := xs 3) (congrArg xs (by decide)) ?_
  refine lv_i2l (v := (xs 3).toInt64) hx hb dL_law_2223 rfl ?_
  refine lv_bipush (v := 32) hx hb dL_law_2224 (by decide) ?_
  refine lv_lshl hx hb dL_law_2226 rfl ?_
  refine lv_topl (fun v411 ev411 => ?_)
  refine lv_aload_n hx hb dL_law_2227 rfl (lv_at hl 3 rfl) ?_
  refine lv_iload_n hx hb dL_law_2228 rfl (lv_at hl 0 rfl) ?_
  refine lv_iconst (v := 4) hx hb dL_law_2229 (by decide) ?_
  refine lv_iadd hx hb dL_law_2230 ?_
  refine tc (y := 4) (by decide) ?_
  refine va_sld hx hb hX hbl hbA hS (in_c (by decide)) dL_law_2231 ?_
  refine tc (y := xs 4) (congrArg xs (by decide)) ?_
  refine lv_i2l (v := (xs 4).toInt64) hx hb dL_law_2232 rfl ?_
  refine lv_ldc2 (v := 4294967295) hx hb hown (hts _ w_1017) dL_law_2233 ?_
  refine lv_land hx hb dL_law_2236 ?_
  refine lv_topl (fun v412 ev412 => ?_)
  refine lv_lor hx hb dL_law_2237 ?_
  refine lv_topl (fun v413 ev413 => ?_)
  refine ro_V (As := [.int (xs 1), .int (xs 2), .long v413]) (rest := []) hC hE kV_L_273 (c_X11_write l D K x fs hfs (xs 1) (xs 2) v413) hPx 0 10 rfl rfl rfl hl.1 rfl (Nat.le_of_ble_eq_true rfl) ⟨(Nat.le_of_ble_eq_true rfl), (Nat.le_of_ble_eq_true rfl)⟩ ⟨(Nat.le_of_ble_eq_true rfl), (Nat.le_of_ble_eq_true rfl)⟩ dL_law_2238 (fun r1 hw1 => ?_)
  refine lv_aload_n hx hb dL_law_2241 rfl (lv_at hl 1 rfl) ?_
  refine lv_aload_n hx hb dL_law_2242 rfl (lv_at hl 3 rfl) ?_
  refine lv_iload_n hx hb dL_law_2243 rfl (lv_at hl 0 rfl) ?_
  refine lv_iconst (v := 1) hx hb dL_law_2244 (by decide) ?_
  refine lv_iadd hx hb dL_law_2245 ?_
  refine tc (y := 1) (by decide) ?_
  refine va_sld hx hb hX hbl hbA hS (in_c (by decide)) dL_law_2246 ?_
  refine tc (y := xs 1) (congrArg xs (by decide)) ?_
  refine lv_aload_n hx hb dL_law_2247 rfl (lv_at hl 3 rfl) ?_
  refine lv_iload_n hx hb dL_law_2248 rfl (lv_at hl 0 rfl) ?_
  refine lv_iconst (v := 2) hx hb dL_law_2249 (by decide) ?_
  refine lv_iadd hx hb dL_law_2250 ?_
  refine tc (y := 2) (by decide) ?_
  refine va_sld hx hb hX hbl hbA hS (in_c (by decide)) dL_law_2251 ?_
  refine tc (y := xs 2) (congrArg xs (by decide)) ?_
  refine lv_aload_n hx hb dL_law_2252 rfl (lv_at hl 3 rfl) ?_
  refine lv_iload_n hx hb dL_law_2253 rfl (lv_at hl 0 rfl) ?_
  refine lv_iconst (v := 3) hx hb dL_law_2254 (by decide) ?_
  refine lv_iadd hx hb dL_law_2255 ?_
  refine tc (y := 3) (by decide) ?_
  refine va_sld hx hb hX hbl hbA hS (in_c (by decide)) dL_law_2256 ?_
  refine tc (y := xs 3) (congrArg xs (by decide)) ?_
  refine lv_i2l (v := (xs 3).toInt64) hx hb dL_law_2257 rfl ?_
  refine lv_bipush (v := 32) hx hb dL_law_2258 (by decide) ?_
  refine lv_lshl hx hb dL_law_2260 rfl ?_
  refine lv_topl (fun v414 ev414 => ?_)
  refine lv_aload_n hx hb dL_law_2261 rfl (lv_at hl 3 rfl) ?_
  refine lv_iload_n hx hb dL_law_2262 rfl (lv_at hl 0 rfl) ?_
  refine lv_iconst (v := 4) hx hb dL_law_2263 (by decide) ?_
  refine lv_iadd hx hb dL_law_2264 ?_
  refine tc (y := 4) (by decide) ?_
  refine va_sld hx hb hX hbl hbA hS (in_c (by decide)) dL_law_2265 ?_
  refine tc (y := xs 4) (congrArg xs (by decide)) ?_
  refine lv_i2l (v := (xs 4).toInt64) hx hb dL_law_2266 rfl ?_
  refine lv_ldc2 (v := 4294967295) hx hb hown (hts _ w_1017) dL_law_2267 ?_
  refine lv_land hx hb dL_law_2270 ?_
  refine lv_topl (fun v415 ev415 => ?_)
  refine lv_lor hx hb dL_law_2271 ?_
  refine lv_topl (fun v416 ev416 => ?_)
  refine ro_V (As := [.int (xs 1), .int (xs 2), .long v416]) (rest := [.int r1]) hC hE kV_L_277 (c_X12_write l D K y fm hfm (xs 1) (xs 2) v416) hPm 0 11 rfl rfl rfl hl.1 rfl (Nat.le_of_ble_eq_true rfl) ⟨(Nat.le_of_ble_eq_true rfl), (Nat.le_of_ble_eq_true rfl)⟩ ⟨(Nat.le_of_ble_eq_true rfl), (Nat.le_of_ble_eq_true rfl)⟩ dL_law_2272 (fun r2 hw2 => ?_)
  refine lv_icmp_eq (tgt := 2343) hx hb dL_law_2275 (by decide) (fun _ => ?_) (fun h => absurd (two_eq hw1 hw2) h)
  refine W.widen (k := 1000) (n := 200000) (Nat.le_of_ble_eq_true rfl) (Nat.le_of_ble_eq_true rfl) ?_
  exact law_next hC hr hk hX hbl hS (lv_sub hl [3, 0] rfl)
set_option maxRecDepth 40000 in
set_option maxHeartbeats 4000000 in
theorem law_64 {p : Program} {l : Launch} {e : Env} {s : State} {m : MethodId} {below : List Frame} {meth : Method} {c : Code} {b : Nat} {xs : Nat → Int32} {D : va_G} {K : Nat → ClassId} (hC : CallFix p m c cL_law 4 s #[Value.ref b] wl RL) (hr : meth.sig.returnType = ret) (hk : meth.locks = false) (hX : va_X b 6 xs s s.heap) (hbl : b < s.heap.size) (hE : ev D K s) (x y : Nat → Nat) (fs fm : Nat → Int32) (hfs : ∀ j, j < 4 → fs j = -1) (hfm : ∀ j, j < 4 → fm j = -1) (H : Heap) (locs : List Loc) (hP : va_P D vwCl (fxL K x fs ++ mdL K y fm) H) (hD : va_D (fun q : Nat => s.heap.size ≤ q) (fxL K x fs ++ mdL K y fm)) (hPx : va_P D vwCl (fxL K x fs) H) (hPm : va_P D vwCl (mdL K y fm) H) (hS : va_S (fun q : Nat => s.heap.size ≤ q) s.heap H locs) (ls : Array Slot) (hl : lv_has ls 4 [(3, .int 0), (2, .ref (y 0)), (1, .ref (x 0)), (0, .ref b)]) : W p l e room_1 s m #[Value.ref b] below meth c H locs 900 150000 (lw_Z below #[Value.ref b] s) (F0 m 2280 ls []) := by
  have hx := hC.1
  have hb := hC.2.1
  have hown := hC.2.2.2.1
  have hts := hC.2.2.2.2
  have hbA : ¬ (fun q : Nat => s.heap.size ≤ q) b := Nat.not_le.mpr hbl
  refine lv_aload_n hx hb dL_law_2280 rfl (lv_at hl 2 rfl) ?_
  refine lv_aload_n hx hb dL_law_2281 rfl (lv_at hl 3 rfl) ?_
  refine lv_iload_n hx hb dL_law_2282 rfl (lv_at hl 0 rfl) ?_
  refine lv_iconst (v := 1) hx hb dL_law_2283 (by decide) ?_
  refine lv_iadd hx hb dL_law_2284 ?_
  refine tc (y := 1) (by decide) ?_
  refine va_sld hx hb hX hbl hbA hS (in_c (by decide)) dL_law_2285 ?_
  refine tc (y := xs 1) (congrArg xs (by decide)) ?_
  refine lv_aload_n hx hb dL_law_2286 rfl (lv_at hl 3 rfl) ?_
  refine lv_iload_n hx hb dL_law_2287 rfl (lv_at hl 0 rfl) ?_
  refine lv_iconst (v := 2) hx hb dL_law_2288 (by decide) ?_
  refine lv_iadd hx hb dL_law_2289 ?_
  refine tc (y := 2) (by decide) ?_
  refine va_sld hx hb hX hbl hbA hS (in_c (by decide)) dL_law_2290 ?_
  refine tc (y := xs 2) (congrArg xs (by decide)) ?_
  refine lv_aload_n hx hb dL_law_2291 rfl (lv_at hl 3 rfl) ?_
  refine lv_iload_n hx hb dL_law_2292 rfl (lv_at hl 0 rfl) ?_
  refine lv_iconst (v := 3) hx hb dL_law_2293 (by decide) ?_
  refine lv_iadd hx hb dL_law_2294 ?_
  refine tc (y := 3) (by decide) ?_
  refine va_sld hx hb hX hbl hbA hS (in_c (by decide)) dL_law_2295 ?_
  refine tc (y := xs 3) (congrArg xs (by decide)) ?_
  refine lv_aload_n hx hb dL_law_2296 rfl (lv_at hl 3 rfl) ?_
  refine lv_iload_n hx hb dL_law_2297 rfl (lv_at hl 0 rfl) ?_
  refine lv_iconst (v := 4) hx hb dL_law_2298 (by decide) ?_
  refine lv_iadd hx hb dL_law_2299 ?_
  refine tc (y := 4) (by decide) ?_
  refine va_sld hx hb hX hbl hbA hS (in_c (by decide)) dL_law_2300 ?_
  refine tc (y := xs 4) (congrArg xs (by decide)) ?_
  refine lv_aload_n hx hb dL_law_2301 rfl (lv_at hl 3 rfl) ?_
  refine lv_iload_n hx hb dL_law_2302 rfl (lv_at hl 0 rfl) ?_
  refine lv_iconst (v := 5) hx hb dL_law_2303 (by decide) ?_
  refine lv_iadd hx hb dL_law_2304 ?_
  refine tc (y := 5) (by decide) ?_
  refine va_sld hx hb hX hbl hbA hS (in_c (by decide)) dL_law_2305 ?_
  refine tc (y := xs 5) (congrArg xs (by decide)) ?_
  refine ro_V (As := [.int (xs 1), .int (xs 2), .int (xs 3), .int (xs 4), .int (xs 5)]) (rest := []) hC hE kV_L_278 (c_X11_paste l D K x fs hfs (xs 1) (xs 2) (xs 3) (xs 4) (xs 5)) hPx 0 10 rfl rfl rfl hl.1 rfl (Nat.le_of_ble_eq_true rfl) ⟨(Nat.le_of_ble_eq_true rfl), (Nat.le_of_ble_eq_true rfl)⟩ ⟨(Nat.le_of_ble_eq_true rfl), (Nat.le_of_ble_eq_true rfl)⟩ dL_law_2306 (fun r1 hw1 => ?_)
  refine lv_aload_n hx hb dL_law_2309 rfl (lv_at hl 1 rfl) ?_
  refine lv_aload_n hx hb dL_law_2310 rfl (lv_at hl 3 rfl) ?_
  refine lv_iload_n hx hb dL_law_2311 rfl (lv_at hl 0 rfl) ?_
  refine lv_iconst (v := 1) hx hb dL_law_2312 (by decide) ?_
  refine lv_iadd hx hb dL_law_2313 ?_
  refine tc (y := 1) (by decide) ?_
  refine va_sld hx hb hX hbl hbA hS (in_c (by decide)) dL_law_2314 ?_
  refine tc (y := xs 1) (congrArg xs (by decide)) ?_
  refine lv_aload_n hx hb dL_law_2315 rfl (lv_at hl 3 rfl) ?_
  refine lv_iload_n hx hb dL_law_2316 rfl (lv_at hl 0 rfl) ?_
  refine lv_iconst (v := 2) hx hb dL_law_2317 (by decide) ?_
  refine lv_iadd hx hb dL_law_2318 ?_
  refine tc (y := 2) (by decide) ?_
  refine va_sld hx hb hX hbl hbA hS (in_c (by decide)) dL_law_2319 ?_
  refine tc (y := xs 2) (congrArg xs (by decide)) ?_
  refine lv_aload_n hx hb dL_law_2320 rfl (lv_at hl 3 rfl) ?_
  refine lv_iload_n hx hb dL_law_2321 rfl (lv_at hl 0 rfl) ?_
  refine lv_iconst (v := 3) hx hb dL_law_2322 (by decide) ?_
  refine lv_iadd hx hb dL_law_2323 ?_
  refine tc (y := 3) (by decide) ?_
  refine va_sld hx hb hX hbl hbA hS (in_c (by decide)) dL_law_2324 ?_
  refine tc (y := xs 3) (congrArg xs (by decide)) ?_
  refine lv_aload_n hx hb dL_law_2325 rfl (lv_at hl 3 rfl) ?_
  refine lv_iload_n hx hb dL_law_2326 rfl (lv_at hl 0 rfl) ?_
  refine lv_iconst (v := 4) hx hb dL_law_2327 (by decide) ?_
  refine lv_iadd hx hb dL_law_2328 ?_
  refine tc (y := 4) (by decide) ?_
  refine va_sld hx hb hX hbl hbA hS (in_c (by decide)) dL_law_2329 ?_
  refine tc (y := xs 4) (congrArg xs (by decide)) ?_
  refine lv_aload_n hx hb dL_law_2330 rfl (lv_at hl 3 rfl) ?_
  refine lv_iload_n hx hb dL_law_2331 rfl (lv_at hl 0 rfl) ?_
  refine lv_iconst (v := 5) hx hb dL_law_2332 (by decide) ?_
  refine lv_iadd hx hb dL_law_2333 ?_
  refine tc (y := 5) (by decide) ?_
  refine va_sld hx hb hX hbl hbA hS (in_c (by decide)) dL_law_2334 ?_
  refine tc (y := xs 5) (congrArg xs (by decide)) ?_
  refine ro_V (As := [.int (xs 1), .int (xs 2), .int (xs 3), .int (xs 4), .int (xs 5)]) (rest := [.int r1]) hC hE kV_L_281 (c_X12_paste l D K y fm hfm (xs 1) (xs 2) (xs 3) (xs 4) (xs 5)) hPm 0 11 rfl rfl rfl hl.1 rfl (Nat.le_of_ble_eq_true rfl) ⟨(Nat.le_of_ble_eq_true rfl), (Nat.le_of_ble_eq_true rfl)⟩ ⟨(Nat.le_of_ble_eq_true rfl), (Nat.le_of_ble_eq_true rfl)⟩ dL_law_2335 (fun r2 hw2 => ?_)
  refine lv_icmp_eq (tgt := 2343) hx hb dL_law_2338 (by decide) (fun _ => ?_) (fun h => absurd (two_eq hw1 hw2) h)
  refine W.widen (k := 1000) (n := 200000) (Nat.le_of_ble_eq_true rfl) (Nat.le_of_ble_eq_true rfl) ?_
  exact law_next hC hr hk hX hbl hS (lv_sub hl [3, 0] rfl)
