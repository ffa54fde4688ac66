set_option maxRecDepth 20000 in
theorem c_X11_paste (l : Launch) (D : va_G) (K : Nat → ClassId) (x : Nat → Nat) (fs : Nat → Int32) (hfs : ∀ j, j < 4 → fs j = -1) (p0 : Int32) (p1 : Int32) (p2 : Int32) (p3 : Int32) (p4 : Int32) : Ro l D K yX11_paste cX11_paste 6 (some .int) 2 41 [.ref (x 0), .int p0, .int p1, .int p2, .int p3, .int p4] (fxL K x fs) (fun r => ((vp_in p0 4 ∧ vp_in p2 4) ∧ r = (-6)) ∨ (¬ (vp_in p0 4 ∧ vp_in p2 4) ∧ r = (-2))) := by
  refine ro_of (by decide) (Nat.le_of_ble_eq_true rfl) ?_
  intro p e s m below meth c hC hr hk hE hP ls hl
  have hC : CallFix p m c cX11_paste 6 s [.ref (x 0), .int p0, .int p1, .int p2, .int p3, .int p4].toArray wl RX11 := hC
  have hx := hC.1
  have hb := hC.2.1
  have hml := hC.2.2.1
  have hown := hC.2.2.2.1
  have hts := hC.2.2.2.2
  have hl : lv_has ls 6 [(0, .ref (x 0)), (1, .int p0), (2, .int p1), (3, .int p2), (4, .int p3), (5, .int p4)] := hl
  refine lv_iload_n hx hb dX11_paste_0 rfl (lv_at hl 1 rfl) ?_
  refine ro_S (As := [.int p0]) (rest := []) hC hE kS_X11_352 (c_X11_isSlot l D K p0) (hP.sub (ws' := []) [] rfl) rfl hl.1 rfl (Nat.le_of_ble_eq_true rfl) (by decide) (by decide) dX11_paste_1 (fun r hq => ?_)
  rcases hq with ⟨h40, rfl⟩ | ⟨h41, rfl⟩
  · refine lv_if_eq (tgt := 14) hx hb dX11_paste_4 (by decide) (fun h => absurd h (by decide)) (fun _ => ?_)
    refine lv_iload_n hx hb dX11_paste_7 rfl (lv_at hl 3 rfl) ?_
    refine ro_S (As := [.int p2]) (rest := []) hC hE kS_X11_352 (c_X11_isSlot l D K p2) (hP.sub (ws' := []) [] rfl) rfl hl.1 rfl (Nat.le_of_ble_eq_true rfl) (by decide) (by decide) dX11_paste_8 (fun r hq => ?_)
    rcases hq with ⟨h42, rfl⟩ | ⟨h43, rfl⟩
    · refine lv_if_ne (tgt := 17) hx hb dX11_paste_11 (by decide) (fun _ => ?_) (fun h => absurd h (by decide))
      refine lv_aload_n hx hb dX11_paste_17 rfl (lv_at hl 0 rfl) ?_
      refine va_get (D := D) (ci := 10) (v := .ref (x 4)) (C := RX11) (T := TX11) (N := 12) hx hb hts in_X11 hown hE.1 hP 0 rfl rfl 4 (by decide) (hts _ w_134) (fun _ h9 => h9) rfl dX11_paste_18 ?_
      refine lv_iload_n hx hb dX11_paste_21 rfl (lv_at hl 1 rfl) ?_
      refine ro_V (As := [.int p0]) (rest := []) hC hE kV_X11_358 (c_X5_has l D K (x 4) (fun k => x (23 + k)) fs hfs p0) (hP.sub (ws' := [(x 4, .inr (5, [.ref (x 23), .ref (x 24), .ref (x 25)])), (x 25, .inl (K 1, 4, .inl fs))]) [4, 25] rfl) 0 5 rfl rfl rfl hl.1 rfl (Nat.le_of_ble_eq_true rfl) (by decide) (by decide) dX11_paste_22 (fun r hq => ?_)
      subst hq
      refine lv_if_eq (tgt := 39) hx hb dX11_paste_25 (by decide) (fun _ => ?_) (fun h => absurd h (by decide))
      refine lv_bipush (v := (-6)) hx hb dX11_paste_39 (by decide) ?_
      exact ro_ret hC hr hk dX11_paste_41 (Or.inl ⟨⟨h40, h42⟩, rfl⟩)
    · refine lv_if_ne (tgt := 17) hx hb dX11_paste_11 (by decide) (fun h => absurd h (by decide)) (fun _ => ?_)
      refine lv_bipush (v := (-2)) hx hb dX11_paste_14 (by decide) ?_
      exact ro_ret hC hr hk dX11_paste_16 (Or.inr (⟨(fun q => h43 q.2), rfl⟩))
  · refine lv_if_eq (tgt := 14) hx hb dX11_paste_4 (by decide) (fun _ => ?_) (fun h => absurd h (by decide))
    refine lv_bipush (v := (-2)) hx hb dX11_paste_14 (by decide) ?_
    exact ro_ret hC hr hk dX11_paste_16 (Or.inr (⟨(fun q => h41 q.1), rfl⟩))
