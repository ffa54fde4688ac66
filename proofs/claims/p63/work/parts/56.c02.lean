set_option maxRecDepth 40000 in
set_option maxHeartbeats 4000000 in
theorem c_X12_cut (l : Launch) (D : va_G) (K : Nat → ClassId) (p0 : Int64) (p1 : Int32) : RoL l D K yX12_cut cX12_cut 4  0 0 [.long p0, .int p1] [] (fun _ => True) := by
  refine rol_of (by decide) (Nat.le_of_ble_eq_true rfl) ?_
  intro p e s m below meth c hC hr hk hE hP ls hl
  replace hC : CallFix p m c cX12_cut 4 s [.long p0, .int p1].toArray wl RX12 := hC
  have hx := hC.1
  have hb := hC.2.1
  have hml := hC.2.2.1
  have hown := hC.2.2.2.1
  have hts := hC.2.2.2.2
  replace hl : lv_has ls 4 [(0, .long p0), (2, .int p1)] := hl
  refine lv_bipush (v := 64) hx hb dX12_cut_0 (by decide) ?_
  refine lv_bipush (v := 8) hx hb dX12_cut_2 (by decide) ?_
  refine lv_iload_n hx hb dX12_cut_4 rfl (lv_at hl 1 rfl) ?_
  refine lv_ishl hx hb dX12_cut_5 ?_
  refine lv_topi (fun v15196 ev15196 => ?_)
  refine lv_isub hx hb dX12_cut_6 ?_
  refine lv_topi (fun v15197 ev15197 => ?_)
  refine lv_istore_n (lv' := [(3, .int v15197), (0, .long p0), (2, .int p1)]) hx hb dX12_cut_7 rfl hl (by decide) rfl (fun ls hl => ?_)
  refine lv_lload_n hx hb dX12_cut_8 rfl (lv_at hl 1 rfl) ?_
  refine lv_iload_n hx hb dX12_cut_9 rfl (lv_at hl 0 rfl) ?_
  refine lv_lshl hx hb dX12_cut_10 rfl ?_
  refine lv_topl (fun v15198 ev15198 => ?_)
  refine lv_iload_n hx hb dX12_cut_11 rfl (lv_at hl 0 rfl) ?_
  refine lv_lshr hx hb dX12_cut_12 rfl ?_
  refine lv_topl (fun v15199 ev15199 => ?_)
  exact ro_lret hC hr hk dX12_cut_13 trivial
