theorem sel_priv2 {C : String} {x2 y y2 : MethodName} {s : State} {args : Array Value} {n : Nat} (hy : y.cls ≠ "java/lang/invoke/MethodHandle" ∧ y.cls ≠ "java/lang/invoke/VarHandle") (hins : (Cond.instantiable C n).before args s = true) (hpriv : (Cond.privateMethod y).before args s = true) (hinst : (Cond.instanceMethod y).before args s = true) (hsel2 : (Cond.selects C x2 y2).before args s = true) (hc2 : y2.cls = y.cls) : (Cond.selects C y y).before args s = true := by
  obtain ⟨c, k, hc, hk, -, -, -, -⟩ := Cond.instantiable_spec hins
  obtain ⟨mk, methM, hnamed, hmethM, -, -⟩ := Cond.instanceMethod_spec hinst
  have hfound : s.methodFound? y.cls y.name y.desc = some mk := State.methodFound?_of_named hnamed hy
  obtain ⟨c2, r2, m2, h1, h2, h3, h4, kk, h5, h6⟩ := Cond.selects_spec hsel2
  have hcls : mk.cls = m2.cls := Option.some.inj ((findClass_of_methodNamed hnamed).symm.trans (by rw [← hc2]; exact findClass_of_methodNamed h3))
  have hsel : selectMethod {} s.vm c mk = .method mk := selectMethod_private hmethM (Cond.privateMethod_at hpriv mk methM hnamed hmethM)
  simp only [Cond.before, Cond.holds, Cond.value, hc, hfound, hnamed, hsel, hcls, h5]
  simp; exact h6
set_option maxHeartbeats 4000000 in
set_option maxRecDepth 100000 in
/-- the environment at the law's entry -/
theorem env_start {s : State} {b : Nat} (hts : ∀ w ∈ lw_tbl, w.before #[Value.ref b] s = true) : ∃ (D : va_G) (K : Nat → ClassId), ev D K s := by
  have htw : ∀ w ∈ wl, w.before #[Value.ref b] s = true := fun w h => hts w (wl_in w h)
  obtain ⟨c0, i0, hk0⟩ := u_known (C := RX0) (T := TX0) (N := 6) (n := 6) htw in_X0 (htw _ w_1245)
  obtain ⟨c1, i1, hk1⟩ := u_known (C := RX1) (T := TX1) (N := 10) (n := 10) htw in_X1 (htw _ w_1231)
  obtain ⟨c2, i2, hk2⟩ := u_known (C := RX2) (T := TX2) (N := 6) (n := 6) htw in_X2 (htw _ w_1221)
  obtain ⟨c3, i3, hk3⟩ := u_known (C := RX3) (T := TX3) (N := 5) (n := 5) htw in_X3 (htw _ w_1241)
  obtain ⟨c4, i4, hk4⟩ := u_known (C := RX4) (T := TX4) (N := 10) (n := 10) htw in_X4 (htw _ w_1216)
  obtain ⟨c5, i5, hk5⟩ := u_known (C := RX5) (T := TX5) (N := 3) (n := 3) htw in_X5 (htw _ w_1226)
  obtain ⟨c6, i6, hk6⟩ := u_known (C := RX7) (T := TX7) (N := 7) (n := 7) htw in_X7 (htw _ w_1236)
  obtain ⟨c7, i7, hk7⟩ := u_known (C := RX8) (T := TX8) (N := 3) (n := 3) htw in_X8 (htw _ w_1249)
  obtain ⟨c8, i8, hk8⟩ := u_known (C := RX9) (T := TX9) (N := 3) (n := 3) htw in_X9 (htw _ w_1205)
  obtain ⟨c9, i9, hk9⟩ := u_known (C := RX10) (T := TX10) (N := 12) (n := 12) htw in_X10 (htw _ w_1191)
  obtain ⟨c10, i10, hk10⟩ := u_known (C := RX11) (T := TX11) (N := 12) (n := 12) htw in_X11 (htw _ w_1781)
  obtain ⟨c11, i11, hk11⟩ := u_known (C := RX12) (T := TX12) (N := 53) (n := 53) htw in_X12 (htw _ w_1782)
  obtain ⟨a0, ka0, co0, ha0, hb0, hd0⟩ := Cond.arrayClass_spec (htw _ w_1189)
  obtain ⟨a1, ka1, co1, ha1, hb1, hd1⟩ := Cond.arrayClass_spec (htw _ w_1187)
  obtain ⟨a2, ka2, co2, ha2, hb2, hd2⟩ := Cond.arrayClass_spec (htw _ w_1197)
  obtain ⟨a3, ka3, co3, ha3, hb3, hd3⟩ := Cond.arrayClass_spec (htw _ w_1255)
  have ao4 : va_AO RX10 s := va_AO.of (hts (.arrayOver (.object RX10)) (List.mem_append_right _ (List.mem_append_right _ (List.mem_append_left _ (List.mem_of_getElem? (i := 109) rfl)))))
  have ao5 : va_AO RX2 s := va_AO.of (hts (.arrayOver (.object RX2)) (List.mem_append_right _ (List.mem_append_right _ (List.mem_append_left _ (List.mem_of_getElem? (i := 110) rfl)))))
  have hs1 : (Cond.selects RX1 yX6_meetState yX6_meetState).before #[Value.ref b] s = true := sel_priv2 (x2 := ⟨"LostWood$Minds", "explore", "(LLostWood$Wood;I)V"⟩) (y2 := ⟨"LostWood$Search", "explore", "(LLostWood$Wood;I)V"⟩) (n := 10) (by decide +kernel) (htw _ w_1231) (hts _ (List.mem_append_right _ (List.mem_append_right _ (List.mem_append_right _ (List.mem_append_right _ (List.mem_append_left _ (List.mem_of_getElem? (i := 67) rfl))))))) (hts _ (List.mem_append_right _ (List.mem_append_right _ (List.mem_append_right _ (List.mem_append_right _ (List.mem_append_left _ (List.mem_of_getElem? (i := 68) rfl))))))) (hts _ (List.mem_append_right _ (List.mem_append_right _ (List.mem_append_right _ (List.mem_append_right _ (List.mem_append_left _ (List.mem_of_getElem? (i := 63) rfl))))))) rfl
  have hs7 : (Cond.selects RX7 yX6_meetState yX6_meetState).before #[Value.ref b] s = true := sel_priv2 (x2 := ⟨"LostWood$Search", "lengthTo", "(I)I"⟩) (y2 := ⟨"LostWood$Search", "lengthTo", "(I)I"⟩) (n := 7) (by decide +kernel) (htw _ w_1236) (hts _ (List.mem_append_right _ (List.mem_append_right _ (List.mem_append_right _ (List.mem_append_right _ (List.mem_append_left _ (List.mem_of_getElem? (i := 67) rfl))))))) (hts _ (List.mem_append_right _ (List.mem_append_right _ (List.mem_append_right _ (List.mem_append_right _ (List.mem_append_left _ (List.mem_of_getElem? (i := 68) rfl))))))) (hts _ (List.mem_append_right _ (List.mem_append_right _ (List.mem_append_right _ (List.mem_append_right _ (List.mem_append_left _ (List.mem_of_getElem? (i := 109) rfl))))))) rfl
  have hdc1 : (Cond.declares ev_d1).before #[Value.ref b] s = true := hts _ (List.mem_append_right _ (List.mem_append_right _ (List.mem_append_right _ (List.mem_append_right _ (List.mem_append_left _ (List.mem_of_getElem? (i := 71) rfl))))))
  have hdc2 : (Cond.declares ev_d2).before #[Value.ref b] s = true := hts _ (List.mem_append_right _ (List.mem_append_right _ (List.mem_append_right _ (List.mem_append_right _ (List.mem_append_left _ (List.mem_of_getElem? (i := 89) rfl))))))
  obtain ⟨co4, a4, ka4, hf4, hi4, hb4, hd4, hn4⟩ := Cond.arrayOver_spec ao4
  obtain ⟨co5, a5, ka5, hf5, hi5, hb5, hd5, hn5⟩ := Cond.arrayOver_spec ao5
  refine ⟨(fun k => [c0, c1, c2, c3, c4, c5, c6, c7, c8, c9, c10, c11].getD k 0, fun k => [i0, i1, i2, i3, i4, i5, i6, i7, i8, i9, i10, i11].getD k (fun _ => 0)), fun k => [a0, a1, a2, a3, a4, a5].getD k 0, ⟨?_, ?_⟩, ?_, ao4, ao5, va_Nw.of rfl hdc1, va_Nw.of rfl hdc2, va_Nw.of rfl hs1, va_Nw.of rfl hs7⟩
  · intro k q hq
    match k, hq with
    | 0, hq => cases hq; exact hk0
    | 1, hq => cases hq; exact hk1
    | 2, hq => cases hq; exact hk2
    | 3, hq => cases hq; exact hk3
    | 4, hq => cases hq; exact hk4
    | 5, hq => cases hq; exact hk5
    | 6, hq => cases hq; exact hk6
    | 7, hq => cases hq; exact hk7
    | 8, hq => cases hq; exact hk8
    | 9, hq => cases hq; exact hk9
    | 10, hq => cases hq; exact hk10
    | 11, hq => cases hq; exact hk11
    | k + 12, hq => simp [vwCl] at hq
  · intro k q hq
    match k, hq with
    | 0, hq => cases hq; exact ⟨fun n z => ⟨fun k h => (by cases h), ka0, hb0, co0, hd0⟩, ha0⟩
    | 1, hq => cases hq; exact ⟨fun n z => ⟨fun k h => (by cases h), ka1, hb1, co1, hd1⟩, ha1⟩
    | 2, hq => cases hq; exact ⟨fun n z => ⟨fun k h => (by cases h), ka2, hb2, co2, hd2⟩, ha2⟩
    | 3, hq => cases hq; exact ⟨fun n z => ⟨fun k h => (by cases h), ka3, hb3, co3, hd3⟩, ha3⟩
    | 4, hq => cases hq; exact ⟨fun n z => ⟨fun k h => (by cases h), ka4, hb4, co4, hd4⟩, ka4, co4, hb4, hd4, hf4, hn4⟩
    | 5, hq => cases hq; exact ⟨fun n z => ⟨fun k h => (by cases h), ka5, hb5, co5, hd5⟩, ka5, co5, hb5, hd5, hf5, hn5⟩
    | k + 6, hq => simp [tyL] at hq
  · intro w hw
    have h1 : w ∈ lw_tbl := by
      simp only [ev_n, List.mem_cons, List.not_mem_nil, or_false] at hw
      rcases hw with rfl | rfl | rfl | rfl | rfl | rfl | rfl | rfl | rfl | rfl | rfl | rfl | rfl | rfl
      · exact List.mem_append_right _ (List.mem_append_left _ (List.mem_of_getElem? (i := 32) rfl))
      · exact List.mem_append_right _ (List.mem_append_left _ (List.mem_of_getElem? (i := 38) rfl))
      · exact List.mem_append_right _ (List.mem_append_left _ (List.mem_of_getElem? (i := 134) rfl))
      · exact List.mem_append_right _ (List.mem_append_left _ (List.mem_of_getElem? (i := 137) rfl))
      · exact List.mem_append_right _ (List.mem_append_left _ (List.mem_of_getElem? (i := 165) rfl))
      · exact List.mem_append_right _ (List.mem_append_left _ (List.mem_of_getElem? (i := 222) rfl))
      · exact List.mem_append_right _ (List.mem_append_right _ (List.mem_append_left _ (List.mem_of_getElem? (i := 40) rfl)))
      · exact List.mem_append_right _ (List.mem_append_right _ (List.mem_append_left _ (List.mem_of_getElem? (i := 63) rfl)))
      · exact List.mem_append_right _ (List.mem_append_right _ (List.mem_append_left _ (List.mem_of_getElem? (i := 68) rfl)))
      · exact List.mem_append_right _ (List.mem_append_right _ (List.mem_append_left _ (List.mem_of_getElem? (i := 70) rfl)))
      · exact List.mem_append_right _ (List.mem_append_right _ (List.mem_append_left _ (List.mem_of_getElem? (i := 95) rfl)))
      · exact List.mem_append_right _ (List.mem_append_right _ (List.mem_append_right _ (List.mem_append_left _ (List.mem_of_getElem? (i := 49) rfl))))
      · exact List.mem_append_right _ (List.mem_append_right _ (List.mem_append_right _ (List.mem_append_right _ (List.mem_append_left _ (List.mem_of_getElem? (i := 7) rfl)))))
      · exact List.mem_append_right _ (List.mem_append_right _ (List.mem_append_right _ (List.mem_append_right _ (List.mem_append_left _ (List.mem_of_getElem? (i := 164) rfl)))))
    exact va_Nw.of (ev_on w hw) (hts w h1)
