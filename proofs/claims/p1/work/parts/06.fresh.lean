/-- the fresh object's cells -/
abbrev fxL (K : Nat → ClassId) (x : Nat → Nat) (fs : Nat → Int32) : va_W := [(x 0, .inr (10, [.ref (x 1), .ref (x 2), .ref (x 3), .ref (x 40), .ref (x 4), .ref (x 41), .ref (x 42), .ref (x 5), .ref (x 43), .ref (x 44), .ref (x 6), .ref (x 7)])),
  (x 1, .inr (4, [.ref (x 8), .int 0, .int 0, .int (-1), .ref (x 9), .int 0, .int 0, .int 0, .int 0, .int 0])),
  (x 2, .inr (9, [.ref (x 10), .ref (x 11), .ref (x 12), .ref (x 13), .ref (x 14), .ref (x 15), .ref (x 16), .ref (x 17), .int 0, .int 0, .int 0, .int 0])),
  (x 3, .inr (2, [.ref (x 18), .ref (x 19), .ref (x 20), .ref (x 21), .ref (x 22), .int 0])),
  (x 4, .inr (5, [.ref (x 23), .ref (x 24), .ref (x 25)])),
  (x 5, .inr (3, [.ref (x 45), .ref (x 46), .ref (x 47), .int 0, .int 0])),
  (x 6, .inl (K 4, 3, .inr (.inr (.inr (.inr (fun _ => none)))))),
  (x 7, .inl (K 5, 3, .inr (.inr (.inr (.inr (fun _ => none)))))),
  (x 8, .inl (K 0, 1000, .inl (fun _ => 0))),
  (x 9, .inr (9, [.ref (x 26), .ref (x 27), .ref (x 28), .ref (x 29), .ref (x 30), .ref (x 31), .ref (x 32), .ref (x 33), .int 0, .int 0, .int 0, .int 0])),
  (x 10, .inl (K 1, 40, .inl (fun _ => 0))),
  (x 11, .inl (K 1, 10, .inl (fun _ => 0))),
  (x 12, .inl (K 1, 4, .inl (fun _ => 0))),
  (x 13, .inl (K 1, 4, .inl (fun _ => 0))),
  (x 14, .inl (K 1, 4, .inl (fun _ => 0))),
  (x 15, .inl (K 1, 5, .inl (fun _ => 0))),
  (x 16, .inl (K 1, 5, .inl (fun _ => 0))),
  (x 17, .inl (K 1, 5, .inl (fun _ => 0))),
  (x 18, .inl (K 1, 4, .inl (fun _ => 0))),
  (x 19, .inl (K 1, 4, .inl (fun _ => 0))),
  (x 20, .inl (K 1, 60, .inl (fun _ => 0))),
  (x 21, .inl (K 1, 60, .inl (fun _ => 0))),
  (x 22, .inl (K 1, 60, .inl (fun _ => 0))),
  (x 23, .inl (K 2, 240, .inr (.inl (fun _ => 0)))),
  (x 24, .inl (K 1, 4, .inl (fun _ => 0))),
  (x 25, .inl (K 1, 4, .inl fs)),
  (x 26, .inl (K 1, 40, .inl (fun _ => 0))),
  (x 27, .inl (K 1, 10, .inl (fun _ => 0))),
  (x 28, .inl (K 1, 4, .inl (fun _ => 0))),
  (x 29, .inl (K 1, 4, .inl (fun _ => 0))),
  (x 30, .inl (K 1, 4, .inl (fun _ => 0))),
  (x 31, .inl (K 1, 5, .inl (fun _ => 0))),
  (x 32, .inl (K 1, 5, .inl (fun _ => 0))),
  (x 33, .inl (K 1, 5, .inl (fun _ => 0)))]
/-- the fresh reference's cells -/
abbrev mdL (K : Nat → ClassId) (y : Nat → Nat) (fm : Nat → Int32) : va_W := [(y 0, .inr (11, [.int 0, .ref (y 1), .ref (y 2), .ref (y 3), .ref (y 4), .int 0, .ref (y 5), .int 0, .int 0, .int 0, .int 0, .int 0, .int 0, .int (-1), .ref (y 6), .int 0, .int 0, .int 0, .int 0, .int 0, .int 0, .ref (y 121), .ref (y 122), .ref (y 123), .ref (y 124), .int 0, .ref (y 126), .ref (y 127), .ref (y 128), .ref (y 129), .ref (y 130), .ref (y 131), .ref (y 132), .ref (y 133), .ref (y 134), .ref (y 135), .ref (y 136), .int 0, .int 0, .int 0, .ref (y 140), .ref (y 141), .ref (y 142), .int 0, .int 0, .ref (y 145), .ref (y 146), .ref (y 147), .int 0, .ref (y 7), .ref (y 8), .ref (y 9), .ref (y 152)])),
  (y 1, .inl (K 1, 262, .inl (fun _ => 0))),
  (y 2, .inl (K 1, 786, .inl (fun _ => 0))),
  (y 3, .inl (K 3, 3, .inl (fun _ => 0))),
  (y 4, .inl (K 0, 1000, .inl (fun _ => 0))),
  (y 5, .inl (K 1, 5, .inl (fun _ => 0))),
  (y 6, .inl (K 1, 262, .inl (fun _ => 0))),
  (y 7, .inl (K 1, 4, .inl fm)),
  (y 8, .inl (K 1, 4, .inl (fun _ => 0))),
  (y 9, .inl (K 2, 240, .inr (.inl (fun _ => 0))))]
theorem in_c {i : Int32} {n : Nat} (h : (decide (0 ≤ i.toInt) && decide (i.toInt < n)) = true) : vp_in i n := by
  rw [Bool.and_eq_true, decide_eq_true_eq, decide_eq_true_eq] at h
  exact vp_in_iff.mpr h
theorem in_lt {i : Int32} {n : Nat} (h : vp_in i n) : i.toNatClampNeg < n := Nat.not_le.mp (fun q => h (Or.inr q))
theorem in_le {i : Int32} {n m : Nat} (h : vp_in i n) (hm : n ≤ m) : vp_in i m := by rw [vp_in_iff] at h ⊢; omega
theorem in_no {v lo hi : Int64} (h : hi < lo) : ¬ (lo ≤ v ∧ v ≤ hi) := fun q => by
  have h1 := q.1; have h2 := q.2
  rw [Int64.le_iff_toInt_le] at h1 h2; rw [Int64.lt_iff_toInt_lt] at h; omega
theorem iy64 {k : Int32} {hi : Int64} {n : Nat} (hh : hi.toInt + 1 = n) (h : 0 ≤ k.toInt64 ∧ k.toInt64 ≤ hi) : vp_in k n := by
  obtain ⟨h1, h2⟩ := h
  rw [Int64.le_iff_toInt_le, Int32.toInt_toInt64] at h1 h2; rw [Int64.toInt_zero] at h1; rw [vp_in_iff]; omega
theorem in64 {k : Int32} {hi : Int64} {n : Nat} (hh : hi.toInt + 1 = n) (h : ¬ (0 ≤ k.toInt64 ∧ k.toInt64 ≤ hi)) : ¬ vp_in k n := by
  intro q
  rw [vp_in_iff] at q
  apply h
  rw [Int64.le_iff_toInt_le, Int64.le_iff_toInt_le, Int32.toInt_toInt64, Int64.toInt_zero]; omega
theorem tab_out {x : Int32} {n : Nat} (h : ¬ vp_in x (n + 1)) : x.toInt < 0 ∨ (n : Int) < x.toInt := by rw [vp_in_iff] at h; omega
theorem lc_lt {x y : Int64} (h : lg_cmp x y < 0) : x < y := (lg_cmp_lt x y).mp h
theorem lc_nlt {x y : Int64} (h : ¬ lg_cmp x y < 0) : y ≤ x := by
  rw [lg_cmp_lt, Int64.lt_iff_toInt_lt] at h; rw [Int64.le_iff_toInt_le]; omega
theorem lc_gt {x y : Int64} (h : 0 < lg_cmp x y) : y < x := (lg_cmp_gt x y).mp h
theorem lc_ngt {x y : Int64} (h : ¬ 0 < lg_cmp x y) : x ≤ y := by
  rw [lg_cmp_gt, Int64.lt_iff_toInt_lt] at h; rw [Int64.le_iff_toInt_le]; omega
