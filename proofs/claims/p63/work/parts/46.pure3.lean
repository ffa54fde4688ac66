/-! meetings, readings, divisors, costs -/
theorem mt_ex (x : Int32) : x = 0 ∨ ∃ k0 : Nat, k0 < 32 ∧ btF x (Int32.ofNat k0) ≠ 0 ∧ (0 : Int) ≤ (k0 : Int) := by
  by_cases h : x = 0
  · exact Or.inl h
  · right
    by_cases c : ∃ k0 : Nat, k0 < 32 ∧ btF x (Int32.ofNat k0) ≠ 0
    · obtain ⟨k0, h1, h2⟩ := c
      exact ⟨k0, h1, h2, by omega⟩
    · exfalso
      apply h
      have hz : ∀ i : Nat, i < 32 → x.toBitVec.getLsbD i = false := by
        intro i hi
        have h0 : btF x (Int32.ofNat i) = 0 := Classical.byContradiction (fun q => c ⟨i, hi, q⟩)
        have hs : ∀ j : Nat, j < 32 → ((Int32.ofNat j &&& 31).toBitVec.smod 32).toNat = j := by decide +kernel
        have e1 : (btF x (Int32.ofNat i)).toBitVec = x.toBitVec.sshiftRight i &&& 1#32 := by
          unfold btF
          rw [Int32.toBitVec_and, Int32.toBitVec_shiftRight]
          show x.toBitVec.sshiftRight' ((Int32.ofNat i &&& 31).toBitVec.smod 32) &&& _ = _
          unfold BitVec.sshiftRight'
          rw [hs i hi]
          rfl
        have e2 : ((btF x (Int32.ofNat i)).toBitVec).getLsbD 0 = false := by rw [h0]; decide
        rw [e1, BitVec.getLsbD_and, BitVec.getLsbD_sshiftRight] at e2
        have e3 : (1#32).getLsbD 0 = true := by decide
        rw [e3, Bool.and_true] at e2
        simpa [hi] using e2
      apply Int32.toBitVec_inj.mp
      apply BitVec.eq_of_getLsbD_eq
      intro i hi
      rw [hz i hi]
      exact (BitVec.getLsbD_zero).symm
theorem mt_step {x r k k2 : Int32} (h : ∃ k0 : Nat, k0 < 32 ∧ btF x (Int32.ofNat k0) ≠ 0 ∧ k.toInt ≤ (k0 : Int)) (h0 : 0 ≤ k.toInt) (hr : r = btF x k) (hz : r.toInt = 0) (e : k2.toInt = k.toInt + 1) : x = 0 ∨ ∃ k0 : Nat, k0 < 32 ∧ btF x (Int32.ofNat k0) ≠ 0 ∧ k2.toInt ≤ (k0 : Int) := by
  obtain ⟨k0, h1, h2, h3⟩ := h
  refine Or.inr ⟨k0, h1, h2, ?_⟩
  by_cases c : k.toInt = (k0 : Int)
  · exfalso
    apply h2
    have e1 : Int32.ofNat k0 = k := by
      have : k0 = k.toInt.toNat := by omega
      rw [this]; exact of_nat_toInt h0
    rw [e1, ← hr]
    exact Int32.toInt_inj.mp (by rw [hz]; decide)
  · omega
/-- the first n numbers of a SLOT's row, every other one, are from 0 to 4 -/
def RN (f : Nat → Int64) (s n : Int) : Prop := ∀ j : Nat, (j : Int) < n → j % 2 = 0 → 0 ≤ (f (60 * s.toNat + j)).toInt ∧ (f (60 * s.toNat + j)).toInt ≤ 4
theorem rn_0 {f : Nat → Int64} {s n : Int} (h : n ≤ 0) : RN f s n := fun j hj => by omega
theorem rn_more {f : Nat → Int64} {s n n2 : Int} {r : Int64} (h : RN f s n) (h0 : 0 ≤ n) (hp : n % 2 = 0) (hr : r = f (60 * s.toNat + n.toNat)) (h1 : 0 ≤ r.toInt) (h2 : r.toInt ≤ 4) (e : n2 = n + 2) : RN f s n2 := by
  intro j hj hj2
  by_cases c : (j : Int) < n
  · exact h j c hj2
  · have : j = n.toNat := by omega
    rw [this, ← hr]; exact ⟨h1, h2⟩
theorem rn_le {f : Nat → Int64} {s n n2 : Int} (h : RN f s n) (h1 : n2 ≤ n) : RN f s n2 := fun j hj => h j (by omega)
theorem rn_at {f : Nat → Int64} {s n i : Int} {r : Int64} (h : RN f s n) (h0 : 0 ≤ i) (h1 : i < n) (hp : i % 2 = 0) (hr : r = f (60 * s.toNat + i.toNat)) : 0 ≤ r.toInt ∧ r.toInt ≤ 4 := by rw [hr]; exact h i.toNat (by omega) (by omega)
theorem rem_abs {a b v : Int32} (e : v = a - a / b * b) (hb : ¬ b.toInt = 0) : v.toInt.natAbs < b.toInt.natAbs := by
  have h1 : v.toInt = a.toInt.tmod b.toInt := by rw [e, rem_toInt]
  rw [h1]
  have h2 : (a.toInt.tmod b.toInt).natAbs = a.toInt.natAbs % b.toInt.natAbs := Int.natAbs_tmod _ _
  rw [h2]
  exact Nat.mod_lt _ (by omega)
theorem rgf_more {f g : Nat → Int32} {i v : Int32} {a b n : Int} (h : ∀ j : Nat, (j : Int) < i.toInt → a ≤ (f j).toInt ∧ (f j).toInt ≤ b) (h0 : 0 ≤ i.toInt) (e : g = upd f i.toNatClampNeg v) (hv : a ≤ v.toInt ∧ v.toInt ≤ b) (hn : n = i.toInt + 1) : ∀ j : Nat, (j : Int) < n → a ≤ (g j).toInt ∧ (g j).toInt ≤ b := by
  intro j hj
  rw [e]
  by_cases c : j = i.toNatClampNeg
  · rw [c, upd_at]; exact hv
  · have := cl_n i
    rw [upd_ne c]; exact h j (by omega)
theorem sum_lt {f g : Nat → Int32} {i v : Int32} {n : Nat} (e : g = upd f i.toNatClampNeg v) (hi : i.toNatClampNeg < n) (h : v.toInt < (f i.toInt.toNat).toInt) : sumI g n < sumI f n := by
  have h1 : (f i.toNatClampNeg).toInt = (f i.toInt.toNat).toInt := rfl
  rw [e, sum_up n hi]; omega
theorem eqf_more {f g : Nat → Int32} {i v : Int32} {n : Int} (h : ∀ j : Nat, (j : Int) < i.toInt → (f j).toInt = (j : Int)) (h0 : 0 ≤ i.toInt) (e : g = upd f i.toNatClampNeg v) (hv : v.toInt = i.toInt) (hn : n = i.toInt + 1) : ∀ j : Nat, (j : Int) < n → (g j).toInt = (j : Int) := by
  intro j hj
  rw [e]
  have := cl_n i
  by_cases c : j = i.toNatClampNeg
  · rw [c, upd_at, hv]; omega
  · rw [upd_ne c]; exact h j (by omega)
theorem do_eq {f : Nat → Int32} {n : Int} (h : ∀ j : Nat, (j : Int) < n → (f j).toInt = (j : Int)) (hn : 5 ≤ n) : DO f := by
  intro a b ha hb hne
  rw [h a (by omega), h b (by omega)]
  omega
theorem rg_eq {f : Nat → Int32} {n : Int} (h : ∀ j : Nat, (j : Int) < n → (f j).toInt = (j : Int)) (hn : 5 ≤ n) : Rg 0 4 5 f := by
  intro j hj
  rw [h j (by omega)]
  omega
theorem do_ne {f : Nat → Int32} {a b : Int} (h : DO f) (a0 : 0 ≤ a) (a1 : a ≤ 4) (b0 : 0 ≤ b) (b1 : b ≤ 4) (hne : ¬ a = b) : ¬ (f a.toNat).toInt = (f b.toNat).toInt := h a.toNat b.toNat (by omega) (by omega) (by omega)
theorem shl2_nz : ∀ n : Nat, n < 31 → ((1 : Int32) <<< (Int32.ofNat n &&& 31)) ≠ 0 := by decide +kernel
theorem shl_nz {k v : Int32} (e : v = (1 : Int32) <<< (k &&& 31)) (h0 : 0 ≤ k.toInt) (h1 : k.toInt ≤ 30) : ¬ v.toInt = 0 := by
  have h2 := shl2_nz k.toInt.toNat (by omega)
  rw [of_nat_toInt h0, ← e] at h2
  exact fun q => h2 (Int32.toInt_inj.mp (by rw [q]; decide))
