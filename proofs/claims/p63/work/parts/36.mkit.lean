/-! the reference: numbers, its world's bounds, rows of numbers within bounds -/
theorem i2l_i {x : Int32} {v : Int64} (e : v = x.toInt64) : v.toInt = x.toInt := by rw [e]; exact Int32.toInt_toInt64 x
theorem l2i_i {x : Int64} {v : Int32} (e : v = x.toInt32) (h1 : -2147483648 ≤ x.toInt) (h2 : x.toInt ≤ 2147483647) : v.toInt = x.toInt := by
  rw [e, Int64.toInt_toInt32]
  exact Int.bmod_eq_of_le (by omega) (by omega)
theorem lc_lt {x y : Int64} {v : Int32} (e : v = lg_cmp x y) (h : v < 0) : x.toInt < y.toInt := Int64.lt_iff_toInt_lt.mp ((lg_cmp_lt x y).mp (e ▸ h))
theorem lc_nlt {x y : Int64} {v : Int32} (e : v = lg_cmp x y) (h : ¬ v < 0) : y.toInt ≤ x.toInt := by
  have h1 : ¬ x < y := fun q => h (e ▸ (lg_cmp_lt x y).mpr q)
  rw [Int64.lt_iff_toInt_lt] at h1; omega
theorem lc_gt {x y : Int64} {v : Int32} (e : v = lg_cmp x y) (h : 0 < v) : y.toInt < x.toInt := Int64.lt_iff_toInt_lt.mp ((lg_cmp_gt x y).mp (e ▸ h))
theorem lc_ngt {x y : Int64} {v : Int32} (e : v = lg_cmp x y) (h : ¬ 0 < v) : x.toInt ≤ y.toInt := by
  have h1 : ¬ y < x := fun q => h (e ▸ (lg_cmp_gt x y).mpr q)
  rw [Int64.lt_iff_toInt_lt] at h1; omega
theorem lc_ge {x y : Int64} {v : Int32} (e : v = lg_cmp x y) (h : 0 ≤ v) : y.toInt ≤ x.toInt := Int64.le_iff_toInt_le.mp ((lg_cmp_ge x y).mp (e ▸ h))
theorem lc_nge {x y : Int64} {v : Int32} (e : v = lg_cmp x y) (h : ¬ 0 ≤ v) : x.toInt < y.toInt := by
  have h1 : ¬ y ≤ x := fun q => h (e ▸ (lg_cmp_ge x y).mpr q)
  rw [Int64.le_iff_toInt_le] at h1; omega
theorem lc_le {x y : Int64} {v : Int32} (e : v = lg_cmp x y) (h : v ≤ 0) : x.toInt ≤ y.toInt := Int64.le_iff_toInt_le.mp ((lg_cmp_le x y).mp (e ▸ h))
theorem lc_nle {x y : Int64} {v : Int32} (e : v = lg_cmp x y) (h : ¬ v ≤ 0) : y.toInt < x.toInt := by
  have h1 : ¬ x ≤ y := fun q => h (e ▸ (lg_cmp_le x y).mpr q)
  rw [Int64.le_iff_toInt_le] at h1; omega
theorem nat_of {a : Int32} {n : Nat} (h0 : 0 ≤ a.toInt) (h1 : a.toInt < n) : a.toBitVec.toNat < n := by
  have e1 : a.toInt = a.toBitVec.toInt := rfl
  rw [e1, BitVec.toInt_eq_toNat_cond] at h0 h1
  have h2 := a.toBitVec.isLt
  split at h0 <;> split at h1 <;> omega
theorem int_of {a : Int32} {n : Nat} (hn : n ≤ 2147483648) (h : a.toBitVec.toNat < n) : 0 ≤ a.toInt ∧ a.toInt < n := by
  have e1 : a.toInt = a.toBitVec.toInt := rfl
  rw [e1, BitVec.toInt_eq_toNat_cond]
  split <;> omega
theorem or_b {a b v : Int32} (e : v = a ||| b) (a0 : 0 ≤ a.toInt) (a1 : a.toInt ≤ 1023) (b0 : 0 ≤ b.toInt) (b1 : b.toInt ≤ 1023) : 0 ≤ v.toInt ∧ v.toInt ≤ 1023 := by
  have ha := nat_of (n := 2 ^ 10) a0 (by omega)
  have hb := nat_of (n := 2 ^ 10) b0 (by omega)
  have hv : v.toBitVec.toNat < 2 ^ 10 := by
    rw [e]
    show (a.toBitVec ||| b.toBitVec).toNat < _
    rw [BitVec.toNat_or]
    exact Nat.or_lt_two_pow ha hb
  have := int_of (n := 2 ^ 10) (by decide) hv
  omega
theorem shl_t : ∀ n : Nat, n < 11 → (1 ≤ ((1 : Int32) <<< (Int32.ofNat n &&& 31)).toInt ∧ ((1 : Int32) <<< (Int32.ofNat n &&& 31)).toInt ≤ 1024 ∧ (n ≤ 9 → ((1 : Int32) <<< (Int32.ofNat n &&& 31)).toInt ≤ 512)) := by decide +kernel
theorem of_toNat {k : Int32} (h0 : 0 ≤ k.toInt) : k = Int32.ofNat k.toInt.toNat := by
  apply Int32.toInt_inj.mp
  have h1 := i32_hi k
  have h2 : ((k.toInt.toNat : Nat) : Int) = k.toInt := Int.toNat_of_nonneg h0
  rw [Int32.toInt_ofNat_of_lt (by omega), h2]
theorem shl1_b {k v : Int32} (e : v = (1 : Int32) <<< (k &&& 31)) (h0 : 0 ≤ k.toInt) (h1 : k.toInt ≤ 10) : 1 ≤ v.toInt ∧ v.toInt ≤ 1024 ∧ (k.toInt ≤ 9 → v.toInt ≤ 512) := by
  have h2 := shl_t k.toInt.toNat (by omega)
  rw [← of_toNat h0, ← e] at h2
  omega
/-- what a number of the world may be, by its place -/
def RW (i : Nat) (v : Int) : Prop := (i = 0 → 0 ≤ v ∧ v ≤ 10) ∧ (i = 1 → 0 ≤ v ∧ v ≤ 4) ∧ (i = 2 → 0 ≤ v ∧ v ≤ 5) ∧ (i = 4 → 0 ≤ v ∧ v ≤ 60) ∧ (5 ≤ i → i ≤ 54 → 0 ≤ v ∧ v ≤ 9) ∧ (55 ≤ i → i ≤ 66 → (i % 3 = 1 → 0 ≤ v ∧ v ≤ 9) ∧ (i % 3 = 2 → 0 ≤ v ∧ v ≤ 1023) ∧ (i % 3 = 0 → 0 ≤ v ∧ v ≤ 3)) ∧ (67 ≤ i → i ≤ 81 → (i % 3 = 2 → 0 ≤ v ∧ v ≤ 9) ∧ (i % 3 = 0 → 0 ≤ v ∧ v ≤ 3)) ∧ (82 ≤ i → i ≤ 261 → (i % 3 = 1 → 0 ≤ v ∧ v ≤ 3) ∧ (i % 3 = 2 → 0 ≤ v ∧ v ≤ 9) ∧ (i % 3 = 0 → 0 ≤ v ∧ v ≤ 1023))
def GW (f : Nat → Int32) : Prop := ∀ i : Nat, i < 262 → RW i (f i).toInt
def GI (f : Nat → Int32) : Prop := ∀ i : Nat, i < 786 → RW (i % 262) (f i).toInt
def Rg (a b : Int) (n : Nat) (f : Nat → Int32) : Prop := ∀ i : Nat, i < n → a ≤ (f i).toInt ∧ (f i).toInt ≤ b
theorem cl_n (i : Int32) : i.toNatClampNeg = i.toInt.toNat := rfl
theorem gw_0 {f : Nat → Int32} {v : Int32} (h : GW f) (e : v = f (0 : Int32).toNatClampNeg) : 0 ≤ v.toInt ∧ v.toInt ≤ 10 := by rw [e]; exact (h 0 (by decide)).1 rfl
theorem gw_1 {f : Nat → Int32} {v : Int32} (h : GW f) (e : v = f (1 : Int32).toNatClampNeg) : 0 ≤ v.toInt ∧ v.toInt ≤ 4 := by rw [e]; exact (h 1 (by decide)).2.1 rfl
theorem gw_2 {f : Nat → Int32} {v : Int32} (h : GW f) (e : v = f (2 : Int32).toNatClampNeg) : 0 ≤ v.toInt ∧ v.toInt ≤ 5 := by rw [e]; exact (h 2 (by decide)).2.2.1 rfl
theorem gw_4 {f : Nat → Int32} {v : Int32} (h : GW f) (e : v = f (4 : Int32).toNatClampNeg) : 0 ≤ v.toInt ∧ v.toInt ≤ 60 := by rw [e]; exact (h 4 (by decide)).2.2.2.1 rfl
section GWI
variable {f g : Nat → Int32} {i v : Int32}
theorem gw_L (h : GW f) (e : v = f i.toNatClampNeg) (h1 : 5 ≤ i.toInt) (h2 : i.toInt ≤ 54) : 0 ≤ v.toInt ∧ v.toInt ≤ 9 := by
  rw [e]; have := cl_n i; exact (h _ (by omega)).2.2.2.2.1 (by omega) (by omega)
theorem gw_A (h : GW f) (e : v = f i.toNatClampNeg) (h1 : 55 ≤ i.toInt) (h2 : i.toInt ≤ 66) (h3 : i.toInt % 3 = 1) : 0 ≤ v.toInt ∧ v.toInt ≤ 9 := by
  rw [e]; have := cl_n i; exact ((h _ (by omega)).2.2.2.2.2.1 (by omega) (by omega)).1 (by omega)
theorem gw_T (h : GW f) (e : v = f i.toNatClampNeg) (h1 : 55 ≤ i.toInt) (h2 : i.toInt ≤ 66) (h3 : i.toInt % 3 = 2) : 0 ≤ v.toInt ∧ v.toInt ≤ 1023 := by
  rw [e]; have := cl_n i; exact ((h _ (by omega)).2.2.2.2.2.1 (by omega) (by omega)).2.1 (by omega)
theorem gw_Z (h : GW f) (e : v = f i.toNatClampNeg) (h1 : 55 ≤ i.toInt) (h2 : i.toInt ≤ 66) (h3 : i.toInt % 3 = 0) : 0 ≤ v.toInt ∧ v.toInt ≤ 3 := by
  rw [e]; have := cl_n i; exact ((h _ (by omega)).2.2.2.2.2.1 (by omega) (by omega)).2.2 (by omega)
theorem gw_q (h : GW f) (e : v = f i.toNatClampNeg) (h1 : 67 ≤ i.toInt) (h2 : i.toInt ≤ 81) (h3 : i.toInt % 3 = 2) : 0 ≤ v.toInt ∧ v.toInt ≤ 9 := by
  rw [e]; have := cl_n i; exact ((h _ (by omega)).2.2.2.2.2.2.1 (by omega) (by omega)).1 (by omega)
theorem gw_z (h : GW f) (e : v = f i.toNatClampNeg) (h1 : 67 ≤ i.toInt) (h2 : i.toInt ≤ 81) (h3 : i.toInt % 3 = 0) : 0 ≤ v.toInt ∧ v.toInt ≤ 3 := by
  rw [e]; have := cl_n i; exact ((h _ (by omega)).2.2.2.2.2.2.1 (by omega) (by omega)).2 (by omega)
theorem gw_w (h : GW f) (e : v = f i.toNatClampNeg) (h1 : 82 ≤ i.toInt) (h2 : i.toInt ≤ 261) (h3 : i.toInt % 3 = 1) : 0 ≤ v.toInt ∧ v.toInt ≤ 3 := by
  rw [e]; have := cl_n i; exact ((h _ (by omega)).2.2.2.2.2.2.2 (by omega) (by omega)).1 (by omega)
theorem gw_a (h : GW f) (e : v = f i.toNatClampNeg) (h1 : 82 ≤ i.toInt) (h2 : i.toInt ≤ 261) (h3 : i.toInt % 3 = 2) : 0 ≤ v.toInt ∧ v.toInt ≤ 9 := by
  rw [e]; have := cl_n i; exact ((h _ (by omega)).2.2.2.2.2.2.2 (by omega) (by omega)).2.1 (by omega)
theorem gw_t (h : GW f) (e : v = f i.toNatClampNeg) (h1 : 82 ≤ i.toInt) (h2 : i.toInt ≤ 261) (h3 : i.toInt % 3 = 0) : 0 ≤ v.toInt ∧ v.toInt ≤ 1023 := by
  rw [e]; have := cl_n i; exact ((h _ (by omega)).2.2.2.2.2.2.2 (by omega) (by omega)).2.2 (by omega)
theorem gw_up (h : GW f) (e : g = upd f i.toNatClampNeg v) (hr : RW i.toNatClampNeg v.toInt) : GW g := by
  intro j hj
  rw [e]
  unfold upd
  by_cases q : j = i.toNatClampNeg
  · rw [if_pos q, q]; exact hr
  · rw [if_neg q]; exact h j hj
theorem gi_up (h : GI f) (e : g = upd f i.toNatClampNeg v) (hr : RW (i.toNatClampNeg % 262) v.toInt) : GI g := by
  intro j hj
  rw [e]
  unfold upd
  by_cases q : j = i.toNatClampNeg
  · rw [if_pos q, q]; exact hr
  · rw [if_neg q]; exact h j hj
theorem rg_at {a b : Int} {n : Nat} (h : Rg a b n f) (e : v = f i.toNatClampNeg) (hi : i.toNatClampNeg < n) : a ≤ v.toInt ∧ v.toInt ≤ b := by rw [e]; exact h _ hi
theorem rg_up {a b : Int} {n : Nat} (h : Rg a b n f) (e : g = upd f i.toNatClampNeg v) (h1 : a ≤ v.toInt) (h2 : v.toInt ≤ b) : Rg a b n g := by
  intro j hj
  rw [e]
  unfold upd
  by_cases q : j = i.toNatClampNeg
  · rw [if_pos q]; exact ⟨h1, h2⟩
  · rw [if_neg q]; exact h j hj
end GWI
theorem rw_0 {v : Int} (h1 : 0 ≤ v) (h2 : v ≤ 10) : RW (0 : Int32).toNatClampNeg v := ⟨fun _ => ⟨h1, h2⟩, fun h => absurd h (by decide), fun h => absurd h (by decide), fun h => absurd h (by decide), fun h => absurd h (by decide), fun h => absurd h (by decide), fun h => absurd h (by decide), fun h => absurd h (by decide)⟩
theorem rw_1 {v : Int} (h1 : 0 ≤ v) (h2 : v ≤ 4) : RW (1 : Int32).toNatClampNeg v := ⟨fun h => absurd h (by decide), fun _ => ⟨h1, h2⟩, fun h => absurd h (by decide), fun h => absurd h (by decide), fun h => absurd h (by decide), fun h => absurd h (by decide), fun h => absurd h (by decide), fun h => absurd h (by decide)⟩
theorem rw_2 {v : Int} (h1 : 0 ≤ v) (h2 : v ≤ 5) : RW (2 : Int32).toNatClampNeg v := ⟨fun h => absurd h (by decide), fun h => absurd h (by decide), fun _ => ⟨h1, h2⟩, fun h => absurd h (by decide), fun h => absurd h (by decide), fun h => absurd h (by decide), fun h => absurd h (by decide), fun h => absurd h (by decide)⟩
theorem rw_3 {v : Int} : RW (3 : Int32).toNatClampNeg v := ⟨fun h => absurd h (by decide), fun h => absurd h (by decide), fun h => absurd h (by decide), fun h => absurd h (by decide), fun h => absurd h (by decide), fun h => absurd h (by decide), fun h => absurd h (by decide), fun h => absurd h (by decide)⟩
theorem rw_4 {v : Int} (h1 : 0 ≤ v) (h2 : v ≤ 60) : RW (4 : Int32).toNatClampNeg v := ⟨fun h => absurd h (by decide), fun h => absurd h (by decide), fun h => absurd h (by decide), fun _ => ⟨h1, h2⟩, fun h => absurd h (by decide), fun h => absurd h (by decide), fun h => absurd h (by decide), fun h => absurd h (by decide)⟩
section RWI
variable {i : Int32} {v : Int}
theorem rw_L (h1 : 5 ≤ i.toInt) (h2 : i.toInt ≤ 54) (v1 : 0 ≤ v) (v2 : v ≤ 9) : RW i.toNatClampNeg v := by
  have := cl_n i
  exact ⟨fun _ => by omega, fun _ => by omega, fun _ => by omega, fun _ => by omega, fun _ _ => ⟨v1, v2⟩, fun _ _ => by omega, fun _ _ => by omega, fun _ _ => by omega⟩
theorem rw_P (h1 : 55 ≤ i.toInt) (h2 : i.toInt ≤ 66) (hv : (i.toInt % 3 = 1 ∧ 0 ≤ v ∧ v ≤ 9) ∨ (i.toInt % 3 = 2 ∧ 0 ≤ v ∧ v ≤ 1023) ∨ (i.toInt % 3 = 0 ∧ 0 ≤ v ∧ v ≤ 3)) : RW i.toNatClampNeg v := by
  have := cl_n i
  exact ⟨fun _ => by omega, fun _ => by omega, fun _ => by omega, fun _ => by omega, fun _ _ => by omega, fun _ _ => ⟨fun _ => by omega, fun _ => by omega, fun _ => by omega⟩, fun _ _ => by omega, fun _ _ => by omega⟩
theorem rw_E (h1 : 67 ≤ i.toInt) (h2 : i.toInt ≤ 81) (hv : i.toInt % 3 = 1 ∨ (i.toInt % 3 = 2 ∧ 0 ≤ v ∧ v ≤ 9) ∨ (i.toInt % 3 = 0 ∧ 0 ≤ v ∧ v ≤ 3)) : RW i.toNatClampNeg v := by
  have := cl_n i
  exact ⟨fun _ => by omega, fun _ => by omega, fun _ => by omega, fun _ => by omega, fun _ _ => by omega, fun _ _ => by omega, fun _ _ => ⟨fun _ => by omega, fun _ => by omega⟩, fun _ _ => by omega⟩
theorem rw_S (h1 : 82 ≤ i.toInt) (h2 : i.toInt ≤ 261) (hv : (i.toInt % 3 = 1 ∧ 0 ≤ v ∧ v ≤ 3) ∨ (i.toInt % 3 = 2 ∧ 0 ≤ v ∧ v ≤ 9) ∨ (i.toInt % 3 = 0 ∧ 0 ≤ v ∧ v ≤ 1023)) : RW i.toNatClampNeg v := by
  have := cl_n i
  exact ⟨fun _ => by omega, fun _ => by omega, fun _ => by omega, fun _ => by omega, fun _ _ => by omega, fun _ _ => by omega, fun _ _ => by omega, fun _ _ => ⟨fun _ => by omega, fun _ => by omega, fun _ => by omega⟩⟩
theorem rw_z : RW i.toNatClampNeg 0 := ⟨fun _ => by omega, fun _ => by omega, fun _ => by omega, fun _ => by omega, fun _ _ => by omega, fun _ _ => by omega, fun _ _ => by omega, fun _ _ => by omega⟩
end RWI
def btF (a k : Int32) : Int32 := a >>> (k &&& 31) &&& 1
def SeV (f : Nat → Int32) (sz k : Int) : Int := if k < sz then (f k.toNat &&& 255).toInt else -1
def LeAt (k : Nat) (b : Int) (f : Nat → Int32) : Prop := (f k).toInt ≤ b
theorem la_up {k : Nat} {b : Int} {f g : Nat → Int32} {i v : Int32} (h : LeAt k b f) (e : g = upd f i.toNatClampNeg v) (hn : i.toNatClampNeg ≠ k) : LeAt k b g := by
  unfold LeAt
  rw [e]
  unfold upd
  rw [if_neg (fun q => hn q.symm)]
  exact h
/-- whether the TOKEN at hand is a literal -/
def IsP (f : Nat → Int32) (fk tk a fr : Int) (i : Nat) : Prop := fk = 0 ∧ tk = 1 ∧ a - fr = (stL i : Int) ∧ ∀ j : Nat, j < stL i → f (fr.toNat + j) = stc i j
theorem is_more {f : Nat → Int32} {fr k : Int} {k2 : Int32} {i : Nat} {v r : Int32} (h3 : ∀ j : Nat, (j : Int) < k → f (fr.toNat + j) = stc i j) (hk : 0 ≤ k) (hv : v = f (fr.toNat + k.toNat)) (hr : r = stc i k.toNat) (h : v.toInt = r.toInt) (h2 : k2.toInt = k + 1) : ∀ j : Nat, (j : Int) < k2.toInt → f (fr.toNat + j) = stc i j := by
  intro j hj
  by_cases q : (j : Int) < k
  · exact h3 j q
  · have e1 : j = k.toNat := by omega
    rw [e1, ← hv, ← hr]
    exact Int32.toInt_inj.mp h
theorem gwn_0 {f : Nat → Int32} (h : GW f) : 0 ≤ (f 0).toInt ∧ (f 0).toInt ≤ 10 := (h 0 (by decide)).1 rfl
theorem gwn_1 {f : Nat → Int32} (h : GW f) : 0 ≤ (f 1).toInt ∧ (f 1).toInt ≤ 4 := (h 1 (by decide)).2.1 rfl
theorem gwn_2 {f : Nat → Int32} (h : GW f) : 0 ≤ (f 2).toInt ∧ (f 2).toInt ≤ 5 := (h 2 (by decide)).2.2.1 rfl
theorem gwn_4 {f : Nat → Int32} (h : GW f) : 0 ≤ (f 4).toInt ∧ (f 4).toInt ≤ 60 := (h 4 (by decide)).2.2.2.1 rfl
theorem la_set {k : Nat} {b : Int} {f g : Nat → Int32} {i v : Int32} (e : g = upd f i.toNatClampNeg v) (hk : i.toNatClampNeg = k) (h : v.toInt ≤ b) : LeAt k b g := by
  unfold LeAt
  rw [e, hk]
  unfold upd
  rw [if_pos rfl]
  exact h
def EqAt (k : Nat) (b : Int) (f : Nat → Int32) : Prop := (f k).toInt = b
theorem ea_up {k : Nat} {b : Int} {f g : Nat → Int32} {i v : Int32} (h : EqAt k b f) (e : g = upd f i.toNatClampNeg v) (hn : i.toNatClampNeg ≠ k) : EqAt k b g := by
  unfold EqAt
  rw [e]
  unfold upd
  rw [if_neg (fun q => hn q.symm)]
  exact h
theorem ea_set {k : Nat} {b : Int} {f g : Nat → Int32} {i v : Int32} (e : g = upd f i.toNatClampNeg v) (hk : i.toNatClampNeg = k) (h : v.toInt = b) : EqAt k b g := by
  unfold EqAt
  rw [e, hk]
  unfold upd
  rw [if_pos rfl]
  exact h
theorem of_nat_toInt {p : Int32} (h : 0 ≤ p.toInt) : Int32.ofNat p.toInt.toNat = p := (of_toNat h).symm
/-- what a SET becomes by a WIND; what of it has a mark; the first n places -/
def becF (f : Nat → Int32) (set : Int32) (w : Nat) : Nat → Int32
  | 0 => 0
  | p + 1 => becF f set w p ||| (if btF set (Int32.ofNat p) = 1 then (1 : Int32) <<< (f (5 + 4 * p + w) &&& 31) else 0)
theorem one_of {r : Int32} (h : r.toInt = 1) : r = 1 := Int32.toInt_inj.mp (by rw [h]; decide)
section SETS
variable {f : Nat → Int32} {set t t2 r l sh p mark k : Int32} {w n : Nat}
theorem bec_1 (h : t = becF f set w p.toInt.toNat) (hp : 0 ≤ p.toInt) (hr : r = btF set p) (h1 : r.toInt = 1) (hl : l = f (5 + 4 * p.toInt.toNat + w)) (hs : sh = (1 : Int32) <<< (l &&& 31)) (e : t2 = t ||| sh) (hn : n = p.toInt.toNat + 1) : t2 = becF f set w n := by
  rw [hn]
  show t2 = becF f set w p.toInt.toNat ||| _
  rw [of_nat_toInt hp, if_pos (by rw [← hr]; exact one_of h1), ← h, ← hl, ← hs]
  exact e
theorem bec_0 (h : t = becF f set w p.toInt.toNat) (hp : 0 ≤ p.toInt) (hr : r = btF set p) (h1 : ¬ r.toInt = 1) (e : t2 = t ||| 0) (hn : n = p.toInt.toNat + 1) : t2 = becF f set w n := by
  rw [hn]
  show t2 = becF f set w p.toInt.toNat ||| _
  rw [of_nat_toInt hp, if_neg (fun q => h1 (by rw [hr, q]; decide)), ← h]
  exact e
end SETS
def seeF (f : Nat → Int32) (set mark : Int32) : Nat → Int32
  | 0 => 0
  | p + 1 => seeF f set mark p ||| (if btF set (Int32.ofNat p) = 1 ∧ f (45 + p) = mark then (1 : Int32) <<< (Int32.ofNat p &&& 31) else 0)
section SEEN
variable {f : Nat → Int32} {set t t2 r sh p mark k : Int32} {n : Nat}
theorem see_1 (h : t = seeF f set mark p.toInt.toNat) (hp : 0 ≤ p.toInt) (hr : r = btF set p) (h1 : r.toInt = 1) (hk : k = f (45 + p.toInt.toNat)) (h2 : k.toInt = mark.toInt) (hs : sh = (1 : Int32) <<< (p &&& 31)) (e : t2 = t ||| sh) (hn : n = p.toInt.toNat + 1) : t2 = seeF f set mark n := by
  rw [hn]
  show t2 = seeF f set mark p.toInt.toNat ||| _
  rw [of_nat_toInt hp, if_pos ⟨by rw [← hr]; exact one_of h1, by rw [← hk]; exact Int32.toInt_inj.mp h2⟩, ← h, ← hs]
  exact e
theorem see_0a (h : t = seeF f set mark p.toInt.toNat) (hp : 0 ≤ p.toInt) (hr : r = btF set p) (h1 : ¬ r.toInt = 1) (e : t2 = t ||| 0) (hn : n = p.toInt.toNat + 1) : t2 = seeF f set mark n := by
  rw [hn]
  show t2 = seeF f set mark p.toInt.toNat ||| _
  rw [of_nat_toInt hp, if_neg (fun q => h1 (by rw [hr, q.1]; decide)), ← h]
  exact e
theorem see_0b (h : t = seeF f set mark p.toInt.toNat) (hp : 0 ≤ p.toInt) (hk : k = f (45 + p.toInt.toNat)) (h2 : ¬ k.toInt = mark.toInt) (e : t2 = t ||| 0) (hn : n = p.toInt.toNat + 1) : t2 = seeF f set mark n := by
  rw [hn]
  show t2 = seeF f set mark p.toInt.toNat ||| _
  rw [of_nat_toInt hp, if_neg (fun q => h2 (by rw [hk, q.2])), ← h]
  exact e
end SEEN
/-- the first n numbers of a SLOT's row are from 0 to b -/
def WN (b : Int) (f : Nat → Int64) (s n : Int) : Prop := ∀ j : Nat, (j : Int) < n → 0 ≤ (f (60 * s.toNat + j)).toInt ∧ (f (60 * s.toNat + j)).toInt ≤ b
theorem wn_0 {b : Int} {f : Nat → Int64} {s n : Int} (h : n ≤ 0) : WN b f s n := fun j hj => by omega
theorem wn_more {b : Int} {f : Nat → Int64} {s n n2 : Int} {r : Int64} (h : WN b f s n) (h0 : 0 ≤ n) (hr : r = f (60 * s.toNat + n.toNat)) (h1 : 0 ≤ r.toInt) (h2 : r.toInt ≤ b) (e : n2 = n + 1) : WN b f s n2 := by
  intro j hj
  by_cases c : (j : Int) < n
  · exact h j c
  · have : j = n.toNat := by omega
    rw [this, ← hr]; exact ⟨h1, h2⟩
theorem wn_le {b : Int} {f : Nat → Int64} {s n n2 : Int} (h : WN b f s n) (h1 : n2 ≤ n) : WN b f s n2 := fun j hj => h j (by omega)
theorem wn_at {b : Int} {f : Nat → Int64} {s n i : Int} {r : Int64} (h : WN b f s n) (h0 : 0 ≤ i) (h1 : i < n) (hr : r = f (60 * s.toNat + i.toNat)) : 0 ≤ r.toInt ∧ r.toInt ≤ b := by rw [hr]; exact h i.toNat (by omega)
theorem ladd_i {a b v : Int64} {x y : Int} (e : v = a + b) (ha : a.toInt = x) (hb : b.toInt = y) (h1 : -9223372036854775808 ≤ x + y) (h2 : x + y ≤ 9223372036854775807) : v.toInt = x + y := by
  rw [e, Int64.toInt_add, ha, hb]
  exact Int.bmod_eq_of_le (by omega) (by omega)
theorem lmul_i {a b v : Int64} {x y : Int} (e : v = a * b) (ha : a.toInt = x) (hb : b.toInt = y) (h1 : -9223372036854775808 ≤ x * y) (h2 : x * y ≤ 9223372036854775807) : v.toInt = x * y := by
  rw [e, Int64.toInt_mul, ha, hb]
  exact Int.bmod_eq_of_le (by omega) (by omega)
theorem ldiv_i {a b v : Int64} {n : Int} (e : v = a / b) (hb : b.toInt = n) (h0 : 0 < n) (h : 0 ≤ a.toInt) : v.toInt = a.toInt / n := by
  rw [e, Int64.toInt_div, hb]
  have h1 : a.toInt.tdiv n = a.toInt / n := Int.tdiv_eq_ediv_of_nonneg h
  rw [h1]
  have h2 := Int64.toInt_lt a
  have h3 : a.toInt / n ≤ a.toInt := Int.ediv_le_self _ h
  have h4 : 0 ≤ a.toInt / n := Int.ediv_nonneg h (by omega)
  exact Int.bmod_eq_of_le (by omega) (by omega)
theorem lrem_i {a b v : Int64} {n : Int} (e : v = a - a / b * b) (hb : b.toInt = n) (h0 : 0 < n) (h : 0 ≤ a.toInt) : v.toInt = a.toInt % n := by
  have h2 := Int64.toInt_lt a
  have hd : (a / b).toInt = a.toInt / n := ldiv_i rfl hb h0 h
  have h3 : a.toInt / n ≤ a.toInt := Int.ediv_le_self _ h
  have h4 : 0 ≤ a.toInt / n := Int.ediv_nonneg h (by omega)
  have h5 := Int.emod_add_mul_ediv a.toInt n
  have h6 : 0 ≤ a.toInt % n := Int.emod_nonneg _ (by omega)
  have h7 : a.toInt / n * n ≤ a.toInt := by rw [Int.mul_comm]; omega
  have h8 : 0 ≤ a.toInt / n * n := Int.mul_nonneg h4 (by omega)
  have hm : (a / b * b).toInt = a.toInt / n * n := lmul_i rfl hd hb (by omega) (by omega)
  rw [e, Int64.toInt_sub, hm]
  have h9 : a.toInt - a.toInt / n * n = a.toInt % n := by rw [Int.mul_comm]; omega
  rw [h9]
  exact Int.bmod_eq_of_le (by omega) (by omega)
