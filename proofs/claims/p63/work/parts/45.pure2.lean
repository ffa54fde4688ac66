/-! searches, more rows -/
theorem bf_0z {n : Nat} {q fa cf : Nat → Int32} {z : Int} (hz : z = 0) (h : ∀ i : Nat, i < n → (fa i).toInt = -1) : BF n q fa cf z := by rw [hz]; exact bf_0 h
theorem bf_meet2 {n : Nat} {q fa cf q2 fa2 cf2 : Nat → Int32} {qd qd2 : Int} {p far was : Int32} {k : Nat} (h : BF n q fa cf qd) (p0 : 0 ≤ p.toInt) (p1 : p.toInt < (n : Int)) (hf : (fa p.toInt.toNat).toInt = -1)
    (hw : far.toInt = 0 ∨ (0 ≤ was.toInt ∧ was.toInt < (n : Int) ∧ 0 ≤ (fa was.toInt.toNat).toInt ∧ far.toInt = (fa was.toInt.toNat).toInt + 1)) (e1 : q2 = upd q k p) (hk : (k : Int) = qd) (e2 : fa2 = upd fa p.toInt.toNat far) (e3 : cf2 = upd cf p.toInt.toNat was) (hq : qd2 = qd + 1) : BF n q2 fa2 cf2 qd2 := by
  rw [hq]; exact bf_meet h p0 p1 hf hw e1 hk e2 e3
theorem bf_first {n : Nat} {q fa cf q2 fa2 : Nat → Int32} {p v : Int32} {k : Nat} {qd : Int} (h : ∀ i : Nat, i < n → (fa i).toInt = -1) (p0 : 0 ≤ p.toInt) (p1 : p.toInt < (n : Int)) (hv : v.toInt = 0) (e1 : q2 = upd q k p) (hk : k = 0) (e2 : fa2 = upd fa p.toInt.toNat v) (hq : qd = 1) : BF n q2 fa2 cf qd := by
  have e3 : cf = upd cf p.toInt.toNat (cf p.toInt.toNat) := by
    funext j
    by_cases c : j = p.toInt.toNat
    · rw [c, upd_at]
    · rw [upd_ne c]
  exact bf_meet2 (bf_0 h) p0 p1 (h _ (by omega)) (Or.inl hv) e1 (by rw [hk]; rfl) e2 e3 (by omega)
theorem fl_more {f g : Nat → Int32} {i v : Int32} {n : Int} (h : ∀ j : Nat, (j : Int) < i.toInt → (f j).toInt = -1) (h0 : 0 ≤ i.toInt) (e : g = upd f i.toNatClampNeg v) (hv : v.toInt = -1) (hn : n = i.toInt + 1) : ∀ j : Nat, (j : Int) < n → (g j).toInt = -1 := by
  intro j hj
  rw [e]
  by_cases c : j = i.toNatClampNeg
  · rw [c, upd_at]; exact hv
  · have := cl_n i
    rw [upd_ne c]; exact h j (by omega)
theorem fa_keep {fa fa2 : Nat → Int32} {p j : Nat} {v : Int32} (h : 0 ≤ (fa j).toInt) (hp : (fa p).toInt = -1) (e : fa2 = upd fa p v) : 0 ≤ (fa2 j).toInt := by
  rw [e, upd_ne (fun q => by rw [q, hp] at h; omega)]; exact h
