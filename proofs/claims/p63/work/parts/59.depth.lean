/-! depths of PLANS in the reference -/
def alF (f : Nat → Int32) : Int32 := (1 : Int32) <<< (f 0 &&& 31) - 1
/-- the depth of what of a SET has a mark -/
def cmF (f dep : Nat → Int32) (set : Int32) (m : Nat) : Int := if (seeF f set (Int32.ofNat m) (f 0).toInt.toNat).toInt = 0 then 0 else (dep (seeF f set (Int32.ofNat m) (f 0).toInt.toNat).toInt.toNat).toInt
def dsF (f dep : Nat → Int32) (set : Int32) : Nat → Int
  | 0 => 0
  | m + 1 => if dsF f dep set m ≤ cmF f dep set m then cmF f dep set m else dsF f dep set m
theorem ds_pos (f dep : Nat → Int32) (set : Int32) : ∀ m : Nat, 0 ≤ dsF f dep set m
  | 0 => Int.le_refl 0
  | m + 1 => by
    have := ds_pos f dep set m
    unfold dsF
    split <;> omega
theorem ds_le {f dep : Nat → Int32} {set : Int32} {k : Int} : ∀ m : Nat, dsF f dep set m ≤ k → ∀ j : Nat, j < m → cmF f dep set j ≤ k
  | 0, _, j, hj => absurd hj (Nat.not_lt_zero j)
  | m + 1, h, j, hj => by
    unfold dsF at h
    by_cases c : j = m
    · subst c; split at h <;> omega
    · refine ds_le m ?_ j (by omega)
      split at h <;> omega
theorem ds_of {f dep : Nat → Int32} {set : Int32} {k : Int} (h0 : 0 ≤ k) : ∀ m : Nat, (∀ j : Nat, j < m → cmF f dep set j ≤ k) → dsF f dep set m ≤ k
  | 0, _ => h0
  | m + 1, h => by
    have h1 := ds_of h0 m (fun j hj => h j (by omega))
    have h2 := h m (by omega)
    unfold dsF
    split <;> omega
theorem ds_same {f dep dep2 : Nat → Int32} {set : Int32} : ∀ m : Nat, (∀ j : Nat, j < m → cmF f dep2 set j = cmF f dep set j) → dsF f dep2 set m = dsF f dep set m
  | 0, _ => rfl
  | m + 1, h => by
    unfold dsF
    rw [ds_same m (fun j hj => h j (by omega)), h m (by omega)]
section DEP
variable {f dep dep2 : Nat → Int32} {set v : Int32} {t : Nat} {n : Int}
theorem cm_ne (e : dep2 = upd dep t v) {j : Nat} (hj : ¬ (seeF f set (Int32.ofNat j) (f 0).toInt.toNat).toInt.toNat = t) : cmF f dep2 set j = cmF f dep set j := by
  unfold cmF
  split
  · rfl
  · rw [e, upd_ne hj]
/-- a depth that is set later changes no lesser one -/
theorem ds_keep (e : dep2 = upd dep t v) (hf : (dep t).toInt = 1000000) (hn : n ≤ 1000000) {m : Nat} (h : dsF f dep set m ≤ n - 1) : dsF f dep2 set m = dsF f dep set m := by
  refine ds_same m (fun j hj => ?_)
  have h1 := ds_le m h j hj
  by_cases c : (seeF f set (Int32.ofNat j) (f 0).toInt.toNat).toInt.toNat = t
  · unfold cmF at h1 ⊢
    split
    · rfl
    · rename_i h2
      rw [if_neg h2, c, hf] at h1
      omega
  · exact cm_ne e c
theorem ds_more (e : dep2 = upd dep t v) (hv : v.toInt = n) {k : Int} (hk : k ≤ n - 1) {m : Nat} (h : k < dsF f dep set m) : k < dsF f dep2 set m := by
  by_cases c : k < dsF f dep2 set m
  · exact c
  · exfalso
    have h0 := ds_pos f dep2 set m
    have h1 : dsF f dep set m ≤ k := by
      refine ds_of (by omega) m (fun j hj => ?_)
      have h2 := ds_le (f := f) (dep := dep2) (set := set) (k := k) m (by omega) j hj
      by_cases c2 : (seeF f set (Int32.ofNat j) (f 0).toInt.toNat).toInt.toNat = t
      · unfold cmF at h2 ⊢
        split
        · omega
        · rename_i h3
          rw [if_neg h3, c2, e, upd_at, hv] at h2
          omega
      · rw [cm_ne e c2] at h2; exact h2
    omega
end DEP
def DD (f dep : Nat → Int32) (s w : Nat) : Int := dsF f dep (becF f (Int32.ofNat s) w (f 0).toInt.toNat) 10
def FDm (f dep : Nat → Int32) (al n t : Int) : Prop := (∀ s : Nat, 1 ≤ s → (s : Int) ≤ al → 0 < (dep s).toInt → (dep s).toInt < 1000000 → (dep s).toInt ≤ n ∧ ∃ w : Nat, w < 4 ∧ DD f dep s w = (dep s).toInt - 1) ∧ (∀ s : Nat, 1 ≤ s → (s : Int) ≤ al → (dep s).toInt = 1000000 → ∀ w : Nat, w < 4 → n - 2 < DD f dep s w ∧ ((s : Int) < t → n - 1 < DD f dep s w))
theorem fd_0 {f dep : Nat → Int32} {al n t : Int} (h : ∀ s : Nat, (s : Int) ≤ al → (dep s).toInt = 0 ∨ (dep s).toInt = 1000000) (hn : n = 1) (ht : t = 1) : FDm f dep al n t := by
  subst hn ht
  refine ⟨fun s h1 h2 h3 h4 => by have := h s h2; omega, fun s h1 h2 h3 w hw => ⟨?_, fun h5 => by omega⟩⟩
  have := ds_pos f dep (becF f (Int32.ofNat s) w (f 0).toInt.toNat) 10
  unfold DD
  omega
theorem fd_next {f dep : Nat → Int32} {al n t n2 t2 : Int} (h : FDm f dep al n t) (ht : al < t) (hn : n2 = n + 1) (h2 : t2 = 1) : FDm f dep al n2 t2 := by
  subst hn h2
  refine ⟨fun s h1 h2 h3 h4 => ?_, fun s h1 h2 h3 w hw => ⟨?_, fun h5 => by omega⟩⟩
  · have := h.1 s h1 h2 h3 h4
    exact ⟨by omega, this.2⟩
  · have := (h.2 s h1 h2 h3 w hw).2 (by omega); omega
theorem fd_skip {f dep : Nat → Int32} {al n t t2 : Int} (h : FDm f dep al n t) (hd : ¬ (dep t.toNat).toInt = 1000000) (h0 : 0 ≤ t) (h2 : t2 = t + 1) : FDm f dep al n t2 := by
  subst h2
  refine ⟨h.1, fun s h1 h2 h3 w hw => ⟨(h.2 s h1 h2 h3 w hw).1, fun h5 => ?_⟩⟩
  by_cases c : (s : Int) < t
  · exact (h.2 s h1 h2 h3 w hw).2 c
  · exact absurd (by rw [show t.toNat = s by omega]; exact h3) hd
theorem fd_no {f dep : Nat → Int32} {al n t t2 : Int} (h : FDm f dep al n t) (hd : ∀ w : Nat, w < 4 → n - 1 < DD f dep t.toNat w) (h0 : 0 ≤ t) (h2 : t2 = t + 1) : FDm f dep al n t2 := by
  subst h2
  refine ⟨h.1, fun s h1 h2 h3 w hw => ⟨(h.2 s h1 h2 h3 w hw).1, fun h5 => ?_⟩⟩
  by_cases c : (s : Int) < t
  · exact (h.2 s h1 h2 h3 w hw).2 c
  · have := hd w hw
    rw [show t.toNat = s by omega] at this; exact this
theorem fd_set {f dep dep2 : Nat → Int32} {al n t t2 : Int} {v : Int32} (h : FDm f dep al n t) (hd : (dep t.toNat).toInt = 1000000) (hw : ∃ w : Nat, w < 4 ∧ DD f dep t.toNat w ≤ n - 1) (h0 : 1 ≤ t) (hal : t ≤ al) (hv : v.toInt = n) (n1 : 1 ≤ n) (n2 : n < 1000000) (e : dep2 = upd dep t.toNat v) (h2 : t2 = t + 1) : FDm f dep2 al n t2 := by
  subst h2
  have at2 : (dep2 t.toNat).toInt = n := by rw [e, upd_at, hv]
  have ne2 : ∀ s : Nat, s ≠ t.toNat → dep2 s = dep s := fun s hs => by rw [e, upd_ne hs]
  refine ⟨fun s h1 h2 h3 h4 => ?_, fun s h1 h2 h3 w hw2 => ?_⟩
  · by_cases c : s = t.toNat
    · subst c
      rw [at2]
      obtain ⟨w, w1, w2⟩ := hw
      have w3 := (h.2 t.toNat h1 h2 hd w w1).1
      refine ⟨Int.le_refl n, w, w1, ?_⟩
      unfold DD at w2 w3 ⊢
      rw [ds_keep (n := n) e hd (by omega) w2]
      omega
    · rw [ne2 s c] at h3 h4 ⊢
      obtain ⟨a1, w, w1, w2⟩ := h.1 s h1 h2 h3 h4
      refine ⟨a1, w, w1, ?_⟩
      unfold DD at w2 ⊢
      rw [ds_keep (n := n) e hd (by omega) (by omega)]
      exact w2
  · have c : s ≠ t.toNat := fun c => by rw [c, at2] at h3; omega
    rw [ne2 s c] at h3
    have h5 := h.2 s h1 h2 h3 w hw2
    unfold DD at h5 ⊢
    refine ⟨ds_more (n := n) e hv (by omega) h5.1, fun h6 => ?_⟩
    exact ds_more (n := n) e hv (by omega) (h5.2 (by omega))
def FD (f dep : Nat → Int32) (al : Int) : Prop := ∀ s : Nat, 1 ≤ s → (s : Int) ≤ al → 0 < (dep s).toInt → (dep s).toInt < 1000000 → ∃ w : Nat, w < 4 ∧ DD f dep s w = (dep s).toInt - 1
theorem fd_of {f dep : Nat → Int32} {al n t : Int} (h : FDm f dep al n t) : FD f dep al := fun s h1 h2 h3 h4 => (h.1 s h1 h2 h3 h4).2
theorem far_i {x : Int32} (h : x.toInt = 1000000) : x = 1000000 := Int32.toInt_inj.mp (by rw [h]; decide)
theorem cnt_set {f g : Nat → Int32} {i v : Int32} {n : Nat} (e : g = upd f i.toNatClampNeg v) (hi : i.toNatClampNeg < n) (hf : (f i.toInt.toNat).toInt = 1000000) (hv : ¬ v.toInt = 1000000) : cntE g 1000000 n + 1 = cntE f 1000000 n := by
  have h1 : f i.toNatClampNeg = 1000000 := far_i hf
  rw [e]
  exact cnt_up h1 (fun q => hv (by rw [q]; decide)) n hi
/-- the loop over marks -/
theorem ds_1 {f dep : Nat → Int32} {set m : Int32} {a : Int} {r y v : Int32} {k : Nat} (h : a = dsF f dep set m.toInt.toNat) (hm : 0 ≤ m.toInt) (hr : r = seeF f set m (f 0).toInt.toNat) (h0 : ¬ r.toInt = 0) (hy : y.toInt = (dep r.toInt.toNat).toInt) (h1 : a ≤ v.toInt) (h2 : y.toInt ≤ v.toInt) (h3 : v.toInt = a ∨ v.toInt = y.toInt) (hk : k = m.toInt.toNat + 1) : v.toInt = dsF f dep set k := by
  have hc : cmF f dep set m.toInt.toNat = y.toInt := by
    unfold cmF
    rw [of_nat_toInt hm, ← hr, if_neg h0, hy]
  rw [hk]
  show v.toInt = if dsF f dep set m.toInt.toNat ≤ cmF f dep set m.toInt.toNat then _ else _
  rw [← h, hc]
  split <;> omega
theorem ds_0 {f dep : Nat → Int32} {set m : Int32} {a : Int} {r v : Int32} {k : Nat} (h : a = dsF f dep set m.toInt.toNat) (hm : 0 ≤ m.toInt) (hr : r = seeF f set m (f 0).toInt.toNat) (h0 : r.toInt = 0) (h1 : a ≤ v.toInt) (h2 : 0 ≤ v.toInt) (h3 : v.toInt = a ∨ v.toInt = 0) (hk : k = m.toInt.toNat + 1) : v.toInt = dsF f dep set k := by
  have hc : cmF f dep set m.toInt.toNat = 0 := by
    unfold cmF
    rw [of_nat_toInt hm, ← hr, if_pos h0]
  rw [hk]
  show v.toInt = if dsF f dep set m.toInt.toNat ≤ cmF f dep set m.toInt.toNat then _ else _
  rw [← h, hc]
  split <;> omega
theorem dd_of {f dep : Nat → Int32} {t b r : Int32} {w : Nat} (h0 : 0 ≤ t.toInt) (hb : b = becF f t w (f 0).toInt.toNat) (hr : r.toInt = dsF f dep b 10) : DD f dep t.toInt.toNat w = r.toInt := by
  unfold DD
  rw [of_nat_toInt h0, ← hb, hr]
theorem z1_more {f g : Nat → Int32} {i v : Int32} {n : Int} (h : ∀ j : Nat, (j : Int) < i.toInt → (f j).toInt = 0 ∨ (f j).toInt = 1000000) (h0 : 0 ≤ i.toInt) (e : g = upd f i.toNatClampNeg v) (hv : v.toInt = 0 ∨ v.toInt = 1000000) (hn : n = i.toInt + 1) : ∀ j : Nat, (j : Int) < n → (g j).toInt = 0 ∨ (g j).toInt = 1000000 := by
  intro j hj
  rw [e]
  by_cases c : j = i.toNatClampNeg
  · rw [c, upd_at]; exact hv
  · have := cl_n i
    rw [upd_ne c]; exact h j (by omega)
/-- the kinds: copied -/
theorem kc_more {f g k : Nat → Int32} {i v : Int32} {n : Int} (h : ∀ j : Nat, (j : Int) < i.toInt → f j = k j) (h0 : 0 ≤ i.toInt) (e : g = upd f i.toNatClampNeg v) (hv : v = k i.toNatClampNeg) (hn : n = i.toInt + 1) : ∀ j : Nat, (j : Int) < n → g j = k j := by
  intro j hj
  rw [e]
  by_cases c : j = i.toNatClampNeg
  · rw [c, upd_at]; exact hv
  · have := cl_n i
    rw [upd_ne c]; exact h j (by omega)
theorem kn_of {k g k2 : Nat → Int32} {p now n : Int} (h : KI k g p now) (hc : ∀ j : Nat, (j : Int) < n → k2 j = g j) (hp : p ≤ n) (h0 : 0 ≤ p) : now ≤ (cnw k2 p.toNat : Int) := by
  rw [cnw_same (k := g) p.toNat (fun i hi => hc i (by omega))]
  have := h.2.2.2.1
  omega
theorem ki_old2 {k g g2 : Nat → Int32} {p now p2 now2 : Int} {v : Int32} {q : Nat} (h : KI k g p now) (h0 : 0 ≤ p) (hq : (q : Int) < p) (hk : (k q).toInt = (k p.toNat).toInt) (hv : v.toInt = (g q).toInt) (e : g2 = upd g p.toNat v) (hp : p2 = p + 1) (hn : now2 = now) : KI k g2 p2 now2 := by
  rw [hp, hn]; exact ki_old h h0 hq hk hv e
theorem ki_new2 {k g g2 : Nat → Int32} {p now p2 now2 : Int} {v : Int32} (h : KI k g p now) (h0 : 0 ≤ p) (hv : v.toInt = now) (e : g2 = upd g p.toNat v) (hp : p2 = p + 1) (hn : now2 = now + 1) : KI k g2 p2 now2 := by
  rw [hp, hn]; exact ki_new h h0 hv e
theorem al_b {f : Nat → Int32} (h : GW f) : 0 ≤ (alF f).toInt ∧ (alF f).toInt ≤ 1023 := by
  have h1 := gwn_0 h
  obtain ⟨v, hv⟩ : ∃ v : Int32, v = (1 : Int32) <<< (f 0 &&& 31) := ⟨_, rfl⟩
  have h2 := shl1_b hv h1.1 h1.2
  have h3 : (alF f).toInt = v.toInt - (1 : Int32).toInt := by
    unfold alF
    rw [← hv]
    have h4 : (1 : Int32).toInt = 1 := by decide
    exact sub_i rfl (by omega) (by omega)
  have h4 : (1 : Int32).toInt = 1 := by decide
  omega
theorem dd_more {D : Nat → Int} {w w2 : Int} {k r : Int} (h : ∀ w9 : Nat, (w9 : Int) < w → k < D w9) (h0 : 0 ≤ w) (hd : D w.toNat = r) (hr : k < r) (h2 : w2 = w + 1) : ∀ w9 : Nat, (w9 : Int) < w2 → k < D w9 := by
  intro w9 h9
  by_cases c : (w9 : Int) < w
  · exact h w9 c
  · rw [show w9 = w.toNat by omega, hd]; exact hr
def ExW (f g : Nat → Int32) (t : Nat) (k : Int) : Prop := ∃ w : Nat, w < 4 ∧ DD f g t w ≤ k
theorem exw_mk {f g : Nat → Int32} {t : Nat} {k : Int} (w : Nat) (h1 : w < 4) (h2 : DD f g t w ≤ k) : ExW f g t k := ⟨w, h1, h2⟩
def ExF (f g : Nat → Int32) (p : Nat) (z : Int) : Prop := ∃ w : Nat, w < 4 ∧ DD f g p w = (g p).toInt - 1 ∧ z ≤ (w : Int)
theorem exf_mk {f g : Nat → Int32} {p : Nat} {z : Int} (w : Nat) (h1 : w < 4) (h2 : DD f g p w = (g p).toInt - 1) (h3 : z ≤ (w : Int)) : ExF f g p z := ⟨w, h1, h2, h3⟩
theorem exf_fd {f g : Nat → Int32} {al z : Int} {p : Nat} (h : FD f g al) (h1 : 1 ≤ p) (h2 : (p : Int) ≤ al) (h3 : 0 < (g p).toInt) (h4 : (g p).toInt < 1000000) (hz : z ≤ 0) : ExF f g p z := by
  obtain ⟨w, a, b⟩ := h p h1 h2 h3 h4
  exact ⟨w, a, b, by omega⟩
