/-! pure rows: counting, searches, sums, orders -/
def cntE (f : Nat → Int32) (c : Int32) : Nat → Nat
  | 0 => 0
  | n + 1 => cntE f c n + (if f n = c then 1 else 0)
theorem cnt_le (f : Nat → Int32) (c : Int32) : ∀ n : Nat, cntE f c n ≤ n
  | 0 => Nat.le_refl 0
  | n + 1 => by
    have := cnt_le f c n
    unfold cntE
    split <;> omega
theorem cnt_all {f : Nat → Int32} {c : Int32} : ∀ n : Nat, (∀ i : Nat, i < n → f i = c) → cntE f c n = n
  | 0, _ => rfl
  | n + 1, h => by
    unfold cntE
    rw [cnt_all n (fun i hi => h i (by omega)), if_pos (h n (by omega))]
theorem cnt_out {f : Nat → Int32} {c v : Int32} {t : Nat} : ∀ n : Nat, n ≤ t → cntE (upd f t v) c n = cntE f c n
  | 0, _ => rfl
  | n + 1, h => by
    have e : upd f t v n = f n := by unfold upd; rw [if_neg (by omega)]
    unfold cntE
    rw [cnt_out n (by omega), e]
theorem cnt_up {f : Nat → Int32} {c v : Int32} {t : Nat} (h : f t = c) (hv : v ≠ c) : ∀ n : Nat, t < n → cntE (upd f t v) c n + 1 = cntE f c n
  | 0, hn => absurd hn (Nat.not_lt_zero t)
  | n + 1, hn => by
    unfold cntE
    by_cases q : t = n
    · subst q
      rw [cnt_out t (Nat.le_refl t), if_pos h]
      have e : upd f t v t = v := by unfold upd; rw [if_pos rfl]
      rw [e, if_neg hv]
    · have e : upd f t v n = f n := by unfold upd; rw [if_neg (by omega)]
      have := cnt_up h hv n (by omega)
      rw [e]
      omega
theorem cnt_pos {f : Nat → Int32} {c : Int32} {t : Nat} (h : f t = c) : ∀ n : Nat, t < n → 1 ≤ cntE f c n
  | 0, hn => absurd hn (Nat.not_lt_zero t)
  | n + 1, hn => by
    unfold cntE
    by_cases q : t = n
    · subst q; rw [if_pos h]; omega
    · have := cnt_pos h n (by omega); omega
theorem upd_at {f : Nat → Int32} {t : Nat} {v : Int32} : upd f t v t = v := by unfold upd; rw [if_pos rfl]
theorem upd_ne {f : Nat → Int32} {t j : Nat} {v : Int32} (h : j ≠ t) : upd f t v j = f j := by unfold upd; rw [if_neg h]
/-- a search: the queue, how far, from where, how many are queued -/
def BF (n : Nat) (q fa cf : Nat → Int32) (qd : Int) : Prop := 0 ≤ qd ∧ qd + (cntE fa (-1) n : Int) = (n : Int) ∧ (∀ i : Nat, (i : Int) < qd → 0 ≤ (q i).toInt ∧ (q i).toInt < (n : Int) ∧ 0 ≤ (fa (q i).toInt.toNat).toInt) ∧ (∀ j : Nat, j < n → -1 ≤ (fa j).toInt ∧ (fa j).toInt ≤ qd - 1) ∧ (∀ j : Nat, j < n → 1 ≤ (fa j).toInt → 0 ≤ (cf j).toInt ∧ (cf j).toInt < (n : Int) ∧ 0 ≤ (fa (cf j).toInt.toNat).toInt ∧ (fa (cf j).toInt.toNat).toInt < (fa j).toInt)
theorem m1_i : (-1 : Int32).toInt = -1 := by decide
theorem eq_m1 {x : Int32} (h : x.toInt = -1) : x = -1 := Int32.toInt_inj.mp (by rw [h]; exact m1_i.symm)
theorem bf_0 {n : Nat} {q fa cf : Nat → Int32} (h : ∀ i : Nat, i < n → (fa i).toInt = -1) : BF n q fa cf 0 := by
  refine ⟨Int.le_refl 0, ?_, fun i hi => by omega, fun j hj => ?_, fun j hj h1 => ?_⟩
  · rw [cnt_all n (fun i hi => eq_m1 (h i hi))]; omega
  · have := h j hj; omega
  · have := h j hj; omega
theorem bf_lt {n : Nat} {q fa cf : Nat → Int32} {qd : Int} (h : BF n q fa cf qd) {p : Nat} (hp : p < n) (hf : (fa p).toInt = -1) : qd < (n : Int) := by
  have h1 := cnt_pos (eq_m1 hf) n hp
  have h2 := h.2.1
  omega
theorem bf_le {n : Nat} {q fa cf : Nat → Int32} {qd : Int} (h : BF n q fa cf qd) : 0 ≤ qd ∧ qd ≤ (n : Int) := by
  have h1 := h.1
  have h2 := h.2.1
  omega
theorem bf_q {n : Nat} {q fa cf : Nat → Int32} {qd : Int} (h : BF n q fa cf qd) {i : Int} (h0 : 0 ≤ i) (h1 : i < qd) : 0 ≤ (q i.toNat).toInt ∧ (q i.toNat).toInt < (n : Int) ∧ 0 ≤ (fa (q i.toNat).toInt.toNat).toInt ∧ (fa (q i.toNat).toInt.toNat).toInt ≤ qd - 1 := by
  have h2 := h.2.2.1 i.toNat (by omega)
  have h3 := h.2.2.2.1 (q i.toNat).toInt.toNat (by omega)
  omega
theorem bf_meet {n : Nat} {q fa cf q2 fa2 cf2 : Nat → Int32} {qd : Int} {p far was : Int32} {k : Nat} (h : BF n q fa cf qd) (p0 : 0 ≤ p.toInt) (p1 : p.toInt < (n : Int)) (hf : (fa p.toInt.toNat).toInt = -1)
    (hw : far.toInt = 0 ∨ (0 ≤ was.toInt ∧ was.toInt < (n : Int) ∧ 0 ≤ (fa was.toInt.toNat).toInt ∧ far.toInt = (fa was.toInt.toNat).toInt + 1)) (e1 : q2 = upd q k p) (hk : (k : Int) = qd) (e2 : fa2 = upd fa p.toInt.toNat far) (e3 : cf2 = upd cf p.toInt.toNat was) : BF n q2 fa2 cf2 (qd + 1) := by
  obtain ⟨a0, a1, a2, a3, a4⟩ := h
  have hp : p.toInt.toNat < n := by omega
  have hfar : 0 ≤ far.toInt := by rcases hw with h9 | ⟨_, _, _, _⟩ <;> omega
  have hfq : far.toInt ≤ qd := by
    rcases hw with h9 | ⟨h8, h7, h6, h5⟩
    · omega
    · have := a3 was.toInt.toNat (by omega); omega
  have hne : far ≠ -1 := fun h9 => by rw [h9, m1_i] at hfar; omega
  have hc := cnt_up (eq_m1 hf) hne n hp
  have ge : ∀ j : Nat, 0 ≤ (fa j).toInt → (fa2 j) = fa j := fun j hj => by
    rw [e2]; exact upd_ne (fun h9 => by rw [h9, hf] at hj; omega)
  refine ⟨by omega, ?_, fun i hi => ?_, fun j hj => ?_, fun j hj h1 => ?_⟩
  · rw [e2]; omega
  · by_cases c : i = k
    · rw [e1, c, upd_at]
      refine ⟨p0, p1, ?_⟩
      rw [e2, upd_at]; exact hfar
    · have h9 := a2 i (by omega)
      rw [e1, upd_ne c, ge _ h9.2.2]
      exact h9
  · by_cases c : j = p.toInt.toNat
    · rw [e2, c, upd_at]; omega
    · rw [e2, upd_ne c]; have := a3 j hj; omega
  · by_cases c : j = p.toInt.toNat
    · rw [e2, c, upd_at] at h1
      rw [e3, c, upd_at]
      rcases hw with h9 | ⟨h8, h7, h6, h5⟩
      · omega
      · rw [ge _ h6, e2, upd_at]; exact ⟨h8, h7, h6, by omega⟩
    · have ej : fa2 j = fa j := by rw [e2, upd_ne c]
      rw [ej] at h1 ⊢
      have h9 := a4 j hj h1
      rw [e3, upd_ne c, ge _ h9.2.2.1]
      exact h9
theorem bf_from {n : Nat} {q fa cf : Nat → Int32} {qd : Int} (h : BF n q fa cf qd) {j : Int} (h0 : 0 ≤ j) (h1 : j < (n : Int)) (h2 : 1 ≤ (fa j.toNat).toInt) : 0 ≤ (cf j.toNat).toInt ∧ (cf j.toNat).toInt < (n : Int) ∧ 0 ≤ (fa (cf j.toNat).toInt.toNat).toInt ∧ (fa (cf j.toNat).toInt.toNat).toInt < (fa j.toNat).toInt := h.2.2.2.2 j.toNat (by omega) h2
theorem bf_fa {n : Nat} {q fa cf : Nat → Int32} {qd : Int} (h : BF n q fa cf qd) {j : Int} (h0 : 0 ≤ j) (h1 : j < (n : Int)) : -1 ≤ (fa j.toNat).toInt ∧ (fa j.toNat).toInt ≤ qd - 1 := h.2.2.2.1 j.toNat (by omega)
/-- sums -/
def sumI (f : Nat → Int32) : Nat → Int
  | 0 => 0
  | n + 1 => sumI f n + (f n).toInt
theorem sum_out {f : Nat → Int32} {v : Int32} {t : Nat} : ∀ n : Nat, n ≤ t → sumI (upd f t v) n = sumI f n
  | 0, _ => rfl
  | n + 1, h => by
    unfold sumI
    rw [sum_out n (by omega), upd_ne (by omega)]
theorem sum_up {f : Nat → Int32} {v : Int32} {t : Nat} : ∀ n : Nat, t < n → sumI (upd f t v) n = sumI f n + (v.toInt - (f t).toInt)
  | 0, hn => absurd hn (Nat.not_lt_zero t)
  | n + 1, hn => by
    unfold sumI
    by_cases q : t = n
    · subst q
      rw [sum_out t (Nat.le_refl t), upd_at]; omega
    · rw [sum_up n (by omega), upd_ne (by omega)]; omega
theorem sum_pos {f : Nat → Int32} : ∀ n : Nat, (∀ i : Nat, i < n → 0 ≤ (f i).toInt) → 0 ≤ sumI f n
  | 0, _ => Int.le_refl 0
  | n + 1, h => by
    unfold sumI
    have := sum_pos n (fun i hi => h i (by omega))
    have := h n (by omega)
    omega
/-- how many values a row has (its first places) -/
def cnw (k : Nat → Int32) : Nat → Nat
  | 0 => 0
  | p + 1 => cnw k p + (if ∀ q : Nat, q < p → k q ≠ k p then 1 else 0)
theorem cnw_le (k : Nat → Int32) : ∀ n : Nat, cnw k n ≤ n
  | 0 => Nat.le_refl 0
  | n + 1 => by
    have := cnw_le k n
    unfold cnw
    split <;> omega
theorem cnw_same {k g : Nat → Int32} : ∀ n : Nat, (∀ i : Nat, i < n → g i = k i) → cnw g n = cnw k n
  | 0, _ => rfl
  | n + 1, h => by
    have e : (∀ q : Nat, q < n → g q ≠ g n) ↔ (∀ q : Nat, q < n → k q ≠ k n) := by
      constructor
      · intro h1 q hq; rw [← h q (by omega), ← h n (by omega)]; exact h1 q hq
      · intro h1 q hq; rw [h q (by omega), h n (by omega)]; exact h1 q hq
    unfold cnw
    rw [cnw_same n (fun i hi => h i (by omega))]
    by_cases c : ∀ q : Nat, q < n → k q ≠ k n
    · rw [if_pos c, if_pos (e.mpr c)]
    · rw [if_neg c, if_neg (fun h1 => c (e.mp h1))]
theorem cnw_old {k : Nat → Int32} {p q : Nat} (hq : q < p) (h : (k q).toInt = (k p).toInt) : cnw k (p + 1) = cnw k p := by
  show cnw k p + _ = _
  rw [if_neg (fun h1 => h1 q hq (Int32.toInt_inj.mp h))]
  rfl
theorem cnw_new {k : Nat → Int32} {p : Nat} (h : ∀ q : Nat, q < p → (k q).toInt < (k p).toInt) : cnw k (p + 1) = cnw k p + 1 := by
  show cnw k p + _ = _
  rw [if_pos (fun q hq h1 => by have := h q hq; rw [h1] at this; omega)]
theorem cnw_any (k : Nat → Int32) (p : Nat) : cnw k (p + 1) ≤ cnw k p + 1 := by
  show cnw k p + _ ≤ _
  split <;> omega
/-- the kinds of the places up to p: kindThen g against kind k, now -/
def KI (k g : Nat → Int32) (p now : Int) : Prop := 0 ≤ now ∧ now ≤ p ∧ (cnw k p.toNat : Int) ≤ now ∧ (cnw g p.toNat : Int) = now ∧ ∀ q : Nat, (q : Int) < p → 0 ≤ (g q).toInt ∧ (g q).toInt < now
theorem ki_0 (k g : Nat → Int32) : KI k g 0 0 := ⟨Int.le_refl 0, Int.le_refl 0, Int.le_refl 0, rfl, fun q h => by omega⟩
theorem ki_old {k g g2 : Nat → Int32} {p now : Int} {v : Int32} {q : Nat} (h : KI k g p now) (h0 : 0 ≤ p) (hq : (q : Int) < p) (hk : (k q).toInt = (k p.toNat).toInt) (hv : v.toInt = (g q).toInt) (e : g2 = upd g p.toNat v) : KI k g2 (p + 1) now := by
  obtain ⟨a0, a1, a2, a3, a4⟩ := h
  have e1 : (p + 1).toNat = p.toNat + 1 := by omega
  have hs : ∀ i : Nat, i < p.toNat → g2 i = g i := fun i hi => by rw [e]; exact upd_ne (by omega)
  have hp : g2 p.toNat = v := by rw [e]; exact upd_at
  have c1 := cnw_old (k := k) (p := p.toNat) (q := q) (by omega) hk
  have c2 := cnw_old (k := g2) (p := p.toNat) (q := q) (by omega) (by rw [hs q (by omega), hp, hv])
  have c3 := cnw_same (k := g) (g := g2) p.toNat hs
  refine ⟨a0, by omega, by rw [e1, c1]; exact a2, by rw [e1, c2, c3]; exact a3, fun i hi => ?_⟩
  by_cases c : (i : Int) < p
  · rw [hs i (by omega)]; exact a4 i c
  · have : i = p.toNat := by omega
    rw [this, hp, hv]; exact a4 q hq
theorem ki_new {k g g2 : Nat → Int32} {p now : Int} {v : Int32} (h : KI k g p now) (h0 : 0 ≤ p) (hv : v.toInt = now) (e : g2 = upd g p.toNat v) : KI k g2 (p + 1) (now + 1) := by
  obtain ⟨a0, a1, a2, a3, a4⟩ := h
  have e1 : (p + 1).toNat = p.toNat + 1 := by omega
  have hs : ∀ i : Nat, i < p.toNat → g2 i = g i := fun i hi => by rw [e]; exact upd_ne (by omega)
  have hp : g2 p.toNat = v := by rw [e]; exact upd_at
  have c1 := cnw_any k p.toNat
  have c2 := cnw_new (k := g2) (p := p.toNat) (fun q hq => by rw [hs q hq, hp, hv]; exact (a4 q (by omega)).2)
  have c3 := cnw_same (k := g) (g := g2) p.toNat hs
  refine ⟨by omega, by omega, by rw [e1]; omega, by rw [e1, c2, c3]; omega, fun i hi => ?_⟩
  by_cases c : (i : Int) < p
  · rw [hs i (by omega)]; have := a4 i c; omega
  · have : i = p.toNat := by omega
    rw [this, hp, hv]; omega
/-- orders of five -/
def DO (f : Nat → Int32) : Prop := ∀ a b : Nat, a < 5 → b < 5 → a ≠ b → (f a).toInt ≠ (f b).toInt
def code5 (f : Nat → Int32) : Int := 625 * (f 0).toInt + 125 * (f 1).toInt + 25 * (f 2).toInt + 5 * (f 3).toInt + (f 4).toInt
def SwP (f g : Nat → Int32) (a b : Nat) : Prop := g a = f b ∧ g b = f a ∧ ∀ j : Nat, j ≠ a → j ≠ b → g j = f j
theorem do_sw {f g : Nat → Int32} {a b : Nat} (h : DO f) (s : SwP f g a b) (ha : a < 5) (hb : b < 5) : DO g := by
  have key : ∀ j : Nat, j < 5 → ∃ j2 : Nat, j2 < 5 ∧ g j = f j2 ∧ (j = a → j2 = b) ∧ (j = b → j2 = a) ∧ (j ≠ a → j ≠ b → j2 = j) := by
    intro j hj
    by_cases c1 : j = a
    · exact ⟨b, hb, by rw [c1]; exact s.1, fun _ => rfl, fun h9 => by omega, fun h9 => absurd c1 h9⟩
    · by_cases c2 : j = b
      · exact ⟨a, ha, by rw [c2]; exact s.2.1, fun h9 => absurd h9 c1, fun _ => rfl, fun _ h9 => absurd c2 h9⟩
      · exact ⟨j, hj, s.2.2 j c1 c2, fun h9 => absurd h9 c1, fun h9 => absurd h9 c2, fun _ _ => rfl⟩
  intro x y hx hy hne
  obtain ⟨x2, hx2, ex, x3, x4, x5⟩ := key x hx
  obtain ⟨y2, hy2, ey, y3, y4, y5⟩ := key y hy
  rw [ex, ey]
  refine h x2 y2 hx2 hy2 (fun h9 => ?_)
  by_cases c1 : x = a <;> by_cases c2 : x = b <;> by_cases c3 : y = a <;> by_cases c4 : y = b <;> omega
theorem rg_sw {f g : Nat → Int32} {a b : Nat} (h : Rg 0 4 5 f) (s : SwP f g a b) (ha : a < 5) (hb : b < 5) : Rg 0 4 5 g := by
  intro j hj
  by_cases c1 : j = a
  · rw [c1, s.1]; exact h b hb
  · by_cases c2 : j = b
    · rw [c2, s.2.1]; exact h a ha
    · rw [s.2.2 j c1 c2]; exact h j hj
theorem sw_of {f g1 g : Nat → Int32} {a b : Nat} {x y : Int32} (hx : x = f b) (hy : y = f a) (e1 : g1 = upd f a x) (e2 : g = upd g1 b y) : SwP f g a b := by
  refine ⟨?_, ?_, fun j h1 h2 => ?_⟩
  · by_cases c : a = b
    · rw [e2, c, upd_at, hy, c]
    · rw [e2, upd_ne c, e1, upd_at, hx]
  · rw [e2, upd_at, hy]
  · rw [e2, upd_ne h2, e1, upd_ne h1]
/-- the next order is greater: the same ahead of place i, more there -/
def LexP (f g : Nat → Int32) (i : Int) : Prop := 0 ≤ i ∧ i ≤ 3 ∧ (∀ q : Nat, (q : Int) < i → g q = f q) ∧ (f i.toNat).toInt < (g i.toNat).toInt
theorem lex_code {f g : Nat → Int32} {i : Int} (h : LexP f g i) (hf : Rg 0 4 5 f) (hg : Rg 0 4 5 g) : code5 f < code5 g := by
  obtain ⟨h0, h1, h2, h3⟩ := h
  have f0 := hf 0 (by decide); have f1 := hf 1 (by decide); have f2 := hf 2 (by decide); have f3 := hf 3 (by decide); have f4 := hf 4 (by decide)
  have g0 := hg 0 (by decide); have g1 := hg 1 (by decide); have g2 := hg 2 (by decide); have g3 := hg 3 (by decide); have g4 := hg 4 (by decide)
  unfold code5
  rcases (show i = 0 ∨ i = 1 ∨ i = 2 ∨ i = 3 by omega) with h9 | h9 | h9 | h9
  · subst h9; have h4 : (f 0).toInt < (g 0).toInt := h3; omega
  · subst h9; have h4 : (f 1).toInt < (g 1).toInt := h3
    have e0 := h2 0 (by decide); rw [e0]; omega
  · subst h9; have h4 : (f 2).toInt < (g 2).toInt := h3
    have e0 := h2 0 (by decide); have e1 := h2 1 (by decide); rw [e0, e1]; omega
  · subst h9; have h4 : (f 3).toInt < (g 3).toInt := h3
    have e0 := h2 0 (by decide); have e1 := h2 1 (by decide); have e2 := h2 2 (by decide); rw [e0, e1, e2]; omega
theorem lex_sw {f g g2 : Nat → Int32} {i : Int} {a b : Nat} (h : LexP f g i) (s : SwP g g2 a b) (ha : i < (a : Int)) (hb : i < (b : Int)) : LexP f g2 i := by
  obtain ⟨h0, h1, h2, h3⟩ := h
  refine ⟨h0, h1, fun q hq => ?_, ?_⟩
  · rw [s.2.2 q (by omega) (by omega)]; exact h2 q hq
  · rw [s.2.2 i.toNat (by omega) (by omega)]; exact h3
theorem lex_1 {f g : Nat → Int32} {i j : Int} (h0 : 0 ≤ i) (h1 : i ≤ 3) (hj : i < j) (s : SwP f g i.toNat j.toNat) (hl : (f i.toNat).toInt < (f j.toNat).toInt) : LexP f g i := by
  refine ⟨h0, h1, fun q hq => s.2.2 q (by omega) (by omega), ?_⟩
  rw [s.1]; exact hl
theorem code_hi {f : Nat → Int32} (hf : Rg 0 4 5 f) : 0 ≤ code5 f ∧ code5 f ≤ 3124 := by
  have f0 := hf 0 (by decide); have f1 := hf 1 (by decide); have f2 := hf 2 (by decide); have f3 := hf 3 (by decide); have f4 := hf 4 (by decide)
  unfold code5
  omega
