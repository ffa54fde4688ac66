/-! the law's world: the class's cells, the reference's, the images' -/
def wX (K : Nat → ClassId) (a : Nat → Nat) (u : ((Nat → Int32) × (Nat → Nat → Int32) × (Nat → Nat → Int64))) (iw ip : Nat → Option Nat) : va_W := [((a 0), .inr (10, [.ref (a 1), .ref (a 2), .ref (a 3), .ref (a 4), .ref (a 5), .ref (a 6), .ref (a 7), .ref (a 8), .ref (a 9), .ref (a 10), .ref (a 11), .ref (a 12)])), ((a 1), .inr (4, [.ref (a 13), .int (u.1 0), .int (u.1 1), .int (u.1 2), .ref (a 14), .int (u.1 3), .int (u.1 4), .int (u.1 5), .int (u.1 6), .int (u.1 7)])), ((a 2), .inr (9, [.ref (a 23), .ref (a 24), .ref (a 25), .ref (a 26), .ref (a 27), .ref (a 28), .ref (a 29), .ref (a 30), .int (u.1 12), .int (u.1 13), .int (u.1 14), .int (u.1 15)])), ((a 3), .inr (2, [.ref (a 31), .ref (a 32), .ref (a 33), .ref (a 34), .ref (a 35), .int (u.1 16)])), ((a 4), .inr (8, [.int (u.1 17), .int (u.1 18), .int (u.1 19)])), ((a 5), .inr (5, [.ref (a 36), .ref (a 37), .ref (a 38)])), ((a 6), .inr (1, [.ref (a 39), .ref (a 40), .ref (a 41), .int (u.1 20), .int (u.1 21), .int (u.1 22), .ref (a 42), .int (u.1 23), .int (u.1 24), .int (u.1 25)])), ((a 7), .inr (6, [.ref (a 43), .ref (a 44), .ref (a 45), .int (u.1 29), .int (u.1 30), .int (u.1 31), .int (u.1 32)])), ((a 8), .inr (3, [.ref (a 46), .ref (a 47), .ref (a 48), .int (u.1 33), .int (u.1 34)])), ((a 9), .inr (0, [.ref (a 49), .ref (a 50), .ref (a 51), .ref (a 52), .int (u.1 35), .int (u.1 36)])), ((a 10), .inr (7, [.ref (a 61), .ref (a 62), .ref (a 63)])), ((a 11), .inl (K 4, 3, .inr (.inr (.inr (.inr iw))))), ((a 12), .inl (K 5, 3, .inr (.inr (.inr (.inr ip))))), ((a 13), .inl (K 0, 1000, .inl (u.2.1 13))), ((a 14), .inr (9, [.ref (a 15), .ref (a 16), .ref (a 17), .ref (a 18), .ref (a 19), .ref (a 20), .ref (a 21), .ref (a 22), .int (u.1 8), .int (u.1 9), .int (u.1 10), .int (u.1 11)])), ((a 15), .inl (K 1, 40, .inl (u.2.1 15))), ((a 16), .inl (K 1, 10, .inl (u.2.1 16))), ((a 17), .inl (K 1, 4, .inl (u.2.1 17))), ((a 18), .inl (K 1, 4, .inl (u.2.1 18))), ((a 19), .inl (K 1, 4, .inl (u.2.1 19))), ((a 20), .inl (K 1, 5, .inl (u.2.1 20))), ((a 21), .inl (K 1, 5, .inl (u.2.1 21))), ((a 22), .inl (K 1, 5, .inl (u.2.1 22))), ((a 23), .inl (K 1, 40, .inl (u.2.1 23))), ((a 24), .inl (K 1, 10, .inl (u.2.1 24))), ((a 25), .inl (K 1, 4, .inl (u.2.1 25))), ((a 26), .inl (K 1, 4, .inl (u.2.1 26))), ((a 27), .inl (K 1, 4, .inl (u.2.1 27))), ((a 28), .inl (K 1, 5, .inl (u.2.1 28))), ((a 29), .inl (K 1, 5, .inl (u.2.1 29))), ((a 30), .inl (K 1, 5, .inl (u.2.1 30))), ((a 31), .inl (K 1, 4, .inl (u.2.1 31))), ((a 32), .inl (K 1, 4, .inl (u.2.1 32))), ((a 33), .inl (K 1, 60, .inl (u.2.1 33))), ((a 34), .inl (K 1, 60, .inl (u.2.1 34))), ((a 35), .inl (K 1, 60, .inl (u.2.1 35))), ((a 36), .inl (K 2, 240, .inr (.inl (u.2.2 36)))), ((a 37), .inl (K 1, 4, .inl (u.2.1 37))), ((a 38), .inl (K 1, 4, .inl (u.2.1 38))), ((a 39), .inl (K 1, 10240, .inl (u.2.1 39))), ((a 40), .inl (K 1, 10240, .inl (u.2.1 40))), ((a 41), .inl (K 1, 10240, .inl (u.2.1 41))), ((a 42), .inr (8, [.int (u.1 26), .int (u.1 27), .int (u.1 28)])), ((a 43), .inl (K 1, 1024, .inl (u.2.1 43))), ((a 44), .inl (K 1, 1024, .inl (u.2.1 44))), ((a 45), .inl (K 1, 1024, .inl (u.2.1 45))), ((a 46), .inl (K 1, 1024, .inl (u.2.1 46))), ((a 47), .inl (K 1, 4096, .inl (u.2.1 47))), ((a 48), .inl (K 1, 10, .inl (u.2.1 48))), ((a 49), .inr (9, [.ref (a 53), .ref (a 54), .ref (a 55), .ref (a 56), .ref (a 57), .ref (a 58), .ref (a 59), .ref (a 60), .int (u.1 37), .int (u.1 38), .int (u.1 39), .int (u.1 40)])), ((a 50), .inr (8, [.int (u.1 41), .int (u.1 42), .int (u.1 43)])), ((a 51), .inl (K 1, 5, .inl (u.2.1 51))), ((a 52), .inl (K 1, 5, .inl (u.2.1 52))), ((a 53), .inl (K 1, 40, .inl (u.2.1 53))), ((a 54), .inl (K 1, 10, .inl (u.2.1 54))), ((a 55), .inl (K 1, 4, .inl (u.2.1 55))), ((a 56), .inl (K 1, 4, .inl (u.2.1 56))), ((a 57), .inl (K 1, 4, .inl (u.2.1 57))), ((a 58), .inl (K 1, 5, .inl (u.2.1 58))), ((a 59), .inl (K 1, 5, .inl (u.2.1 59))), ((a 60), .inl (K 1, 5, .inl (u.2.1 60))), ((a 61), .inl (K 1, 10, .inl (u.2.1 61))), ((a 62), .inl (K 1, 10, .inl (u.2.1 62))), ((a 63), .inl (K 1, 10, .inl (u.2.1 63)))]
def wM (K : Nat → ClassId) (b : Nat → Nat) (v : ((Nat → Int32) × (Nat → Nat → Int32) × (Nat → Nat → Int64))) : va_W := [((b 0), .inr (11, [.int (v.1 0), .ref (b 1), .ref (b 2), .ref (b 3), .ref (b 4), .int (v.1 5), .ref (b 6), .int (v.1 7), .int (v.1 8), .int (v.1 9), .int (v.1 10), .int (v.1 11), .int (v.1 12), .int (v.1 13), .ref (b 14), .int (v.1 15), .int (v.1 16), .int (v.1 17), .int (v.1 18), .int (v.1 19), .int (v.1 20), .ref (b 21), .ref (b 22), .ref (b 23), .ref (b 24), .int (v.1 25), .ref (b 26), .ref (b 27), .ref (b 28), .ref (b 29), .ref (b 30), .ref (b 31), .ref (b 32), .ref (b 33), .ref (b 34), .ref (b 35), .ref (b 36), .int (v.1 37), .int (v.1 38), .int (v.1 39), .ref (b 40), .ref (b 41), .ref (b 42), .int (v.1 43), .int (v.1 44), .ref (b 45), .ref (b 46), .ref (b 47), .int (v.1 48), .ref (b 49), .ref (b 50), .ref (b 51), .ref (b 52)])), ((b 1), .inl (K 1, 262, .inl (v.2.1 1))), ((b 2), .inl (K 1, 786, .inl (v.2.1 2))), ((b 3), .inl (K 3, 3, .inl (v.2.1 3))), ((b 4), .inl (K 0, 1000, .inl (v.2.1 4))), ((b 6), .inl (K 1, 5, .inl (v.2.1 6))), ((b 14), .inl (K 1, 262, .inl (v.2.1 14))), ((b 21), .inl (K 1, 10240, .inl (v.2.1 21))), ((b 22), .inl (K 1, 10240, .inl (v.2.1 22))), ((b 23), .inl (K 1, 10240, .inl (v.2.1 23))), ((b 24), .inl (K 1, 10240, .inl (v.2.1 24))), ((b 26), .inl (K 1, 1024, .inl (v.2.1 26))), ((b 27), .inl (K 1, 10, .inl (v.2.1 27))), ((b 28), .inl (K 1, 10, .inl (v.2.1 28))), ((b 29), .inl (K 1, 100, .inl (v.2.1 29))), ((b 30), .inl (K 1, 100, .inl (v.2.1 30))), ((b 31), .inl (K 1, 100, .inl (v.2.1 31))), ((b 32), .inl (K 1, 100, .inl (v.2.1 32))), ((b 33), .inl (K 1, 1024, .inl (v.2.1 33))), ((b 34), .inl (K 1, 1024, .inl (v.2.1 34))), ((b 35), .inl (K 1, 1024, .inl (v.2.1 35))), ((b 36), .inl (K 1, 1024, .inl (v.2.1 36))), ((b 40), .inl (K 1, 5, .inl (v.2.1 40))), ((b 41), .inl (K 1, 5, .inl (v.2.1 41))), ((b 42), .inl (K 1, 50, .inl (v.2.1 42))), ((b 45), .inl (K 1, 10, .inl (v.2.1 45))), ((b 46), .inl (K 1, 10, .inl (v.2.1 46))), ((b 47), .inl (K 1, 10, .inl (v.2.1 47))), ((b 49), .inl (K 1, 4, .inl (v.2.1 49))), ((b 50), .inl (K 1, 4, .inl (v.2.1 50))), ((b 51), .inl (K 2, 240, .inr (.inl (v.2.2 51)))), ((b 52), .inl (K 2, 60, .inr (.inl (v.2.2 52))))]
def wI (K : Nat → ClassId) (w : ((Nat → Nat) × (Nat → Int32) × (Nat → Nat → Int32))) : va_W := [(w.1 0, .inr (9, [.ref (w.1 1), .ref (w.1 2), .ref (w.1 3), .ref (w.1 4), .ref (w.1 5), .ref (w.1 6), .ref (w.1 7), .ref (w.1 8), .int (w.2.1 0), .int (w.2.1 1), .int (w.2.1 2), .int (w.2.1 3)])), (w.1 1, .inl (K 1, 40, .inl (w.2.2 0))), (w.1 2, .inl (K 1, 10, .inl (w.2.2 1))), (w.1 3, .inl (K 1, 4, .inl (w.2.2 2))), (w.1 4, .inl (K 1, 4, .inl (w.2.2 3))), (w.1 5, .inl (K 1, 4, .inl (w.2.2 4))), (w.1 6, .inl (K 1, 5, .inl (w.2.2 5))), (w.1 7, .inl (K 1, 5, .inl (w.2.2 6))), (w.1 8, .inl (K 1, 5, .inl (w.2.2 7))), (w.1 9, .inr (2, [.ref (w.1 10), .ref (w.1 11), .ref (w.1 12), .ref (w.1 13), .ref (w.1 14), .int (w.2.1 4)])), (w.1 10, .inl (K 1, 4, .inl (w.2.2 8))), (w.1 11, .inl (K 1, 4, .inl (w.2.2 9))), (w.1 12, .inl (K 1, 60, .inl (w.2.2 10))), (w.1 13, .inl (K 1, 60, .inl (w.2.2 11))), (w.1 14, .inl (K 1, 60, .inl (w.2.2 12)))]
def wO (K : Nat → ClassId) : Option ((Nat → Nat) × (Nat → Int32) × (Nat → Nat → Int32)) → va_W
  | none => []
  | some w => wI K w
def InvX (u : ((Nat → Int32) × (Nat → Nat → Int32) × (Nat → Nat → Int64))) : Prop := (0 ≤ (u.1 0).toInt) ∧ (0 ≤ (u.1 16).toInt) ∧ (0 ≤ (u.1 14).toInt) ∧ (∀ j, j < 4 → -1 ≤ ((u.2.1 38) j).toInt ∧ ((u.2.1 38) j).toInt ≤ 60)
def InvM (v : ((Nat → Int32) × (Nat → Nat → Int32) × (Nat → Nat → Int64))) : Prop := (GW (v.2.1 1)) ∧ (GW (v.2.1 14)) ∧ (GI (v.2.1 2)) ∧ (Rg (-1) 60 4 (v.2.1 49)) ∧ (Rg 0 3 4 (v.2.1 50)) ∧ (Rg 0 9 50 (v.2.1 42)) ∧ (0 ≤ (v.1 15).toInt ∧ (v.1 15).toInt ≤ 9) ∧ (0 ≤ (v.1 16).toInt ∧ (v.1 16).toInt ≤ 1023) ∧ (0 ≤ (v.1 17).toInt ∧ (v.1 17).toInt ≤ 3) ∧ (0 ≤ (v.1 5).toInt ∧ (v.1 5).toInt ≤ 1000)
def InvO : Option ((Nat → Nat) × (Nat → Int32) × (Nat → Nat → Int32)) → Prop
  | none => True
  | some w => 0 ≤ (w.2.1 2).toInt ∧ 0 ≤ (w.2.1 4).toInt
def RefO (iw ip : Nat → Option Nat) (k : Nat) (o : Option ((Nat → Nat) × (Nat → Int32) × (Nat → Nat → Int32))) : Prop := iw k = o.map (fun w => w.1 0) ∧ ip k = o.map (fun w => w.1 9)
def RelS (u v : ((Nat → Int32) × (Nat → Nat → Int32) × (Nat → Nat → Int64))) : Prop := (∀ j : Nat, j < 4 → u.2.1 38 j = v.2.1 49 j) ∧ ∀ j : Nat, j < 4 → u.2.1 37 j = v.2.1 50 j
def RelF (f : Nat → Int32) (o0 o1 o2 : Option ((Nat → Nat) × (Nat → Int32) × (Nat → Nat → Int32))) : Prop := ((f 0).toInt = 0 ↔ o0 = none) ∧ ((f 1).toInt = 0 ↔ o1 = none) ∧ ((f 2).toInt = 0 ↔ o2 = none)
def RelI (v : ((Nat → Int32) × (Nat → Nat → Int32) × (Nat → Nat → Int64))) (o0 o1 o2 : Option ((Nat → Nat) × (Nat → Int32) × (Nat → Nat → Int32))) : Prop := RelF (v.2.1 3) o0 o1 o2
/-- what holds between two calls -/
def LwS (D : va_G) (K : Nat → ClassId) (A : Nat → Prop) (H0 : Heap) (a b : Nat → Nat) (H : Heap) (locs : List Loc) : Prop :=
  ∃ (u v : ((Nat → Int32) × (Nat → Nat → Int32) × (Nat → Nat → Int64))) (iw ip : Nat → Option Nat) (o0 o1 o2 : Option ((Nat → Nat) × (Nat → Int32) × (Nat → Nat → Int32))), InvX u ∧ InvM v ∧ (InvO o0 ∧ InvO o1 ∧ InvO o2) ∧ (RefO iw ip 0 o0 ∧ RefO iw ip 1 o1 ∧ RefO iw ip 2 o2) ∧ RelS u v ∧ RelI v o0 o1 o2 ∧
    va_P D vwCl ((wX K a u iw ip ++ wM K b v) ++ (wO K o0 ++ (wO K o1 ++ wO K o2))) H ∧ va_D A ((wX K a u iw ip ++ wM K b v) ++ (wO K o0 ++ (wO K o1 ++ wO K o2))) ∧ va_S A H0 H locs
section CHQ
variable {p : Program} {l : Launch} {e : Env} {R : Room} {s : State} {m : MethodId} {args : Array Value} {below : List Frame} {meth : Method} {c : Code} {H H0 : Heap} {locs : List Loc} {cells slots : Nat} {Q : State → Prop}
variable {cc : ByteArray} {nL : Nat} {own : String} {idx maxL n fr lo mc ms pc : Nat} {y : MethodName} {bytes : ByteArray} {ret : Option FieldType} {D : va_G} {K : Nat → ClassId} {Z : stZ} {As rest st0 : List Value} {X cx wr tl : va_W} {ls : Array Slot} {b : Nat} {A : Nat → Prop} {S : Type}
theorem va_Pl {w1 w2 : va_W} (h : va_P D vwCl (w1 ++ w2) H) : va_P D vwCl w1 H := fun k q hk => h k q (by rw [List.getElem?_append_left (List.getElem?_eq_some_iff.mp hk).1]; exact hk)
theorem va_Dl {w1 w2 : va_W} (h : va_D A (w1 ++ w2)) : va_D A w1 := ⟨fun i j p q hi hj e => h.1 i j p q (by rw [List.getElem?_append_left (List.getElem?_eq_some_iff.mp hi).1]; exact hi) (by rw [List.getElem?_append_left (List.getElem?_eq_some_iff.mp hj).1]; exact hj) e, fun k q hk => h.2 k q (by rw [List.getElem?_append_left (List.getElem?_eq_some_iff.mp hk).1]; exact hk)⟩
theorem fr_of (hD : va_D A cx) (hS : va_S A H0 H locs) (hA : ∀ q : Nat, H0.size ≤ q → A q) : ∀ q, va_A cx H.size q → A q := fun q h => h.elim (fun ⟨k, e9, h9⟩ => hD.2 k (q, e9) h9) (fun h9 => hA q (Nat.le_trans hS.1 h9))
theorem ch_useQ {post : Int32 → S → Prop} {w1 : S → va_W} {a : Array Value} (hr : va_Run p l e R s m args below meth c H locs cells slots mc ms (F0 m pc ls st0) rest (va_Qi post (chB D (va_A cx H.size) w1) (va_A cx H.size) a) (va_A cx H.size))
    (hP : va_P D vwCl (X ++ tl) H) (hD : va_D A (X ++ tl)) (hS : va_S A H0 H locs) (hA : ∀ q : Nat, H0.size ≤ q → A q) (isC isR : List Nat) (hC : isC.map (fun i => X[i]?) = cx.map some) (hR : isR.map (fun i => X[i]?) = wr.map some) (hnC : va_nd isC = true) (hnR : va_nd isR = true) (hdis : ∀ i ∈ isR, i ∉ isC)
    (kk : ∀ (r : Int32) (u : S) (H1 : Heap) (locs1 : List Loc), post r u → va_P D vwCl ((wr ++ w1 u) ++ tl) H1 → va_D A ((wr ++ w1 u) ++ tl) → va_S A H0 H1 locs1 → W p l e R s m args below meth c H1 locs1 (cells + mc) (slots + ms) Q (F0 m (pc + 3) ls (.int r :: rest))) : W p l e R s m args below meth c H locs cells slots Q (F0 m pc ls st0) := by
  have hFc := fr_of (va_Dl (hD.part isC hnC hC)) hS hA
  refine va_calli hr hS (fun q _ h => hFc q h) hFc (fun r u t H1 locs1 ht _ hw hB _ hk1 hS1 => ?_)
  obtain ⟨hP1, hD1⟩ := hB
  rw [ht] at hP1
  obtain ⟨hP2, hD2⟩ := va_joinQ hP hD isC isR hC hR hnR hdis hk1 hFc hP1 hD1
  exact kk r u H1 locs1 hw hP2 hD2 hS1
theorem ciQ_V {post : Int32 → S → Prop} {w1 : S → va_W} (C : CallFix p m c cc nL s args wl own) (hE : ev D K s) (k : okV own idx y bytes maxL ret n) (hM : Ci l D K y bytes maxL ret fr lo mc ms (.ref b :: As) cx post w1)
    (hP : va_P D vwCl (X ++ tl) H) (hD : va_D A (X ++ tl)) (hS : va_S A H0 H locs) (hA : ∀ q : Nat, H0.size ≤ q → A q) (isC isR : List Nat) (hC : isC.map (fun i => X[i]?) = cx.map some) (hR : isR.map (fun i => X[i]?) = wr.map some) (hnC : va_nd isC = true) (hnR : va_nd isR = true) (hdis : ∀ i ∈ isR, i ∉ isC)
    (q0 ci : Nat) {fs : List Value} {T : u_T} {N : Nat} (he : cx[q0]? = some (b, .inr (ci, fs))) (hcl : vwCl[ci]? = some (y.cls, T, N))
    (hn : As.length = n) (hz : ls.size = nL) (hst : st0 = As.reverse ++ .ref b :: rest) (hW : (rest.map fun v => v.category).sum ≤ 8) (hRm : fr + 1 ≤ R.frames ∧ 8 + (maxL + 11) + lo ≤ R.locals) (hf : cells + mc ≤ R.cells ∧ slots + ms ≤ R.slots) (hd : decode cc pc = .ok (.invokevirtual idx, 3))
    (kk : ∀ (r : Int32) (u : S) (H1 : Heap) (locs1 : List Loc), post r u → va_P D vwCl ((wr ++ w1 u) ++ tl) H1 → va_D A ((wr ++ w1 u) ++ tl) → va_S A H0 H1 locs1 → W p l e R s m args below meth c H1 locs1 (cells + mc) (slots + ms) Q (F0 m (pc + 3) ls (.int r :: rest))) : W p l e R s m args below meth c H locs cells slots Q (F0 m pc ls st0) :=
  ch_useQ (va_runV (C := y.cls) (As := As) (rest := rest) C (hM H.size) ⟨cb_of C k.1 rfl rfl hRm, C.2.2.2.2 _ k.2.1, C.2.2.2.2 _ k.2.2⟩ ⟨chP_blind, va_recv hE.1 (va_Pl (hP.part isC hC)) hcl he, ch_pre hE (va_Pl (hP.part isC hC)) (va_Dl (hD.part isC hnC hC))⟩ rfl hn hz hst (lv_room hW) hd hf) hP hD hS hA isC isR hC hR hnC hnR hdis kk
theorem ciQT_V {post : Int32 → S → Prop} {w1 : S → va_W} (C : CallFix p m c cc nL s args wl own) (hE : ev D K s) (hT : stE Z s) (hZ : ∀ q : Nat, A q → Z.2.2 ≤ q) (k : okV own idx y bytes maxL ret n) (hM : CiT l D K Z y bytes maxL ret fr lo mc ms (.ref b :: As) cx post w1)
    (hP : va_P D vwCl (X ++ tl) H) (hD : va_D A (X ++ tl)) (hS : va_S A s.heap H locs) (hA : ∀ q : Nat, s.heap.size ≤ q → A q) (isC isR : List Nat) (hC : isC.map (fun i => X[i]?) = cx.map some) (hR : isR.map (fun i => X[i]?) = wr.map some) (hnC : va_nd isC = true) (hnR : va_nd isR = true) (hdis : ∀ i ∈ isR, i ∉ isC)
    (q0 ci : Nat) {fs : List Value} {T : u_T} {N : Nat} (he : cx[q0]? = some (b, .inr (ci, fs))) (hcl : vwCl[ci]? = some (y.cls, T, N))
    (hn : As.length = n) (hz : ls.size = nL) (hst : st0 = As.reverse ++ .ref b :: rest) (hW : (rest.map fun v => v.category).sum ≤ 8) (hRm : fr + 1 ≤ R.frames ∧ 8 + (maxL + 11) + lo ≤ R.locals) (hf : cells + mc ≤ R.cells ∧ slots + ms ≤ R.slots) (hd : decode cc pc = .ok (.invokevirtual idx, 3))
    (kk : ∀ (r : Int32) (u : S) (H1 : Heap) (locs1 : List Loc), post r u → va_P D vwCl ((wr ++ w1 u) ++ tl) H1 → va_D A ((wr ++ w1 u) ++ tl) → va_S A s.heap H1 locs1 → W p l e R s m args below meth c H1 locs1 (cells + mc) (slots + ms) Q (F0 m (pc + 3) ls (.int r :: rest))) : W p l e R s m args below meth c H locs cells slots Q (F0 m pc ls st0) :=
  ch_useQ (va_runV (C := y.cls) (As := As) (rest := rest) C (hM H.size) ⟨cb_of C k.1 rfl rfl hRm, C.2.2.2.2 _ k.2.1, C.2.2.2.2 _ k.2.2⟩ ⟨chPT_blind, va_recv hE.1 (va_Pl (hP.part isC hC)) hcl he, chT_pre hE hT hS hA hZ (va_Pl (hP.part isC hC)) (va_Dl (hD.part isC hnC hC))⟩ rfl hn hz hst (lv_room hW) hd hf) hP hD hS hA isC isR hC hR hnC hnR hdis kk
/-- a number of the script -/
theorem law_ld (hexec : p.tables.exec = Jvm.exec) (hb : c.code = cL_law) {B L : Nat} {xs : Nat → Int32} {z v : Int32} {ar1 ar2 : Nat} (hX : va_X B L xs s s.heap) (hbl : B < s.heap.size) (hbA : ¬ A B) (hS : va_S A s.heap H locs) (hl : lv_has ls 4 [(3, .int z), (2, .ref ar2), (1, .ref ar1), (0, .ref B)]) {k : Nat} (hv : v.toInt = (k : Int)) (hk : k ≤ 5) (hz0 : 0 ≤ z.toInt) (hz : z.toInt + 6 ≤ (L : Int)) (hL : L ≤ 3072)
    (h0 : decode cL_law pc = .ok (.aload_n 0, 1)) (h1 : decode cL_law (pc + 1) = .ok (.iload_n 3, 1)) {vi : Int} (h2 : decode cL_law (pc + 1 + 1) = .ok (.iconst vi, 1)) (hvi : Int32.ofInt vi = v) (h3 : decode cL_law (pc + 1 + 1 + 1) = .ok (.iadd, 1)) (h4 : decode cL_law (pc + 1 + 1 + 1 + 1) = .ok (.iaload, 1))
    (kk : W p l e R s m args below meth c H locs cells slots Q (F0 m (pc + 1 + 1 + 1 + 1 + 1) ls (.int (xs (z.toInt.toNat + k)) :: rest))) : W p l e R s m args below meth c H locs cells slots Q (F0 m pc ls rest) := by
  refine lv_aload_n hexec hb h0 rfl (lv_at hl 3 rfl) ?_
  refine lv_iload_n hexec hb h1 rfl (lv_at hl 0 rfl) ?_
  refine lv_iconst (v := v) hexec hb h2 hvi ?_
  refine lv_iadd hexec hb h3 ?_
  refine lv_topi (fun w ew => ?_)
  have tw : w.toInt = z.toInt + v.toInt := add_i ew (by omega) (by omega)
  refine va_sld hexec hb hX hbl hbA hS (vp_in_iff.mpr (by omega)) h4 ?_
  refine tc (y := xs (z.toInt.toNat + k)) (congrArg xs (by rw [cl_n]; omega)) ?_
  exact kk
theorem va_P_perm {w1 w2 : va_W} (h : w1.Perm w2) (hP : va_P D vwCl w1 H) : va_P D vwCl w2 H := fun k q hk => by
  obtain ⟨i, hi⟩ := List.getElem?_of_mem (h.mem_iff.mpr (List.mem_of_getElem? hk))
  exact hP i q hi
theorem nd_of {w : va_W} (h : ∀ (i j : Nat) (p q : Nat × va_E), w[i]? = some p → w[j]? = some q → p.1 = q.1 → i = j) : (w.map Prod.fst).Nodup := by
  unfold List.Nodup
  rw [List.pairwise_iff_getElem]
  intro i j hi hj hij e
  rw [List.length_map] at hi hj
  rw [List.getElem_map, List.getElem_map] at e
  have := h i j w[i] w[j] (List.getElem?_eq_getElem hi) (List.getElem?_eq_getElem hj) e
  omega
theorem of_nd {w : va_W} (h : (w.map Prod.fst).Nodup) : ∀ (i j : Nat) (p q : Nat × va_E), w[i]? = some p → w[j]? = some q → p.1 = q.1 → i = j := by
  unfold List.Nodup at h
  rw [List.pairwise_iff_getElem] at h
  intro i j p q hi hj e
  obtain ⟨hi1, hi2⟩ := List.getElem?_eq_some_iff.mp hi
  obtain ⟨hj1, hj2⟩ := List.getElem?_eq_some_iff.mp hj
  have key : ∀ (x y : Nat) (hx : x < w.length) (hy : y < w.length), x < y → w[x].1 = w[y].1 → False := fun x y hx hy hxy ee => h x y (by rw [List.length_map]; exact hx) (by rw [List.length_map]; exact hy) hxy (by rw [List.getElem_map, List.getElem_map]; exact ee)
  rcases Nat.lt_trichotomy i j with c | c | c
  · exact (key i j hi1 hj1 c (by rw [hi2, hj2]; exact e)).elim
  · exact c
  · exact (key j i hj1 hi1 c (by rw [hi2, hj2]; exact e.symm)).elim
theorem va_D_perm {w1 w2 : va_W} (h : w1.Perm w2) (hD : va_D A w1) : va_D A w2 := ⟨of_nd ((h.map Prod.fst).nodup_iff.mp (nd_of hD.1)), fun k q hk => by
  obtain ⟨i, hi⟩ := List.getElem?_of_mem (h.mem_iff.mpr (List.mem_of_getElem? hk))
  exact hD.2 i q hi⟩
theorem pm_0 (X A0 B C : va_W) : (X ++ (A0 ++ (B ++ C))).Perm ((X ++ A0) ++ (B ++ C)) := by rw [List.append_assoc]
theorem pm_1 (X A0 B C : va_W) : (X ++ (A0 ++ (B ++ C))).Perm ((X ++ B) ++ (A0 ++ C)) := by rw [List.append_assoc]; exact List.Perm.append_left X (List.perm_append_comm_assoc A0 B C)
theorem pm_2 (X A0 B C : va_W) : (X ++ (A0 ++ (B ++ C))).Perm ((X ++ C) ++ (A0 ++ B)) := by rw [List.append_assoc, ← List.append_assoc A0 B C]; exact List.Perm.append_left X List.perm_append_comm
theorem img_k (y : Int32) : (y.toInt < 0 ∨ 2 < y.toInt) ∨ y = 0 ∨ y = 1 ∨ y = 2 := by
  by_cases h : y.toInt < 0 ∨ 2 < y.toInt
  · exact Or.inl h
  · right
    rcases (show y.toInt = 0 ∨ y.toInt = 1 ∨ y.toInt = 2 by omega) with h1 | h1 | h1
    · exact Or.inl (Int32.toInt_inj.mp (by rw [h1]; decide))
    · exact Or.inr (Or.inl (Int32.toInt_inj.mp (by rw [h1]; decide)))
    · exact Or.inr (Or.inr (Int32.toInt_inj.mp (by rw [h1]; decide)))
theorem up_n {f : Nat → Option Nat} {i j : Nat} {x : Option Nat} (h : j ≠ i) : va_up f i x j = f j := by unfold va_up; rw [if_neg h]
end CHQ
theorem row_eq {r1 r2 p0 p1 p2 : Int32} (h1 : ((r1 = (-2) ∧ (p0.toInt < 0 ∨ 3 < p0.toInt ∨ p1.toInt < 0 ∨ 3 < p1.toInt ∨ 60 < p2.toInt)) ∨ (r1 = (-3) ∧ (0 ≤ p0.toInt) ∧ (p0.toInt ≤ 3) ∧ (0 ≤ p1.toInt) ∧ (p1.toInt ≤ 3) ∧ (p2.toInt ≤ 60) ∧ (p2.toInt < 0)) ∨ (r1 = 0 ∧ (0 ≤ p0.toInt) ∧ (p0.toInt ≤ 3) ∧ (0 ≤ p1.toInt) ∧ (p1.toInt ≤ 3) ∧ (p2.toInt ≤ 60) ∧ (0 ≤ p2.toInt)))) (h2 : ((r2 = (-2) ∧ (p0.toInt < 0 ∨ 3 < p0.toInt ∨ p1.toInt < 0 ∨ 3 < p1.toInt ∨ 60 < p2.toInt)) ∨ (r2 = (-3) ∧ (0 ≤ p0.toInt) ∧ (p0.toInt ≤ 3) ∧ (0 ≤ p1.toInt) ∧ (p1.toInt ≤ 3) ∧ (p2.toInt ≤ 60) ∧ (p2.toInt < 0)) ∨ (r2 = 0 ∧ (0 ≤ p0.toInt) ∧ (p0.toInt ≤ 3) ∧ (0 ≤ p1.toInt) ∧ (p1.toInt ≤ 3) ∧ (p2.toInt ≤ 60) ∧ (0 ≤ p2.toInt)))) : r1 = r2 := by
  rcases h1 with ⟨rfl, h1⟩ | ⟨rfl, h1⟩ | ⟨rfl, h1⟩ <;> rcases h2 with ⟨rfl, h2⟩ | ⟨rfl, h2⟩ | ⟨rfl, h2⟩ <;> first | rfl | omega
theorem write_eq {r1 r2 p0 p1 : Int32} {f g : Nat → Int32} (hr : ∀ j : Nat, j < 4 → f j = g j) (h1 : ((r1 = (-2) ∧ (p0.toInt < 0 ∨ 3 < p0.toInt)) ∨ (r1 = (-6) ∧ (0 ≤ p0.toInt) ∧ (p0.toInt ≤ 3) ∧ ((f p0.toNatClampNeg).toInt = -1)) ∨ (r1 = (-7) ∧ (0 ≤ p0.toInt) ∧ (p0.toInt ≤ 3) ∧ ((f p0.toNatClampNeg).toInt ≠ -1) ∧ (p1.toInt < 0 ∨ (f p0.toNatClampNeg).toInt ≤ p1.toInt)) ∨ (r1 = 0 ∧ (0 ≤ p0.toInt) ∧ (p0.toInt ≤ 3) ∧ ((f p0.toNatClampNeg).toInt ≠ -1) ∧ (0 ≤ p1.toInt) ∧ (p1.toInt < (f p0.toNatClampNeg).toInt)))) (h2 : ((r2 = (-2) ∧ (p0.toInt < 0 ∨ 3 < p0.toInt)) ∨ (r2 = (-6) ∧ (0 ≤ p0.toInt) ∧ (p0.toInt ≤ 3) ∧ ((g p0.toInt.toNat).toInt = -1)) ∨ (r2 = (-7) ∧ (0 ≤ p0.toInt) ∧ (p0.toInt ≤ 3) ∧ ((g p0.toInt.toNat).toInt ≠ -1) ∧ (p1.toInt < 0 ∨ (g p0.toInt.toNat).toInt ≤ p1.toInt)) ∨ (r2 = 0 ∧ (0 ≤ p0.toInt) ∧ (p0.toInt ≤ 3) ∧ ((g p0.toInt.toNat).toInt ≠ -1) ∧ (0 ≤ p1.toInt) ∧ (p1.toInt < (g p0.toInt.toNat).toInt)))) : r1 = r2 := by
  by_cases c : 0 ≤ p0.toInt ∧ p0.toInt ≤ 3
  · have e1 : f p0.toNatClampNeg = g p0.toInt.toNat := hr p0.toInt.toNat (by omega)
    rw [e1] at h1
    rcases h1 with ⟨rfl, h1⟩ | ⟨rfl, h1⟩ | ⟨rfl, h1⟩ | ⟨rfl, h1⟩ <;> rcases h2 with ⟨rfl, h2⟩ | ⟨rfl, h2⟩ | ⟨rfl, h2⟩ | ⟨rfl, h2⟩ <;> first | rfl | omega
  · rcases h1 with ⟨rfl, h1⟩ | ⟨rfl, h1⟩ | ⟨rfl, h1⟩ | ⟨rfl, h1⟩ <;> rcases h2 with ⟨rfl, h2⟩ | ⟨rfl, h2⟩ | ⟨rfl, h2⟩ | ⟨rfl, h2⟩ <;> first | rfl | omega
theorem paste_eq {r1 r2 p0 p1 p2 p3 p4 : Int32} {f g f2 g2 : Nat → Int32} (hr : ∀ j : Nat, j < 4 → f j = g j) (hr2 : ∀ j : Nat, j < 4 → f2 j = g2 j) (h1 : ((r1 = (-2) ∧ (p0.toInt < 0 ∨ 3 < p0.toInt ∨ p2.toInt < 0 ∨ 3 < p2.toInt)) ∨ (r1 = (-6) ∧ (0 ≤ p0.toInt) ∧ (p0.toInt ≤ 3) ∧ (0 ≤ p2.toInt) ∧ (p2.toInt ≤ 3) ∧ ((f p0.toNatClampNeg).toInt = -1 ∨ (f p2.toNatClampNeg).toInt = -1)) ∨ (r1 = (-8) ∧ (0 ≤ p0.toInt) ∧ (p0.toInt ≤ 3) ∧ (0 ≤ p2.toInt) ∧ (p2.toInt ≤ 3) ∧ ((f p0.toNatClampNeg).toInt ≠ -1) ∧ ((f p2.toNatClampNeg).toInt ≠ -1) ∧ ((f2 p0.toNatClampNeg).toInt ≠ (f2 p2.toNatClampNeg).toInt)) ∨ (r1 = (-7) ∧ (0 ≤ p0.toInt) ∧ (p0.toInt ≤ 3) ∧ (0 ≤ p2.toInt) ∧ (p2.toInt ≤ 3) ∧ ((f p0.toNatClampNeg).toInt ≠ -1) ∧ ((f p2.toNatClampNeg).toInt ≠ -1) ∧ ((f2 p0.toNatClampNeg).toInt = (f2 p2.toNatClampNeg).toInt) ∧ (p1.toInt < 0 ∨ p4.toInt < 0 ∨ p3.toInt < 0 ∨ (f p0.toNatClampNeg).toInt < p1.toInt + p4.toInt ∨ (f p2.toNatClampNeg).toInt < p3.toInt + p4.toInt)) ∨ (r1 = 0 ∧ (0 ≤ p0.toInt) ∧ (p0.toInt ≤ 3) ∧ (0 ≤ p2.toInt) ∧ (p2.toInt ≤ 3) ∧ ((f p0.toNatClampNeg).toInt ≠ -1) ∧ ((f p2.toNatClampNeg).toInt ≠ -1) ∧ ((f2 p0.toNatClampNeg).toInt = (f2 p2.toNatClampNeg).toInt) ∧ (0 ≤ p1.toInt) ∧ (0 ≤ p3.toInt) ∧ (0 ≤ p4.toInt) ∧ (p1.toInt + p4.toInt ≤ (f p0.toNatClampNeg).toInt) ∧ (p3.toInt + p4.toInt ≤ (f p2.toNatClampNeg).toInt)))) (h2 : ((r2 = (-2) ∧ (p0.toInt < 0 ∨ 3 < p0.toInt ∨ p2.toInt < 0 ∨ 3 < p2.toInt)) ∨ (r2 = (-6) ∧ (0 ≤ p0.toInt) ∧ (p0.toInt ≤ 3) ∧ (0 ≤ p2.toInt) ∧ (p2.toInt ≤ 3) ∧ ((g p0.toInt.toNat).toInt = -1 ∨ (g p2.toInt.toNat).toInt = -1)) ∨ (r2 = (-8) ∧ (0 ≤ p0.toInt) ∧ (p0.toInt ≤ 3) ∧ (0 ≤ p2.toInt) ∧ (p2.toInt ≤ 3) ∧ ((g p0.toInt.toNat).toInt ≠ -1) ∧ ((g p2.toInt.toNat).toInt ≠ -1) ∧ ((g2 p0.toInt.toNat).toInt ≠ (g2 p2.toInt.toNat).toInt)) ∨ (r2 = (-7) ∧ (0 ≤ p0.toInt) ∧ (p0.toInt ≤ 3) ∧ (0 ≤ p2.toInt) ∧ (p2.toInt ≤ 3) ∧ ((g p0.toInt.toNat).toInt ≠ -1) ∧ ((g p2.toInt.toNat).toInt ≠ -1) ∧ ((g2 p0.toInt.toNat).toInt = (g2 p2.toInt.toNat).toInt) ∧ (p1.toInt < 0 ∨ p4.toInt < 0 ∨ p3.toInt < 0 ∨ (g p0.toInt.toNat).toInt < p1.toInt + p4.toInt ∨ (g p2.toInt.toNat).toInt < p3.toInt + p4.toInt)) ∨ (r2 = 0 ∧ (0 ≤ p0.toInt) ∧ (p0.toInt ≤ 3) ∧ (0 ≤ p2.toInt) ∧ (p2.toInt ≤ 3) ∧ ((g p0.toInt.toNat).toInt ≠ -1) ∧ ((g p2.toInt.toNat).toInt ≠ -1) ∧ ((g2 p0.toInt.toNat).toInt = (g2 p2.toInt.toNat).toInt) ∧ (0 ≤ p1.toInt) ∧ (0 ≤ p3.toInt) ∧ (0 ≤ p4.toInt) ∧ (p1.toInt + p4.toInt ≤ (g p0.toInt.toNat).toInt) ∧ (p3.toInt + p4.toInt ≤ (g p2.toInt.toNat).toInt)))) : r1 = r2 := by
  by_cases c : (0 ≤ p0.toInt ∧ p0.toInt ≤ 3) ∧ 0 ≤ p2.toInt ∧ p2.toInt ≤ 3
  · have e1 : f p0.toNatClampNeg = g p0.toInt.toNat := hr p0.toInt.toNat (by omega)
    have e2 : f p2.toNatClampNeg = g p2.toInt.toNat := hr p2.toInt.toNat (by omega)
    have e3 : f2 p0.toNatClampNeg = g2 p0.toInt.toNat := hr2 p0.toInt.toNat (by omega)
    have e4 : f2 p2.toNatClampNeg = g2 p2.toInt.toNat := hr2 p2.toInt.toNat (by omega)
    rw [e1, e2, e3, e4] at h1
    rcases h1 with ⟨rfl, h1⟩ | ⟨rfl, h1⟩ | ⟨rfl, h1⟩ | ⟨rfl, h1⟩ | ⟨rfl, h1⟩ <;> rcases h2 with ⟨rfl, h2⟩ | ⟨rfl, h2⟩ | ⟨rfl, h2⟩ | ⟨rfl, h2⟩ | ⟨rfl, h2⟩ <;> first | rfl | omega
  · rcases h1 with ⟨rfl, h1⟩ | ⟨rfl, h1⟩ | ⟨rfl, h1⟩ | ⟨rfl, h1⟩ | ⟨rfl, h1⟩ <;> rcases h2 with ⟨rfl, h2⟩ | ⟨rfl, h2⟩ | ⟨rfl, h2⟩ | ⟨rfl, h2⟩ | ⟨rfl, h2⟩ <;> first | rfl | omega
theorem row_rel {u u3 v v3 : ((Nat → Int32) × (Nat → Nat → Int32) × (Nat → Nat → Int64))} {r1 r2 p0 p1 p2 : Int32} (h : RelS u v) (hr : r1 = r2) (a1 : r1 = 0 → u3.2.1 38 = upd (u.2.1 38) p0.toInt.toNat p2 ∧ u3.2.1 37 = upd (u.2.1 37) p0.toInt.toNat p1) (a2 : r1 ≠ 0 → u3.2.1 38 = u.2.1 38 ∧ u3.2.1 37 = u.2.1 37)
    (b1 : r2 = 0 → v3.2.1 49 = upd (v.2.1 49) p0.toInt.toNat p2 ∧ v3.2.1 50 = upd (v.2.1 50) p0.toInt.toNat p1) (b2 : r2 ≠ 0 → v3.2.1 49 = v.2.1 49 ∧ v3.2.1 50 = v.2.1 50) : RelS u3 v3 := by
  subst hr
  by_cases c : r1 = 0
  · obtain ⟨x1, x2⟩ := a1 c
    obtain ⟨y1, y2⟩ := b1 c
    refine ⟨fun j hj => ?_, fun j hj => ?_⟩
    · rw [x1, y1]
      by_cases q : j = p0.toInt.toNat
      · rw [q, upd_at, upd_at]
      · rw [upd_ne q, upd_ne q]; exact h.1 j hj
    · rw [x2, y2]
      by_cases q : j = p0.toInt.toNat
      · rw [q, upd_at, upd_at]
      · rw [upd_ne q, upd_ne q]; exact h.2 j hj
  · obtain ⟨x1, x2⟩ := a2 c
    obtain ⟨y1, y2⟩ := b2 c
    refine ⟨fun j hj => ?_, fun j hj => ?_⟩
    · rw [x1, y1]; exact h.1 j hj
    · rw [x2, y2]; exact h.2 j hj
theorem one_nz : ¬ (1 : Int32).toInt = 0 := by decide
theorem relf_0 {f g : Nat → Int32} {o0 o1 o2 : Option ((Nat → Nat) × (Nat → Int32) × (Nat → Nat → Int32))} (w : ((Nat → Nat) × (Nat → Int32) × (Nat → Nat → Int32))) (h : RelF f o0 o1 o2) (e : g = upd f 0 1) : RelF g (some w) o1 o2 := by
  rw [e]
  exact ⟨by rw [upd_at]; exact ⟨fun q => absurd q one_nz, fun q => by cases q⟩, by rw [upd_ne (by decide)]; exact h.2.1, by rw [upd_ne (by decide)]; exact h.2.2⟩
theorem rels_0 {f : Nat → Int32} {o0 o1 o2 : Option ((Nat → Nat) × (Nat → Int32) × (Nat → Nat → Int32))} {w w1 : ((Nat → Nat) × (Nat → Int32) × (Nat → Nat → Int32))} (h : RelF f (some w) o1 o2) : RelF f (some w1) o1 o2 := ⟨⟨fun q => (by cases h.1.mp q), fun q => (by cases q)⟩, h.2.1, h.2.2⟩
theorem relf_1 {f g : Nat → Int32} {o0 o1 o2 : Option ((Nat → Nat) × (Nat → Int32) × (Nat → Nat → Int32))} (w : ((Nat → Nat) × (Nat → Int32) × (Nat → Nat → Int32))) (h : RelF f o0 o1 o2) (e : g = upd f 1 1) : RelF g o0 (some w) o2 := by
  rw [e]
  exact ⟨by rw [upd_ne (by decide)]; exact h.1, by rw [upd_at]; exact ⟨fun q => absurd q one_nz, fun q => by cases q⟩, by rw [upd_ne (by decide)]; exact h.2.2⟩
theorem rels_1 {f : Nat → Int32} {o0 o1 o2 : Option ((Nat → Nat) × (Nat → Int32) × (Nat → Nat → Int32))} {w w1 : ((Nat → Nat) × (Nat → Int32) × (Nat → Nat → Int32))} (h : RelF f o0 (some w) o2) : RelF f o0 (some w1) o2 := ⟨h.1, ⟨fun q => (by cases h.2.1.mp q), fun q => (by cases q)⟩, h.2.2⟩
theorem relf_2 {f g : Nat → Int32} {o0 o1 o2 : Option ((Nat → Nat) × (Nat → Int32) × (Nat → Nat → Int32))} (w : ((Nat → Nat) × (Nat → Int32) × (Nat → Nat → Int32))) (h : RelF f o0 o1 o2) (e : g = upd f 2 1) : RelF g o0 o1 (some w) := by
  rw [e]
  exact ⟨by rw [upd_ne (by decide)]; exact h.1, by rw [upd_ne (by decide)]; exact h.2.1, by rw [upd_at]; exact ⟨fun q => absurd q one_nz, fun q => by cases q⟩⟩
theorem rels_2 {f : Nat → Int32} {o0 o1 o2 : Option ((Nat → Nat) × (Nat → Int32) × (Nat → Nat → Int32))} {w w1 : ((Nat → Nat) × (Nat → Int32) × (Nat → Nat → Int32))} (h : RelF f o0 o1 (some w)) : RelF f o0 o1 (some w1) := ⟨h.1, h.2.1, ⟨fun q => (by cases h.2.2.mp q), fun q => (by cases q)⟩⟩

