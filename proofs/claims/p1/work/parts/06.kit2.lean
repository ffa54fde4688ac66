/-! stores that forget, and stores of 0 into zeros -/
theorem upd_z (k : Nat) : upd (fun _ => 0) k 0 = (fun _ => 0) := by funext j; simp [upd]
theorem updL_z (k : Nat) : vp_updL (fun _ => 0) k 0 = (fun _ => 0) := by funext j; simp [vp_updL]
theorem up_s {α : Type} (f : Nat → α) (k : Nat) (v : α) : va_up f k v k = v := if_pos rfl
theorem nI_cadd {c : Int32} {k n : Nat} (h : c = nI k) : c + nI n = nI (k + n) := by rw [h, nI_add]
theorem nge_nI {c : Int32} {n i : Nat} (hc : c = nI n) (h : i < n) (hn : n < 2 ^ 31) : ¬ c ≤ nI i := by rw [hc]; exact nI_ge h hn
theorem lt_nI {c : Int32} {n i : Nat} (hc : c = nI n) (hi : i ≤ n) (hn : n < 2 ^ 31) (h : ¬ c ≤ nI i) : i < n := by
  rcases Nat.lt_or_ge i n with q | q
  · exact q
  · exact absurd (by rw [hc]; exact nI_le q (by omega)) h
section ST
variable {p : Program} {l : Launch} {e : Env} {R : Room} {s : State} {m : MethodId} {args : Array Value} {below : List Frame} {meth : Method} {c : Code} {H : Heap} {locs : List Loc} {cells slots : Nat} {Q : State → Prop}
variable {cc : ByteArray} {pc : Nat} {ls : Array Slot} {rest : List Value} {D : va_G} {cl : List vw_C} {A : Nat → Prop} {a : Nat} {tys : List (ClassId × FieldType)} {ws : va_W} {H0 : Heap} {nL : Nat} {own : String} {K : Nat → ClassId}
theorem sti (hexec : p.tables.exec = Jvm.exec) (hb : c.code = cc) (hK : va_K D cl tys s) (hP : va_P D cl ws H) (hD : va_D A ws) (hS : va_S A H0 H locs) (q0 t0 : Nat) {cA : ClassId} {n : Nat} {f : Nat → Int32} (ha : ws[q0]? = some (a, .inl (cA, n, .inl f))) (ht : tys[t0]? = some (cA, .int)) {i x : Int32} (hin : vp_in i n) (hdg : decode cc pc = .ok (.iastore, 1))
    (kk : ∀ (g : Nat → Int32) (H1 : Heap) (locs1 : List Loc), va_P D cl (ws.set q0 (a, .inl (cA, n, .inl g))) H1 → va_D A (ws.set q0 (a, .inl (cA, n, .inl g))) → va_S A H0 H1 locs1 → W p l e R s m args below meth c H1 locs1 cells slots Q (F0 m (pc + 1) ls rest)) : W p l e R s m args below meth c H locs cells slots Q (F0 m pc ls (.int x :: .int i :: .ref a :: rest)) :=
  va_iast hexec hb hK hP hD hS q0 t0 ha ht hin hdg (fun H1 l1 => kk _ H1 l1)
theorem stb (hexec : p.tables.exec = Jvm.exec) (hb : c.code = cc) (hK : va_K D cl tys s) (hP : va_P D cl ws H) (hD : va_D A ws) (hS : va_S A H0 H locs) (q0 t0 : Nat) {cA : ClassId} {n : Nat} {f : Nat → Int32} (ha : ws[q0]? = some (a, .inl (cA, n, .inl f))) (ht : tys[t0]? = some (cA, .byte)) {i x : Int32} (hin : vp_in i n) (hdg : decode cc pc = .ok (.bastore, 1))
    (kk : ∀ (g : Nat → Int32) (H1 : Heap) (locs1 : List Loc), va_P D cl (ws.set q0 (a, .inl (cA, n, .inl g))) H1 → va_D A (ws.set q0 (a, .inl (cA, n, .inl g))) → va_S A H0 H1 locs1 → W p l e R s m args below meth c H1 locs1 cells slots Q (F0 m (pc + 1) ls rest)) : W p l e R s m args below meth c H locs cells slots Q (F0 m pc ls (.int x :: .int i :: .ref a :: rest)) :=
  va_bast hexec hb hK hP hD hS q0 t0 ha ht hin hdg (fun H1 l1 => kk _ H1 l1)
theorem stz (hexec : p.tables.exec = Jvm.exec) (hb : c.code = cc) (hK : va_K D cl tys s) (hP : va_P D cl ws H) (hD : va_D A ws) (hS : va_S A H0 H locs) (q0 t0 : Nat) {cA : ClassId} {n : Nat} {f : Nat → Int32} (ha : ws[q0]? = some (a, .inl (cA, n, .inl f))) (ht : tys[t0]? = some (cA, .boolean)) {i x : Int32} (hin : vp_in i n) (hdg : decode cc pc = .ok (.bastore, 1))
    (kk : ∀ (g : Nat → Int32) (H1 : Heap) (locs1 : List Loc), va_P D cl (ws.set q0 (a, .inl (cA, n, .inl g))) H1 → va_D A (ws.set q0 (a, .inl (cA, n, .inl g))) → va_S A H0 H1 locs1 → W p l e R s m args below meth c H1 locs1 cells slots Q (F0 m (pc + 1) ls rest)) : W p l e R s m args below meth c H locs cells slots Q (F0 m pc ls (.int x :: .int i :: .ref a :: rest)) :=
  va_zast hexec hb hK hP hD hS q0 t0 ha ht hin hdg (fun H1 l1 => kk _ H1 l1)
theorem sti0 (hexec : p.tables.exec = Jvm.exec) (hb : c.code = cc) (hK : va_K D cl tys s) (hP : va_P D cl ws H) (hD : va_D A ws) (hS : va_S A H0 H locs) (q0 t0 : Nat) {cA : ClassId} {n : Nat} (ha : ws[q0]? = some (a, .inl (cA, n, .inl (fun _ => 0)))) (ht : tys[t0]? = some (cA, .int)) {i : Int32} (hin : vp_in i n) (hdg : decode cc pc = .ok (.iastore, 1))
    (kk : ∀ (H1 : Heap) (locs1 : List Loc), va_P D cl (ws.set q0 (a, .inl (cA, n, .inl (fun _ => 0)))) H1 → va_D A (ws.set q0 (a, .inl (cA, n, .inl (fun _ => 0)))) → va_S A H0 H1 locs1 → W p l e R s m args below meth c H1 locs1 cells slots Q (F0 m (pc + 1) ls rest)) : W p l e R s m args below meth c H locs cells slots Q (F0 m pc ls (.int 0 :: .int i :: .ref a :: rest)) :=
  va_iast hexec hb hK hP hD hS q0 t0 ha ht hin hdg (fun H1 l1 h1 h2 h3 => kk H1 l1 (by rw [upd_z] at h1; exact h1) (by rw [upd_z] at h2; exact h2) h3)
theorem stl0 (hexec : p.tables.exec = Jvm.exec) (hb : c.code = cc) (hK : va_K D cl tys s) (hP : va_P D cl ws H) (hD : va_D A ws) (hS : va_S A H0 H locs) (q0 t0 : Nat) {cA : ClassId} {n : Nat} (ha : ws[q0]? = some (a, .inl (cA, n, .inr (.inl (fun _ => 0))))) (ht : tys[t0]? = some (cA, .long)) {i : Int32} (hin : vp_in i n) (hdg : decode cc pc = .ok (.lastore, 1))
    (kk : ∀ (H1 : Heap) (locs1 : List Loc), va_P D cl (ws.set q0 (a, .inl (cA, n, .inr (.inl (fun _ => 0))))) H1 → va_D A (ws.set q0 (a, .inl (cA, n, .inr (.inl (fun _ => 0))))) → va_S A H0 H1 locs1 → W p l e R s m args below meth c H1 locs1 cells slots Q (F0 m (pc + 1) ls rest)) : W p l e R s m args below meth c H locs cells slots Q (F0 m pc ls (.long 0 :: .int i :: .ref a :: rest)) :=
  va_last hexec hb hK hP hD hS q0 t0 ha ht hin hdg (fun H1 l1 h1 h2 h3 => kk H1 l1 (by rw [updL_z] at h1; exact h1) (by rw [updL_z] at h2; exact h2) h3)
theorem cpi (C : CallFix p m c cc nL s args wl own) (hE : ev D K s) (hz : ls.size = nL) {index : Nat} (k1 : Cond.methodLink own index arraycopyName ∈ wl) (k2 : Cond.native arraycopyName ∈ wl) (k3 : Cond.static arraycopyName ∈ wl) (k4 : Cond.initialized "java/lang/System" ∈ wl)
    (hP : va_P D vwCl ws H) (hD : va_D A ws) (hS : va_S A H0 H locs) (q0 q1 : Nat) {a0 : Nat} {n0 n1 : Nat} {f g : Nat → Int32} (ha0 : ws[q0]? = some (a0, .inl (K 1, n0, .inl f))) (ha1 : ws[q1]? = some (a, .inl (K 1, n1, .inl g)))
    {sp dp n : Int32} (h1 : ¬ sp < 0) (h2 : ¬ dp < 0) (h3 : ¬ n < 0) (h4 : sp.toNatClampNeg + n.toNatClampNeg ≤ n0) (h5 : dp.toNatClampNeg + n.toNatClampNeg ≤ n1)
    (hframes : 1 ≤ R.frames) (hlocals : (rest.map fun v => v.category).sum + (nativeFrameWords "java/lang/System" "arraycopy" 5 + 11) ≤ R.locals) (hdg : decode cc pc = .ok (.invokestatic index, 3))
    (kk : ∀ (g : Nat → Int32) (H1 : Heap) (locs1 : List Loc), va_P D vwCl (ws.set q1 (a, .inl (K 1, n1, .inl g))) H1 → va_D A (ws.set q1 (a, .inl (K 1, n1, .inl g))) → va_S A H0 H1 locs1 → W p l e R s m args below meth c H1 locs1 cells slots Q (F0 m (pc + 3) ls rest)) : W p l e R s m args below meth c H locs cells slots Q (F0 m pc ls (.int n :: .int dp :: .ref a :: .int sp :: .ref a0 :: rest)) :=
  va_copyi C.1 C.2.1 (C.2.2.1.trans hz.symm) C.2.2.2.1 (C.2.2.2.2 _ k1) (C.2.2.2.2 _ k2) (C.2.2.2.2 _ k3) (C.2.2.2.2 _ k4) hE.1 hP hD hS q0 q1 1 1 ha0 ha1 rfl rfl rfl h1 h2 h3 h4 h5 (fun _ _ => rfl) hframes hlocals hdg (fun H1 l1 => kk _ H1 l1)
end ST
/-! answers that agree -/
theorem two_eq {P : Prop} {r r' a b : Int32} (h : (P ∧ r = a) ∨ (¬ P ∧ r = b)) (h' : (P ∧ r' = a) ∨ (¬ P ∧ r' = b)) : r = r' := by
  rcases h with ⟨h1, rfl⟩ | ⟨h1, rfl⟩ <;> rcases h' with ⟨h2, rfl⟩ | ⟨h2, rfl⟩
  · rfl
  · exact absurd h1 h2
  · exact absurd h2 h1
  · rfl
def rowP (s w n r : Int32) : Prop := (¬ (vp_in s 4 ∧ vp_in w 4 ∧ n ≤ 60) ∧ r = -2) ∨ ((vp_in s 4 ∧ vp_in w 4 ∧ n ≤ 60) ∧ n < 0 ∧ r = -3) ∨ ((vp_in s 4 ∧ vp_in w 4 ∧ n ≤ 60) ∧ ¬ n < 0 ∧ r = 0)
theorem rowP_eq {s w n r r' : Int32} (h : rowP s w n r) (h' : rowP s w n r') : r = r' := by
  rcases h with ⟨h1, rfl⟩ | ⟨h1, h2, rfl⟩ | ⟨h1, h2, rfl⟩ <;> rcases h' with ⟨g1, rfl⟩ | ⟨g1, g2, rfl⟩ | ⟨g1, g2, rfl⟩
  · rfl
  · exact absurd g1 h1
  · exact absurd g1 h1
  · exact absurd h1 g1
  · rfl
  · exact absurd h2 g2
  · exact absurd h1 g1
  · exact absurd g2 h2
  · rfl
theorem eq0 {x : Int32} (h0 : ¬ x < 0) (h1 : x ≤ 0) : x = 0 := by
  rw [Int32.lt_iff_toInt_lt] at h0; rw [Int32.le_iff_toInt_le] at h1
  exact Int32.toInt_inj.mp (by omega)
theorem lt_of_nge {x : Int32} (h : ¬ 0 ≤ x) : x < 0 := by
  rw [Int32.le_iff_toInt_le] at h; rw [Int32.lt_iff_toInt_lt]; omega
theorem nlt_of_ge {x : Int32} (h : 0 ≤ x) : ¬ x < 0 := by
  rw [Int32.le_iff_toInt_le] at h; rw [Int32.lt_iff_toInt_lt]; omega
theorem lt2_nI {k i : Nat} (hi : i ≤ 60) (hk : k ≤ 180) (h : ¬ nI (k + 60) ≤ nI (k + i)) : i < 60 := by
  rcases Nat.lt_or_ge i 60 with q | q
  · exact q
  · exact absurd (nI_le (by omega) (by omega)) h
theorem rc_le {k : Nat} (hk : k ≤ 180) : nI (k + 60) ≤ 240 := by
  rw [show (240 : Int32) = nI 240 from rfl]; exact nI_le (by omega) (by omega)
theorem z1 {x : Int32} (h : vp_in x 1) : x = 0 := by
  rw [vp_in_iff] at h
  exact Int32.toInt_inj.mp (by rw [Int32.toInt_zero]; omega)
theorem nz1 {x : Int32} (h : ¬ vp_in x 1) : ¬ x = 0 := fun z => h (by rw [z, vp_in_iff, Int32.toInt_zero]; omega)
