/-! Strings: the literals of the class and of the reference, by their places; they lie beside the world and nobody writes them -/
def stTab : List (String × Nat × String × List Int32) := [("LostWood$Reader", 125, "wood", [119, 111, 111, 100]), ("LostWood$Reader", 130, "places", [112, 108, 97, 99, 101, 115]), ("LostWood$Reader", 105, "way", [119, 97, 121]), ("LostWood$Reader", 94, "n", [110]), ("LostWood$Reader", 96, "e", [101]), ("LostWood$Reader", 98, "s", [115]), ("LostWood$Reader", 100, "w", [119]), ("LostWood$Reader", 141, "to", [116, 111]), ("LostWood$Reader", 147, "back", [98, 97, 99, 107]), ("LostWood$Reader", 110, "mark", [109, 97, 114, 107]), ("LostWood$Reader", 115, "pupil", [112, 117, 112, 105, 108]), ("LostWood$Reader", 156, "in", [105, 110]), ("LostWood$Reader", 158, "lies", [108, 105, 101, 115]), ("LostWood$Reader", 160, "thinks", [116, 104, 105, 110, 107, 115]), ("LostWood$Reader", 120, "lesson", [108, 101, 115, 115, 111, 110]), ("LostWood$Reader", 168, "bare", [98, 97, 114, 101]), ("LostWood$Reader", 173, "shut", [115, 104, 117, 116]), ("LostWoodModel", 214, "wood", [119, 111, 111, 100]), ("LostWoodModel", 216, "places", [112, 108, 97, 99, 101, 115]), ("LostWoodModel", 241, "way", [119, 97, 121]), ("LostWoodModel", 243, "mark", [109, 97, 114, 107]), ("LostWoodModel", 245, "pupil", [112, 117, 112, 105, 108]), ("LostWoodModel", 247, "lesson", [108, 101, 115, 115, 111, 110]), ("LostWoodModel", 206, "n", [110]), ("LostWoodModel", 208, "e", [101]), ("LostWoodModel", 210, "s", [115]), ("LostWoodModel", 212, "w", [119]), ("LostWoodModel", 228, "to", [116, 111]), ("LostWoodModel", 230, "back", [98, 97, 99, 107]), ("LostWoodModel", 232, "in", [105, 110]), ("LostWoodModel", 233, "lies", [108, 105, 101, 115]), ("LostWoodModel", 235, "thinks", [116, 104, 105, 110, 107, 115]), ("LostWoodModel", 237, "bare", [98, 97, 114, 101]), ("LostWoodModel", 239, "shut", [115, 104, 117, 116])]
abbrev stZ := (Nat → Nat) × (Nat → Nat) × Nat
def stAt (i : Nat) : String × Nat × String × List Int32 := stTab.getD i ("", 0, "", [])
def stB (i : Nat) : List Int32 := (stAt i).2.2.2
def stL (i : Nat) : Nat := (stB i).length
abbrev stA (Z : stZ) : Nat → Prop := fun q => Z.2.2 ≤ q
def stO (Z : stZ) (i : Nat) (U : State) : Prop := va_O "java/lang/String" (Z.1 i) (stA Z) U U.heap ∧ va_OF "java/lang/String" "coder" "B" (.int 0) (Z.1 i) (stA Z) U U.heap ∧ va_OF "java/lang/String" "value" "[B" (.ref (Z.2.1 i)) (Z.1 i) (stA Z) U U.heap ∧ va_T .byte (Z.2.1 i) (stL i) (fun j => .int ((stB i).getD j 0)) (stA Z) U U.heap
def stR (Z : stZ) (i : Nat) (U : State) : Prop := vk_R (stAt i).1 (stAt i).2.1 (stAt i).2.2.1 (Z.1 i) U
def stE (Z : stZ) (U : State) : Prop := va_Z "java/lang/String" "COMPACT_STRINGS" "Z" (.int 1) (stA Z) U U.heap ∧ va_Zq "jdk/internal/util/Preconditions" "SIOOBE_FORMATTER" "Ljava/util/function/BiFunction;" (stA Z) U U.heap ∧ (∀ i : Nat, i < 34 → stO Z i U) ∧ ∀ i : Nat, i < 34 → stR Z i U
theorem stE.moved {Z : stZ} {s U : State} (hW : s.WarmedH U.vm) (hk : ∀ a : Nat, a < s.heap.size → ¬ stA Z a → U.heap[a]? = s.heap[a]?) (h : stE Z s) : stE Z U :=
  ⟨(va_Z.moved hW.alike h.1).kept hk, (va_Zq.moved hW.alike h.2.1).kept hk, fun i hi => ⟨(va_O.moved hW.alike (h.2.2.1 i hi).1).kept hk, (va_OF.moved hW.alike (h.2.2.1 i hi).2.1).kept hk, (va_OF.moved hW.alike (h.2.2.1 i hi).2.2.1).kept hk, (va_T.moved hW.alike (h.2.2.1 i hi).2.2.2).kept hk⟩, fun i hi => vk_R.warm hW (h.2.2.2 i hi)⟩
theorem stE.call {Z : stZ} {U : State} {g : JFrame} {mk : MethodId} {a : Array Value} (h : stE Z U) : stE Z (U.calling g mk a) :=
  ⟨va_Z.moved (u := U) (U := U.calling g mk a) (Vm.Alike.refl U.vm) h.1, va_Zq.moved (u := U) (U := U.calling g mk a) (Vm.Alike.refl U.vm) h.2.1, fun i hi => ⟨va_O.moved (u := U) (U := U.calling g mk a) (Vm.Alike.refl U.vm) (h.2.2.1 i hi).1, va_OF.moved (u := U) (U := U.calling g mk a) (Vm.Alike.refl U.vm) (h.2.2.1 i hi).2.1, va_OF.moved (u := U) (U := U.calling g mk a) (Vm.Alike.refl U.vm) (h.2.2.1 i hi).2.2.1, va_T.moved (u := U) (U := U.calling g mk a) (Vm.Alike.refl U.vm) (h.2.2.1 i hi).2.2.2⟩, fun i hi => vk_R.same (u := U) (U := U.calling g mk a) rfl (h.2.2.2 i hi)⟩
/-! contracts that only read, with Strings at hand; ints, and void -/
abbrev roPT (D : va_G) (K : Nat → ClassId) (Z : stZ) (av : List Value) (wr : va_W) : Array Value → State → Prop := va_Pc av (fun U => ev D K U ∧ va_P D vwCl wr U.heap ∧ stE Z U)
theorem roPT_blind {D : va_G} {K : Nat → ClassId} {Z : stZ} {av : List Value} {wr : va_W} : FrameBlind (roPT D K Z av wr) := fun _ _ _ _ h => ⟨h.1, h.2.1.call, h.2.2.1, h.2.2.2.call⟩
abbrev RoT (l : Launch) (D : va_G) (K : Nat → ClassId) (Z : stZ) (y : MethodName) (c : ByteArray) (n : Nat) (ret : Option FieldType) (fr lo : Nat) (av : List Value) (wr : va_W) (post : Int32 → Prop) : Prop :=
  Met l y (uw y c n ret) ({ frames := fr, cells := 0, slots := 0, locals := lo }) (roPT D K Z av wr) (ro post) 0 0 nofree
def rov : Array Value → State → Outcome → State → Prop := fun _ st oc t => oc = .returned none ∧ t.heap = st.heap
abbrev RoVT (l : Launch) (D : va_G) (K : Nat → ClassId) (Z : stZ) (y : MethodName) (c : ByteArray) (n : Nat) (fr lo : Nat) (av : List Value) (wr : va_W) : Prop :=
  Met l y (uw y c n none) ({ frames := fr, cells := 0, slots := 0, locals := lo }) (roPT D K Z av wr) rov 0 0 nofree
section ROT
variable {p : Program} {l : Launch} {e : Env} {R : Room} {s : State} {m : MethodId} {args : Array Value} {below : List Frame} {meth : Method} {c : Code} {H : Heap} {locs : List Loc} {cells slots : Nat} {Q : State → Prop}
variable {cc : ByteArray} {nL : Nat} {own host : String} {idx maxL n fr lo pc : Nat} {y : MethodName} {bytes : ByteArray} {ret : Option FieldType} {D : va_G} {K : Nat → ClassId} {Z : stZ} {As rest st0 : List Value} {wr : va_W} {post : Int32 → Prop} {ls : Array Slot} {b : Nat}
theorem roT_ofQ {Qc : Array Value → State → Outcome → State → Prop} {av : List Value} (hy : plainName y.cls = true) (hlen : (lg_sl av).length ≤ maxL)
    (body : ∀ (p : Program) (e : Env) (s : State) (m : MethodId) (below : List Frame) (meth : Method) (c : Code), CallFix p m c cc maxL s av.toArray wl y.cls → meth.sig.returnType = ret → meth.locks = false → ev D K s → va_P D vwCl wr s.heap → stE Z s → ∀ ls : Array Slot, lv_has ls maxL (lv_args 0 av) →
      W p l e ({ frames := fr, cells := 0, slots := 0, locals := lo }) s m av.toArray below meth c s.heap [] 0 0 (MQ below Qc av.toArray s 0 0 nofree) (F0 m 0 ls [])) : Met l y (uw y cc maxL ret) ({ frames := fr, cells := 0, slots := 0, locals := lo }) (roPT D K Z av wr) Qc 0 0 nofree := by
  refine Met.ofW (cc := cc) (maxL := maxL) (ret := ret) hy rfl ?_
  intro p e s m args below meth c s₁ B hml hv
  obtain ⟨rfl, hE, hP, hT⟩ := hv
  have hts := atoms_spec (ws := uw y cc maxL ret) B.pre
  have hown : s.vm.findClass y.cls = some m.cls := findClass_of_methodNamed B.named
  have hl := lv_entry av (n := maxL) hlen
  rw [lg_entry_eq]
  generalize (lg_sl av ++ List.replicate (maxL - (lg_sl av).length) Slot.unset).toArray = ls at hl ⊢
  exact body p e s m below meth c ⟨B.exec, B.bytes, hml, hown, fun w h => hts w (List.mem_cons_of_mem _ h)⟩ B.returns B.notSynchronized hE hP hT ls hl
theorem ro_nret {ty : FieldType} {v : Int32} (C : CallFix p m c cc nL s args wl own) (hr : meth.sig.returnType = some ty) (hk : meth.locks = false) (hd : decode cc pc = .ok (.ireturn, 1)) (hn : narrow ty (.int v) = .int v) (hp : post v) :
    W p l e R s m args below meth c s.heap [] 0 0 (MQ below (ro post) args s 0 0 nofree) (F0 m pc ls [.int v]) :=
  W.zret C.1 C.2.1 hr hn (fun t ht _ => ⟨v, rfl, hp, ht⟩) (fun q h => absurd h List.not_mem_nil) hd hk
theorem rov_ret (C : CallFix p m c cc nL s args wl own) (hr : meth.sig.returnType = none) (hk : meth.locks = false) (hd : decode cc pc = .ok (.return_, 1)) :
    W p l e R s m args below meth c s.heap [] 0 0 (MQ below rov args s 0 0 nofree) (F0 m pc ls []) :=
  W.vret C.1 C.2.1 hr (fun t ht _ => ⟨rfl, ht⟩) (fun q h => absurd h List.not_mem_nil) hd hk
theorem rov_use {a : Array Value} (hr : va_Run p l e R s m args below meth c H locs cells slots 0 0 (F0 m pc ls st0) rest (rov a) nofree)
    (kk : W p l e R s m args below meth c H locs cells slots Q (F0 m (pc + 3) ls rest)) : W p l e R s m args below meth c H locs cells slots Q (F0 m pc ls st0) := by
  intro T hT X
  obtain ⟨v, st₀, t, T', L, h0, X', hL, e1, e2, ⟨hv, hh⟩, st⟩ := hr T hT X
  cases hv
  obtain ⟨t2, a1, b1⟩ := kk T' (by rw [e1, hh, h0]) (Stand.forget X' (fun q h => (hL q h).elim))
  exact ⟨t2, st t2 a1, b1⟩
theorem roT_V (C : CallFix p m c cc nL s args wl own) (hE : ev D K s) (hT : stE Z s) (hkp : ∀ a : Nat, a < s.heap.size → ¬ stA Z a → H[a]? = s.heap[a]?) (k : okV own idx y bytes maxL ret n) (hM : RoT l D K Z y bytes maxL ret fr lo (.ref b :: As) wr post) (hP : va_P D vwCl wr H) (q0 ci : Nat) {fs : List Value} {T : u_T} {N : Nat} (he : wr[q0]? = some (b, .inr (ci, fs))) (hcl : vwCl[ci]? = some (y.cls, T, N))
    (hn : As.length = n) (hz : ls.size = nL) (hst : st0 = As.reverse ++ .ref b :: rest) (hW : (rest.map fun v => v.category).sum ≤ 8) (hR : fr + 1 ≤ R.frames ∧ 8 + (maxL + 11) + lo ≤ R.locals) (hf : cells ≤ R.cells ∧ slots ≤ R.slots) (hd : decode cc pc = .ok (.invokevirtual idx, 3))
    (kk : ∀ r : Int32, post r → W p l e R s m args below meth c H locs cells slots Q (F0 m (pc + 3) ls (.int r :: rest))) : W p l e R s m args below meth c H locs cells slots Q (F0 m pc ls st0) :=
  ro_use (va_runV (C := y.cls) (As := As) (rest := rest) C hM ⟨cb_of C k.1 rfl rfl hR, C.2.2.2.2 _ k.2.1, C.2.2.2.2 _ k.2.2⟩ ⟨roPT_blind, va_recv hE.1 hP hcl he, fun U hU hWm => ⟨rfl, hE.warm hWm, by rw [hU]; exact hP, hT.moved hWm (by rw [hU]; exact hkp)⟩⟩ rfl hn hz hst (lv_room hW) hd hf) kk
/-- a String's own method -/
theorem roT_VS (C : CallFix p m c cc nL s args wl own) (hE : ev D K s) (hT : stE Z s) (hkp : ∀ a : Nat, a < s.heap.size → ¬ stA Z a → H[a]? = s.heap[a]?) (k : okV own idx y bytes maxL ret n) {i : Nat} (hi : i < 34) (hy : y.cls = "java/lang/String") (hM : RoT l D K Z y bytes maxL ret fr lo (.ref (Z.1 i) :: As) [] post)
    (hn : As.length = n) (hz : ls.size = nL) (hst : st0 = As.reverse ++ .ref (Z.1 i) :: rest) (hW : (rest.map fun v => v.category).sum ≤ 8) (hR : fr + 1 ≤ R.frames ∧ 8 + (maxL + 11) + lo ≤ R.locals) (hf : cells ≤ R.cells ∧ slots ≤ R.slots) (hd : decode cc pc = .ok (.invokevirtual idx, 3))
    (kk : ∀ r : Int32, post r → W p l e R s m args below meth c H locs cells slots Q (F0 m (pc + 3) ls (.int r :: rest))) : W p l e R s m args below meth c H locs cells slots Q (F0 m pc ls st0) := by
  have hrc : ∃ cell : Cell, H[Z.1 i]? = some cell ∧ cell.vm.isStatics = false ∧ s.vm.findClass y.cls = some cell.cls := by
    obtain ⟨cell, h1, h2, h3, -⟩ := (hT.2.2.1 i hi).1.kept hkp
    exact ⟨cell, h1, h2, by rw [hy]; exact h3⟩
  exact ro_use (va_runV (C := y.cls) (As := As) (rest := rest) C hM ⟨cb_of C k.1 rfl rfl hR, C.2.2.2.2 _ k.2.1, C.2.2.2.2 _ k.2.2⟩ ⟨roPT_blind, hrc, fun U hU hWm => ⟨rfl, hE.warm hWm, fun k q h => absurd h (by simp), hT.moved hWm (by rw [hU]; exact hkp)⟩⟩ rfl hn hz hst (lv_room hW) hd hf) kk
theorem roT_S (C : CallFix p m c cc nL s args wl own) (hE : ev D K s) (hT : stE Z s) (hkp : ∀ a : Nat, a < s.heap.size → ¬ stA Z a → H[a]? = s.heap[a]?) (k : okS own idx y bytes maxL ret n) (hM : RoT l D K Z y bytes maxL ret fr lo As [] post)
    (hn : As.length = n) (hz : ls.size = nL) (hst : st0 = As.reverse ++ rest) (hW : (rest.map fun v => v.category).sum ≤ 8) (hR : fr + 1 ≤ R.frames ∧ 8 + (maxL + 11) + lo ≤ R.locals) (hf : cells ≤ R.cells ∧ slots ≤ R.slots) (hd : decode cc pc = .ok (.invokestatic idx, 3))
    (kk : ∀ r : Int32, post r → W p l e R s m args below meth c H locs cells slots Q (F0 m (pc + 3) ls (.int r :: rest))) : W p l e R s m args below meth c H locs cells slots Q (F0 m pc ls st0) :=
  ro_use (va_runS (As := As) (rest := rest) C hM ⟨cb_of C k.1 rfl rfl hR, C.2.2.2.2 _ k.2⟩ ⟨roPT_blind, fun U hU hWm => ⟨rfl, hE.warm hWm, fun k q h => absurd h (by simp), hT.moved hWm (by rw [hU]; exact hkp)⟩⟩ rfl hn hz hst (lv_room hW) hd hf) kk
theorem rovT_S (C : CallFix p m c cc nL s args wl own) (hE : ev D K s) (hT : stE Z s) (hkp : ∀ a : Nat, a < s.heap.size → ¬ stA Z a → H[a]? = s.heap[a]?) (k : okS own idx y bytes maxL none n) (hM : RoVT l D K Z y bytes maxL fr lo As [])
    (hn : As.length = n) (hz : ls.size = nL) (hst : st0 = As.reverse ++ rest) (hW : (rest.map fun v => v.category).sum ≤ 8) (hR : fr + 1 ≤ R.frames ∧ 8 + (maxL + 11) + lo ≤ R.locals) (hf : cells ≤ R.cells ∧ slots ≤ R.slots) (hd : decode cc pc = .ok (.invokestatic idx, 3))
    (kk : W p l e R s m args below meth c H locs cells slots Q (F0 m (pc + 3) ls rest)) : W p l e R s m args below meth c H locs cells slots Q (F0 m pc ls st0) :=
  rov_use (va_runS (As := As) (rest := rest) C hM ⟨cb_of C k.1 rfl rfl hR, C.2.2.2.2 _ k.2⟩ ⟨roPT_blind, fun U hU hWm => ⟨rfl, hE.warm hWm, fun k q h => absurd h (by simp), hT.moved hWm (by rw [hU]; exact hkp)⟩⟩ rfl hn hz hst (lv_room hW) hd hf) kk
end ROT
/-! contracts that change, with Strings at hand -/
abbrev chPT (D : va_G) (K : Nat → ClassId) (Z : stZ) (av : List Value) (sz : Nat) (ws : va_W) : Array Value → State → Prop := va_Pc av (fun U => U.heap.size = sz ∧ ev D K U ∧ va_P D vwCl ws U.heap ∧ va_D (stA Z) ws ∧ stE Z U ∧ Z.2.2 ≤ sz)
theorem chPT_blind {D : va_G} {K : Nat → ClassId} {Z : stZ} {av : List Value} {sz : Nat} {ws : va_W} : FrameBlind (chPT D K Z av sz ws) := fun _ _ _ _ h => ⟨h.1, h.2.1, h.2.2.1.call, h.2.2.2.1, h.2.2.2.2.1, h.2.2.2.2.2.1.call, h.2.2.2.2.2.2⟩
abbrev CvT {S : Type} (l : Launch) (D : va_G) (K : Nat → ClassId) (Z : stZ) (y : MethodName) (c : ByteArray) (n : Nat) (fr lo mc ms : Nat) (av : List Value) (ws : va_W) (post : S → Prop) (w1 : S → va_W) : Prop :=
  ∀ sz : Nat, Met l y (uw y c n none) ({ frames := fr, cells := mc, slots := ms, locals := lo }) (chPT D K Z av sz ws) (va_Qv post (chB D (va_A ws sz) w1) (va_A ws sz)) mc ms (va_A ws sz)
abbrev CiT {S : Type} (l : Launch) (D : va_G) (K : Nat → ClassId) (Z : stZ) (y : MethodName) (c : ByteArray) (n : Nat) (ret : Option FieldType) (fr lo mc ms : Nat) (av : List Value) (ws : va_W) (post : Int32 → S → Prop) (w1 : S → va_W) : Prop :=
  ∀ sz : Nat, Met l y (uw y c n ret) ({ frames := fr, cells := mc, slots := ms, locals := lo }) (chPT D K Z av sz ws) (va_Qi post (chB D (va_A ws sz) w1) (va_A ws sz)) mc ms (va_A ws sz)
section CHT
variable {p : Program} {l : Launch} {e : Env} {R : Room} {s : State} {m : MethodId} {args : Array Value} {below : List Frame} {meth : Method} {c : Code} {H : Heap} {locs : List Loc} {cells slots : Nat} {Q : State → Prop}
variable {cc : ByteArray} {nL : Nat} {own host : String} {idx maxL n fr lo mc ms pc : Nat} {y : MethodName} {bytes : ByteArray} {ret : Option FieldType} {D : va_G} {K : Nat → ClassId} {Z : stZ} {As rest st0 : List Value} {ws wc wr : va_W} {ls : Array Slot} {b : Nat} {A : Nat → Prop} {S : Type}
theorem st_kp (hS : va_S A s.heap H locs) (hZ : ∀ q : Nat, A q → Z.2.2 ≤ q) : ∀ a : Nat, a < s.heap.size → ¬ stA Z a → H[a]? = s.heap[a]? := fun a ha hn => hS.2.1 a ha (fun h => hn (hZ a h))
theorem chT_of {Qc : (Nat → Prop) → Array Value → State → Outcome → State → Prop} {av : List Value} {sz : Nat} (hy : plainName y.cls = true) (hlen : (lg_sl av).length ≤ maxL)
    (body : ∀ (p : Program) (e : Env) (s : State) (m : MethodId) (below : List Frame) (meth : Method) (c : Code) (A : Nat → Prop), CallFix p m c cc maxL s av.toArray wl y.cls → meth.sig.returnType = ret → meth.locks = false → meth.name = y.name → ev D K s → va_D A ws → (∀ q : Nat, s.heap.size ≤ q → A q) → stE Z s → (∀ q : Nat, A q → Z.2.2 ≤ q) → ∀ (H : Heap) (locs : List Loc), va_P D vwCl ws H → va_S A s.heap H locs → ∀ ls : Array Slot, lv_has ls maxL (lv_args 0 av) →
      W p l e ({ frames := fr, cells := mc, slots := ms, locals := lo }) s m av.toArray below meth c H locs 0 0 (MQ below (Qc A) av.toArray s mc ms A) (F0 m 0 ls [])) : Met l y (uw y cc maxL ret) ({ frames := fr, cells := mc, slots := ms, locals := lo }) (chPT D K Z av sz ws) (Qc (va_A ws sz)) mc ms (va_A ws sz) := by
  refine Met.ofW (cc := cc) (maxL := maxL) (ret := ret) hy rfl ?_
  intro p e s m args below meth c s₁ B hml hv
  obtain ⟨rfl, hsz, hE, hP, hD, hT, hz⟩ := hv
  have hts := atoms_spec (ws := uw y cc maxL ret) B.pre
  have hown : s.vm.findClass y.cls = some m.cls := findClass_of_methodNamed B.named
  have hin : meth.name = y.name := (name_of_methodNamed B.named B.method).1
  have hl := lv_entry av (n := maxL) hlen
  have hZ : ∀ q : Nat, va_A ws sz q → Z.2.2 ≤ q := fun q h => h.elim (fun ⟨k, e9, h9⟩ => hD.2 k (q, e9) h9) (fun h9 => Nat.le_trans hz h9)
  rw [lg_entry_eq]
  generalize (lg_sl av ++ List.replicate (maxL - (lg_sl av).length) Slot.unset).toArray = ls at hl ⊢
  exact body p e s m below meth c (va_A ws sz) ⟨B.exec, B.bytes, hml, hown, fun w h => hts w (List.mem_cons_of_mem _ h)⟩ B.returns B.notSynchronized hin hE hD.self (fun q h => Or.inr (by rw [← hsz]; exact h)) hT hZ s.heap [] hP va_S.rf ls hl
theorem chT_pre {av : List Value} (hE : ev D K s) (hT : stE Z s) (hS : va_S A s.heap H locs) (hA : ∀ q : Nat, s.heap.size ≤ q → A q) (hZ : ∀ q : Nat, A q → Z.2.2 ≤ q) (hP : va_P D vwCl wc H) (hD : va_D A wc) : ∀ U : State, U.heap = H → s.WarmedH U.vm → chPT D K Z av H.size wc av.toArray U := fun U hU hWm => ⟨rfl, by rw [hU], hE.warm hWm, by rw [hU]; exact hP, hD.weaken (fun _ _ _ h => hZ _ h), hT.moved hWm (by rw [hU]; exact st_kp hS hZ), Nat.le_trans (hZ _ (hA _ (Nat.le_refl _))) hS.1⟩
theorem cvT_V {post : S → Prop} {w1 : S → va_W} (C : CallFix p m c cc nL s args wl own) (hE : ev D K s) (hT : stE Z s) (hZ : ∀ q : Nat, A q → Z.2.2 ≤ q) (k : okV own idx y bytes maxL none n) (hM : CvT l D K Z y bytes maxL fr lo mc ms (.ref b :: As) wc post w1)
    (hP : va_P D vwCl ws H) (hD : va_D A ws) (hS : va_S A s.heap H locs) (hA : ∀ q : Nat, s.heap.size ≤ q → A q) (isC isR : List Nat) (hsP : isC.filterMap (fun i => ws[i]?) = wc) (hC : isC.map (fun i => ws[i]?) = wc.map some) (hR : isR.map (fun i => ws[i]?) = wr.map some) (hnC : va_nd isC = true) (hnR : va_nd isR = true) (hdis : ∀ i ∈ isR, i ∉ isC)
    (q0 ci : Nat) {fs : List Value} {T : u_T} {N : Nat} (he : wc[q0]? = some (b, .inr (ci, fs))) (hcl : vwCl[ci]? = some (y.cls, T, N))
    (hn : As.length = n) (hz : ls.size = nL) (hst : st0 = As.reverse ++ .ref b :: rest) (hW : (rest.map fun v => v.category).sum ≤ 8) (hRm : fr + 1 ≤ R.frames ∧ 8 + (maxL + 11) + lo ≤ R.locals) (hf : cells + mc ≤ R.cells ∧ slots + ms ≤ R.slots) (hd : decode cc pc = .ok (.invokevirtual idx, 3))
    (kk : ∀ (u : S) (H1 : Heap) (locs1 : List Loc), post u → va_P D vwCl (wr ++ w1 u) H1 → va_D A (wr ++ w1 u) → va_S A s.heap H1 locs1 → W p l e R s m args below meth c H1 locs1 (cells + mc) (slots + ms) Q (F0 m (pc + 3) ls rest)) : W p l e R s m args below meth c H locs cells slots Q (F0 m pc ls st0) :=
  ch_usev (va_runV (C := y.cls) (As := As) (rest := rest) C (hM H.size) ⟨cb_of C k.1 rfl rfl hRm, C.2.2.2.2 _ k.2.1, C.2.2.2.2 _ k.2.2⟩ ⟨chPT_blind, va_recv hE.1 (hP.sub isC hsP) hcl he, chT_pre hE hT hS hA hZ (hP.sub isC hsP) (hD.sub isC hnC hC)⟩ rfl hn hz hst (lv_room hW) hd hf) hP hD hS hA isC isR hC hR hnR hdis kk
theorem ciT_V {post : Int32 → S → Prop} {w1 : S → va_W} (C : CallFix p m c cc nL s args wl own) (hE : ev D K s) (hT : stE Z s) (hZ : ∀ q : Nat, A q → Z.2.2 ≤ q) (k : okV own idx y bytes maxL ret n) (hM : CiT l D K Z y bytes maxL ret fr lo mc ms (.ref b :: As) wc post w1)
    (hP : va_P D vwCl ws H) (hD : va_D A ws) (hS : va_S A s.heap H locs) (hA : ∀ q : Nat, s.heap.size ≤ q → A q) (isC isR : List Nat) (hsP : isC.filterMap (fun i => ws[i]?) = wc) (hC : isC.map (fun i => ws[i]?) = wc.map some) (hR : isR.map (fun i => ws[i]?) = wr.map some) (hnC : va_nd isC = true) (hnR : va_nd isR = true) (hdis : ∀ i ∈ isR, i ∉ isC)
    (q0 ci : Nat) {fs : List Value} {T : u_T} {N : Nat} (he : wc[q0]? = some (b, .inr (ci, fs))) (hcl : vwCl[ci]? = some (y.cls, T, N))
    (hn : As.length = n) (hz : ls.size = nL) (hst : st0 = As.reverse ++ .ref b :: rest) (hW : (rest.map fun v => v.category).sum ≤ 8) (hRm : fr + 1 ≤ R.frames ∧ 8 + (maxL + 11) + lo ≤ R.locals) (hf : cells + mc ≤ R.cells ∧ slots + ms ≤ R.slots) (hd : decode cc pc = .ok (.invokevirtual idx, 3))
    (kk : ∀ (r : Int32) (u : S) (H1 : Heap) (locs1 : List Loc), post r u → va_P D vwCl (wr ++ w1 u) H1 → va_D A (wr ++ w1 u) → va_S A s.heap H1 locs1 → W p l e R s m args below meth c H1 locs1 (cells + mc) (slots + ms) Q (F0 m (pc + 3) ls (.int r :: rest))) : W p l e R s m args below meth c H locs cells slots Q (F0 m pc ls st0) :=
  ch_usei (va_runV (C := y.cls) (As := As) (rest := rest) C (hM H.size) ⟨cb_of C k.1 rfl rfl hRm, C.2.2.2.2 _ k.2.1, C.2.2.2.2 _ k.2.2⟩ ⟨chPT_blind, va_recv hE.1 (hP.sub isC hsP) hcl he, chT_pre hE hT hS hA hZ (hP.sub isC hsP) (hD.sub isC hnC hC)⟩ rfl hn hz hst (lv_room hW) hd hf) hP hD hS hA isC isR hC hR hnR hdis kk
end CHT
