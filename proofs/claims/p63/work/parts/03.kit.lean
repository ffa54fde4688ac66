/-! my own kit: uniform words, the environment, contracts that only read, contracts that change -/
abbrev uw (y : MethodName) (c : ByteArray) (n : Nat) (ret : Option FieldType) : List Cond := Cond.code y c n ret :: wl
theorem gd_all : ∀ w ∈ wl, ((w.onTables && w.keeps) = true ∨ ∃ ty, w = .arrayClass ty) := fun w h => good_of_word (List.mem_filter.mp h).2
theorem gd_uw {y : MethodName} {c : ByteArray} {n : Nat} {ret : Option FieldType} (h : Cond.code y c n ret ∈ wl) : GoodIn wl (uw y c n ret) := fun w hw => (List.mem_cons.mp hw).elim (fun e => e ▸ ⟨h, gd_all _ h⟩) (fun h2 => ⟨h2, gd_all _ h2⟩)
abbrev tyL (K : Nat → ClassId) : List (ClassId × FieldType) := [(K 0, .byte), (K 1, .int), (K 2, .long), (K 3, .boolean), (K 4, .object RX10), (K 5, .object RX2)]
def ev_n : List Cond := [.methodLinkNest RX11 11 yX4_init RX11, .methodLinkNest RX4 21 yX10_init RX11, .methodLinkNest RX11 18 yX10_init RX11, .methodLinkNest RX11 25 yX2_init RX11, .methodLinkNest RX11 32 yX9_init RX11, .methodLinkNest RX1 11 yX9_init RX11, .methodLinkNest RX11 60 yX3_init RX11, .methodLinkNest RX11 67 yX0_init RX11, .methodLinkNest RX0 11 yX10_init RX11, .methodLinkNest RX0 20 yX9_init RX11, .methodLinkNest RX11 74 yX8_init RX11, .methodLinkNest RX10 69 yX11_isWind RX11, .methodLinkNest RX5 28 yX11_isSlot RX11, .methodLinkNest RX3 65 yX11_lowest RX11]
def ev_d1 : MethodName := ⟨RX6, "ends", "(LLostWood$Wood;I)Z"⟩
def ev_d2 : MethodName := ⟨RX6, "next", "(LLostWood$Wood;II)I"⟩
def ev (D : va_G) (K : Nat → ClassId) (U : State) : Prop := va_K D vwCl (tyL K) U ∧ (∀ w ∈ ev_n, va_Nw w U) ∧ va_AO RX10 U ∧ va_AO RX2 U ∧ va_Nw (.declares ev_d1) U ∧ va_Nw (.declares ev_d2) U ∧ va_Nw (.selects RX1 yX6_meetState yX6_meetState) U ∧ va_Nw (.selects RX7 yX6_meetState yX6_meetState) U
theorem ev_nest {s U : State} (hW : s.WarmedH U.vm) (h : ∀ w ∈ ev_n, va_Nw w s) : ∀ w ∈ ev_n, va_Nw w U := by
  intro w hw
  have h1 := h w hw
  simp only [ev_n, List.mem_cons, List.not_mem_nil, or_false] at hw
  rcases hw with rfl | rfl | rfl | rfl | rfl | rfl | rfl | rfl | rfl | rfl | rfl | rfl | rfl | rfl <;> exact va_Nw.warmM hW h1
theorem ev.warm {D : va_G} {K : Nat → ClassId} {s U : State} (hW : s.WarmedH U.vm) (h : ev D K s) : ev D K U := ⟨va_K.moved hW.alike h.1, ev_nest hW h.2.1, va_AO.moved hW.alike h.2.2.1, va_AO.moved hW.alike h.2.2.2.1, va_Nw.warmD hW h.2.2.2.2.1, va_Nw.warmD hW h.2.2.2.2.2.1, word_at hW (good_of_word rfl) h.2.2.2.2.2.2.1, word_at hW (good_of_word rfl) h.2.2.2.2.2.2.2⟩
theorem ev_on : ∀ w ∈ ev_n, w.onTables = true := by
  intro w hw
  simp only [ev_n, List.mem_cons, List.not_mem_nil, or_false] at hw
  rcases hw with rfl | rfl | rfl | rfl | rfl | rfl | rfl | rfl | rfl | rfl | rfl | rfl | rfl | rfl <;> rfl
theorem ev.call {D : va_G} {K : Nat → ClassId} {U : State} {g : JFrame} {mk : MethodId} {a : Array Value} (h : ev D K U) : ev D K (U.calling g mk a) :=
  ⟨va_K.moved (u := U) (U := U.calling g mk a) (Vm.Alike.refl U.vm) h.1, fun w hw => va_Nw.same (ev_on w hw) (u := U) (U := U.calling g mk a) rfl (h.2.1 w hw), va_AO.moved (u := U) (U := U.calling g mk a) (Vm.Alike.refl U.vm) h.2.2.1, va_AO.moved (u := U) (U := U.calling g mk a) (Vm.Alike.refl U.vm) h.2.2.2.1, va_Nw.same rfl (u := U) (U := U.calling g mk a) rfl h.2.2.2.2.1, va_Nw.same rfl (u := U) (U := U.calling g mk a) rfl h.2.2.2.2.2.1, va_Nw.same rfl (u := U) (U := U.calling g mk a) rfl h.2.2.2.2.2.2.1, va_Nw.same rfl (u := U) (U := U.calling g mk a) rfl h.2.2.2.2.2.2.2⟩
/-! words of calls -/
abbrev okD (y : MethodName) (n : Nat) : Prop := y.cls ≠ "java/lang/invoke/MethodHandle" ∧ y.cls ≠ "java/lang/invoke/VarHandle" ∧ (parseMethodDescriptor y.desc).map (fun d => d.parameters.length) = some n
abbrev okC (own : String) (idx : Nat) (y : MethodName) (bytes : ByteArray) (maxL : Nat) (ret : Option FieldType) (n : Nat) : Prop := Cond.methodLink own idx y ∈ wl ∧ Cond.code y bytes maxL ret ∈ wl ∧ Cond.initialized y.cls ∈ wl ∧ okD y n
abbrev okV (own : String) (idx : Nat) (y : MethodName) (bytes : ByteArray) (maxL : Nat) (ret : Option FieldType) (n : Nat) : Prop := okC own idx y bytes maxL ret n ∧ Cond.instanceMethod y ∈ wl ∧ Cond.selects y.cls y y ∈ wl
abbrev okS (own : String) (idx : Nat) (y : MethodName) (bytes : ByteArray) (maxL : Nat) (ret : Option FieldType) (n : Nat) : Prop := okC own idx y bytes maxL ret n ∧ Cond.static y ∈ wl
abbrev okI (own : String) (idx : Nat) (y : MethodName) (bytes : ByteArray) (maxL : Nat) (n : Nat) : Prop := okC own idx y bytes maxL none n ∧ y.name = "<init>" ∧ Cond.instanceMethod y ∈ wl
abbrev okN (own : String) (idx : Nat) (y : MethodName) (host : String) (bytes : ByteArray) (maxL : Nat) (ret : Option FieldType) (n : Nat) : Prop := Cond.methodLinkNest own idx y host ∈ ev_n ∧ Cond.code y bytes maxL ret ∈ wl ∧ Cond.initialized y.cls ∈ wl ∧ okD y n
abbrev okSN (own : String) (idx : Nat) (y : MethodName) (host : String) (bytes : ByteArray) (maxL : Nat) (ret : Option FieldType) (n : Nat) : Prop := okN own idx y host bytes maxL ret n ∧ Cond.static y ∈ wl
abbrev okIN (own : String) (idx : Nat) (y : MethodName) (host : String) (bytes : ByteArray) (maxL : Nat) (n : Nat) : Prop := okN own idx y host bytes maxL none n ∧ y.name = "<init>" ∧ Cond.instanceMethod y ∈ wl
section CB
variable {p : Program} {l : Launch} {e : Env} {R : Room} {s : State} {m : MethodId} {args : Array Value} {below : List Frame} {meth : Method} {c : Code} {cc : ByteArray} {nL : Nat} {own host : String} {idx maxL n mc ms : Nat} {y : MethodName} {bytes : ByteArray} {ret : Option FieldType} {rm : Room}
theorem cb_of (C : CallFix p m c cc nL s args wl own) (k : okC own idx y bytes maxL ret n) (hc : rm.cells = mc) (hs : rm.slots = ms) (hR : rm.frames + 1 ≤ R.frames ∧ 8 + (maxL + 11) + rm.locals ≤ R.locals) : CallB R s args own idx y bytes maxL ret (uw y bytes maxL ret) rm mc ms n :=
  callB_of n C.2.2.2.2 (gd_uw k.2.1) rfl hc hs (C.2.2.2.2 _ k.2.2.1) (C.2.2.2.2 _ k.1) k.2.2.2 hR
theorem cn_of {D : va_G} {K : Nat → ClassId} (C : CallFix p m c cc nL s args wl own) (hE : ev D K s) (k : okN own idx y host bytes maxL ret n) (hc : rm.cells = mc) (hs : rm.slots = ms) (hR : rm.frames + 1 ≤ R.frames ∧ 8 + (maxL + 11) + rm.locals ≤ R.locals) : va_CN R s args own idx y host bytes maxL ret (uw y bytes maxL ret) rm mc ms n :=
  va_cnB n C.2.2.2.2 (gd_uw k.2.1) rfl hc hs (hE.2.1 _ k.1) (C.2.2.2.2 _ k.2.2.1) k.2.2.2 hR
end CB
/-! contracts that only read -/
def ro (post : Int32 → Prop) : Array Value → State → Outcome → State → Prop := fun _ st oc t => ∃ r : Int32, oc = .returned (some (.int r)) ∧ post r ∧ t.heap = st.heap
abbrev nofree : Addr → Prop := fun _ => False
abbrev roP (D : va_G) (K : Nat → ClassId) (av : List Value) (wr : va_W) : Array Value → State → Prop := va_Pc av (fun U => ev D K U ∧ va_P D vwCl wr U.heap)
theorem roP_blind {D : va_G} {K : Nat → ClassId} {av : List Value} {wr : va_W} : FrameBlind (roP D K av wr) := fun _ _ _ _ h => ⟨h.1, h.2.1.call, h.2.2⟩
abbrev Ro (l : Launch) (D : va_G) (K : Nat → ClassId) (y : MethodName) (c : ByteArray) (n : Nat) (ret : Option FieldType) (fr lo : Nat) (av : List Value) (wr : va_W) (post : Int32 → Prop) : Prop :=
  Met l y (uw y c n ret) ({ frames := fr, cells := 0, slots := 0, locals := lo }) (roP D K av wr) (ro post) 0 0 nofree
section RO
variable {p : Program} {l : Launch} {e : Env} {R : Room} {s : State} {m : MethodId} {args : Array Value} {below : List Frame} {meth : Method} {c : Code} {H : Heap} {locs : List Loc} {cells slots : Nat} {Q : State → Prop}
variable {cc : ByteArray} {nL : Nat} {own host : String} {idx maxL n fr lo pc : Nat} {y : MethodName} {bytes : ByteArray} {ret : Option FieldType} {D : va_G} {K : Nat → ClassId} {As rest st0 : List Value} {wr : va_W} {post : Int32 → Prop} {ls : Array Slot} {b : Nat}
theorem ro_of {av : List Value} (hy : plainName y.cls = true) (hlen : (lg_sl av).length ≤ maxL)
    (body : ∀ (p : Program) (e : Env) (s : State) (m : MethodId) (below : List Frame) (meth : Method) (c : Code), CallFix p m c cc maxL s av.toArray wl y.cls → meth.sig.returnType = ret → meth.locks = false → ev D K s → va_P D vwCl wr s.heap → ∀ ls : Array Slot, lv_has ls maxL (lv_args 0 av) →
      W p l e ({ frames := fr, cells := 0, slots := 0, locals := lo }) s m av.toArray below meth c s.heap [] 0 0 (MQ below (ro post) av.toArray s 0 0 nofree) (F0 m 0 ls [])) : Ro l D K y cc maxL ret fr lo av wr post := by
  refine Met.ofW (cc := cc) (maxL := maxL) (ret := ret) hy rfl ?_
  intro p e s m args below meth c s₁ B hml hv
  obtain ⟨rfl, hE, hP⟩ := hv
  have hts := atoms_spec (ws := uw y cc maxL ret) B.pre
  have hown : s.vm.findClass y.cls = some m.cls := findClass_of_methodNamed B.named
  have hl := lv_entry av (n := maxL) hlen
  rw [lg_entry_eq]
  generalize (lg_sl av ++ List.replicate (maxL - (lg_sl av).length) Slot.unset).toArray = ls at hl ⊢
  exact body p e s m below meth c ⟨B.exec, B.bytes, hml, hown, fun w h => hts w (List.mem_cons_of_mem _ h)⟩ B.returns B.notSynchronized hE hP ls hl
theorem ro_ret {v : Int32} (C : CallFix p m c cc nL s args wl own) (hr : meth.sig.returnType = some .int) (hk : meth.locks = false) (hd : decode cc pc = .ok (.ireturn, 1)) (hp : post v) :
    W p l e R s m args below meth c s.heap [] 0 0 (MQ below (ro post) args s 0 0 nofree) (F0 m pc ls [.int v]) :=
  W.iret C.1 C.2.1 hr (fun t ht _ => ⟨v, rfl, hp, ht⟩) (fun q h => absurd h List.not_mem_nil) hd hk
theorem ro_zret {v : Int32} (C : CallFix p m c cc nL s args wl own) (hr : meth.sig.returnType = some .boolean) (hk : meth.locks = false) (hd : decode cc pc = .ok (.ireturn, 1)) (hn : narrow .boolean (.int v) = .int v) (hp : post v) :
    W p l e R s m args below meth c s.heap [] 0 0 (MQ below (ro post) args s 0 0 nofree) (F0 m pc ls [.int v]) :=
  W.zret C.1 C.2.1 hr hn (fun t ht _ => ⟨v, rfl, hp, ht⟩) (fun q h => absurd h List.not_mem_nil) hd hk
theorem ro_use {a : Array Value} (hr : va_Run p l e R s m args below meth c H locs cells slots 0 0 (F0 m pc ls st0) rest (ro post a) nofree)
    (kk : ∀ r : Int32, post r → W p l e R s m args below meth c H locs cells slots Q (F0 m (pc + 3) ls (.int r :: rest))) : W p l e R s m args below meth c H locs cells slots Q (F0 m pc ls st0) := by
  intro T hT X
  obtain ⟨v, st₀, t, T', L, h0, X', hL, e1, e2, ⟨r, hv, hp, hh⟩, st⟩ := hr T hT X
  cases hv
  obtain ⟨t2, a1, b1⟩ := kk r hp T' (by rw [e1, hh, h0]) (Stand.forget X' (fun q h => (hL q h).elim))
  exact ⟨t2, st t2 a1, b1⟩
theorem ro_V (C : CallFix p m c cc nL s args wl own) (hE : ev D K s) (k : okV own idx y bytes maxL ret n) (hM : Ro l D K y bytes maxL ret fr lo (.ref b :: As) wr post) (hP : va_P D vwCl wr H) (q0 ci : Nat) {fs : List Value} {T : u_T} {N : Nat} (he : wr[q0]? = some (b, .inr (ci, fs))) (hcl : vwCl[ci]? = some (y.cls, T, N))
    (hn : As.length = n) (hz : ls.size = nL) (hst : st0 = As.reverse ++ .ref b :: rest) (hW : (rest.map fun v => v.category).sum ≤ 8) (hR : fr + 1 ≤ R.frames ∧ 8 + (maxL + 11) + lo ≤ R.locals) (hf : cells ≤ R.cells ∧ slots ≤ R.slots) (hd : decode cc pc = .ok (.invokevirtual idx, 3))
    (kk : ∀ r : Int32, post r → W p l e R s m args below meth c H locs cells slots Q (F0 m (pc + 3) ls (.int r :: rest))) : W p l e R s m args below meth c H locs cells slots Q (F0 m pc ls st0) :=
  ro_use (va_runV (C := y.cls) (As := As) (rest := rest) C hM ⟨cb_of C k.1 rfl rfl hR, C.2.2.2.2 _ k.2.1, C.2.2.2.2 _ k.2.2⟩ ⟨roP_blind, va_recv hE.1 hP hcl he, fun U hU hWm => ⟨rfl, hE.warm hWm, by rw [hU]; exact hP⟩⟩ rfl hn hz hst (lv_room hW) hd hf) kk
theorem ro_S (C : CallFix p m c cc nL s args wl own) (hE : ev D K s) (k : okS own idx y bytes maxL ret n) (hM : Ro l D K y bytes maxL ret fr lo As wr post) (hP : va_P D vwCl wr H)
    (hn : As.length = n) (hz : ls.size = nL) (hst : st0 = As.reverse ++ rest) (hW : (rest.map fun v => v.category).sum ≤ 8) (hR : fr + 1 ≤ R.frames ∧ 8 + (maxL + 11) + lo ≤ R.locals) (hf : cells ≤ R.cells ∧ slots ≤ R.slots) (hd : decode cc pc = .ok (.invokestatic idx, 3))
    (kk : ∀ r : Int32, post r → W p l e R s m args below meth c H locs cells slots Q (F0 m (pc + 3) ls (.int r :: rest))) : W p l e R s m args below meth c H locs cells slots Q (F0 m pc ls st0) :=
  ro_use (va_runS (As := As) (rest := rest) C hM ⟨cb_of C k.1 rfl rfl hR, C.2.2.2.2 _ k.2⟩ ⟨roP_blind, fun U hU hWm => ⟨rfl, hE.warm hWm, by rw [hU]; exact hP⟩⟩ rfl hn hz hst (lv_room hW) hd hf) kk
theorem ro_SN (C : CallFix p m c cc nL s args wl own) (hE : ev D K s) (k : okSN own idx y host bytes maxL ret n) (hM : Ro l D K y bytes maxL ret fr lo As wr post) (hP : va_P D vwCl wr H)
    (hn : As.length = n) (hz : ls.size = nL) (hst : st0 = As.reverse ++ rest) (hW : (rest.map fun v => v.category).sum ≤ 8) (hR : fr + 1 ≤ R.frames ∧ 8 + (maxL + 11) + lo ≤ R.locals) (hf : cells ≤ R.cells ∧ slots ≤ R.slots) (hd : decode cc pc = .ok (.invokestatic idx, 3))
    (kk : ∀ r : Int32, post r → W p l e R s m args below meth c H locs cells slots Q (F0 m (pc + 3) ls (.int r :: rest))) : W p l e R s m args below meth c H locs cells slots Q (F0 m pc ls st0) :=
  ro_use (va_runSN (host := host) (As := As) (rest := rest) C hM ⟨cn_of C hE k.1 rfl rfl hR, C.2.2.2.2 _ k.2, trivial⟩ ⟨roP_blind, fun U hU hWm => ⟨rfl, hE.warm hWm, by rw [hU]; exact hP⟩⟩ rfl hn hz hst (lv_room hW) hd hf) kk
theorem tc {x y : Int32} (h : x = y) (k : W p l e R s m args below meth c H locs cells slots Q (F0 m pc ls (.int y :: rest))) : W p l e R s m args below meth c H locs cells slots Q (F0 m pc ls (.int x :: rest)) := h ▸ k
theorem tcl {x y : Int64} (h : x = y) (k : W p l e R s m args below meth c H locs cells slots Q (F0 m pc ls (.long y :: rest))) : W p l e R s m args below meth c H locs cells slots Q (F0 m pc ls (.long x :: rest)) := h ▸ k
end RO
/-! contracts that change: the world ws, whose cells and new ones may change -/
abbrev chP (D : va_G) (K : Nat → ClassId) (av : List Value) (sz : Nat) (ws : va_W) : Array Value → State → Prop := va_Pc av (fun U => U.heap.size = sz ∧ ev D K U ∧ va_P D vwCl ws U.heap ∧ va_D (fun _ => True) ws)
theorem chP_blind {D : va_G} {K : Nat → ClassId} {av : List Value} {sz : Nat} {ws : va_W} : FrameBlind (chP D K av sz ws) := fun _ _ _ _ h => ⟨h.1, h.2.1, h.2.2.1.call, h.2.2.2⟩
abbrev chB {S : Type} (D : va_G) (A : Nat → Prop) (w1 : S → va_W) : S → State → Prop := fun u t => va_P D vwCl (w1 u) t.heap ∧ va_D A (w1 u)
/-- void -/
abbrev Cv {S : Type} (l : Launch) (D : va_G) (K : Nat → ClassId) (y : MethodName) (c : ByteArray) (n : Nat) (fr lo mc ms : Nat) (av : List Value) (ws : va_W) (post : S → Prop) (w1 : S → va_W) : Prop :=
  ∀ sz : Nat, Met l y (uw y c n none) ({ frames := fr, cells := mc, slots := ms, locals := lo }) (chP D K av sz ws) (va_Qv post (chB D (va_A ws sz) w1) (va_A ws sz)) mc ms (va_A ws sz)
/-- an int -/
abbrev Ci {S : Type} (l : Launch) (D : va_G) (K : Nat → ClassId) (y : MethodName) (c : ByteArray) (n : Nat) (ret : Option FieldType) (fr lo mc ms : Nat) (av : List Value) (ws : va_W) (post : Int32 → S → Prop) (w1 : S → va_W) : Prop :=
  ∀ sz : Nat, Met l y (uw y c n ret) ({ frames := fr, cells := mc, slots := ms, locals := lo }) (chP D K av sz ws) (va_Qi post (chB D (va_A ws sz) w1) (va_A ws sz)) mc ms (va_A ws sz)
section CH
variable {p : Program} {l : Launch} {e : Env} {R : Room} {s : State} {m : MethodId} {args : Array Value} {below : List Frame} {meth : Method} {c : Code} {H H0 : Heap} {locs : List Loc} {cells slots : Nat} {Q : State → Prop}
variable {cc : ByteArray} {nL : Nat} {own host : String} {idx maxL n fr lo mc ms pc : Nat} {y : MethodName} {bytes : ByteArray} {ret : Option FieldType} {D : va_G} {K : Nat → ClassId} {As rest st0 : List Value} {ws wc wr : va_W} {ls : Array Slot} {b : Nat} {A : Nat → Prop} {S : Type}
theorem ch_of {Qc : (Nat → Prop) → Array Value → State → Outcome → State → Prop} {av : List Value} {sz : Nat} (hy : plainName y.cls = true) (hlen : (lg_sl av).length ≤ maxL)
    (body : ∀ (p : Program) (e : Env) (s : State) (m : MethodId) (below : List Frame) (meth : Method) (c : Code) (A : Nat → Prop), CallFix p m c cc maxL s av.toArray wl y.cls → meth.sig.returnType = ret → meth.locks = false → meth.name = y.name → ev D K s → va_D A ws → (∀ q : Nat, s.heap.size ≤ q → A q) → ∀ (H : Heap) (locs : List Loc), va_P D vwCl ws H → va_S A s.heap H locs → ∀ ls : Array Slot, lv_has ls maxL (lv_args 0 av) →
      W p l e ({ frames := fr, cells := mc, slots := ms, locals := lo }) s m av.toArray below meth c H locs 0 0 (MQ below (Qc A) av.toArray s mc ms A) (F0 m 0 ls [])) : Met l y (uw y cc maxL ret) ({ frames := fr, cells := mc, slots := ms, locals := lo }) (chP D K av sz ws) (Qc (va_A ws sz)) mc ms (va_A ws sz) := by
  refine Met.ofW (cc := cc) (maxL := maxL) (ret := ret) hy rfl ?_
  intro p e s m args below meth c s₁ B hml hv
  obtain ⟨rfl, hsz, hE, hP, hD⟩ := hv
  have hts := atoms_spec (ws := uw y cc maxL ret) B.pre
  have hown : s.vm.findClass y.cls = some m.cls := findClass_of_methodNamed B.named
  have hin : meth.name = y.name := (name_of_methodNamed B.named B.method).1
  have hl := lv_entry av (n := maxL) hlen
  rw [lg_entry_eq]
  generalize (lg_sl av ++ List.replicate (maxL - (lg_sl av).length) Slot.unset).toArray = ls at hl ⊢
  exact body p e s m below meth c (va_A ws sz) ⟨B.exec, B.bytes, hml, hown, fun w h => hts w (List.mem_cons_of_mem _ h)⟩ B.returns B.notSynchronized hin hE hD.self (fun q h => Or.inr (by rw [← hsz]; exact h)) s.heap [] hP va_S.rf ls hl
theorem ch_vret {post : S → Prop} {w1 : S → va_W} (C : CallFix p m c cc nL s args wl own) (hr : meth.sig.returnType = none) (hk : meth.locks = false) (hS : va_S A s.heap H locs) (hd : decode cc pc = .ok (.return_, 1)) (u : S) (hp : post u) (hP : va_P D vwCl (w1 u) H) (hD : va_D A (w1 u)) :
    W p l e R s m args below meth c H locs cells slots (MQ below (va_Qv post (chB D A w1) A) args s cells slots A) (F0 m pc ls []) :=
  W.vret C.1 C.2.1 hr (fun t ht _ => ⟨⟨u, rfl, hp, by rw [ht]; exact hP, hD⟩, hS.F ht⟩) hS.2.2 hd hk
theorem ch_iret {v : Int32} {post : Int32 → S → Prop} {w1 : S → va_W} (C : CallFix p m c cc nL s args wl own) (hr : meth.sig.returnType = some .int) (hk : meth.locks = false) (hS : va_S A s.heap H locs) (hd : decode cc pc = .ok (.ireturn, 1)) (u : S) (hp : post v u) (hP : va_P D vwCl (w1 u) H) (hD : va_D A (w1 u)) :
    W p l e R s m args below meth c H locs cells slots (MQ below (va_Qi post (chB D A w1) A) args s cells slots A) (F0 m pc ls [.int v]) :=
  W.iret C.1 C.2.1 hr (fun t ht _ => ⟨⟨v, u, rfl, hp, by rw [ht]; exact hP, hD⟩, hS.F ht⟩) hS.2.2 hd hk
theorem ch_zret {v : Int32} {post : Int32 → S → Prop} {w1 : S → va_W} (C : CallFix p m c cc nL s args wl own) (hr : meth.sig.returnType = some .boolean) (hk : meth.locks = false) (hS : va_S A s.heap H locs) (hd : decode cc pc = .ok (.ireturn, 1)) (hn : narrow .boolean (.int v) = .int v) (u : S) (hp : post v u) (hP : va_P D vwCl (w1 u) H) (hD : va_D A (w1 u)) :
    W p l e R s m args below meth c H locs cells slots (MQ below (va_Qi post (chB D A w1) A) args s cells slots A) (F0 m pc ls [.int v]) :=
  W.zret C.1 C.2.1 hr hn (fun t ht _ => ⟨⟨v, u, rfl, hp, by rw [ht]; exact hP, hD⟩, hS.F ht⟩) hS.2.2 hd hk
/-- behind a void call: its world joined to the rest -/
theorem ch_usev {post : S → Prop} {w1 : S → va_W} {a : Array Value} (hr : va_Run p l e R s m args below meth c H locs cells slots mc ms (F0 m pc ls st0) rest (va_Qv post (chB D (va_A wc H.size) w1) (va_A wc H.size) a) (va_A wc H.size))
    (hP : va_P D vwCl ws H) (hD : va_D A ws) (hS : va_S A H0 H locs) (hA : ∀ q : Nat, H0.size ≤ q → A q) (isC isR : List Nat) (hC : isC.map (fun i => ws[i]?) = wc.map some) (hR : isR.map (fun i => ws[i]?) = wr.map some) (hn : va_nd isR = true) (hdis : ∀ i ∈ isR, i ∉ isC)
    (kk : ∀ (u : S) (H1 : Heap) (locs1 : List Loc), post u → va_P D vwCl (wr ++ w1 u) H1 → va_D A (wr ++ w1 u) → va_S A H0 H1 locs1 → W p l e R s m args below meth c H1 locs1 (cells + mc) (slots + ms) Q (F0 m (pc + 3) ls rest)) : W p l e R s m args below meth c H locs cells slots Q (F0 m pc ls st0) := by
  have hFc := va_free (wc := wc) hD hS hA isC hC
  refine va_callv hr hS (fun q _ h => hFc q h) hFc (fun u t H1 locs1 ht _ hw hB _ hk1 hS1 => ?_)
  obtain ⟨hP1, hD1⟩ := hB
  rw [ht] at hP1
  obtain ⟨hP2, hD2⟩ := va_join (wr := wr) (w1 := w1 u) hP hD isC isR hC hR hn hdis hk1 hFc hP1 hD1
  exact kk u H1 locs1 hw hP2 hD2 hS1
theorem ch_usei {post : Int32 → S → Prop} {w1 : S → va_W} {a : Array Value} (hr : va_Run p l e R s m args below meth c H locs cells slots mc ms (F0 m pc ls st0) rest (va_Qi post (chB D (va_A wc H.size) w1) (va_A wc H.size) a) (va_A wc H.size))
    (hP : va_P D vwCl ws H) (hD : va_D A ws) (hS : va_S A H0 H locs) (hA : ∀ q : Nat, H0.size ≤ q → A q) (isC isR : List Nat) (hC : isC.map (fun i => ws[i]?) = wc.map some) (hR : isR.map (fun i => ws[i]?) = wr.map some) (hn : va_nd isR = true) (hdis : ∀ i ∈ isR, i ∉ isC)
    (kk : ∀ (r : Int32) (u : S) (H1 : Heap) (locs1 : List Loc), post r u → va_P D vwCl (wr ++ w1 u) H1 → va_D A (wr ++ w1 u) → va_S A H0 H1 locs1 → W p l e R s m args below meth c H1 locs1 (cells + mc) (slots + ms) Q (F0 m (pc + 3) ls (.int r :: rest))) : W p l e R s m args below meth c H locs cells slots Q (F0 m pc ls st0) := by
  have hFc := va_free (wc := wc) hD hS hA isC hC
  refine va_calli hr hS (fun q _ h => hFc q h) hFc (fun r u t H1 locs1 ht _ hw hB _ hk1 hS1 => ?_)
  obtain ⟨hP1, hD1⟩ := hB
  rw [ht] at hP1
  obtain ⟨hP2, hD2⟩ := va_join (wr := wr) (w1 := w1 u) hP hD isC isR hC hR hn hdis hk1 hFc hP1 hD1
  exact kk r u H1 locs1 hw hP2 hD2 hS1
theorem ch_pre {av : List Value} (hE : ev D K s) (hP : va_P D vwCl wc H) (hD : va_D A wc) : ∀ U : State, U.heap = H → s.WarmedH U.vm → chP D K av H.size wc av.toArray U := fun U hU hWm => ⟨rfl, by rw [hU], hE.warm hWm, by rw [hU]; exact hP, hD.weaken (fun _ _ _ _ => trivial)⟩
/-- calls, void: by invokevirtual, invokespecial <init> (plain and of a nest mate) -/
theorem cv_V {post : S → Prop} {w1 : S → va_W} (C : CallFix p m c cc nL s args wl own) (hE : ev D K s) (k : okV own idx y bytes maxL none n) (hM : Cv l D K y bytes maxL fr lo mc ms (.ref b :: As) wc post w1)
    (hP : va_P D vwCl ws H) (hD : va_D A ws) (hS : va_S A H0 H locs) (hA : ∀ q : Nat, H0.size ≤ q → A q) (isC isR : List Nat) (hsP : isC.filterMap (fun i => ws[i]?) = wc) (hC : isC.map (fun i => ws[i]?) = wc.map some) (hR : isR.map (fun i => ws[i]?) = wr.map some) (hnC : va_nd isC = true) (hnR : va_nd isR = true) (hdis : ∀ i ∈ isR, i ∉ isC)
    (q0 ci : Nat) {fs : List Value} {T : u_T} {N : Nat} (he : wc[q0]? = some (b, .inr (ci, fs))) (hcl : vwCl[ci]? = some (y.cls, T, N))
    (hn : As.length = n) (hz : ls.size = nL) (hst : st0 = As.reverse ++ .ref b :: rest) (hW : (rest.map fun v => v.category).sum ≤ 8) (hRm : fr + 1 ≤ R.frames ∧ 8 + (maxL + 11) + lo ≤ R.locals) (hf : cells + mc ≤ R.cells ∧ slots + ms ≤ R.slots) (hd : decode cc pc = .ok (.invokevirtual idx, 3))
    (kk : ∀ (u : S) (H1 : Heap) (locs1 : List Loc), post u → va_P D vwCl (wr ++ w1 u) H1 → va_D A (wr ++ w1 u) → va_S A H0 H1 locs1 → W p l e R s m args below meth c H1 locs1 (cells + mc) (slots + ms) Q (F0 m (pc + 3) ls rest)) : W p l e R s m args below meth c H locs cells slots Q (F0 m pc ls st0) :=
  ch_usev (va_runV (C := y.cls) (As := As) (rest := rest) C (hM H.size) ⟨cb_of C k.1 rfl rfl hRm, C.2.2.2.2 _ k.2.1, C.2.2.2.2 _ k.2.2⟩ ⟨chP_blind, va_recv hE.1 (hP.sub isC hsP) hcl he, ch_pre hE (hP.sub isC hsP) (hD.sub isC hnC hC)⟩ rfl hn hz hst (lv_room hW) hd hf) hP hD hS hA isC isR hC hR hnR hdis kk
theorem ci_V {post : Int32 → S → Prop} {w1 : S → va_W} (C : CallFix p m c cc nL s args wl own) (hE : ev D K s) (k : okV own idx y bytes maxL ret n) (hM : Ci l D K y bytes maxL ret fr lo mc ms (.ref b :: As) wc post w1)
    (hP : va_P D vwCl ws H) (hD : va_D A ws) (hS : va_S A H0 H locs) (hA : ∀ q : Nat, H0.size ≤ q → A q) (isC isR : List Nat) (hsP : isC.filterMap (fun i => ws[i]?) = wc) (hC : isC.map (fun i => ws[i]?) = wc.map some) (hR : isR.map (fun i => ws[i]?) = wr.map some) (hnC : va_nd isC = true) (hnR : va_nd isR = true) (hdis : ∀ i ∈ isR, i ∉ isC)
    (q0 ci : Nat) {fs : List Value} {T : u_T} {N : Nat} (he : wc[q0]? = some (b, .inr (ci, fs))) (hcl : vwCl[ci]? = some (y.cls, T, N))
    (hn : As.length = n) (hz : ls.size = nL) (hst : st0 = As.reverse ++ .ref b :: rest) (hW : (rest.map fun v => v.category).sum ≤ 8) (hRm : fr + 1 ≤ R.frames ∧ 8 + (maxL + 11) + lo ≤ R.locals) (hf : cells + mc ≤ R.cells ∧ slots + ms ≤ R.slots) (hd : decode cc pc = .ok (.invokevirtual idx, 3))
    (kk : ∀ (r : Int32) (u : S) (H1 : Heap) (locs1 : List Loc), post r u → va_P D vwCl (wr ++ w1 u) H1 → va_D A (wr ++ w1 u) → va_S A H0 H1 locs1 → W p l e R s m args below meth c H1 locs1 (cells + mc) (slots + ms) Q (F0 m (pc + 3) ls (.int r :: rest))) : W p l e R s m args below meth c H locs cells slots Q (F0 m pc ls st0) :=
  ch_usei (va_runV (C := y.cls) (As := As) (rest := rest) C (hM H.size) ⟨cb_of C k.1 rfl rfl hRm, C.2.2.2.2 _ k.2.1, C.2.2.2.2 _ k.2.2⟩ ⟨chP_blind, va_recv hE.1 (hP.sub isC hsP) hcl he, ch_pre hE (hP.sub isC hsP) (hD.sub isC hnC hC)⟩ rfl hn hz hst (lv_room hW) hd hf) hP hD hS hA isC isR hC hR hnR hdis kk
theorem cv_S {post : S → Prop} {w1 : S → va_W} (C : CallFix p m c cc nL s args wl own) (hE : ev D K s) (k : okS own idx y bytes maxL none n) (hM : Cv l D K y bytes maxL fr lo mc ms As wc post w1)
    (hP : va_P D vwCl ws H) (hD : va_D A ws) (hS : va_S A H0 H locs) (hA : ∀ q : Nat, H0.size ≤ q → A q) (isC isR : List Nat) (hsP : isC.filterMap (fun i => ws[i]?) = wc) (hC : isC.map (fun i => ws[i]?) = wc.map some) (hR : isR.map (fun i => ws[i]?) = wr.map some) (hnC : va_nd isC = true) (hnR : va_nd isR = true) (hdis : ∀ i ∈ isR, i ∉ isC)
    (hn : As.length = n) (hz : ls.size = nL) (hst : st0 = As.reverse ++ rest) (hW : (rest.map fun v => v.category).sum ≤ 8) (hRm : fr + 1 ≤ R.frames ∧ 8 + (maxL + 11) + lo ≤ R.locals) (hf : cells + mc ≤ R.cells ∧ slots + ms ≤ R.slots) (hd : decode cc pc = .ok (.invokestatic idx, 3))
    (kk : ∀ (u : S) (H1 : Heap) (locs1 : List Loc), post u → va_P D vwCl (wr ++ w1 u) H1 → va_D A (wr ++ w1 u) → va_S A H0 H1 locs1 → W p l e R s m args below meth c H1 locs1 (cells + mc) (slots + ms) Q (F0 m (pc + 3) ls rest)) : W p l e R s m args below meth c H locs cells slots Q (F0 m pc ls st0) :=
  ch_usev (va_runS (As := As) (rest := rest) C (hM H.size) ⟨cb_of C k.1 rfl rfl hRm, C.2.2.2.2 _ k.2⟩ ⟨chP_blind, ch_pre hE (hP.sub isC hsP) (hD.sub isC hnC hC)⟩ rfl hn hz hst (lv_room hW) hd hf) hP hD hS hA isC isR hC hR hnR hdis kk
theorem cv_I {post : S → Prop} {w1 : S → va_W} (C : CallFix p m c cc nL s args wl own) (hE : ev D K s) (k : okI own idx y bytes maxL n) (hM : Cv l D K y bytes maxL fr lo mc ms (.ref b :: As) wc post w1)
    (hP : va_P D vwCl ws H) (hD : va_D A ws) (hS : va_S A H0 H locs) (hA : ∀ q : Nat, H0.size ≤ q → A q) (isC isR : List Nat) (hsP : isC.filterMap (fun i => ws[i]?) = wc) (hC : isC.map (fun i => ws[i]?) = wc.map some) (hR : isR.map (fun i => ws[i]?) = wr.map some) (hnC : va_nd isC = true) (hnR : va_nd isR = true) (hdis : ∀ i ∈ isR, i ∉ isC)
    (hn : As.length = n) (hz : ls.size = nL) (hst : st0 = As.reverse ++ .ref b :: rest) (hW : (rest.map fun v => v.category).sum ≤ 8) (hRm : fr + 1 ≤ R.frames ∧ 8 + (maxL + 11) + lo ≤ R.locals) (hf : cells + mc ≤ R.cells ∧ slots + ms ≤ R.slots) (hd : decode cc pc = .ok (.invokespecial idx, 3))
    (kk : ∀ (u : S) (H1 : Heap) (locs1 : List Loc), post u → va_P D vwCl (wr ++ w1 u) H1 → va_D A (wr ++ w1 u) → va_S A H0 H1 locs1 → W p l e R s m args below meth c H1 locs1 (cells + mc) (slots + ms) Q (F0 m (pc + 3) ls rest)) : W p l e R s m args below meth c H locs cells slots Q (F0 m pc ls st0) :=
  ch_usev (va_runI (As := As) (rest := rest) C (hM H.size) ⟨cb_of C k.1 rfl rfl hRm, k.2.1, C.2.2.2.2 _ k.2.2⟩ ⟨chP_blind, ch_pre hE (hP.sub isC hsP) (hD.sub isC hnC hC)⟩ rfl hn hz hst (lv_room hW) hd hf) hP hD hS hA isC isR hC hR hnR hdis kk
theorem cv_IN {post : S → Prop} {w1 : S → va_W} (C : CallFix p m c cc nL s args wl own) (hE : ev D K s) (k : okIN own idx y host bytes maxL n) (hM : Cv l D K y bytes maxL fr lo mc ms (.ref b :: As) wc post w1)
    (hP : va_P D vwCl ws H) (hD : va_D A ws) (hS : va_S A H0 H locs) (hA : ∀ q : Nat, H0.size ≤ q → A q) (isC isR : List Nat) (hsP : isC.filterMap (fun i => ws[i]?) = wc) (hC : isC.map (fun i => ws[i]?) = wc.map some) (hR : isR.map (fun i => ws[i]?) = wr.map some) (hnC : va_nd isC = true) (hnR : va_nd isR = true) (hdis : ∀ i ∈ isR, i ∉ isC)
    (hn : As.length = n) (hz : ls.size = nL) (hst : st0 = As.reverse ++ .ref b :: rest) (hW : (rest.map fun v => v.category).sum ≤ 8) (hRm : fr + 1 ≤ R.frames ∧ 8 + (maxL + 11) + lo ≤ R.locals) (hf : cells + mc ≤ R.cells ∧ slots + ms ≤ R.slots) (hd : decode cc pc = .ok (.invokespecial idx, 3))
    (kk : ∀ (u : S) (H1 : Heap) (locs1 : List Loc), post u → va_P D vwCl (wr ++ w1 u) H1 → va_D A (wr ++ w1 u) → va_S A H0 H1 locs1 → W p l e R s m args below meth c H1 locs1 (cells + mc) (slots + ms) Q (F0 m (pc + 3) ls rest)) : W p l e R s m args below meth c H locs cells slots Q (F0 m pc ls st0) :=
  ch_usev (va_runIN (host := host) (As := As) (rest := rest) C (hM H.size) ⟨cn_of C hE k.1 rfl rfl hRm, k.2.1, C.2.2.2.2 _ k.2.2⟩ ⟨chP_blind, ch_pre hE (hP.sub isC hsP) (hD.sub isC hnC hC)⟩ rfl hn hz hst (lv_room hW) hd hf) hP hD hS hA isC isR hC hR hnR hdis kk
/-- a new array of numbers: its class is the one that the environment names -/
theorem na (C : CallFix p m c cc nL s args wl own) (hE : ev D K s) {atype : ArrayType} {ty : FieldType} (hty : newarray.typeOf atype = ty) (harr : Cond.arrayClass ty ∈ wl) (t0 : Nat) {cK : ClassId} (ht : (tyL K)[t0]? = some (cK, ty)) (hRA : ∀ (U : State) (cA : ClassId), va_RA U cA ty → U.vm.findClass ("[" ++ ty.toString) = some cA)
    (hP : va_P D vwCl ws H) (hD : va_D A ws) (hS : va_S A H0 H locs) (hA : ∀ q : Nat, H0.size ≤ q → A q)
    {i : Int32} {N' : Nat} {a0 : vp_A} (ha : ∀ cA : ClassId, vp_cell cA a0 = arrV cA N' (fun _ => defaultValue ty)) (hn : ¬ i < 0) (hN : i.toNatClampNeg = N') (hbytes : N' * componentBytes ty ≤ 536870912) (hcells : cells + 1 ≤ R.cells) (hslots : slots + N' ≤ R.slots) (hdg : decode cc pc = .ok (.newarray atype, 2))
    (kk : ∀ (q : Nat) (H1 : Heap), va_P D vwCl (ws ++ [(q, .inl (cK, a0))]) H1 → va_D A (ws ++ [(q, .inl (cK, a0))]) → va_S A H0 H1 locs →
      W p l e R s m args below meth c H1 locs (cells + 1) (slots + N') Q (F0 m (pc + 2) ls (.ref q :: rest))) : W p l e R s m args below meth c H locs cells slots Q (F0 m pc ls (.int i :: rest)) := by
  refine va_newa C.1 C.2.1 (by rw [hty]; exact C.2.2.2.2 _ harr) hty hE.1 hP hD hS hA ha hn hN hbytes hcells hslots hdg (fun q cA H1 hK1 hP1 hD1 hS1 => ?_)
  have h1 := hRA s cK (hE.1.2 t0 _ ht).2
  have h2 := hRA s cA (hK1.2 (tyL K).length (cA, ty) (by rw [List.getElem?_append_right (Nat.le_refl _), Nat.sub_self]; rfl)).2
  obtain rfl : cK = cA := Option.some.inj (h1.symm.trans h2)
  exact kk q H1 hP1 hD1 hS1
/-- a new array of references -/
theorem nq (C : CallFix p m c cc nL s args wl own) (hE : ev D K s) {Cn : String} {index : Nat} (hcl : Cond.classLink own index Cn ∈ wl) (hover : va_AO Cn s) (t0 : Nat) {cK : ClassId} (ht : (tyL K)[t0]? = some (cK, .object Cn))
    (hP : va_P D vwCl ws H) (hD : va_D A ws) (hS : va_S A H0 H locs) (hA : ∀ q : Nat, H0.size ≤ q → A q)
    {i : Int32} {N' : Nat} (hn : ¬ i < 0) (hN : i.toNatClampNeg = N') (hbytes : N' * 4 ≤ 536870912) (hcells : cells + 1 ≤ R.cells) (hslots : slots + N' ≤ R.slots) (hdg : decode cc pc = .ok (.anewarray index, 3))
    (kk : ∀ (q : Nat) (H1 : Heap), va_P D vwCl (ws ++ [(q, .inl (cK, N', .inr (.inr (.inr (.inr (fun _ => none))))))]) H1 → va_D A (ws ++ [(q, .inl (cK, N', .inr (.inr (.inr (.inr (fun _ => none))))))]) → va_S A H0 H1 locs →
      W p l e R s m args below meth c H1 locs (cells + 1) (slots + N') Q (F0 m (pc + 3) ls (.ref q :: rest))) : W p l e R s m args below meth c H locs cells slots Q (F0 m pc ls (.int i :: rest)) := by
  refine va_newq C.1 C.2.1 C.2.2.2.1 (C.2.2.2.2 _ hcl) hover hE.1 hP hD hS hA hn hN hbytes hcells hslots hdg (fun q cA H1 hK1 hP1 hD1 hS1 => ?_)
  obtain ⟨_, _, _, _, _, h1⟩ := (hE.1.2 t0 _ ht).2
  obtain ⟨_, _, _, _, _, h2⟩ := (hK1.2 (tyL K).length (cA, .object Cn) (by rw [List.getElem?_append_right (Nat.le_refl _), Nat.sub_self]; rfl)).2
  obtain rfl : cK = cA := Option.some.inj (h1.symm.trans h2)
  exact kk q H1 hP1 hD1 hS1
end CH
/-! calls of methods that a class has from another (inherited, abstract, private) -/
abbrev okU (own : String) (idx : Nat) (owner : String) (x y : MethodName) (bytes : ByteArray) (maxL : Nat) (ret : Option FieldType) (n : Nat) : Prop := Cond.methodLink own idx x ∈ wl ∧ Cond.sameMethod x.cls owner x.name x.desc ∈ wl ∧ Cond.instanceMethod y ∈ wl ∧ Cond.initialized y.cls ∈ wl ∧ Cond.code y bytes maxL ret ∈ wl ∧ (owner ≠ "java/lang/invoke/MethodHandle" ∧ owner ≠ "java/lang/invoke/VarHandle" ∧ (parseMethodDescriptor x.desc).map (fun d => d.parameters.length) = some n)
section CU
variable {p : Program} {l : Launch} {e : Env} {R : Room} {s : State} {m : MethodId} {args : Array Value} {below : List Frame} {meth : Method} {c : Code} {H H0 : Heap} {locs : List Loc} {cells slots : Nat} {Q : State → Prop}
variable {cc : ByteArray} {nL : Nat} {own owner Cc : String} {idx maxL n fr lo mc ms pc : Nat} {x y : MethodName} {bytes : ByteArray} {ret : Option FieldType} {D : va_G} {K : Nat → ClassId} {As rest st0 : List Value} {ws wc wr : va_W} {ls : Array Slot} {b : Nat} {A : Nat → Prop} {S : Type} {rm : Room}
theorem cu_of (C : CallFix p m c cc nL s args wl own) (k : okU own idx owner x y bytes maxL ret n) (hdecl : va_Decl s ⟨owner, x.name, x.desc⟩) (hsel : (Cond.selects Cc x y).before args s = true) (hc : rm.cells = mc) (hs : rm.slots = ms) (hR : rm.frames + 1 ≤ R.frames ∧ 8 + (maxL + 11) + rm.locals ≤ R.locals) : va_CU R s args own Cc owner idx x y bytes maxL ret (uw y bytes maxL ret) rm mc ms n := by
  refine ⟨⟨hc, hs, hR.1, hR.2, pay_in C.2.2.2.2 (gd_uw k.2.2.2.2.1), List.mem_cons_self⟩, C.2.2.2.2 _ k.2.2.2.2.1, C.2.2.2.2 _ k.2.2.2.1, ⟨k.2.2.2.2.2.1, k.2.2.2.2.2.2.1⟩, fun sig h => ?_, C.2.2.2.2 _ k.1, C.2.2.2.2 _ k.2.1, hdecl, hsel, C.2.2.2.2 _ k.2.2.1⟩
  have h2 := k.2.2.2.2.2.2.2
  rw [h] at h2
  exact (Option.some.inj h2).symm
theorem decl_of (C : CallFix p m c cc nL s args wl own) (k : okU own idx owner x y bytes maxL ret n) (hyx : y = ⟨owner, x.name, x.desc⟩) : va_Decl s ⟨owner, x.name, x.desc⟩ := by
  rw [← hyx]; exact va_Decl.of (C.2.2.2.2 _ k.2.2.1) (C.2.2.2.2 _ k.2.2.2.2.1)
/-- a private method of a superclass: it is the one that is selected -/
theorem sel_priv {x2 y2 : MethodName} {n2 : Nat} (hy : y.cls ≠ "java/lang/invoke/MethodHandle" ∧ y.cls ≠ "java/lang/invoke/VarHandle") (hins : (Cond.instantiable Cc n2).before args s = true) (hpriv : (Cond.privateMethod y).before args s = true) (hinst : (Cond.instanceMethod y).before args s = true) (hot : (Cond.selects Cc x2 y2).before args s = true) (hi2 : (Cond.instanceMethod y2).before args s = true) (he : y2.cls = y.cls) (hx2 : x2 = y2) : (Cond.selects Cc y y).before args s = true := by
  subst hx2
  obtain ⟨c0, k0, hc, hk, -, -, -, -⟩ := Cond.instantiable_spec hins
  obtain ⟨mk, methM, hnamed, hmethM, -, -⟩ := Cond.instanceMethod_spec hinst
  obtain ⟨mk2, methM2, hnamed2, hmethM2, -, -⟩ := Cond.instanceMethod_spec hi2
  have hfound : s.methodFound? y.cls y.name y.desc = some mk := State.methodFound?_of_named hnamed hy
  have hfound2 : s.methodFound? x2.cls x2.name x2.desc = some mk2 := State.methodFound?_of_named hnamed2 (by rw [he]; exact hy)
  have hsel : selectMethod {} s.vm c0 mk = .method mk := selectMethod_private hmethM (Cond.privateMethod_at hpriv mk methM hnamed hmethM)
  have hcls : mk.cls = mk2.cls := by
    have h1 := findClass_of_methodNamed hnamed
    have h2 := findClass_of_methodNamed hnamed2
    rw [he] at h2
    exact Option.some.inj (h1.symm.trans h2)
  obtain ⟨c2, r2, m2, q1, q2, q3, q4, kP, hkP, hkPi⟩ := Cond.selects_spec hot
  cases hnamed2.symm.trans q3
  rw [← hcls] at hkP
  simp only [Cond.before, Cond.holds, Cond.value, hc, hfound, hnamed, hsel, hkP]
  simp; exact hkPi
theorem ro_U {post : Int32 → Prop} (C : CallFix p m c cc nL s args wl own) (hE : ev D K s) (k : okU own idx owner x y bytes maxL ret n) (hdecl : va_Decl s ⟨owner, x.name, x.desc⟩) (hM : Ro l D K y bytes maxL ret fr lo (.ref b :: As) wr post) (hP : va_P D vwCl wr H) (q0 ci : Nat) {fs : List Value} {T : u_T} {N : Nat} (he : wr[q0]? = some (b, .inr (ci, fs))) (hcl : vwCl[ci]? = some (Cc, T, N)) (hsel : (Cond.selects Cc x y).before args s = true)
    (hn : As.length = n) (hz : ls.size = nL) (hst : st0 = As.reverse ++ .ref b :: rest) (hW : (rest.map fun v => v.category).sum ≤ 8) (hR : fr + 1 ≤ R.frames ∧ 8 + (maxL + 11) + lo ≤ R.locals) (hf : cells ≤ R.cells ∧ slots ≤ R.slots) (hd : decode cc pc = .ok (.invokevirtual idx, 3))
    (kk : ∀ r : Int32, post r → W p l e R s m args below meth c H locs cells slots Q (F0 m (pc + 3) ls (.int r :: rest))) : W p l e R s m args below meth c H locs cells slots Q (F0 m pc ls st0) :=
  ro_use (va_runU (C := Cc) (As := As) (rest := rest) C hM (cu_of C k hdecl hsel rfl rfl hR) ⟨roP_blind, va_recv hE.1 hP hcl he, fun U hU hWm => ⟨rfl, hE.warm hWm, by rw [hU]; exact hP⟩⟩ rfl hn hz hst (lv_room hW) hd hf) kk
theorem cv_U {post : S → Prop} {w1 : S → va_W} (C : CallFix p m c cc nL s args wl own) (hE : ev D K s) (k : okU own idx owner x y bytes maxL none n) (hdecl : va_Decl s ⟨owner, x.name, x.desc⟩) (hM : Cv l D K y bytes maxL fr lo mc ms (.ref b :: As) wc post w1)
    (hP : va_P D vwCl ws H) (hD : va_D A ws) (hS : va_S A H0 H locs) (hA : ∀ q : Nat, H0.size ≤ q → A q) (isC isR : List Nat) (hsP : isC.filterMap (fun i => ws[i]?) = wc) (hC : isC.map (fun i => ws[i]?) = wc.map some) (hR : isR.map (fun i => ws[i]?) = wr.map some) (hnC : va_nd isC = true) (hnR : va_nd isR = true) (hdis : ∀ i ∈ isR, i ∉ isC)
    (q0 ci : Nat) {fs : List Value} {T : u_T} {N : Nat} (he : wc[q0]? = some (b, .inr (ci, fs))) (hcl : vwCl[ci]? = some (Cc, T, N)) (hsel : (Cond.selects Cc x y).before args s = true)
    (hn : As.length = n) (hz : ls.size = nL) (hst : st0 = As.reverse ++ .ref b :: rest) (hW : (rest.map fun v => v.category).sum ≤ 8) (hRm : fr + 1 ≤ R.frames ∧ 8 + (maxL + 11) + lo ≤ R.locals) (hf : cells + mc ≤ R.cells ∧ slots + ms ≤ R.slots) (hd : decode cc pc = .ok (.invokevirtual idx, 3))
    (kk : ∀ (u : S) (H1 : Heap) (locs1 : List Loc), post u → va_P D vwCl (wr ++ w1 u) H1 → va_D A (wr ++ w1 u) → va_S A H0 H1 locs1 → W p l e R s m args below meth c H1 locs1 (cells + mc) (slots + ms) Q (F0 m (pc + 3) ls rest)) : W p l e R s m args below meth c H locs cells slots Q (F0 m pc ls st0) :=
  ch_usev (va_runU (C := Cc) (As := As) (rest := rest) C (hM H.size) (cu_of C k hdecl hsel rfl rfl hRm) ⟨chP_blind, va_recv hE.1 (hP.sub isC hsP) hcl he, ch_pre hE (hP.sub isC hsP) (hD.sub isC hnC hC)⟩ rfl hn hz hst (lv_room hW) hd hf) hP hD hS hA isC isR hC hR hnR hdis kk
theorem ci_U {post : Int32 → S → Prop} {w1 : S → va_W} (C : CallFix p m c cc nL s args wl own) (hE : ev D K s) (k : okU own idx owner x y bytes maxL ret n) (hdecl : va_Decl s ⟨owner, x.name, x.desc⟩) (hM : Ci l D K y bytes maxL ret fr lo mc ms (.ref b :: As) wc post w1)
    (hP : va_P D vwCl ws H) (hD : va_D A ws) (hS : va_S A H0 H locs) (hA : ∀ q : Nat, H0.size ≤ q → A q) (isC isR : List Nat) (hsP : isC.filterMap (fun i => ws[i]?) = wc) (hC : isC.map (fun i => ws[i]?) = wc.map some) (hR : isR.map (fun i => ws[i]?) = wr.map some) (hnC : va_nd isC = true) (hnR : va_nd isR = true) (hdis : ∀ i ∈ isR, i ∉ isC)
    (q0 ci : Nat) {fs : List Value} {T : u_T} {N : Nat} (he : wc[q0]? = some (b, .inr (ci, fs))) (hcl : vwCl[ci]? = some (Cc, T, N)) (hsel : (Cond.selects Cc x y).before args s = true)
    (hn : As.length = n) (hz : ls.size = nL) (hst : st0 = As.reverse ++ .ref b :: rest) (hW : (rest.map fun v => v.category).sum ≤ 8) (hRm : fr + 1 ≤ R.frames ∧ 8 + (maxL + 11) + lo ≤ R.locals) (hf : cells + mc ≤ R.cells ∧ slots + ms ≤ R.slots) (hd : decode cc pc = .ok (.invokevirtual idx, 3))
    (kk : ∀ (r : Int32) (u : S) (H1 : Heap) (locs1 : List Loc), post r u → va_P D vwCl (wr ++ w1 u) H1 → va_D A (wr ++ w1 u) → va_S A H0 H1 locs1 → W p l e R s m args below meth c H1 locs1 (cells + mc) (slots + ms) Q (F0 m (pc + 3) ls (.int r :: rest))) : W p l e R s m args below meth c H locs cells slots Q (F0 m pc ls st0) :=
  ch_usei (va_runU (C := Cc) (As := As) (rest := rest) C (hM H.size) (cu_of C k hdecl hsel rfl rfl hRm) ⟨chP_blind, va_recv hE.1 (hP.sub isC hsP) hcl he, ch_pre hE (hP.sub isC hsP) (hD.sub isC hnC hC)⟩ rfl hn hz hst (lv_room hW) hd hf) hP hD hS hA isC isR hC hR hnR hdis kk
end CU
/-! numbers as integers -/
theorem eq_i {x y : Int32} (h : x = y) : x.toInt = y.toInt := by rw [h]
theorem ne_i {x y : Int32} (h : ¬ x = y) : ¬ x.toInt = y.toInt := fun q => h (Int32.toInt_inj.mp q)
theorem lt_i {x y : Int32} (h : x < y) : x.toInt < y.toInt := Int32.lt_iff_toInt_lt.mp h
theorem nlt_i {x y : Int32} (h : ¬ x < y) : y.toInt ≤ x.toInt := by rw [Int32.lt_iff_toInt_lt] at h; omega
theorem le_i {x y : Int32} (h : x ≤ y) : x.toInt ≤ y.toInt := Int32.le_iff_toInt_le.mp h
theorem nle_i {x y : Int32} (h : ¬ x ≤ y) : y.toInt < x.toInt := by rw [Int32.le_iff_toInt_le] at h; omega
theorem i32_lo (x : Int32) : -2147483648 ≤ x.toInt := by have := Int32.le_toInt x; omega
theorem i32_hi (x : Int32) : x.toInt ≤ 2147483647 := by have := Int32.toInt_lt x; omega
theorem add_i {a b v : Int32} (e : v = a + b) (h1 : -2147483648 ≤ a.toInt + b.toInt) (h2 : a.toInt + b.toInt ≤ 2147483647) : v.toInt = a.toInt + b.toInt := by
  rw [e, Int32.toInt_add]
  exact Int.bmod_eq_of_le (by omega) (by omega)
theorem sub_i {a b v : Int32} (e : v = a - b) (h1 : -2147483648 ≤ a.toInt - b.toInt) (h2 : a.toInt - b.toInt ≤ 2147483647) : v.toInt = a.toInt - b.toInt := by
  rw [e, Int32.toInt_sub]
  exact Int.bmod_eq_of_le (by omega) (by omega)
theorem mul_i {a b v : Int32} {x y : Int} (e : v = a * b) (ha : a.toInt = x) (hb : b.toInt = y) (h1 : -2147483648 ≤ x * y) (h2 : x * y ≤ 2147483647) : v.toInt = x * y := by
  rw [e, Int32.toInt_mul, ha, hb]
  exact Int.bmod_eq_of_le (by omega) (by omega)
theorem and_i2 {a b v : Int32} {n : Int} (e : v = a &&& b) (hb : b.toInt = n) (h0 : 0 ≤ n) : 0 ≤ v.toInt ∧ v.toInt ≤ n := by
  have hbn : b.toBitVec.toNat = n.toNat := by
    have h1 : b.toInt = b.toBitVec.toInt := rfl
    rw [h1, BitVec.toInt_eq_toNat_cond] at hb
    have h2 := b.toBitVec.isLt
    split at hb <;> omega
  have hv : v.toBitVec.toNat ≤ n.toNat := by
    rw [e]
    show (a.toBitVec &&& b.toBitVec).toNat ≤ _
    rw [BitVec.toNat_and, ← hbn]
    exact Nat.and_le_right
  have hn : n ≤ 2147483647 := by have := i32_hi b; omega
  have h3 : v.toInt = v.toBitVec.toInt := rfl
  rw [h3, BitVec.toInt_eq_toNat_cond]
  split <;> omega
theorem and_i1 {a b v : Int32} {n : Int} (e : v = a &&& b) (ha : a.toInt = n) (h0 : 0 ≤ n) : 0 ≤ v.toInt ∧ v.toInt ≤ n := and_i2 (e.trans (Int32.and_comm a b)) ha h0
theorem rem_i {a b v : Int32} {n : Int} (e : v = a - a / b * b) (hb : b.toInt = n) (h0 : 0 < n) : (-n < v.toInt ∧ v.toInt < n) ∧ (0 ≤ a.toInt → 0 ≤ v.toInt ∧ v.toInt = a.toInt % n) := by
  have h1 : v.toInt = a.toInt.tmod n := by rw [e, rem_toInt, hb]
  have h2 := tmod_bounds (a := a.toInt) h0
  rw [h1]
  refine ⟨h2, fun h => ?_⟩
  rw [Int.tmod_eq_emod_of_nonneg h]
  exact ⟨Int.emod_nonneg _ (by omega), rfl⟩
theorem div_i {a b v : Int32} {n : Int} (e : v = a / b) (hb : b.toInt = n) (h0 : 0 < n) : 0 ≤ a.toInt → v.toInt = a.toInt / n := by
  intro h
  rw [e, Int32.toInt_div, hb]
  have h1 : a.toInt.tdiv n = a.toInt / n := Int.tdiv_eq_ediv_of_nonneg h
  rw [h1]
  have h2 := i32_hi a
  have h3 : a.toInt / n ≤ a.toInt := Int.ediv_le_self _ h
  have h4 : 0 ≤ a.toInt / n := Int.ediv_nonneg h (by omega)
  exact Int.bmod_eq_of_le (by omega) (by omega)
theorem max_i {a b v : Int32} (e : v = if a < b then b else a) : a.toInt ≤ v.toInt ∧ b.toInt ≤ v.toInt ∧ (v.toInt = a.toInt ∨ v.toInt = b.toInt) := by
  by_cases h : a < b
  · rw [if_pos h] at e; subst e; have := lt_i h; omega
  · rw [if_neg h] at e; subst e; have := nlt_i h; omega
theorem min_i {a b v : Int32} (e : v = if b < a then b else a) : v.toInt ≤ a.toInt ∧ v.toInt ≤ b.toInt ∧ (v.toInt = a.toInt ∨ v.toInt = b.toInt) := by
  by_cases h : b < a
  · rw [if_pos h] at e; subst e; have := lt_i h; omega
  · rw [if_neg h] at e; subst e; have := nlt_i h; omega
theorem nz_i {y : Int32} (h : ¬ y.toInt = 0) : ¬ y = 0 := fun q => h (by rw [q]; rfl)
theorem nlt_z {x : Int32} (h : 0 ≤ x.toInt) : ¬ x < 0 := by rw [Int32.lt_iff_toInt_lt, Int32.toInt_zero]; omega
theorem cl_le {x y : Int32} {n : Nat} (hx : 0 ≤ x.toInt) (hy : 0 ≤ y.toInt) (h : x.toInt + y.toInt ≤ n) : x.toNatClampNeg + y.toNatClampNeg ≤ n := by
  have h1 : x.toNatClampNeg = x.toInt.toNat := rfl
  have h2 : y.toNatClampNeg = y.toInt.toNat := rfl
  rw [h1, h2]; omega
theorem in_c {i : Int32} {n : Nat} (h : (decide (0 ≤ i.toInt) && decide (i.toInt < n)) = true) : vp_in i n := by
  rw [Bool.and_eq_true, decide_eq_true_eq, decide_eq_true_eq] at h
  exact vp_in_iff.mpr h
section ST
variable {p : Program} {l : Launch} {e : Env} {R : Room} {s : State} {m : MethodId} {args : Array Value} {below : List Frame} {meth : Method} {c : Code} {H : Heap} {locs : List Loc} {cells slots : Nat} {Q : State → Prop}
variable {cc : ByteArray} {pc : Nat} {ls : Array Slot} {rest : List Value} {D : va_G} {cl : List vw_C} {A : Nat → Prop} {a : Nat} {tys : List (ClassId × FieldType)} {ws : va_W} {H0 : Heap} {nL : Nat} {own : String} {K : Nat → ClassId}
theorem sti (hexec : p.tables.exec = Jvm.exec) (hb : c.code = cc) (hK : va_K D cl tys s) (hP : va_P D cl ws H) (hD : va_D A ws) (hS : va_S A H0 H locs) (q0 t0 : Nat) {cA : ClassId} {n : Nat} {f : Nat → Int32} (ha : ws[q0]? = some (a, .inl (cA, n, .inl f))) (ht : tys[t0]? = some (cA, .int)) {i x : Int32} (hin : vp_in i n) (hdg : decode cc pc = .ok (.iastore, 1))
    (kk : ∀ (g : Nat → Int32), g = upd f i.toNatClampNeg x → ∀ (H1 : Heap) (locs1 : List Loc), va_P D cl (ws.set q0 (a, .inl (cA, n, .inl g))) H1 → va_D A (ws.set q0 (a, .inl (cA, n, .inl g))) → va_S A H0 H1 locs1 → W p l e R s m args below meth c H1 locs1 cells slots Q (F0 m (pc + 1) ls rest)) : W p l e R s m args below meth c H locs cells slots Q (F0 m pc ls (.int x :: .int i :: .ref a :: rest)) :=
  va_iast hexec hb hK hP hD hS q0 t0 ha ht hin hdg (fun H1 l1 => kk _ rfl H1 l1)
theorem stb (hexec : p.tables.exec = Jvm.exec) (hb : c.code = cc) (hK : va_K D cl tys s) (hP : va_P D cl ws H) (hD : va_D A ws) (hS : va_S A H0 H locs) (q0 t0 : Nat) {cA : ClassId} {n : Nat} {f : Nat → Int32} (ha : ws[q0]? = some (a, .inl (cA, n, .inl f))) (ht : tys[t0]? = some (cA, .byte)) {i x : Int32} (hin : vp_in i n) (hdg : decode cc pc = .ok (.bastore, 1))
    (kk : ∀ (g : Nat → Int32), g = upd f i.toNatClampNeg (vp_nar .byte x) → ∀ (H1 : Heap) (locs1 : List Loc), va_P D cl (ws.set q0 (a, .inl (cA, n, .inl g))) H1 → va_D A (ws.set q0 (a, .inl (cA, n, .inl g))) → va_S A H0 H1 locs1 → W p l e R s m args below meth c H1 locs1 cells slots Q (F0 m (pc + 1) ls rest)) : W p l e R s m args below meth c H locs cells slots Q (F0 m pc ls (.int x :: .int i :: .ref a :: rest)) :=
  va_bast hexec hb hK hP hD hS q0 t0 ha ht hin hdg (fun H1 l1 => kk _ rfl H1 l1)
theorem stz (hexec : p.tables.exec = Jvm.exec) (hb : c.code = cc) (hK : va_K D cl tys s) (hP : va_P D cl ws H) (hD : va_D A ws) (hS : va_S A H0 H locs) (q0 t0 : Nat) {cA : ClassId} {n : Nat} {f : Nat → Int32} (ha : ws[q0]? = some (a, .inl (cA, n, .inl f))) (ht : tys[t0]? = some (cA, .boolean)) {i x : Int32} (hin : vp_in i n) (hdg : decode cc pc = .ok (.bastore, 1))
    (kk : ∀ (g : Nat → Int32), g = upd f i.toNatClampNeg (vp_nar .boolean x) → ∀ (H1 : Heap) (locs1 : List Loc), va_P D cl (ws.set q0 (a, .inl (cA, n, .inl g))) H1 → va_D A (ws.set q0 (a, .inl (cA, n, .inl g))) → va_S A H0 H1 locs1 → W p l e R s m args below meth c H1 locs1 cells slots Q (F0 m (pc + 1) ls rest)) : W p l e R s m args below meth c H locs cells slots Q (F0 m pc ls (.int x :: .int i :: .ref a :: rest)) :=
  va_zast hexec hb hK hP hD hS q0 t0 ha ht hin hdg (fun H1 l1 => kk _ rfl H1 l1)
theorem stl (hexec : p.tables.exec = Jvm.exec) (hb : c.code = cc) (hK : va_K D cl tys s) (hP : va_P D cl ws H) (hD : va_D A ws) (hS : va_S A H0 H locs) (q0 t0 : Nat) {cA : ClassId} {n : Nat} {f : Nat → Int64} (ha : ws[q0]? = some (a, .inl (cA, n, .inr (.inl f)))) (ht : tys[t0]? = some (cA, .long)) {i : Int32} {x : Int64} (hin : vp_in i n) (hdg : decode cc pc = .ok (.lastore, 1))
    (kk : ∀ (g : Nat → Int64), g = vp_updL f i.toNatClampNeg x → ∀ (H1 : Heap) (locs1 : List Loc), va_P D cl (ws.set q0 (a, .inl (cA, n, .inr (.inl g)))) H1 → va_D A (ws.set q0 (a, .inl (cA, n, .inr (.inl g)))) → va_S A H0 H1 locs1 → W p l e R s m args below meth c H1 locs1 cells slots Q (F0 m (pc + 1) ls rest)) : W p l e R s m args below meth c H locs cells slots Q (F0 m pc ls (.long x :: .int i :: .ref a :: rest)) :=
  va_last hexec hb hK hP hD hS q0 t0 ha ht hin hdg (fun H1 l1 => kk _ rfl H1 l1)
theorem cpi (C : CallFix p m c cc nL s args wl own) (hE : ev D K s) (hz : ls.size = nL) {index : Nat} (k1 : Cond.methodLink own index arraycopyName ∈ wl) (k2 : Cond.native arraycopyName ∈ wl) (k3 : Cond.static arraycopyName ∈ wl) (k4 : Cond.initialized "java/lang/System" ∈ wl)
    (hP : va_P D vwCl ws H) (hD : va_D A ws) (hS : va_S A H0 H locs) (q0 q1 : Nat) {a0 : Nat} {n0 n1 : Nat} {f g : Nat → Int32} (ha0 : ws[q0]? = some (a0, .inl (K 1, n0, .inl f))) (ha1 : ws[q1]? = some (a, .inl (K 1, n1, .inl g)))
    {sp dp n : Int32} (h1 : ¬ sp < 0) (h2 : ¬ dp < 0) (h3 : ¬ n < 0) (h4 : sp.toNatClampNeg + n.toNatClampNeg ≤ n0) (h5 : dp.toNatClampNeg + n.toNatClampNeg ≤ n1)
    (hframes : 1 ≤ R.frames) (hlocals : (rest.map fun v => v.category).sum + (nativeFrameWords "java/lang/System" "arraycopy" 5 + 11) ≤ R.locals) (hdg : decode cc pc = .ok (.invokestatic index, 3))
    (kk : ∀ (g : Nat → Int32) (H1 : Heap) (locs1 : List Loc), va_P D vwCl (ws.set q1 (a, .inl (K 1, n1, .inl g))) H1 → va_D A (ws.set q1 (a, .inl (K 1, n1, .inl g))) → va_S A H0 H1 locs1 → W p l e R s m args below meth c H1 locs1 cells slots Q (F0 m (pc + 3) ls rest)) : W p l e R s m args below meth c H locs cells slots Q (F0 m pc ls (.int n :: .int dp :: .ref a :: .int sp :: .ref a0 :: rest)) :=
  va_copyi C.1 C.2.1 (C.2.2.1.trans hz.symm) C.2.2.2.1 (C.2.2.2.2 _ k1) (C.2.2.2.2 _ k2) (C.2.2.2.2 _ k3) (C.2.2.2.2 _ k4) hE.1 hP hD hS q0 q1 1 1 ha0 ha1 rfl rfl rfl h1 h2 h3 h4 h5 (fun _ _ => rfl) hframes hlocals hdg (fun H1 l1 => kk _ H1 l1)
theorem cpl (C : CallFix p m c cc nL s args wl own) (hE : ev D K s) (hz : ls.size = nL) {index : Nat} (k1 : Cond.methodLink own index arraycopyName ∈ wl) (k2 : Cond.native arraycopyName ∈ wl) (k3 : Cond.static arraycopyName ∈ wl) (k4 : Cond.initialized "java/lang/System" ∈ wl)
    (hP : va_P D vwCl ws H) (hD : va_D A ws) (hS : va_S A H0 H locs) (q0 q1 : Nat) {a0 : Nat} {n0 n1 : Nat} {f g : Nat → Int64} (ha0 : ws[q0]? = some (a0, .inl (K 2, n0, .inr (.inl f)))) (ha1 : ws[q1]? = some (a, .inl (K 2, n1, .inr (.inl g))))
    {sp dp n : Int32} (h1 : ¬ sp < 0) (h2 : ¬ dp < 0) (h3 : ¬ n < 0) (h4 : sp.toNatClampNeg + n.toNatClampNeg ≤ n0) (h5 : dp.toNatClampNeg + n.toNatClampNeg ≤ n1)
    (hframes : 1 ≤ R.frames) (hlocals : (rest.map fun v => v.category).sum + (nativeFrameWords "java/lang/System" "arraycopy" 5 + 11) ≤ R.locals) (hdg : decode cc pc = .ok (.invokestatic index, 3))
    (kk : ∀ (g : Nat → Int64) (H1 : Heap) (locs1 : List Loc), va_P D vwCl (ws.set q1 (a, .inl (K 2, n1, .inr (.inl g)))) H1 → va_D A (ws.set q1 (a, .inl (K 2, n1, .inr (.inl g)))) → va_S A H0 H1 locs1 → W p l e R s m args below meth c H1 locs1 cells slots Q (F0 m (pc + 3) ls rest)) : W p l e R s m args below meth c H locs cells slots Q (F0 m pc ls (.int n :: .int dp :: .ref a :: .int sp :: .ref a0 :: rest)) :=
  va_copyl C.1 C.2.1 (C.2.2.1.trans hz.symm) C.2.2.2.1 (C.2.2.2.2 _ k1) (C.2.2.2.2 _ k2) (C.2.2.2.2 _ k3) (C.2.2.2.2 _ k4) hE.1 hP hD hS q0 q1 2 2 ha0 ha1 rfl rfl rfl h1 h2 h3 h4 h5 (fun _ _ => rfl) hframes hlocals hdg (fun H1 l1 => kk _ H1 l1)
end ST
/-! contracts that only read and answer a long -/
def rol (post : Int64 → Prop) : Array Value → State → Outcome → State → Prop := fun _ st oc t => ∃ r : Int64, oc = .returned (some (.long r)) ∧ post r ∧ t.heap = st.heap
abbrev RoL (l : Launch) (D : va_G) (K : Nat → ClassId) (y : MethodName) (c : ByteArray) (n : Nat) (fr lo : Nat) (av : List Value) (wr : va_W) (post : Int64 → Prop) : Prop :=
  Met l y (uw y c n (some .long)) ({ frames := fr, cells := 0, slots := 0, locals := lo }) (roP D K av wr) (rol post) 0 0 nofree
section ROL
variable {p : Program} {l : Launch} {e : Env} {R : Room} {s : State} {m : MethodId} {args : Array Value} {below : List Frame} {meth : Method} {c : Code} {H : Heap} {locs : List Loc} {cells slots : Nat} {Q : State → Prop}
variable {cc : ByteArray} {nL : Nat} {own host : String} {idx maxL n fr lo pc : Nat} {y : MethodName} {bytes : ByteArray} {D : va_G} {K : Nat → ClassId} {As rest st0 : List Value} {wr : va_W} {post : Int64 → Prop} {ls : Array Slot} {b : Nat}
theorem rol_of {av : List Value} (hy : plainName y.cls = true) (hlen : (lg_sl av).length ≤ maxL)
    (body : ∀ (p : Program) (e : Env) (s : State) (m : MethodId) (below : List Frame) (meth : Method) (c : Code), CallFix p m c cc maxL s av.toArray wl y.cls → meth.sig.returnType = some .long → meth.locks = false → ev D K s → va_P D vwCl wr s.heap → ∀ ls : Array Slot, lv_has ls maxL (lv_args 0 av) →
      W p l e ({ frames := fr, cells := 0, slots := 0, locals := lo }) s m av.toArray below meth c s.heap [] 0 0 (MQ below (rol post) av.toArray s 0 0 nofree) (F0 m 0 ls [])) : RoL l D K y cc maxL fr lo av wr post := by
  refine Met.ofW (cc := cc) (maxL := maxL) (ret := some .long) hy rfl ?_
  intro p e s m args below meth c s₁ B hml hv
  obtain ⟨rfl, hE, hP⟩ := hv
  have hts := atoms_spec (ws := uw y cc maxL (some .long)) B.pre
  have hown : s.vm.findClass y.cls = some m.cls := findClass_of_methodNamed B.named
  have hl := lv_entry av (n := maxL) hlen
  rw [lg_entry_eq]
  generalize (lg_sl av ++ List.replicate (maxL - (lg_sl av).length) Slot.unset).toArray = ls at hl ⊢
  exact body p e s m below meth c ⟨B.exec, B.bytes, hml, hown, fun w h => hts w (List.mem_cons_of_mem _ h)⟩ B.returns B.notSynchronized hE hP ls hl
theorem ro_lret {v : Int64} (C : CallFix p m c cc nL s args wl own) (hr : meth.sig.returnType = some .long) (hk : meth.locks = false) (hd : decode cc pc = .ok (.lreturn, 1)) (hp : post v) :
    W p l e R s m args below meth c s.heap [] 0 0 (MQ below (rol post) args s 0 0 nofree) (F0 m pc ls [.long v]) :=
  W.lret C.1 C.2.1 hr (fun t ht _ => ⟨v, rfl, hp, ht⟩) (fun q h => absurd h List.not_mem_nil) hd hk
theorem rol_use {a : Array Value} (hr : va_Run p l e R s m args below meth c H locs cells slots 0 0 (F0 m pc ls st0) rest (rol post a) nofree)
    (kk : ∀ r : Int64, post r → W p l e R s m args below meth c H locs cells slots Q (F0 m (pc + 3) ls (.long r :: rest))) : W p l e R s m args below meth c H locs cells slots Q (F0 m pc ls st0) := by
  intro T hT X
  obtain ⟨v, st₀, t, T', L, h0, X', hL, e1, e2, ⟨r, hv, hp, hh⟩, st⟩ := hr T hT X
  cases hv
  obtain ⟨t2, a1, b1⟩ := kk r hp T' (by rw [e1, hh, h0]) (Stand.forget X' (fun q h => (hL q h).elim))
  exact ⟨t2, st t2 a1, b1⟩
theorem rol_V (C : CallFix p m c cc nL s args wl own) (hE : ev D K s) (k : okV own idx y bytes maxL (some .long) n) (hM : RoL l D K y bytes maxL fr lo (.ref b :: As) wr post) (hP : va_P D vwCl wr H) (q0 ci : Nat) {fs : List Value} {T : u_T} {N : Nat} (he : wr[q0]? = some (b, .inr (ci, fs))) (hcl : vwCl[ci]? = some (y.cls, T, N))
    (hn : As.length = n) (hz : ls.size = nL) (hst : st0 = As.reverse ++ .ref b :: rest) (hW : (rest.map fun v => v.category).sum ≤ 8) (hR : fr + 1 ≤ R.frames ∧ 8 + (maxL + 11) + lo ≤ R.locals) (hf : cells ≤ R.cells ∧ slots ≤ R.slots) (hd : decode cc pc = .ok (.invokevirtual idx, 3))
    (kk : ∀ r : Int64, post r → W p l e R s m args below meth c H locs cells slots Q (F0 m (pc + 3) ls (.long r :: rest))) : W p l e R s m args below meth c H locs cells slots Q (F0 m pc ls st0) :=
  rol_use (va_runV (C := y.cls) (As := As) (rest := rest) C hM ⟨cb_of C k.1 rfl rfl hR, C.2.2.2.2 _ k.2.1, C.2.2.2.2 _ k.2.2⟩ ⟨roP_blind, va_recv hE.1 hP hcl he, fun U hU hWm => ⟨rfl, hE.warm hWm, by rw [hU]; exact hP⟩⟩ rfl hn hz hst (lv_room hW) hd hf) kk
theorem rol_S (C : CallFix p m c cc nL s args wl own) (hE : ev D K s) (k : okS own idx y bytes maxL (some .long) n) (hM : RoL l D K y bytes maxL fr lo As wr post) (hP : va_P D vwCl wr H)
    (hn : As.length = n) (hz : ls.size = nL) (hst : st0 = As.reverse ++ rest) (hW : (rest.map fun v => v.category).sum ≤ 8) (hR : fr + 1 ≤ R.frames ∧ 8 + (maxL + 11) + lo ≤ R.locals) (hf : cells ≤ R.cells ∧ slots ≤ R.slots) (hd : decode cc pc = .ok (.invokestatic idx, 3))
    (kk : ∀ r : Int64, post r → W p l e R s m args below meth c H locs cells slots Q (F0 m (pc + 3) ls (.long r :: rest))) : W p l e R s m args below meth c H locs cells slots Q (F0 m pc ls st0) :=
  rol_use (va_runS (As := As) (rest := rest) C hM ⟨cb_of C k.1 rfl rfl hR, C.2.2.2.2 _ k.2⟩ ⟨roP_blind, fun U hU hWm => ⟨rfl, hE.warm hWm, by rw [hU]; exact hP⟩⟩ rfl hn hz hst (lv_room hW) hd hf) kk
end ROL
theorem in_lt {i : Int32} {n : Nat} (h : vp_in i n) : i.toNatClampNeg < n := Nat.not_le.mp (fun q => h (Or.inr q))
theorem sz_up {f g : Nat → Int32} {i x : Int32} (e : g = upd f i.toNatClampNeg x) (h : ∀ j, j < 4 → -1 ≤ (f j).toInt ∧ (f j).toInt ≤ 60) (h1 : -1 ≤ x.toInt) (h2 : x.toInt ≤ 60) : ∀ j, j < 4 → -1 ≤ (g j).toInt ∧ (g j).toInt ≤ 60 := by
  intro j hj
  rw [e]
  unfold upd
  by_cases q : j = i.toNatClampNeg
  · rw [if_pos q]; exact ⟨h1, h2⟩
  · rw [if_neg q]; exact h j hj
theorem b01 {v : Int32} (h : v.toInt = 0 ∨ v.toInt = 1) : v = 0 ∨ v = 1 := h.elim (fun q => Or.inl (Int32.toInt_inj.mp q)) (fun q => Or.inr (Int32.toInt_inj.mp q))
