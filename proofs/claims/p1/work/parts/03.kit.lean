/-! my own kit: uniform words, the environment, contracts that only read, contracts that change -/
abbrev uw (y : MethodName) (c : ByteArray) (n : Nat) (ret : Option FieldType) : List Cond := Cond.code y c n ret :: wl
theorem gd_all : ∀ w ∈ wl, ((w.onTables && w.keeps) = true ∨ ∃ ty, w = .arrayClass ty) := fun w h => good_of_word (List.mem_filter.mp h).2
theorem gd_uw {y : MethodName} {c : ByteArray} {n : Nat} {ret : Option FieldType} (h : Cond.code y c n ret ∈ wl) : GoodIn wl (uw y c n ret) := fun w hw => (List.mem_cons.mp hw).elim (fun e => e ▸ ⟨h, gd_all _ h⟩) (fun h2 => ⟨h2, gd_all _ h2⟩)
abbrev tyL (K : Nat → ClassId) : List (ClassId × FieldType) := [(K 0, .byte), (K 1, .int), (K 2, .long), (K 3, .boolean), (K 4, .object RX10), (K 5, .object RX2)]
def ev_n : List Cond := [.methodLinkNest RX11 11 yX4_init RX11, .methodLinkNest RX4 21 yX10_init RX11, .methodLinkNest RX11 18 yX10_init RX11, .methodLinkNest RX11 25 yX2_init RX11, .methodLinkNest RX11 32 yX9_init RX11, .methodLinkNest RX1 11 yX9_init RX11, .methodLinkNest RX11 60 yX3_init RX11, .methodLinkNest RX11 67 yX0_init RX11, .methodLinkNest RX0 11 yX10_init RX11, .methodLinkNest RX0 20 yX9_init RX11, .methodLinkNest RX11 74 yX8_init RX11, .methodLinkNest RX10 69 yX11_isWind RX11, .methodLinkNest RX5 28 yX11_isSlot RX11, .methodLinkNest RX3 65 yX11_lowest RX11]
def ev (D : va_G) (K : Nat → ClassId) (U : State) : Prop := va_K D vwCl (tyL K) U ∧ (∀ w ∈ ev_n, va_Nw w U) ∧ va_AO RX10 U ∧ va_AO RX2 U
theorem ev_nest {s U : State} (hW : s.WarmedH U.vm) (h : ∀ w ∈ ev_n, va_Nw w s) : ∀ w ∈ ev_n, va_Nw w U := by
  intro w hw
  have h1 := h w hw
  simp only [ev_n, List.mem_cons, List.not_mem_nil, or_false] at hw
  rcases hw with rfl | rfl | rfl | rfl | rfl | rfl | rfl | rfl | rfl | rfl | rfl | rfl | rfl | rfl <;> exact va_Nw.warmM hW h1
theorem ev.warm {D : va_G} {K : Nat → ClassId} {s U : State} (hW : s.WarmedH U.vm) (h : ev D K s) : ev D K U := ⟨va_K.moved hW.alike h.1, ev_nest hW h.2.1, va_AO.moved hW.alike h.2.2.1, va_AO.moved hW.alike h.2.2.2⟩
theorem ev_on : ∀ w ∈ ev_n, w.onTables = true := by
  intro w hw
  simp only [ev_n, List.mem_cons, List.not_mem_nil, or_false] at hw
  rcases hw with rfl | rfl | rfl | rfl | rfl | rfl | rfl | rfl | rfl | rfl | rfl | rfl | rfl | rfl <;> rfl
theorem ev.call {D : va_G} {K : Nat → ClassId} {U : State} {g : JFrame} {mk : MethodId} {a : Array Value} (h : ev D K U) : ev D K (U.calling g mk a) :=
  ⟨va_K.moved (u := U) (U := U.calling g mk a) (Vm.Alike.refl U.vm) h.1, fun w hw => va_Nw.same (ev_on w hw) (u := U) (U := U.calling g mk a) rfl (h.2.1 w hw), va_AO.moved (u := U) (U := U.calling g mk a) (Vm.Alike.refl U.vm) h.2.2.1, va_AO.moved (u := U) (U := U.calling g mk a) (Vm.Alike.refl U.vm) h.2.2.2⟩
/-! words of calls -/
abbrev okD (y : MethodName) (n : Nat) : Prop := y.cls ≠ "java/lang/invoke/MethodHandle" ∧ y.cls ≠ "java/lang/invoke/VarHandle" ∧ (parseMethodDescriptor y.desc).map (fun d => d.parameters.length) = some n
abbrev okC (own : String) (idx : Nat) (y : MethodName) (bytes : ByteArray) (maxL : Nat) (ret : Option FieldType) (n : Nat) : Prop := Cond.methodLink own idx y ∈ wl ∧ Cond.code y bytes maxL ret ∈ wl ∧ Cond.initialized y.cls ∈ wl ∧ okD y n
abbrev okV (own : String) (idx : Nat) (y : MethodName) (bytes : ByteArray) (maxL : Nat) (ret : Option FieldType) (n : Nat) : Prop := okC own idx y bytes maxL ret n ∧ Cond.instanceMethod y ∈ wl ∧ Cond.selects y.cls y y ∈ wl
abbrev okS (own : String) (idx : Nat) (y : MethodName) (bytes : ByteArray) (maxL : Nat) (ret : Option FieldType) (n : Nat) : Prop := okC own idx y bytes maxL ret n ∧ Cond.static y ∈ wl
abbrev okI (own : String) (idx : Nat) (y : MethodName) (bytes : ByteArray) (maxL : Nat) (n : Nat) : Prop := okC own idx y bytes maxL none n ∧ y.name = "<init>" ∧ Cond.instanceMethod y ∈ wl
abbrev okN (own : String) (idx : Nat) (y : MethodName) (host : String) (bytes : ByteArray) (maxL : Nat) (ret : Option FieldType) (n : Nat) : Prop := Cond.methodLinkNest own idx y host ∈ ev_n ∧ Cond.code y bytes maxL ret ∈ wl ∧ Cond.initialized y.cls ∈ wl ∧ okD y n
abbrev okSN (own : String) (idx : Nat) (y : MethodName) (host : String) (bytes : ByteArray) (maxL : Nat) (ret : Option FieldType) (n : Nat) : Prop := okN own idx y host bytes maxL ret n ∧ Cond.static y ∈ wl
abbrev okIN (own : String) (idx : Nat) (y : MethodName) (host : String) (bytes : ByteArray) (maxL : Nat) (n : Nat) : Prop := okN own idx y host bytes maxL none n ∧ y.name = "<init>" ∧ Cond.instanceMethod y ∈ wl
section CB
variable {p : Program} {l : Launch} {e : Env} {R : Room} {s : State} {m : MethodId} {args : Array Value} {below : List Frame} {meth : Method} {c : Code} {cc : ByteArray} {nL : Nat} {own host : String} {idx maxL n mc ms : Nat} {y : MethodName} {bytes : ByteArray} {ret : Option FieldType} {rm : Room}
theorem cb_of (C : CallFix p m c cc nL s args wl own) (k : okC own idx y bytes maxL ret n) (hc : rm.cells = mc) (hs : rm.slots = ms) (hR : rm.frames + 1 ≤ R.frames ∧ 8 + (maxL + 11) + rm.locals ≤ R.locals) : CallB R s args own idx y bytes maxL ret (uw y bytes maxL ret) rm mc ms n :=
  callB_of n C.2.2.2.2 (gd_uw k.2.1) rfl hc hs (C.2.2.2.2 _ k.2.2.1) (C.2.2.2.2 _ k.1) k.2.2.2 hR
theorem cn_of {D : va_G} {K : Nat → ClassId} (C : CallFix p m c cc nL s args wl own) (hE : ev D K s) (k : okN own idx y host bytes maxL ret n) (hc : rm.cells = mc) (hs : rm.slots = ms) (hR : rm.frames + 1 ≤ R.frames ∧ 8 + (maxL + 11) + rm.locals ≤ R.locals) : va_CN R s args own idx y host bytes maxL ret (uw y bytes maxL ret) rm mc ms n :=
  va_cnB n C.2.2.2.2 (gd_uw k.2.1) rfl hc hs (hE.2.1 _ k.1) (C.2.2.2.2 _ k.2.2.1) k.2.2.2 hR
end CB
/-! contracts that only read -/
def ro (post : Int32 → Prop) : Array Value → State → Outcome → State → Prop := fun _ st oc t => ∃ r : Int32, oc = .returned (some (.int r)) ∧ post r ∧ t.heap = st.heap
abbrev nofree : Addr → Prop := fun _ => False
abbrev roP (D : va_G) (K : Nat → ClassId) (av : List Value) (wr : va_W) : Array Value → State → Prop := va_Pc av (fun U => ev D K U ∧ va_P D vwCl wr U.heap)
theorem roP_blind {D : va_G} {K : Nat → ClassId} {av : List Value} {wr : va_W} : FrameBlind (roP D K av wr) := fun _ _ _ _ h => ⟨h.1, h.2.1.call, h.2.2⟩
abbrev Ro (l : Launch) (D : va_G) (K : Nat → ClassId) (y : MethodName) (c : ByteArray) (n : Nat) (ret : Option FieldType) (fr lo : Nat) (av : List Value) (wr : va_W) (post : Int32 → Prop) : Prop :=
  Met l y (uw y c n ret) ({ frames := fr, cells := 0, slots := 0, locals := lo }) (roP D K av wr) (ro post) 0 0 nofree
section RO
variable {p : Program} {l : Launch} {e : Env} {R : Room} {s : State} {m : MethodId} {args : Array Value} {below : List Frame} {meth : Method} {c : Code} {H : Heap} {locs : List Loc} {cells slots : Nat} {Q : State → Prop}
variable {cc : ByteArray} {nL : Nat} {own host : String} {idx maxL n fr lo pc : Nat} {y : MethodName} {bytes : ByteArray} {ret : Option FieldType} {D : va_G} {K : Nat → ClassId} {As rest st0 : List Value} {wr : va_W} {post : Int32 → Prop} {ls : Array Slot} {b : Nat}
theorem ro_of {av : List Value} (hy : plainName y.cls = true) (hlen : (lg_sl av).length ≤ maxL)
    (body : ∀ (p : Program) (e : Env) (s : State) (m : MethodId) (below : List Frame) (meth : Method) (c : Code), CallFix p m c cc maxL s av.toArray wl y.cls → meth.sig.returnType = ret → meth.locks = false → ev D K s → va_P D vwCl wr s.heap → ∀ ls : Array Slot, lv_has ls maxL (lv_args 0 av) →
      W p l e ({ frames := fr, cells := 0, slots := 0, locals := lo }) s m av.toArray below meth c s.heap [] 0 0 (MQ below (ro post) av.toArray s 0 0 nofree) (F0 m 0 ls [])) : Ro l D K y cc maxL ret fr lo av wr post := by
  refine Met.ofW (cc := cc) (maxL := maxL) (ret := ret) hy rfl ?_
  intro p e s m args below meth c s₁ B hml hv
  obtain ⟨rfl, hE, hP⟩ := hv
  have hts := atoms_spec (ws := uw y cc maxL ret) B.pre
  have hown : s.vm.findClass y.cls = some m.cls := findClass_of_methodNamed B.named
  have hl := lv_entry av (n := maxL) hlen
  rw [lg_entry_eq]
  generalize (lg_sl av ++ List.replicate (maxL - (lg_sl av).length) Slot.unset).toArray = ls at hl ⊢
  exact body p e s m below meth c ⟨B.exec, B.bytes, hml, hown, fun w h => hts w (List.mem_cons_of_mem _ h)⟩ B.returns B.notSynchronized hE hP ls hl
theorem ro_ret {v : Int32} (C : CallFix p m c cc nL s args wl own) (hr : meth.sig.returnType = some .int) (hk : meth.locks = false) (hd : decode cc pc = .ok (.ireturn, 1)) (hp : post v) :
    W p l e R s m args below meth c s.heap [] 0 0 (MQ below (ro post) args s 0 0 nofree) (F0 m pc ls [.int v]) :=
  W.iret C.1 C.2.1 hr (fun t ht _ => ⟨v, rfl, hp, ht⟩) (fun q h => absurd h List.not_mem_nil) hd hk
theorem ro_zret {v : Int32} (C : CallFix p m c cc nL s args wl own) (hr : meth.sig.returnType = some .boolean) (hk : meth.locks = false) (hd : decode cc pc = .ok (.ireturn, 1)) (hn : narrow .boolean (.int v) = .int v) (hp : post v) :
    W p l e R s m args below meth c s.heap [] 0 0 (MQ below (ro post) args s 0 0 nofree) (F0 m pc ls [.int v]) :=
  W.zret C.1 C.2.1 hr hn (fun t ht _ => ⟨v, rfl, hp, ht⟩) (fun q h => absurd h List.not_mem_nil) hd hk
theorem ro_use {a : Array Value} (hr : va_Run p l e R s m args below meth c H locs cells slots 0 0 (F0 m pc ls st0) rest (ro post a) nofree)
    (kk : ∀ r : Int32, post r → W p l e R s m args below meth c H locs cells slots Q (F0 m (pc + 3) ls (.int r :: rest))) : W p l e R s m args below meth c H locs cells slots Q (F0 m pc ls st0) := by
  intro T hT X
  obtain ⟨v, st₀, t, T', L, h0, X', hL, e1, e2, ⟨r, hv, hp, hh⟩, st⟩ := hr T hT X
  cases hv
  obtain ⟨t2, a1, b1⟩ := kk r hp T' (by rw [e1, hh, h0]) (Stand.forget X' (fun q h => (hL q h).elim))
  exact ⟨t2, st t2 a1, b1⟩
theorem ro_V (C : CallFix p m c cc nL s args wl own) (hE : ev D K s) (k : okV own idx y bytes maxL ret n) (hM : Ro l D K y bytes maxL ret fr lo (.ref b :: As) wr post) (hP : va_P D vwCl wr H) (q0 ci : Nat) {fs : List Value} {T : u_T} {N : Nat} (he : wr[q0]? = some (b, .inr (ci, fs))) (hcl : vwCl[ci]? = some (y.cls, T, N))
    (hn : As.length = n) (hz : ls.size = nL) (hst : st0 = As.reverse ++ .ref b :: rest) (hW : (rest.map fun v => v.category).sum ≤ 8) (hR : fr + 1 ≤ R.frames ∧ 8 + (maxL + 11) + lo ≤ R.locals) (hf : cells ≤ R.cells ∧ slots ≤ R.slots) (hd : decode cc pc = .ok (.invokevirtual idx, 3))
    (kk : ∀ r : Int32, post r → W p l e R s m args below meth c H locs cells slots Q (F0 m (pc + 3) ls (.int r :: rest))) : W p l e R s m args below meth c H locs cells slots Q (F0 m pc ls st0) :=
  ro_use (va_runV (C := y.cls) (As := As) (rest := rest) C hM ⟨cb_of C k.1 rfl rfl hR, C.2.2.2.2 _ k.2.1, C.2.2.2.2 _ k.2.2⟩ ⟨roP_blind, va_recv hE.1 hP hcl he, fun U hU hWm => ⟨rfl, hE.warm hWm, by rw [hU]; exact hP⟩⟩ rfl hn hz hst (lv_room hW) hd hf) kk
theorem ro_S (C : CallFix p m c cc nL s args wl own) (hE : ev D K s) (k : okS own idx y bytes maxL ret n) (hM : Ro l D K y bytes maxL ret fr lo As wr post) (hP : va_P D vwCl wr H)
    (hn : As.length = n) (hz : ls.size = nL) (hst : st0 = As.reverse ++ rest) (hW : (rest.map fun v => v.category).sum ≤ 8) (hR : fr + 1 ≤ R.frames ∧ 8 + (maxL + 11) + lo ≤ R.locals) (hf : cells ≤ R.cells ∧ slots ≤ R.slots) (hd : decode cc pc = .ok (.invokestatic idx, 3))
    (kk : ∀ r : Int32, post r → W p l e R s m args below meth c H locs cells slots Q (F0 m (pc + 3) ls (.int r :: rest))) : W p l e R s m args below meth c H locs cells slots Q (F0 m pc ls st0) :=
  ro_use (va_runS (As := As) (rest := rest) C hM ⟨cb_of C k.1 rfl rfl hR, C.2.2.2.2 _ k.2⟩ ⟨roP_blind, fun U hU hWm => ⟨rfl, hE.warm hWm, by rw [hU]; exact hP⟩⟩ rfl hn hz hst (lv_room hW) hd hf) kk
theorem ro_SN (C : CallFix p m c cc nL s args wl own) (hE : ev D K s) (k : okSN own idx y host bytes maxL ret n) (hM : Ro l D K y bytes maxL ret fr lo As wr post) (hP : va_P D vwCl wr H)
    (hn : As.length = n) (hz : ls.size = nL) (hst : st0 = As.reverse ++ rest) (hW : (rest.map fun v => v.category).sum ≤ 8) (hR : fr + 1 ≤ R.frames ∧ 8 + (maxL + 11) + lo ≤ R.locals) (hf : cells ≤ R.cells ∧ slots ≤ R.slots) (hd : decode cc pc = .ok (.invokestatic idx, 3))
    (kk : ∀ r : Int32, post r → W p l e R s m args below meth c H locs cells slots Q (F0 m (pc + 3) ls (.int r :: rest))) : W p l e R s m args below meth c H locs cells slots Q (F0 m pc ls st0) :=
  ro_use (va_runSN (host := host) (As := As) (rest := rest) C hM ⟨cn_of C hE k.1 rfl rfl hR, C.2.2.2.2 _ k.2, trivial⟩ ⟨roP_blind, fun U hU hWm => ⟨rfl, hE.warm hWm, by rw [hU]; exact hP⟩⟩ rfl hn hz hst (lv_room hW) hd hf) kk
theorem tc {x y : Int32} (h : x = y) (k : W p l e R s m args below meth c H locs cells slots Q (F0 m pc ls (.int y :: rest))) : W p l e R s m args below meth c H locs cells slots Q (F0 m pc ls (.int x :: rest)) := h ▸ k
theorem tcl {x y : Int64} (h : x = y) (k : W p l e R s m args below meth c H locs cells slots Q (F0 m pc ls (.long y :: rest))) : W p l e R s m args below meth c H locs cells slots Q (F0 m pc ls (.long x :: rest)) := h ▸ k
end RO
/-! contracts that change: the world ws, whose cells and new ones may change -/
abbrev chP (D : va_G) (K : Nat → ClassId) (av : List Value) (sz : Nat) (ws : va_W) : Array Value → State → Prop := va_Pc av (fun U => U.heap.size = sz ∧ ev D K U ∧ va_P D vwCl ws U.heap ∧ va_D (fun _ => True) ws)
theorem chP_blind {D : va_G} {K : Nat → ClassId} {av : List Value} {sz : Nat} {ws : va_W} : FrameBlind (chP D K av sz ws) := fun _ _ _ _ h => ⟨h.1, h.2.1, h.2.2.1.call, h.2.2.2⟩
abbrev chB {S : Type} (D : va_G) (A : Nat → Prop) (w1 : S → va_W) : S → State → Prop := fun u t => va_P D vwCl (w1 u) t.heap ∧ va_D A (w1 u)
/-- void -/
abbrev Cv {S : Type} (l : Launch) (D : va_G) (K : Nat → ClassId) (y : MethodName) (c : ByteArray) (n : Nat) (fr lo mc ms : Nat) (av : List Value) (ws : va_W) (post : S → Prop) (w1 : S → va_W) : Prop :=
  ∀ sz : Nat, Met l y (uw y c n none) ({ frames := fr, cells := mc, slots := ms, locals := lo }) (chP D K av sz ws) (va_Qv post (chB D (va_A ws sz) w1) (va_A ws sz)) mc ms (va_A ws sz)
/-- an int -/
abbrev Ci {S : Type} (l : Launch) (D : va_G) (K : Nat → ClassId) (y : MethodName) (c : ByteArray) (n : Nat) (ret : Option FieldType) (fr lo mc ms : Nat) (av : List Value) (ws : va_W) (post : Int32 → S → Prop) (w1 : S → va_W) : Prop :=
  ∀ sz : Nat, Met l y (uw y c n ret) ({ frames := fr, cells := mc, slots := ms, locals := lo }) (chP D K av sz ws) (va_Qi post (chB D (va_A ws sz) w1) (va_A ws sz)) mc ms (va_A ws sz)
section CH
variable {p : Program} {l : Launch} {e : Env} {R : Room} {s : State} {m : MethodId} {args : Array Value} {below : List Frame} {meth : Method} {c : Code} {H H0 : Heap} {locs : List Loc} {cells slots : Nat} {Q : State → Prop}
variable {cc : ByteArray} {nL : Nat} {own host : String} {idx maxL n fr lo mc ms pc : Nat} {y : MethodName} {bytes : ByteArray} {ret : Option FieldType} {D : va_G} {K : Nat → ClassId} {As rest st0 : List Value} {ws wc wr : va_W} {ls : Array Slot} {b : Nat} {A : Nat → Prop} {S : Type}
theorem ch_of {Qc : (Nat → Prop) → Array Value → State → Outcome → State → Prop} {av : List Value} {sz : Nat} (hy : plainName y.cls = true) (hlen : (lg_sl av).length ≤ maxL)
    (body : ∀ (p : Program) (e : Env) (s : State) (m : MethodId) (below : List Frame) (meth : Method) (c : Code) (A : Nat → Prop), CallFix p m c cc maxL s av.toArray wl y.cls → meth.sig.returnType = ret → meth.locks = false → meth.name = y.name → ev D K s → va_D A ws → (∀ q : Nat, s.heap.size ≤ q → A q) → ∀ (H : Heap) (locs : List Loc), va_P D vwCl ws H → va_S A s.heap H locs → ∀ ls : Array Slot, lv_has ls maxL (lv_args 0 av) →
      W p l e ({ frames := fr, cells := mc, slots := ms, locals := lo }) s m av.toArray below meth c H locs 0 0 (MQ below (Qc A) av.toArray s mc ms A) (F0 m 0 ls [])) : Met l y (uw y cc maxL ret) ({ frames := fr, cells := mc, slots := ms, locals := lo }) (chP D K av sz ws) (Qc (va_A ws sz)) mc ms (va_A ws sz) := by
  refine Met.ofW (cc := cc) (maxL := maxL) (ret := ret) hy rfl ?_
  intro p e s m args below meth c s₁ B hml hv
  obtain ⟨rfl, hsz, hE, hP, hD⟩ := hv
  have hts := atoms_spec (ws := uw y cc maxL ret) B.pre
  have hown : s.vm.findClass y.cls = some m.cls := findClass_of_methodNamed B.named
  have hin : meth.name = y.name := (name_of_methodNamed B.named B.method).1
  have hl := lv_entry av (n := maxL) hlen
  rw [lg_entry_eq]
  generalize (lg_sl av ++ List.replicate (maxL - (lg_sl av).length) Slot.unset).toArray = ls at hl ⊢
  exact body p e s m below meth c (va_A ws sz) ⟨B.exec, B.bytes, hml, hown, fun w h => hts w (List.mem_cons_of_mem _ h)⟩ B.returns B.notSynchronized hin hE hD.self (fun q h => Or.inr (by rw [← hsz]; exact h)) s.heap [] hP va_S.rf ls hl
theorem ch_vret {post : S → Prop} {w1 : S → va_W} (C : CallFix p m c cc nL s args wl own) (hr : meth.sig.returnType = none) (hk : meth.locks = false) (hS : va_S A s.heap H locs) (hd : decode cc pc = .ok (.return_, 1)) (u : S) (hp : post u) (hP : va_P D vwCl (w1 u) H) (hD : va_D A (w1 u)) :
    W p l e R s m args below meth c H locs cells slots (MQ below (va_Qv post (chB D A w1) A) args s cells slots A) (F0 m pc ls []) :=
  W.vret C.1 C.2.1 hr (fun t ht _ => ⟨⟨u, rfl, hp, by rw [ht]; exact hP, hD⟩, hS.F ht⟩) hS.2.2 hd hk
theorem ch_iret {v : Int32} {post : Int32 → S → Prop} {w1 : S → va_W} (C : CallFix p m c cc nL s args wl own) (hr : meth.sig.returnType = some .int) (hk : meth.locks = false) (hS : va_S A s.heap H locs) (hd : decode cc pc = .ok (.ireturn, 1)) (u : S) (hp : post v u) (hP : va_P D vwCl (w1 u) H) (hD : va_D A (w1 u)) :
    W p l e R s m args below meth c H locs cells slots (MQ below (va_Qi post (chB D A w1) A) args s cells slots A) (F0 m pc ls [.int v]) :=
  W.iret C.1 C.2.1 hr (fun t ht _ => ⟨⟨v, u, rfl, hp, by rw [ht]; exact hP, hD⟩, hS.F ht⟩) hS.2.2 hd hk
theorem ch_zret {v : Int32} {post : Int32 → S → Prop} {w1 : S → va_W} (C : CallFix p m c cc nL s args wl own) (hr : meth.sig.returnType = some .boolean) (hk : meth.locks = false) (hS : va_S A s.heap H locs) (hd : decode cc pc = .ok (.ireturn, 1)) (hn : narrow .boolean (.int v) = .int v) (u : S) (hp : post v u) (hP : va_P D vwCl (w1 u) H) (hD : va_D A (w1 u)) :
    W p l e R s m args below meth c H locs cells slots (MQ below (va_Qi post (chB D A w1) A) args s cells slots A) (F0 m pc ls [.int v]) :=
  W.zret C.1 C.2.1 hr hn (fun t ht _ => ⟨⟨v, u, rfl, hp, by rw [ht]; exact hP, hD⟩, hS.F ht⟩) hS.2.2 hd hk
/-- behind a void call: its world joined to the rest -/
theorem ch_usev {post : S → Prop} {w1 : S → va_W} {a : Array Value} (hr : va_Run p l e R s m args below meth c H locs cells slots mc ms (F0 m pc ls st0) rest (va_Qv post (chB D (va_A wc H.size) w1) (va_A wc H.size) a) (va_A wc H.size))
    (hP : va_P D vwCl ws H) (hD : va_D A ws) (hS : va_S A H0 H locs) (hA : ∀ q : Nat, H0.size ≤ q → A q) (isC isR : List Nat) (hC : isC.map (fun i => ws[i]?) = wc.map some) (hR : isR.map (fun i => ws[i]?) = wr.map some) (hn : va_nd isR = true) (hdis : ∀ i ∈ isR, i ∉ isC)
    (kk : ∀ (u : S) (H1 : Heap) (locs1 : List Loc), post u → va_P D vwCl (wr ++ w1 u) H1 → va_D A (wr ++ w1 u) → va_S A H0 H1 locs1 → W p l e R s m args below meth c H1 locs1 (cells + mc) (slots + ms) Q (F0 m (pc + 3) ls rest)) : W p l e R s m args below meth c H locs cells slots Q (F0 m pc ls st0) := by
  have hFc := va_free (wc := wc) hD hS hA isC hC
  refine va_callv hr hS (fun q _ h => hFc q h) hFc (fun u t H1 locs1 ht _ hw hB _ hk1 hS1 => ?_)
  obtain ⟨hP1, hD1⟩ := hB
  rw [ht] at hP1
  obtain ⟨hP2, hD2⟩ := va_join (wr := wr) (w1 := w1 u) hP hD isC isR hC hR hn hdis hk1 hFc hP1 hD1
  exact kk u H1 locs1 hw hP2 hD2 hS1
theorem ch_usei {post : Int32 → S → Prop} {w1 : S → va_W} {a : Array Value} (hr : va_Run p l e R s m args below meth c H locs cells slots mc ms (F0 m pc ls st0) rest (va_Qi post (chB D (va_A wc H.size) w1) (va_A wc H.size) a) (va_A wc H.size))
    (hP : va_P D vwCl ws H) (hD : va_D A ws) (hS : va_S A H0 H locs) (hA : ∀ q : Nat, H0.size ≤ q → A q) (isC isR : List Nat) (hC : isC.map (fun i => ws[i]?) = wc.map some) (hR : isR.map (fun i => ws[i]?) = wr.map some) (hn : va_nd isR = true) (hdis : ∀ i ∈ isR, i ∉ isC)
    (kk : ∀ (r : Int32) (u : S) (H1 : Heap) (locs1 : List Loc), post r u → va_P D vwCl (wr ++ w1 u) H1 → va_D A (wr ++ w1 u) → va_S A H0 H1 locs1 → W p l e R s m args below meth c H1 locs1 (cells + mc) (slots + ms) Q (F0 m (pc + 3) ls (.int r :: rest))) : W p l e R s m args below meth c H locs cells slots Q (F0 m pc ls st0) := by
  have hFc := va_free (wc := wc) hD hS hA isC hC
  refine va_calli hr hS (fun q _ h => hFc q h) hFc (fun r u t H1 locs1 ht _ hw hB _ hk1 hS1 => ?_)
  obtain ⟨hP1, hD1⟩ := hB
  rw [ht] at hP1
  obtain ⟨hP2, hD2⟩ := va_join (wr := wr) (w1 := w1 u) hP hD isC isR hC hR hn hdis hk1 hFc hP1 hD1
  exact kk r u H1 locs1 hw hP2 hD2 hS1
theorem ch_pre {av : List Value} (hE : ev D K s) (hP : va_P D vwCl wc H) (hD : va_D A wc) : ∀ U : State, U.heap = H → s.WarmedH U.vm → chP D K av H.size wc av.toArray U := fun U hU hWm => ⟨rfl, by rw [hU], hE.warm hWm, by rw [hU]; exact hP, hD.weaken (fun _ _ _ _ => trivial)⟩
/-- calls, void: by invokevirtual, invokespecial <init> (plain and of a nest mate) -/
theorem cv_V {post : S → Prop} {w1 : S → va_W} (C : CallFix p m c cc nL s args wl own) (hE : ev D K s) (k : okV own idx y bytes maxL none n) (hM : Cv l D K y bytes maxL fr lo mc ms (.ref b :: As) wc post w1)
    (hP : va_P D vwCl ws H) (hD : va_D A ws) (hS : va_S A H0 H locs) (hA : ∀ q : Nat, H0.size ≤ q → A q) (isC isR : List Nat) (hsP : isC.filterMap (fun i => ws[i]?) = wc) (hC : isC.map (fun i => ws[i]?) = wc.map some) (hR : isR.map (fun i => ws[i]?) = wr.map some) (hnC : va_nd isC = true) (hnR : va_nd isR = true) (hdis : ∀ i ∈ isR, i ∉ isC)
    (q0 ci : Nat) {fs : List Value} {T : u_T} {N : Nat} (he : wc[q0]? = some (b, .inr (ci, fs))) (hcl : vwCl[ci]? = some (y.cls, T, N))
    (hn : As.length = n) (hz : ls.size = nL) (hst : st0 = As.reverse ++ .ref b :: rest) (hW : (rest.map fun v => v.category).sum ≤ 8) (hRm : fr + 1 ≤ R.frames ∧ 8 + (maxL + 11) + lo ≤ R.locals) (hf : cells + mc ≤ R.cells ∧ slots + ms ≤ R.slots) (hd : decode cc pc = .ok (.invokevirtual idx, 3))
    (kk : ∀ (u : S) (H1 : Heap) (locs1 : List Loc), post u → va_P D vwCl (wr ++ w1 u) H1 → va_D A (wr ++ w1 u) → va_S A H0 H1 locs1 → W p l e R s m args below meth c H1 locs1 (cells + mc) (slots + ms) Q (F0 m (pc + 3) ls rest)) : W p l e R s m args below meth c H locs cells slots Q (F0 m pc ls st0) :=
  ch_usev (va_runV (C := y.cls) (As := As) (rest := rest) C (hM H.size) ⟨cb_of C k.1 rfl rfl hRm, C.2.2.2.2 _ k.2.1, C.2.2.2.2 _ k.2.2⟩ ⟨chP_blind, va_recv hE.1 (hP.sub isC hsP) hcl he, ch_pre hE (hP.sub isC hsP) (hD.sub isC hnC hC)⟩ rfl hn hz hst (lv_room hW) hd hf) hP hD hS hA isC isR hC hR hnR hdis kk
theorem ci_V {post : Int32 → S → Prop} {w1 : S → va_W} (C : CallFix p m c cc nL s args wl own) (hE : ev D K s) (k : okV own idx y bytes maxL ret n) (hM : Ci l D K y bytes maxL ret fr lo mc ms (.ref b :: As) wc post w1)
    (hP : va_P D vwCl ws H) (hD : va_D A ws) (hS : va_S A H0 H locs) (hA : ∀ q : Nat, H0.size ≤ q → A q) (isC isR : List Nat) (hsP : isC.filterMap (fun i => ws[i]?) = wc) (hC : isC.map (fun i => ws[i]?) = wc.map some) (hR : isR.map (fun i => ws[i]?) = wr.map some) (hnC : va_nd isC = true) (hnR : va_nd isR = true) (hdis : ∀ i ∈ isR, i ∉ isC)
    (q0 ci : Nat) {fs : List Value} {T : u_T} {N : Nat} (he : wc[q0]? = some (b, .inr (ci, fs))) (hcl : vwCl[ci]? = some (y.cls, T, N))
    (hn : As.length = n) (hz : ls.size = nL) (hst : st0 = As.reverse ++ .ref b :: rest) (hW : (rest.map fun v => v.category).sum ≤ 8) (hRm : fr + 1 ≤ R.frames ∧ 8 + (maxL + 11) + lo ≤ R.locals) (hf : cells + mc ≤ R.cells ∧ slots + ms ≤ R.slots) (hd : decode cc pc = .ok (.invokevirtual idx, 3))
    (kk : ∀ (r : Int32) (u : S) (H1 : Heap) (locs1 : List Loc), post r u → va_P D vwCl (wr ++ w1 u) H1 → va_D A (wr ++ w1 u) → va_S A H0 H1 locs1 → W p l e R s m args below meth c H1 locs1 (cells + mc) (slots + ms) Q (F0 m (pc + 3) ls (.int r :: rest))) : W p l e R s m args below meth c H locs cells slots Q (F0 m pc ls st0) :=
  ch_usei (va_runV (C := y.cls) (As := As) (rest := rest) C (hM H.size) ⟨cb_of C k.1 rfl rfl hRm, C.2.2.2.2 _ k.2.1, C.2.2.2.2 _ k.2.2⟩ ⟨chP_blind, va_recv hE.1 (hP.sub isC hsP) hcl he, ch_pre hE (hP.sub isC hsP) (hD.sub isC hnC hC)⟩ rfl hn hz hst (lv_room hW) hd hf) hP hD hS hA isC isR hC hR hnR hdis kk
theorem cv_S {post : S → Prop} {w1 : S → va_W} (C : CallFix p m c cc nL s args wl own) (hE : ev D K s) (k : okS own idx y bytes maxL none n) (hM : Cv l D K y bytes maxL fr lo mc ms As wc post w1)
    (hP : va_P D vwCl ws H) (hD : va_D A ws) (hS : va_S A H0 H locs) (hA : ∀ q : Nat, H0.size ≤ q → A q) (isC isR : List Nat) (hsP : isC.filterMap (fun i => ws[i]?) = wc) (hC : isC.map (fun i => ws[i]?) = wc.map some) (hR : isR.map (fun i => ws[i]?) = wr.map some) (hnC : va_nd isC = true) (hnR : va_nd isR = true) (hdis : ∀ i ∈ isR, i ∉ isC)
    (hn : As.length = n) (hz : ls.size = nL) (hst : st0 = As.reverse ++ rest) (hW : (rest.map fun v => v.category).sum ≤ 8) (hRm : fr + 1 ≤ R.frames ∧ 8 + (maxL + 11) + lo ≤ R.locals) (hf : cells + mc ≤ R.cells ∧ slots + ms ≤ R.slots) (hd : decode cc pc = .ok (.invokestatic idx, 3))
    (kk : ∀ (u : S) (H1 : Heap) (locs1 : List Loc), post u → va_P D vwCl (wr ++ w1 u) H1 → va_D A (wr ++ w1 u) → va_S A H0 H1 locs1 → W p l e R s m args below meth c H1 locs1 (cells + mc) (slots + ms) Q (F0 m (pc + 3) ls rest)) : W p l e R s m args below meth c H locs cells slots Q (F0 m pc ls st0) :=
  ch_usev (va_runS (As := As) (rest := rest) C (hM H.size) ⟨cb_of C k.1 rfl rfl hRm, C.2.2.2.2 _ k.2⟩ ⟨chP_blind, ch_pre hE (hP.sub isC hsP) (hD.sub isC hnC hC)⟩ rfl hn hz hst (lv_room hW) hd hf) hP hD hS hA isC isR hC hR hnR hdis kk
theorem cv_I {post : S → Prop} {w1 : S → va_W} (C : CallFix p m c cc nL s args wl own) (hE : ev D K s) (k : okI own idx y bytes maxL n) (hM : Cv l D K y bytes maxL fr lo mc ms (.ref b :: As) wc post w1)
    (hP : va_P D vwCl ws H) (hD : va_D A ws) (hS : va_S A H0 H locs) (hA : ∀ q : Nat, H0.size ≤ q → A q) (isC isR : List Nat) (hsP : isC.filterMap (fun i => ws[i]?) = wc) (hC : isC.map (fun i => ws[i]?) = wc.map some) (hR : isR.map (fun i => ws[i]?) = wr.map some) (hnC : va_nd isC = true) (hnR : va_nd isR = true) (hdis : ∀ i ∈ isR, i ∉ isC)
    (hn : As.length = n) (hz : ls.size = nL) (hst : st0 = As.reverse ++ .ref b :: rest) (hW : (rest.map fun v => v.category).sum ≤ 8) (hRm : fr + 1 ≤ R.frames ∧ 8 + (maxL + 11) + lo ≤ R.locals) (hf : cells + mc ≤ R.cells ∧ slots + ms ≤ R.slots) (hd : decode cc pc = .ok (.invokespecial idx, 3))
    (kk : ∀ (u : S) (H1 : Heap) (locs1 : List Loc), post u → va_P D vwCl (wr ++ w1 u) H1 → va_D A (wr ++ w1 u) → va_S A H0 H1 locs1 → W p l e R s m args below meth c H1 locs1 (cells + mc) (slots + ms) Q (F0 m (pc + 3) ls rest)) : W p l e R s m args below meth c H locs cells slots Q (F0 m pc ls st0) :=
  ch_usev (va_runI (As := As) (rest := rest) C (hM H.size) ⟨cb_of C k.1 rfl rfl hRm, k.2.1, C.2.2.2.2 _ k.2.2⟩ ⟨chP_blind, ch_pre hE (hP.sub isC hsP) (hD.sub isC hnC hC)⟩ rfl hn hz hst (lv_room hW) hd hf) hP hD hS hA isC isR hC hR hnR hdis kk
theorem cv_IN {post : S → Prop} {w1 : S → va_W} (C : CallFix p m c cc nL s args wl own) (hE : ev D K s) (k : okIN own idx y host bytes maxL n) (hM : Cv l D K y bytes maxL fr lo mc ms (.ref b :: As) wc post w1)
    (hP : va_P D vwCl ws H) (hD : va_D A ws) (hS : va_S A H0 H locs) (hA : ∀ q : Nat, H0.size ≤ q → A q) (isC isR : List Nat) (hsP : isC.filterMap (fun i => ws[i]?) = wc) (hC : isC.map (fun i => ws[i]?) = wc.map some) (hR : isR.map (fun i => ws[i]?) = wr.map some) (hnC : va_nd isC = true) (hnR : va_nd isR = true) (hdis : ∀ i ∈ isR, i ∉ isC)
    (hn : As.length = n) (hz : ls.size = nL) (hst : st0 = As.reverse ++ .ref b :: rest) (hW : (rest.map fun v => v.category).sum ≤ 8) (hRm : fr + 1 ≤ R.frames ∧ 8 + (maxL + 11) + lo ≤ R.locals) (hf : cells + mc ≤ R.cells ∧ slots + ms ≤ R.slots) (hd : decode cc pc = .ok (.invokespecial idx, 3))
    (kk : ∀ (u : S) (H1 : Heap) (locs1 : List Loc), post u → va_P D vwCl (wr ++ w1 u) H1 → va_D A (wr ++ w1 u) → va_S A H0 H1 locs1 → W p l e R s m args below meth c H1 locs1 (cells + mc) (slots + ms) Q (F0 m (pc + 3) ls rest)) : W p l e R s m args below meth c H locs cells slots Q (F0 m pc ls st0) :=
  ch_usev (va_runIN (host := host) (As := As) (rest := rest) C (hM H.size) ⟨cn_of C hE k.1 rfl rfl hRm, k.2.1, C.2.2.2.2 _ k.2.2⟩ ⟨chP_blind, ch_pre hE (hP.sub isC hsP) (hD.sub isC hnC hC)⟩ rfl hn hz hst (lv_room hW) hd hf) hP hD hS hA isC isR hC hR hnR hdis kk
/-- a new array of numbers: its class is the one that the environment names -/
theorem na (C : CallFix p m c cc nL s args wl own) (hE : ev D K s) {atype : ArrayType} {ty : FieldType} (hty : newarray.typeOf atype = ty) (harr : Cond.arrayClass ty ∈ wl) (t0 : Nat) {cK : ClassId} (ht : (tyL K)[t0]? = some (cK, ty)) (hRA : ∀ (U : State) (cA : ClassId), va_RA U cA ty → U.vm.findClass ("[" ++ ty.toString) = some cA)
    (hP : va_P D vwCl ws H) (hD : va_D A ws) (hS : va_S A H0 H locs) (hA : ∀ q : Nat, H0.size ≤ q → A q)
    {i : Int32} {N' : Nat} {a0 : vp_A} (ha : ∀ cA : ClassId, vp_cell cA a0 = arrV cA N' (fun _ => defaultValue ty)) (hn : ¬ i < 0) (hN : i.toNatClampNeg = N') (hbytes : N' * componentBytes ty ≤ 536870912) (hcells : cells + 1 ≤ R.cells) (hslots : slots + N' ≤ R.slots) (hdg : decode cc pc = .ok (.newarray atype, 2))
    (kk : ∀ (q : Nat) (H1 : Heap), va_P D vwCl (ws ++ [(q, .inl (cK, a0))]) H1 → va_D A (ws ++ [(q, .inl (cK, a0))]) → va_S A H0 H1 locs →
      W p l e R s m args below meth c H1 locs (cells + 1) (slots + N') Q (F0 m (pc + 2) ls (.ref q :: rest))) : W p l e R s m args below meth c H locs cells slots Q (F0 m pc ls (.int i :: rest)) := by
  refine va_newa C.1 C.2.1 (by rw [hty]; exact C.2.2.2.2 _ harr) hty hE.1 hP hD hS hA ha hn hN hbytes hcells hslots hdg (fun q cA H1 hK1 hP1 hD1 hS1 => ?_)
  have h1 := hRA s cK (hE.1.2 t0 _ ht).2
  have h2 := hRA s cA (hK1.2 (tyL K).length (cA, ty) (by rw [List.getElem?_append_right (Nat.le_refl _), Nat.sub_self]; rfl)).2
  obtain rfl : cK = cA := Option.some.inj (h1.symm.trans h2)
  exact kk q H1 hP1 hD1 hS1
/-- a new array of references -/
theorem nq (C : CallFix p m c cc nL s args wl own) (hE : ev D K s) {Cn : String} {index : Nat} (hcl : Cond.classLink own index Cn ∈ wl) (hover : va_AO Cn s) (t0 : Nat) {cK : ClassId} (ht : (tyL K)[t0]? = some (cK, .object Cn))
    (hP : va_P D vwCl ws H) (hD : va_D A ws) (hS : va_S A H0 H locs) (hA : ∀ q : Nat, H0.size ≤ q → A q)
    {i : Int32} {N' : Nat} (hn : ¬ i < 0) (hN : i.toNatClampNeg = N') (hbytes : N' * 4 ≤ 536870912) (hcells : cells + 1 ≤ R.cells) (hslots : slots + N' ≤ R.slots) (hdg : decode cc pc = .ok (.anewarray index, 3))
    (kk : ∀ (q : Nat) (H1 : Heap), va_P D vwCl (ws ++ [(q, .inl (cK, N', .inr (.inr (.inr (.inr (fun _ => none))))))]) H1 → va_D A (ws ++ [(q, .inl (cK, N', .inr (.inr (.inr (.inr (fun _ => none))))))]) → va_S A H0 H1 locs →
      W p l e R s m args below meth c H1 locs (cells + 1) (slots + N') Q (F0 m (pc + 3) ls (.ref q :: rest))) : W p l e R s m args below meth c H locs cells slots Q (F0 m pc ls (.int i :: rest)) := by
  refine va_newq C.1 C.2.1 C.2.2.2.1 (C.2.2.2.2 _ hcl) hover hE.1 hP hD hS hA hn hN hbytes hcells hslots hdg (fun q cA H1 hK1 hP1 hD1 hS1 => ?_)
  obtain ⟨_, _, _, _, _, h1⟩ := (hE.1.2 t0 _ ht).2
  obtain ⟨_, _, _, _, _, h2⟩ := (hK1.2 (tyL K).length (cA, .object Cn) (by rw [List.getElem?_append_right (Nat.le_refl _), Nat.sub_self]; rfl)).2
  obtain rfl : cK = cA := Option.some.inj (h1.symm.trans h2)
  exact kk q H1 hP1 hD1 hS1
end CH
/-! numbers -/
theorem no1 {x : Int32} {n : Nat} (h : x < 0) : ¬ vp_in x n := fun q => q (Or.inl h)
theorem no2 {x k : Int32} {n : Nat} (hk : k.toInt = n) (h : k ≤ x) : ¬ vp_in x n := by
  rw [vp_in_iff]; rw [Int32.le_iff_toInt_le] at h; omega
theorem yes2 {x k : Int32} {n : Nat} (hk : k.toInt = n) (h0 : ¬ x < 0) (h : ¬ k ≤ x) : vp_in x n := by
  rw [vp_in_iff]; rw [Int32.le_iff_toInt_le] at h; rw [Int32.lt_iff_toInt_lt, Int32.toInt_zero] at h0; omega
theorem nlt0 {x : Int32} (h : ¬ x < 0) : 0 ≤ x := by
  rw [Int32.lt_iff_toInt_lt] at h; rw [Int32.le_iff_toInt_le]; omega
theorem nlt1 {x : Int32} (h : ¬ x < 1) : 0 < x := by
  rw [Int32.lt_iff_toInt_lt] at h; rw [Int32.lt_iff_toInt_lt]; have h1 : (1 : Int32).toInt = 1 := by decide
  have h0 : (0 : Int32).toInt = 0 := by decide
  omega
theorem no3 {x k : Int32} {n : Nat} (hk : k.toInt = n) (h : ¬ x < k) : ¬ vp_in x n := by
  rw [vp_in_iff]; rw [Int32.lt_iff_toInt_lt] at h; omega
theorem yes3 {x k : Int32} {n : Nat} (hk : k.toInt = n) (h0 : ¬ x < 0) (h : x < k) : vp_in x n := by
  rw [vp_in_iff]; rw [Int32.lt_iff_toInt_lt] at h; rw [Int32.lt_iff_toInt_lt, Int32.toInt_zero] at h0; omega
