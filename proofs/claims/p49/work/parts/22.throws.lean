/-! OWN ROWS: methods that throw (a run that is sure to throw one exception, the world known behind it) -/
section GThrow
def gDec : List MethodName := [Bundle.initS "java/lang/RuntimeException", Bundle.initS "java/lang/Exception", Bundle.initS Bundle.tN]
/-- what a throw needs of the run beside gK; it looks at two static fields -/
def gX (A : Nat → Prop) (U : State) (H : Heap) : Prop := (∀ y ∈ gDec, va_Nw (.declares y) U) ∧ vx_Zq Bundle.tN "UNASSIGNED_STACK" Bundle.steD A U H ∧ vx_Zq Bundle.tN "SUPPRESSED_SENTINEL" Bundle.listD A U H
theorem gX.warm {A : Nat → Prop} {s U : State} {H : Heap} (hW : s.WarmedH U.vm) (h : gX A s H) : gX A U H := ⟨fun y hy => va_Nw.warmD hW (h.1 y hy), vx_Zq.moved hW.alike h.2.1, vx_Zq.moved hW.alike h.2.2⟩
theorem gX.kept {A : Nat → Prop} {U : State} {H H1 : Heap} (h : gX A U H) (hq : ∀ a : Nat, a < H.size → ¬ A a → H1[a]? = H[a]?) : gX A U H1 := ⟨h.1, vx_Zq.kept h.2.1 hq, vx_Zq.kept h.2.2 hq⟩
theorem gX.narrow {A B : Nat → Prop} {U : State} {H : Heap} (h : gX A U H) (hAB : ∀ q, B q → A q) : gX B U H := ⟨h.1, vx_Zq.narrow h.2.1 hAB, vx_Zq.narrow h.2.2 hAB⟩
def gPreX (G : gG) (ws : va_W) (sz : Nat) (U : State) : Prop := gPre G ws sz U ∧ gX (va_A ws sz) U U.heap
theorem gBlindX {G : gG} {ws : va_W} {sz : Nat} {As : List Value} : FrameBlind (va_Pc As (gPreX G ws sz)) := fun _ U _ _ h => ⟨h.1, ⟨h.2.1.1, h.2.1.2.1, h.2.1.2.2.1.call, h.2.1.2.2.2⟩, gX.warm (s := U) (State.WarmedH.refl U) h.2.2⟩
abbrev gXC {S : Type} (G : gG) (A : Nat → Prop) (E : String) (post : S → Prop) (wo : S → va_W) : String → State → State → Prop := vx_X post (fun E' u t => E' = E ∧ gB G A wo u t) A
abbrev gNo : Array Value → State → Outcome → State → Prop := fun _ _ _ _ => False
def gMx {S : Type} (l : Launch) (y : MethodName) (w : List Cond) (rm : Room) (G : gG) (As : List Value) (ws : va_W) (E : String) (post : S → Prop) (wo : S → va_W) (mc ms : Nat) : Prop :=
  ∀ sz : Nat, vx_Met l y w rm (va_Pc As (gPreX G ws sz)) gNo (gXC G (va_A ws sz) E post wo) mc ms (va_A ws sz)
theorem gMetX_mk {l : Launch} {y : MethodName} {w w' : List Cond} {rm : Room} {G : gG} {As : List Value} {ws : va_W} {mc ms : Nat} {cc : ByteArray} {nL : Nat} {ret : Option FieldType} {XC : (Nat → Prop) → String → State → State → Prop}
    (hy : plainName y.cls = true) (hw : w = .code y cc nL ret :: w') (hAs : (lg_sl As).length ≤ nL)
    (body : ∀ (p : Program) (e : Env) (s : State) (m : MethodId) (args : Array Value) (below : List Frame) (meth : Method) (c : Code) (A : Nat → Prop), gAt p s m args meth c y w cc nL ret G A → (∀ x ∈ c.exceptionTable.toList, False) → gX A s s.heap → ∀ ls : Array Slot, lv_has ls nL (lv_args 0 As) → va_P G.1 vwCl ws s.heap → va_D A ws → va_S A s.heap s.heap [] →
      W p l e rm s m args below meth c s.heap [] 0 0 (vx_MQ below gNo (XC A) args s mc ms A) (F0 m 0 ls [])) :
    ∀ sz : Nat, vx_Met l y w rm (va_Pc As (gPreX G ws sz)) gNo (XC (va_A ws sz)) mc ms (va_A ws sz) := by
  intro sz
  refine vx_ofW (cc := cc) (maxL := nL) (ret := ret) hy hw ?_
  intro p e s m args below meth c s₁ B hml htb hv
  obtain ⟨rfl, ⟨hsz, hP, hK, hD0⟩, hZ⟩ := hv
  subst hsz
  rw [lg_entry_eq]
  exact body p e s m _ below meth c _ ⟨B.exec, B.bytes, hml, B.returns, B.notSynchronized, findClass_of_methodNamed B.named, atoms_spec (ws := w) B.pre, (name_of_methodNamed B.named B.method).1, hK, fun q h => Or.inr h⟩ htb hZ _ (lv_entry As hAs) hP hD0.self va_S.rf
end GThrow
section GThrows
variable {p : Program} {l : Launch} {e : Env} {R : Room} {s : State} {m : MethodId} {args : Array Value} {below : List Frame} {meth : Method} {c : Code} {H : Heap} {locs : List Loc} {cells slots mc ms mc1 ms1 : Nat} {Q : State → Prop}
variable {x y : MethodName} {w wy wy' : List Cond} {cc bytes : ByteArray} {nL maxL index n : Nat} {rt ret : Option FieldType} {G : gG} {A free : Nat → Prop} {rm : Room} {wc lit wt wr : va_W} {b : Addr} {As rest st0 : List Value} {pc : Nat} {ls : Array Slot} {isC isR : List Nat} {own : String}
theorem gXF {S : Type} {post : S → Prop} {wo : S → va_W} {E : String} (hS : va_S A s.heap H locs) (u : S) (hp : post u) (hP : va_P G.1 vwCl (wo u) H) (hD : va_D A (wo u)) (t : State) (h1 : H.size ≤ t.heap.size) (h2 : ∀ q : Nat, q < H.size → t.heap[q]? = H[q]?) : gXC G A E post wo E s t := by
  refine ⟨u, hp, ⟨rfl, fun k q hq => ((hP k q hq)).kept (h2 q.1 (hP k q hq).lt), hD⟩, Nat.le_trans hS.1 h1, fun q hq hA => ?_⟩
  rw [h2 q (Nat.lt_of_lt_of_le hq hS.1)]; exact hS.2.1 q hq hA
/-- 'throw new E("text")' -/
theorem gThrow {S : Type} {post : S → Prop} {wo : S → va_W} {cls text : String} {names : List String} {ik is ic : Nat} (F : gAt p s m args meth c y w cc nL rt G A) (htb : ∀ z ∈ c.exceptionTable.toList, False) (hZ : gX A s s.heap) (hl : l.stackTraces = false) (hown : y.cls = own)
    (hcls : Bundle.fit cls = true) (hnames : ∀ n ∈ names, Bundle.fit n = true) (hk : Cond.classLink own ik cls ∈ w) (hini : Cond.initialized cls ∈ w) (hstr : (own, is, text) ∈ gStr) (hat : ∀ z ∈ (vx_atS own ic cls names).filter goodWord, z ∈ w) (hcast : (cls, cls) ∈ gCast)
    (hbad : ∀ z ∈ (vx_atS own ic cls names).filter (fun z => !goodWord z), z ∈ Cond.castable cls cls :: gDec.map Cond.declares)
    (hgood : ∀ z ∈ Cond.classLink own ik cls :: Cond.initialized cls :: vx_atS own ic cls names, vx_ot z = true)
    (d0 : decode cc pc = .ok (.new ik, 3)) (d3 : decode cc (pc + 3) = .ok (.dup, 1)) (d4 : decode cc (pc + 4) = .ok (.ldc is, 2)) (d6 : decode cc (pc + 6) = .ok (.invokespecial ic, 3)) (d9 : decode cc (pc + 9) = .ok (.athrow, 1))
    (hsize : ls.size = nL) (hRf : names.length + 3 < R.frames) (hRl : (rest.map fun v => v.category).sum + (13 * (names.length + 1) + 43) ≤ R.locals) (hRc : cells + 1 ≤ R.cells) (hRs : slots + 6 ≤ R.slots)
    (u : S) (hp : post u) (hP : va_P G.1 vwCl (wo u) H) (hD : va_D A (wo u)) (hS : va_S A s.heap H locs) (hc : cells + 1 ≤ mc) (hs : slots + 6 ≤ ms) :
    W p l e R s m args below meth c H locs cells slots (vx_MQ below gNo (gXC G A cls post wo) args s mc ms A) (F0 m pc ls rest) := by
  subst hown
  obtain ⟨sa, hsa⟩ := F.2.2.2.2.2.2.2.2.1.2.2.2.2.1 _ hstr
  have hts := F.2.2.2.2.2.2.1
  refine vx_throwS (A := A) (sa := sa) F.1 F.2.1 hl F.2.2.2.2.2.1 hcls hnames (hts _ hk) (hts _ hini) hsa (vx_hat (fun z hz => hts z (hat z hz)) hbad (fun z hz => ?_)) hgood hZ.2.1 hZ.2.2 hS (hsize.trans F.2.2.1.symm) d0 d3 d4 d6 d9 (fun z hz => (htb z hz).elim) hRf hRl hRc hRs F.2.2.2.2.1 (fun t _ h1 h2 => gXF hS u hp hP hD t h1 h2) hS.2.2 hc hs
  rcases List.mem_cons.mp hz with h | h
  · rw [h]; exact va_Nw.use rfl (F.2.2.2.2.2.2.2.2.1.2.2.2.2.2.1 _ hcast)
  · obtain ⟨y9, h9, rfl⟩ := List.mem_map.mp h
    exact va_Nw.use rfl (hZ.1 y9 h9)
/-- the same, the text by a wide index -/
theorem gThrowW {S : Type} {post : S → Prop} {wo : S → va_W} {cls text : String} {names : List String} {ik is ic : Nat} (F : gAt p s m args meth c y w cc nL rt G A) (htb : ∀ z ∈ c.exceptionTable.toList, False) (hZ : gX A s s.heap) (hl : l.stackTraces = false) (hown : y.cls = own)
    (hcls : Bundle.fit cls = true) (hnames : ∀ n ∈ names, Bundle.fit n = true) (hk : Cond.classLink own ik cls ∈ w) (hini : Cond.initialized cls ∈ w) (hstr : (own, is, text) ∈ gStr) (hat : ∀ z ∈ (vx_atS own ic cls names).filter goodWord, z ∈ w) (hcast : (cls, cls) ∈ gCast)
    (hbad : ∀ z ∈ (vx_atS own ic cls names).filter (fun z => !goodWord z), z ∈ Cond.castable cls cls :: gDec.map Cond.declares)
    (hgood : ∀ z ∈ Cond.classLink own ik cls :: Cond.initialized cls :: vx_atS own ic cls names, vx_ot z = true)
    (d0 : decode cc pc = .ok (.new ik, 3)) (d3 : decode cc (pc + 3) = .ok (.dup, 1)) (d4 : decode cc (pc + 4) = .ok (.ldc_w is, 3)) (d6 : decode cc (pc + 7) = .ok (.invokespecial ic, 3)) (d9 : decode cc (pc + 10) = .ok (.athrow, 1))
    (hsize : ls.size = nL) (hRf : names.length + 3 < R.frames) (hRl : (rest.map fun v => v.category).sum + (13 * (names.length + 1) + 43) ≤ R.locals) (hRc : cells + 1 ≤ R.cells) (hRs : slots + 6 ≤ R.slots)
    (u : S) (hp : post u) (hP : va_P G.1 vwCl (wo u) H) (hD : va_D A (wo u)) (hS : va_S A s.heap H locs) (hc : cells + 1 ≤ mc) (hs : slots + 6 ≤ ms) :
    W p l e R s m args below meth c H locs cells slots (vx_MQ below gNo (gXC G A cls post wo) args s mc ms A) (F0 m pc ls rest) := by
  subst hown
  obtain ⟨sa, hsa⟩ := F.2.2.2.2.2.2.2.2.1.2.2.2.2.1 _ hstr
  have hts := F.2.2.2.2.2.2.1
  refine vx_throwSW (A := A) (sa := sa) F.1 F.2.1 hl F.2.2.2.2.2.1 hcls hnames (hts _ hk) (hts _ hini) hsa (vx_hat (fun z hz => hts z (hat z hz)) hbad (fun z hz => ?_)) hgood hZ.2.1 hZ.2.2 hS (hsize.trans F.2.2.1.symm) d0 d3 d4 d6 d9 (fun z hz => (htb z hz).elim) hRf hRl hRc hRs F.2.2.2.2.1 (fun t _ h1 h2 => gXF hS u hp hP hD t h1 h2) hS.2.2 hc hs
  rcases List.mem_cons.mp hz with h | h
  · rw [h]; exact va_Nw.use rfl (F.2.2.2.2.2.2.2.2.1.2.2.2.2.2.1 _ hcast)
  · obtain ⟨y9, h9, rfl⟩ := List.mem_map.mp h
    exact va_Nw.use rfl (hZ.1 y9 h9)
theorem gCallPreX (F : gAt p s m args meth c x w cc nL rt G A) (hZ : gX A s s.heap) (hP : va_P G.1 vwCl (lit ++ wt) H) (hD : va_D A (lit ++ wt)) (hS : va_S A s.heap H locs) (hC : isC.map (fun i => lit[i]?) = wc.map some) (hnC : va_nd isC = true) (As : List Value) : ∀ U : State, U.heap = H → s.WarmedH U.vm → va_Pc As (gPreX G wc H.size) As.toArray U := by
  intro U hU hW
  have h0 := gCallPre F hP hD hC hnC As U hU hW
  have hFc := va_free (gDl hD) hS F.2.2.2.2.2.2.2.2.2 isC hC
  refine ⟨h0.1, h0.2, ?_⟩
  rw [hU]
  exact ((hZ.kept (fun a h1 h2 => hS.2.1 a h1 h2)).warm hW).narrow hFc
theorem gRunVx {S : Type} {post : S → Prop} {wo : S → va_W} {E : String} {C : String} {T : u_T} {N ci : Nat} {fs : List Value} (F : gAt p s m args meth c x w cc nL rt G A) (hZ : gX A s s.heap) (hS : va_S A s.heap H locs) (hM : vx_Met l y wy rm (va_Pc (.ref b :: As) (gPreX G wc H.size)) gNo (gXC G (va_A wc H.size) E post wo) mc ms (va_A wc H.size))
    (hG : GoodIn w (wsV own index C y wy)) (hown : x.cls = own) (hw : wy = Cond.code y bytes maxL ret :: wy') (hrc : rm.cells = mc) (hrs : rm.slots = ms)
    (hd : y.cls = C ∧ y.cls ≠ "java/lang/invoke/MethodHandle" ∧ y.cls ≠ "java/lang/invoke/VarHandle" ∧ (parseMethodDescriptor y.desc).map (fun d => d.parameters.length) = some n) (hAn : As.length = n) (hR : rm.frames + 1 ≤ R.frames ∧ 8 + (maxL + 11) + rm.locals ≤ R.locals)
    (hP : va_P G.1 vwCl (lit ++ wt) H) (hD : va_D A (lit ++ wt)) (hC : isC.map (fun i => lit[i]?) = wc.map some) (hnC : va_nd isC = true) (hc : vwCl[ci]? = some (C, T, N)) (he : wc[0]? = some (b, .inr (ci, fs)))
    (hst : st0 = As.reverse ++ .ref b :: rest) (hls : ls.size = nL) (hW : (rest.map fun v => v.category).sum ≤ 8) (hdg : decode cc pc = .ok (.invokevirtual index, 3)) (hf : cells + mc ≤ R.cells ∧ slots + ms ≤ R.slots) :
    vx_Run p l e R s m args below meth c H locs cells slots mc ms (F0 m pc ls st0) rest (gNo (Value.ref b :: As).toArray) (gXC G (va_A wc H.size) E post wo) (va_A wc H.size) := by
  subst hown
  exact vx_runV (As := As) (rest := rest) ⟨F.1, F.2.1, F.2.2.1, F.2.2.2.2.2.1, F.2.2.2.2.2.2.1⟩ hM (cwV n F.2.2.2.2.2.2.1 hG hw hrc hrs hd hR) ⟨gBlindX, va_recv (q := (C, T, N)) F.2.2.2.2.2.2.2.2.1.1 (gSub (gPl hP) hC) hc he, gCallPreX F hZ hP hD hS hC hnC (.ref b :: As)⟩ rfl hAn hls hst (lv_room hW) hdg hf
theorem gRunSx {S : Type} {post : S → Prop} {wo : S → va_W} {E : String} (F : gAt p s m args meth c x w cc nL rt G A) (hZ : gX A s s.heap) (hS : va_S A s.heap H locs) (hM : vx_Met l y wy rm (va_Pc As (gPreX G wc H.size)) gNo (gXC G (va_A wc H.size) E post wo) mc ms (va_A wc H.size))
    (hG : GoodIn w (va_wsS own index y wy)) (hown : x.cls = own) (hw : wy = Cond.code y bytes maxL ret :: wy') (hrc : rm.cells = mc) (hrs : rm.slots = ms)
    (hd : y.cls ≠ "java/lang/invoke/MethodHandle" ∧ y.cls ≠ "java/lang/invoke/VarHandle" ∧ (parseMethodDescriptor y.desc).map (fun d => d.parameters.length) = some n) (hAn : As.length = n) (hR : rm.frames + 1 ≤ R.frames ∧ 8 + (maxL + 11) + rm.locals ≤ R.locals)
    (hP : va_P G.1 vwCl (lit ++ wt) H) (hD : va_D A (lit ++ wt)) (hC : isC.map (fun i => lit[i]?) = wc.map some) (hnC : va_nd isC = true)
    (hst : st0 = As.reverse ++ rest) (hls : ls.size = nL) (hW : (rest.map fun v => v.category).sum ≤ 8) (hdg : decode cc pc = .ok (.invokestatic index, 3)) (hf : cells + mc ≤ R.cells ∧ slots + ms ≤ R.slots) :
    vx_Run p l e R s m args below meth c H locs cells slots mc ms (F0 m pc ls st0) rest (gNo As.toArray) (gXC G (va_A wc H.size) E post wo) (va_A wc H.size) := by
  subst hown
  exact vx_runS (As := As) (rest := rest) ⟨F.1, F.2.1, F.2.2.1, F.2.2.2.2.2.1, F.2.2.2.2.2.2.1⟩ hM (va_cwS n F.2.2.2.2.2.2.1 hG hw hrc hrs hd hR) ⟨gBlindX, gCallPreX F hZ hP hD hS hC hnC As⟩ rfl hAn hls hst (lv_room hW) hdg hf
/-- a callee's throw, told as a state of the caller's frame -/
theorem gXrun {S : Type} {post : S → Prop} {wo : S → va_W} {E : String} {a : Array Value} (F : gAt p s m args meth c x w cc nL rt G A) (hr : vx_Run p l e R s m args below meth c H locs cells slots mc ms (F0 m pc ls st0) rest (gNo a) (gXC G (va_A wc H.size) E post wo) (va_A wc H.size))
    (hP : va_P G.1 vwCl (lit ++ wt) H) (hD : va_D A (lit ++ wt)) (hS : va_S A s.heap H locs) (hC : isC.map (fun i => lit[i]?) = wc.map some) (hR : isR.map (fun i => lit[i]?) = wr.map some) (hn : va_nd isR = true) (hdis : ∀ i ∈ isR, i ∉ isC)
    (kx : ∀ (ce : Cell) (q9 : Addr) (u : S) (H1 : Heap) (locs1 : List Loc), post u → va_P G.1 vwCl (wr ++ wo u ++ wt) H1 → va_D A (wr ++ wo u ++ wt) → va_S A s.heap H1 locs1 → H1[q9]? = some ce → ce.vm = .none → s.vm.findClass E = some ce.cls → vx_W p l e R s m args below meth c H1 locs1 (cells + mc) (slots + ms) Q (F0 m pc ls rest) q9) : W p l e R s m args below meth c H locs cells slots Q (F0 m pc ls st0) := by
  have hFc := va_free (gDl hD) hS F.2.2.2.2.2.2.2.2.2 isC hC
  intro T hT X
  rcases hr T hT X with ⟨v, st₀, t, T', L, h0, X', hL, e1, e2, hq, st⟩ | ⟨q, st₀, t, T', L, E', ce, h0, X', hL, e1, e2, ⟨u, hp, ⟨hE, hb⟩, hF⟩, hce, hcv, hcl, st⟩
  · exact hq.elim
  · subst hE
    obtain ⟨k1, k2, k3⟩ := vx_keep h0 e1 hS (fun q _ h => hFc q h) hFc hL hF
    obtain ⟨hP1, hD1⟩ := hb
    rw [← e1] at hP1
    obtain ⟨hP2, hD2⟩ := gJoin hP hD hC hR hn hdis k2 hFc hP1 hD1
    obtain ⟨t2, a1, b1⟩ := kx ce q u T'.heap (locs ++ L) hp hP2 hD2 k3 (by rw [e1]; exact hce) hcv hcl T' rfl X'
    exact ⟨t2, st.trans a1, b1⟩
/-- it goes on to the caller's caller -/
theorem gCx {S S2 : Type} {post : S → Prop} {wo : S → va_W} {post2 : S2 → Prop} {wo2 : S2 → va_W} {E : String} {a : Array Value} (F : gAt p s m args meth c x w cc nL rt G A) (htb : ∀ z ∈ c.exceptionTable.toList, False) (hr : vx_Run p l e R s m args below meth c H locs cells slots mc ms (F0 m pc ls st0) rest (gNo a) (gXC G (va_A wc H.size) E post wo) (va_A wc H.size))
    (hP : va_P G.1 vwCl (lit ++ wt) H) (hD : va_D A (lit ++ wt)) (hS : va_S A s.heap H locs) (hC : isC.map (fun i => lit[i]?) = wc.map some) (hR : isR.map (fun i => lit[i]?) = wr.map some) (hn : va_nd isR = true) (hdis : ∀ i ∈ isR, i ∉ isC) (hc : cells + mc ≤ mc1) (hs : slots + ms ≤ ms1)
    (kk : ∀ (u : S) (H : Heap), post u → va_P G.1 vwCl (wr ++ wo u ++ wt) H → va_D A (wr ++ wo u ++ wt) → ∃ u2 : S2, post2 u2 ∧ va_P G.1 vwCl (wo2 u2) H ∧ va_D A (wo2 u2)) :
    W p l e R s m args below meth c H locs cells slots (vx_MQ below gNo (gXC G A E post2 wo2) args s mc1 ms1 A) (F0 m pc ls st0) := by
  refine gXrun F hr hP hD hS hC hR hn hdis (fun ce q9 u H1 locs1 hp hP1 hD1 hS1 hce hcv hcl => ?_)
  obtain ⟨u2, hp2, hP2, hD2⟩ := kk u H1 hp hP1 hD1
  exact vx_out (fun z hz => (htb z hz).elim) F.2.2.2.2.1 hce hcv hcl (fun t ht _ => gXF hS1 u2 hp2 hP2 hD2 t (by rw [ht]; exact Nat.le_refl _) (fun q _ => by rw [ht])) hS1.2.2 hc hs
end GThrows
