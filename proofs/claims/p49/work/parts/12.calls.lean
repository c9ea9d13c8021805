section GEnds
variable {p : Program} {l : Launch} {e : Env} {R : Room} {s : State} {m : MethodId} {args : Array Value} {below : List Frame} {meth : Method} {c : Code} {H : Heap} {locs : List Loc} {cells slots mc ms : Nat} {Q : State → Prop}
variable {y : MethodName} {w : List Cond} {cc : ByteArray} {nL : Nat} {rt : FieldType} {G : gG} {A : Nat → Prop}
/-- the end of a method that answers an int (or a boolean, char ..) -/
theorem gRi {S : Type} {post : Int32 → S → Prop} {wo : S → va_W} {v : Int32} {pc : Nat} {ls : Array Slot} (F : gAt p s m args meth c y w cc nL (some rt) G A) (hdg : decode cc pc = .ok (.ireturn, 1)) (hn : narrow rt (.int v) = .int v)
    (u : S) (hp : post v u) (hP : va_P G.1 vwCl (wo u) H) (hD : va_D A (wo u)) (hS : va_S A s.heap H locs) (hc : cells ≤ mc) (hs : slots ≤ ms) :
    W p l e R s m args below meth c H locs cells slots (MQ below (va_Qi post (gB G A wo) A) args s mc ms A) (F0 m pc ls [.int v]) := by
  refine W.widen hc hs ?_
  exact W.zret F.1 F.2.1 F.2.2.2.1 hn (fun t ht hW => ⟨⟨v, u, rfl, hp, by rw [ht]; exact hP, hD⟩, hS.F ht⟩) hS.2.2 hdg F.2.2.2.2.1
theorem gRv {S : Type} {post : S → Prop} {wo : S → va_W} {pc : Nat} {ls : Array Slot} (F : gAt p s m args meth c y w cc nL none G A) (hdg : decode cc pc = .ok (.return_, 1))
    (u : S) (hp : post u) (hP : va_P G.1 vwCl (wo u) H) (hD : va_D A (wo u)) (hS : va_S A s.heap H locs) (hc : cells ≤ mc) (hs : slots ≤ ms) :
    W p l e R s m args below meth c H locs cells slots (MQ below (va_Qv post (gB G A wo) A) args s mc ms A) (F0 m pc ls []) := by
  refine W.widen hc hs ?_
  exact W.vret F.1 F.2.1 F.2.2.2.1 (fun t ht hW => ⟨⟨u, rfl, hp, by rw [ht]; exact hP, hD⟩, hS.F ht⟩) hS.2.2 hdg F.2.2.2.2.1
theorem gRq {S : Type} {post : Option Nat → S → Prop} {wo : S → va_W} {r : Option Nat} {pc : Nat} {ls : Array Slot} (F : gAt p s m args meth c y w cc nL (some rt) G A) (hdg : decode cc pc = .ok (.areturn, 1)) (hrt : (∃ n, rt = .object n) ∨ ∃ t, rt = .array t)
    (u : S) (hp : post r u) (hP : va_P G.1 vwCl (wo u) H) (hD : va_D A (wo u)) (hS : va_S A s.heap H locs) (hc : cells ≤ mc) (hs : slots ≤ ms) :
    W p l e R s m args below meth c H locs cells slots (MQ below (va_Qq post (gB G A wo) A) args s mc ms A) (F0 m pc ls [va_rf r]) := by
  refine W.widen hc hs ?_
  exact W.aret F.1 F.2.1 F.2.2.2.1 hrt (va_rf_or r) (fun t ht hW => ⟨⟨r, u, rfl, hp, by rw [ht]; exact hP, hD⟩, hS.F ht⟩) hS.2.2 hdg F.2.2.2.2.1
theorem gRd {S : Type} {post : UInt64 → S → Prop} {wo : S → va_W} {v : UInt64} {pc : Nat} {ls : Array Slot} (F : gAt p s m args meth c y w cc nL (some .double) G A) (hdg : decode cc pc = .ok (.dreturn, 1))
    (u : S) (hp : post v u) (hP : va_P G.1 vwCl (wo u) H) (hD : va_D A (wo u)) (hS : va_S A s.heap H locs) (hc : cells ≤ mc) (hs : slots ≤ ms) :
    W p l e R s m args below meth c H locs cells slots (MQ below (va_Qd post (gB G A wo) A) args s mc ms A) (F0 m pc ls [.double v]) := by
  refine W.widen hc hs ?_
  exact W.dret F.1 F.2.1 F.2.2.2.1 (fun t ht hW => ⟨⟨v, u, rfl, hp, by rw [ht]; exact hP, hD⟩, hS.F ht⟩) hS.2.2 hdg F.2.2.2.2.1
end GEnds
section GRuns
variable {p : Program} {l : Launch} {e : Env} {R : Room} {s : State} {m : MethodId} {args : Array Value} {below : List Frame} {meth : Method} {c : Code} {H : Heap} {locs : List Loc} {cells slots mc ms : Nat} {Q : State → Prop}
variable {y x : MethodName} {w w' wy wy' : List Cond} {cc bytes : ByteArray} {nL maxL index n : Nat} {rt : Option FieldType} {ret : Option FieldType} {G : gG} {A free : Nat → Prop} {rm : Room} {Qc : Array Value → State → Outcome → State → Prop} {wc lit wt : va_W} {b : Addr} {As rest st0 : List Value} {pc : Nat} {ls : Array Slot} {isC : List Nat} {own : String}
theorem gCallPre (F : gAt p s m args meth c x w cc nL rt G A) (hP : va_P G.1 vwCl (lit ++ wt) H) (hD : va_D A (lit ++ wt)) (hC : isC.map (fun i => lit[i]?) = wc.map some) (hnC : va_nd isC = true) (As : List Value) : ∀ U : State, U.heap = H → s.WarmedH U.vm → va_Pc As (gPre G wc H.size) As.toArray U :=
  fun U hU hW => ⟨rfl, by rw [hU], by rw [hU]; exact gSub (gPl hP) hC, F.2.2.2.2.2.2.2.2.1.warm hW, ((gDl hD).sub isC hnC hC).weaken (fun _ _ _ _ => trivial)⟩
/-- a virtual call: the receiver is the first cell of the callee's world -/
theorem gRunV {C : String} {T : u_T} {N ci : Nat} {fs : List Value} (F : gAt p s m args meth c x w cc nL rt G A) (hM : Met l y wy rm (va_Pc (.ref b :: As) (gPre G wc H.size)) Qc mc ms free)
    (hG : GoodIn w (wsV own index C y wy)) (hown : x.cls = own) (hw : wy = Cond.code y bytes maxL ret :: wy') (hrc : rm.cells = mc) (hrs : rm.slots = ms)
    (hd : y.cls = C ∧ y.cls ≠ "java/lang/invoke/MethodHandle" ∧ y.cls ≠ "java/lang/invoke/VarHandle" ∧ (parseMethodDescriptor y.desc).map (fun d => d.parameters.length) = some n) (hAn : As.length = n) (hR : rm.frames + 1 ≤ R.frames ∧ 8 + (maxL + 11) + rm.locals ≤ R.locals)
    (hP : va_P G.1 vwCl (lit ++ wt) H) (hD : va_D A (lit ++ wt)) (hC : isC.map (fun i => lit[i]?) = wc.map some) (hnC : va_nd isC = true) (hc : vwCl[ci]? = some (C, T, N)) (he : wc[0]? = some (b, .inr (ci, fs)))
    (hst : st0 = As.reverse ++ .ref b :: rest) (hls : ls.size = nL) (hW : (rest.map fun v => v.category).sum ≤ 8) (hdg : decode cc pc = .ok (.invokevirtual index, 3)) (hf : cells + mc ≤ R.cells ∧ slots + ms ≤ R.slots) :
    va_Run p l e R s m args below meth c H locs cells slots mc ms (F0 m pc ls st0) rest (Qc (Value.ref b :: As).toArray) free := by
  subst hown
  exact va_runV (As := As) (rest := rest) ⟨F.1, F.2.1, F.2.2.1, F.2.2.2.2.2.1, F.2.2.2.2.2.2.1⟩ hM (cwV n F.2.2.2.2.2.2.1 hG hw hrc hrs hd hR) ⟨gBlind, va_recv (q := (C, T, N)) F.2.2.2.2.2.2.2.2.1.1 (gSub (gPl hP) hC) hc he, gCallPre F hP hD hC hnC (.ref b :: As)⟩ rfl hAn hls hst (lv_room hW) hdg hf
/-- a static call -/
theorem gRunS (F : gAt p s m args meth c x w cc nL rt G A) (hM : Met l y wy rm (va_Pc As (gPre G wc H.size)) Qc mc ms free)
    (hG : GoodIn w (va_wsS own index y wy)) (hown : x.cls = own) (hw : wy = Cond.code y bytes maxL ret :: wy') (hrc : rm.cells = mc) (hrs : rm.slots = ms)
    (hd : y.cls ≠ "java/lang/invoke/MethodHandle" ∧ y.cls ≠ "java/lang/invoke/VarHandle" ∧ (parseMethodDescriptor y.desc).map (fun d => d.parameters.length) = some n) (hAn : As.length = n) (hR : rm.frames + 1 ≤ R.frames ∧ 8 + (maxL + 11) + rm.locals ≤ R.locals)
    (hP : va_P G.1 vwCl (lit ++ wt) H) (hD : va_D A (lit ++ wt)) (hC : isC.map (fun i => lit[i]?) = wc.map some) (hnC : va_nd isC = true)
    (hst : st0 = As.reverse ++ rest) (hls : ls.size = nL) (hW : (rest.map fun v => v.category).sum ≤ 8) (hdg : decode cc pc = .ok (.invokestatic index, 3)) (hf : cells + mc ≤ R.cells ∧ slots + ms ≤ R.slots) :
    va_Run p l e R s m args below meth c H locs cells slots mc ms (F0 m pc ls st0) rest (Qc As.toArray) free := by
  subst hown
  exact va_runS (As := As) (rest := rest) ⟨F.1, F.2.1, F.2.2.1, F.2.2.2.2.2.1, F.2.2.2.2.2.2.1⟩ hM (va_cwS n F.2.2.2.2.2.2.1 hG hw hrc hrs hd hR) ⟨gBlind, gCallPre F hP hD hC hnC As⟩ rfl hAn hls hst (lv_room hW) hdg hf
/-- a static call of a nest mate -/
theorem gRunSN {host : String} (F : gAt p s m args meth c x w cc nL rt G A) (hM : Met l y wy rm (va_Pc As (gPre G wc H.size)) Qc mc ms free)
    (hG : GoodIn w wy) (hini : Cond.initialized y.cls ∈ w) (hsta : Cond.static y ∈ w) (hN : (own, index, y, host) ∈ gNM) (hown : x.cls = own) (hw : wy = Cond.code y bytes maxL ret :: wy') (hrc : rm.cells = mc) (hrs : rm.slots = ms)
    (hd : y.cls ≠ "java/lang/invoke/MethodHandle" ∧ y.cls ≠ "java/lang/invoke/VarHandle" ∧ (parseMethodDescriptor y.desc).map (fun d => d.parameters.length) = some n) (hAn : As.length = n) (hR : rm.frames + 1 ≤ R.frames ∧ 8 + (maxL + 11) + rm.locals ≤ R.locals)
    (hP : va_P G.1 vwCl (lit ++ wt) H) (hD : va_D A (lit ++ wt)) (hC : isC.map (fun i => lit[i]?) = wc.map some) (hnC : va_nd isC = true)
    (hst : st0 = As.reverse ++ rest) (hls : ls.size = nL) (hW : (rest.map fun v => v.category).sum ≤ 8) (hdg : decode cc pc = .ok (.invokestatic index, 3)) (hf : cells + mc ≤ R.cells ∧ slots + ms ≤ R.slots) :
    va_Run p l e R s m args below meth c H locs cells slots mc ms (F0 m pc ls st0) rest (Qc As.toArray) free := by
  subst hown
  exact va_runSN (As := As) (rest := rest) ⟨F.1, F.2.1, F.2.2.1, F.2.2.2.2.2.1, F.2.2.2.2.2.2.1⟩ hM ⟨va_cnB n F.2.2.2.2.2.2.1 hG hw hrc hrs (F.2.2.2.2.2.2.2.2.1.2.1 _ hN) (F.2.2.2.2.2.2.1 _ hini) hd hR, F.2.2.2.2.2.2.1 _ hsta, trivial⟩ ⟨gBlind, gCallPre F hP hD hC hnC As⟩ rfl hAn hls hst (lv_room hW) hdg hf
/-- a constructor's call -/
theorem gRunI (F : gAt p s m args meth c x w cc nL rt G A) (hM : Met l y wy rm (va_Pc (.ref b :: As) (gPre G wc H.size)) Qc mc ms free)
    (hG : GoodIn w wy) (hl : Cond.methodLink own index y ∈ w) (hini : Cond.initialized y.cls ∈ w) (hin : Cond.instanceMethod y ∈ w) (hyn : y.name = "<init>") (hown : x.cls = own) (hw : wy = Cond.code y bytes maxL none :: wy') (hrc : rm.cells = mc) (hrs : rm.slots = ms)
    (hd : y.cls ≠ "java/lang/invoke/MethodHandle" ∧ y.cls ≠ "java/lang/invoke/VarHandle" ∧ (parseMethodDescriptor y.desc).map (fun d => d.parameters.length) = some n) (hAn : As.length = n) (hR : rm.frames + 1 ≤ R.frames ∧ 8 + (maxL + 11) + rm.locals ≤ R.locals)
    (hP : va_P G.1 vwCl (lit ++ wt) H) (hD : va_D A (lit ++ wt)) (hC : isC.map (fun i => lit[i]?) = wc.map some) (hnC : va_nd isC = true)
    (hst : st0 = As.reverse ++ .ref b :: rest) (hls : ls.size = nL) (hW : (rest.map fun v => v.category).sum ≤ 8) (hdg : decode cc pc = .ok (.invokespecial index, 3)) (hf : cells + mc ≤ R.cells ∧ slots + ms ≤ R.slots) :
    va_Run p l e R s m args below meth c H locs cells slots mc ms (F0 m pc ls st0) rest (Qc (Value.ref b :: As).toArray) free := by
  subst hown
  exact va_runI (As := As) (rest := rest) ⟨F.1, F.2.1, F.2.2.1, F.2.2.2.2.2.1, F.2.2.2.2.2.2.1⟩ hM ⟨callB_of n F.2.2.2.2.2.2.1 hG hw hrc hrs (F.2.2.2.2.2.2.1 _ hini) (F.2.2.2.2.2.2.1 _ hl) hd hR, hyn, F.2.2.2.2.2.2.1 _ hin⟩ ⟨gBlind, gCallPre F hP hD hC hnC (.ref b :: As)⟩ rfl hAn hls hst (lv_room hW) hdg hf
end GRuns
section GCalls
variable {p : Program} {l : Launch} {e : Env} {R : Room} {s : State} {m : MethodId} {args : Array Value} {below : List Frame} {meth : Method} {c : Code} {H : Heap} {locs : List Loc} {cells slots mc ms : Nat} {Q : State → Prop}
variable {x : MethodName} {w : List Cond} {cc : ByteArray} {nL : Nat} {rt : Option FieldType} {G : gG} {A : Nat → Prop} {wc lit wt wr : va_W} {rest st0 : List Value} {pc : Nat} {ls : Array Slot} {isC isR : List Nat} {a : Array Value}
theorem gCi {S : Type} {post : Int32 → S → Prop} {wo : S → va_W} (F : gAt p s m args meth c x w cc nL rt G A) (hr : va_Run p l e R s m args below meth c H locs cells slots mc ms (F0 m pc ls st0) rest (va_Qi post (gB G (va_A wc H.size) wo) (va_A wc H.size) a) (va_A wc H.size))
    (hP : va_P G.1 vwCl (lit ++ wt) H) (hD : va_D A (lit ++ wt)) (hS : va_S A s.heap H locs) (hC : isC.map (fun i => lit[i]?) = wc.map some) (hR : isR.map (fun i => lit[i]?) = wr.map some) (hn : va_nd isR = true) (hdis : ∀ i ∈ isR, i ∉ isC)
    (kk : ∀ (r : Int32) (u : S) (H1 : Heap) (locs1 : List Loc), post r u → va_P G.1 vwCl (wr ++ wo u ++ wt) H1 → va_D A (wr ++ wo u ++ wt) → va_S A s.heap H1 locs1 → W p l e R s m args below meth c H1 locs1 (cells + mc) (slots + ms) Q (F0 m (pc + 3) ls (.int r :: rest))) : W p l e R s m args below meth c H locs cells slots Q (F0 m pc ls st0) := by
  have hFc := va_free (gDl hD) hS F.2.2.2.2.2.2.2.2.2 isC hC
  refine va_calli hr hS (fun q _ h => hFc q h) hFc (fun r u t H1 locs1 ht hvm hp hB hz1 hk1 hS1 => ?_)
  obtain ⟨hP1, hD1⟩ := hB
  rw [ht] at hP1
  obtain ⟨hP2, hD2⟩ := gJoin hP hD hC hR hn hdis hk1 hFc hP1 hD1
  exact kk r u H1 locs1 hp hP2 hD2 hS1
theorem gCd {S : Type} {post : UInt64 → S → Prop} {wo : S → va_W} (F : gAt p s m args meth c x w cc nL rt G A) (hr : va_Run p l e R s m args below meth c H locs cells slots mc ms (F0 m pc ls st0) rest (va_Qd post (gB G (va_A wc H.size) wo) (va_A wc H.size) a) (va_A wc H.size))
    (hP : va_P G.1 vwCl (lit ++ wt) H) (hD : va_D A (lit ++ wt)) (hS : va_S A s.heap H locs) (hC : isC.map (fun i => lit[i]?) = wc.map some) (hR : isR.map (fun i => lit[i]?) = wr.map some) (hn : va_nd isR = true) (hdis : ∀ i ∈ isR, i ∉ isC)
    (kk : ∀ (r : UInt64) (u : S) (H1 : Heap) (locs1 : List Loc), post r u → va_P G.1 vwCl (wr ++ wo u ++ wt) H1 → va_D A (wr ++ wo u ++ wt) → va_S A s.heap H1 locs1 → W p l e R s m args below meth c H1 locs1 (cells + mc) (slots + ms) Q (F0 m (pc + 3) ls (.double r :: rest))) : W p l e R s m args below meth c H locs cells slots Q (F0 m pc ls st0) := by
  have hFc := va_free (gDl hD) hS F.2.2.2.2.2.2.2.2.2 isC hC
  refine va_calld hr hS (fun q _ h => hFc q h) hFc (fun r u t H1 locs1 ht hvm hp hB hz1 hk1 hS1 => ?_)
  obtain ⟨hP1, hD1⟩ := hB
  rw [ht] at hP1
  obtain ⟨hP2, hD2⟩ := gJoin hP hD hC hR hn hdis hk1 hFc hP1 hD1
  exact kk r u H1 locs1 hp hP2 hD2 hS1
theorem gCq {S : Type} {post : Option Nat → S → Prop} {wo : S → va_W} (F : gAt p s m args meth c x w cc nL rt G A) (hr : va_Run p l e R s m args below meth c H locs cells slots mc ms (F0 m pc ls st0) rest (va_Qq post (gB G (va_A wc H.size) wo) (va_A wc H.size) a) (va_A wc H.size))
    (hP : va_P G.1 vwCl (lit ++ wt) H) (hD : va_D A (lit ++ wt)) (hS : va_S A s.heap H locs) (hC : isC.map (fun i => lit[i]?) = wc.map some) (hR : isR.map (fun i => lit[i]?) = wr.map some) (hn : va_nd isR = true) (hdis : ∀ i ∈ isR, i ∉ isC)
    (kk : ∀ (r : Option Nat) (u : S) (H1 : Heap) (locs1 : List Loc), post r u → va_P G.1 vwCl (wr ++ wo u ++ wt) H1 → va_D A (wr ++ wo u ++ wt) → va_S A s.heap H1 locs1 → W p l e R s m args below meth c H1 locs1 (cells + mc) (slots + ms) Q (F0 m (pc + 3) ls (va_rf r :: rest))) : W p l e R s m args below meth c H locs cells slots Q (F0 m pc ls st0) := by
  have hFc := va_free (gDl hD) hS F.2.2.2.2.2.2.2.2.2 isC hC
  refine va_callq hr hS (fun q _ h => hFc q h) hFc (fun r u t H1 locs1 ht hvm hp hB hz1 hk1 hS1 => ?_)
  obtain ⟨hP1, hD1⟩ := hB
  rw [ht] at hP1
  obtain ⟨hP2, hD2⟩ := gJoin hP hD hC hR hn hdis hk1 hFc hP1 hD1
  exact kk r u H1 locs1 hp hP2 hD2 hS1
theorem gCv {S : Type} {post : S → Prop} {wo : S → va_W} (F : gAt p s m args meth c x w cc nL rt G A) (hr : va_Run p l e R s m args below meth c H locs cells slots mc ms (F0 m pc ls st0) rest (va_Qv post (gB G (va_A wc H.size) wo) (va_A wc H.size) a) (va_A wc H.size))
    (hP : va_P G.1 vwCl (lit ++ wt) H) (hD : va_D A (lit ++ wt)) (hS : va_S A s.heap H locs) (hC : isC.map (fun i => lit[i]?) = wc.map some) (hR : isR.map (fun i => lit[i]?) = wr.map some) (hn : va_nd isR = true) (hdis : ∀ i ∈ isR, i ∉ isC)
    (kk : ∀ (u : S) (H1 : Heap) (locs1 : List Loc), post u → va_P G.1 vwCl (wr ++ wo u ++ wt) H1 → va_D A (wr ++ wo u ++ wt) → va_S A s.heap H1 locs1 → W p l e R s m args below meth c H1 locs1 (cells + mc) (slots + ms) Q (F0 m (pc + 3) ls rest)) : W p l e R s m args below meth c H locs cells slots Q (F0 m pc ls st0) := by
  have hFc := va_free (gDl hD) hS F.2.2.2.2.2.2.2.2.2 isC hC
  refine va_callv hr hS (fun q _ h => hFc q h) hFc (fun u t H1 locs1 ht hvm hp hB hz1 hk1 hS1 => ?_)
  obtain ⟨hP1, hD1⟩ := hB
  rw [ht] at hP1
  obtain ⟨hP2, hD2⟩ := gJoin hP hD hC hR hn hdis hk1 hFc hP1 hD1
  exact kk u H1 locs1 hp hP2 hD2 hS1
end GCalls
