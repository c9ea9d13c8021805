/-! OWN: the class's told state as one value; the law's contracts over it -/
abbrev SpT : Type := LdS × List LdS × (Nat → Option LdS) × (Nat → Nat) × Nat
abbrev clS (G : gG) (lq : Nat) (wv : va_W) (S : SpT) : Prop := clI G lq wv S.1.1 S.1.2.1 S.1.2.2.1 S.1.2.2.2.1 S.1.2.2.2.2.1 S.1.2.2.2.2.2.1 S.1.2.2.2.2.2.2.1 S.1.2.2.2.2.2.2.2 S.2.1 S.2.2.1 S.2.2.2.1 S.2.2.2.2
abbrev spS (S : SpT) : Prop := spI S.1.1 S.1.2.1 S.1.2.2.1 S.1.2.2.2.1 S.1.2.2.2.2.1 S.2.1 S.2.2.1 S.2.2.2.1 S.2.2.2.2
theorem cl_recv {G : gG} {lq : Nat} {wv : va_W} {ow : Nat → Nat} {he : Nat → Nat} {co : Nat → Nat} {pr : Nat} {tx : Nat} {sa : Nat} {fl : Nat} {lo : Nat} {SL : List LdS} {K : Nat → Option LdS} {bu : Nat → Nat} {bl : Nat} (h : clI G lq wv ow he co pr tx sa fl lo SL K bu bl) : ∃ fs, wv[0]? = some (lq, .inr (3, fs)) := by
  obtain ⟨ad, ar, su, ff, fk, L, kk, rs, hW, _⟩ := h
  subst hW; exact ⟨_, rfl⟩
theorem gMi_mono {S1 S2 : Type} {l : Launch} {y : MethodName} {w : List Cond} {rm : Room} {G : gG} {As : List Value} {ws : va_W} {post : Int32 → S1 → Prop} {wo : S1 → va_W} {post2 : Int32 → S2 → Prop} {wo2 : S2 → va_W} {mc ms : Nat}
    (h : gMi l y w rm G As ws post wo mc ms) (hk : ∀ r u, post r u → ∃ u2, post2 r u2 ∧ wo u = wo2 u2) : gMi l y w rm G As ws post2 wo2 mc ms := by
  intro sz
  refine MetFree.mono (h sz) (fun _ _ h => h) (fun _ _ _ _ _ h => h) ?_
  rintro a st o t _ ⟨⟨⟨r, u, ho, hpo, hB1, hB2⟩, hF⟩, hL⟩
  obtain ⟨u2, hp2, hw⟩ := hk r u hpo
  rw [hw] at hB1 hB2
  exact ⟨⟨⟨r, u2, ho, hp2, hB1, hB2⟩, hF⟩, hL⟩
theorem i32_z (a : Int32) : ∃ x : Int, (-2147483648 ≤ x ∧ x < 2147483648) ∧ a = zI x :=
  ⟨a.toInt, ⟨a.le_toInt, a.toInt_lt⟩, (Int32.ofInt_toInt a).symm⟩
theorem z_nat {x : Int} (h : 0 ≤ x) : ∃ n : Nat, x = (n : Int) := ⟨x.toNat, by omega⟩
theorem sp_push {ow : Nat → Nat} {he : Nat → Nat} {co : Nat → Nat} {pr : Nat} {tx : Nat} {sa : Nat} {fl : Nat} {lo : Nat} {SL : List LdS} {K : Nat → Option LdS} {bu : Nat → Nat} {bl : Nat} {ow' he' co' : Nat → Nat} {pr' tx' : Nat} (hS : spI ow he co pr tx SL K bu bl) (hl : lOK ow' he' co' pr' tx') : spI ow' he' co' pr' tx' (pushH SL (ow, he, co, pr, tx, sa, fl, lo)) K bu bl :=
  ⟨hl, fun r hr => (push_mem hr).elim (fun h => hS.2.1 r h) (fun h => by rw [h]; exact hS.1), push_6 _ hS.2.2.1, hS.2.2.2.1, hS.2.2.2.2⟩
/-- the reading does not hang on what the registers held ahead -/
theorem rd_ind (bu : Nat → Nat) (s s' : RdT) : ∀ i, (rdF bu s i).1 = (rdF bu s' i).1 ∧ ((rdF bu s i).1 ≠ 0 → (rdF bu s i).2.1 = (rdF bu s' i).2.1)
  | 0 => ⟨rfl, fun h => absurd rfl h⟩
  | i + 1 => by
    obtain ⟨h1, h2⟩ := rd_ind bu s s' i
    show rdSt (rdF bu s i).1 (rdF bu s i).2.1 (bu i) = rdSt (rdF bu s' i).1 (rdF bu s' i).2.1 (bu i) ∧ (rdSt (rdF bu s i).1 (rdF bu s i).2.1 (bu i) ≠ 0 → rdKd (rdF bu s i).1 (rdF bu s i).2.1 (bu i) = rdKd (rdF bu s' i).1 (rdF bu s' i).2.1 (bu i))
    rw [← h1]
    by_cases e : (rdF bu s i).1 = 0
    · rw [e]
      refine ⟨rfl, fun h => ?_⟩
      have hk : kdOk (bu i) := Classical.byContradiction fun q => h (by show (if kdOk (bu i) then kdN (bu i) else 0) = 0; rw [if_neg q])
      show (if kdOk (bu i) then bu i else _) = if kdOk (bu i) then bu i else _
      rw [if_pos hk, if_pos hk]
    · rw [h2 e]; exact ⟨rfl, fun _ => rfl⟩
theorem rdK_ind (bu : Nat → Nat) (s s' : RdT) (i : Nat) : rdK bu s i ↔ rdK bu s' i := by
  obtain ⟨h1, h2⟩ := rd_ind bu s s' i
  show rdOk _ _ _ ↔ rdOk _ _ _
  rw [← h1]
  by_cases e : (rdF bu s i).1 = 0
  · rw [rdOk_0 e, rdOk_0 e]
  · rw [h2 e]
theorem rdLen_ind (bu : Nat → Nat) (s s' : RdT) : ∀ n, rdLen bu s n = rdLen bu s' n
  | 0 => rfl
  | n + 1 => by
    have hk := rdK_ind bu s s' n
    simp only [rdLen]; rw [rdLen_ind bu s s' n]
    by_cases e : rdLen bu s' n = n ∧ rdK bu s n
    · rw [if_pos e, if_pos ⟨e.1, hk.mp e.2⟩]
    · rw [if_neg e, if_neg (fun q => e ⟨q.1, hk.mpr q.2⟩)]
theorem rd_end_ind (bu : Nat → Nat) (s s' : RdT) (bl : Nat) : (rdLen bu s bl = bl ∧ (rdF bu s bl).1 = 8) ↔ (rdLen bu s' bl = bl ∧ (rdF bu s' bl).1 = 8) := by
  rw [rdLen_ind bu s s', (rd_ind bu s s' bl).1]
abbrev pushS (S : SpT) (L : LdS) : SpT := (L, pushH S.2.1 S.1, S.2.2)
abbrev lOKs (L : LdS) : Prop := lOK L.1 L.2.1 L.2.2.1 L.2.2.2.1 L.2.2.2.2.1
theorem spS_push {S : SpT} {L : LdS} (hS : spS S) (hl : lOKs L) : spS (pushS S L) := sp_push hS hl
/-- a call of the class: the answer, the state behind it -/
def LQ (l : Launch) (G : gG) (lq : Nat) (y : MethodName) (w : List Cond) (rm : Room) (As : List Value) (S : SpT) (r : Int32) (S' : SpT) (mc ms : Nat) : Prop :=
  ∀ wv : va_W, clS G lq wv S → gMi (S := va_W) l y w rm G (.ref lq :: As) wv (fun r' u => r' = r ∧ clS G lq u S') (fun u => u) mc ms
def LD (l : Launch) (G : gG) (lq : Nat) (y : MethodName) (w : List Cond) (rm : Room) (As : List Value) (S : SpT) (r : UInt64) (mc ms : Nat) : Prop :=
  ∀ wv : va_W, clS G lq wv S → gMd (S := va_W) l y w rm G (.ref lq :: As) wv (fun r' u => r' = r ∧ clS G lq u S) (fun u => u) mc ms
/-- a call that throws E and leaves the state -/
def LX (l : Launch) (G : gG) (lq : Nat) (y : MethodName) (w : List Cond) (rm : Room) (As : List Value) (E : String) (S : SpT) (mc ms : Nat) : Prop :=
  ∀ wv : va_W, clS G lq wv S → gMx (S := va_W) l y w rm G (.ref lq :: As) wv E (fun u => clS G lq u S) (fun u => u) mc ms
def gMwL {S : Type} (l : Launch) (y : MethodName) (w : List Cond) (rm : Room) (G : gG) (As : List Value) (ws : va_W) (post : Int64 → S → Prop) (wo : S → va_W) (mc ms : Nat) : Prop :=
  ∀ sz : Nat, Met l y w rm (va_Pc As (gPreX G ws sz)) (va_Ql post (gB G (va_A ws sz) wo) (va_A ws sz)) mc ms (va_A ws sz)
/-- a method of the law's own that is handed the object -/
def LW (l : Launch) (G : gG) (lq : Nat) (y : MethodName) (w : List Cond) (rm : Room) (As : List Value) (S : SpT) (r : Int32) (S' : SpT) (mc ms : Nat) : Prop :=
  ∀ wv : va_W, clS G lq wv S → gMw (S := va_W) l y w rm G (.ref lq :: As) wv (fun r' u => r' = r ∧ clS G lq u S') (fun u => u) mc ms
def LL (l : Launch) (G : gG) (lq : Nat) (y : MethodName) (w : List Cond) (rm : Room) (As : List Value) (S : SpT) (r : Int64) (mc ms : Nat) : Prop :=
  ∀ wv : va_W, clS G lq wv S → gMwL (S := va_W) l y w rm G (.ref lq :: As) wv (fun r' u => r' = r ∧ clS G lq u S) (fun u => u) mc ms
/-- a method of the law's own over numbers alone -/
def LN (l : Launch) (G : gG) (y : MethodName) (w : List Cond) (rm : Room) (As : List Value) (post : Int32 → Prop) (mc ms : Nat) : Prop :=
  gMw (S := Unit) l y w rm G As [] (fun r _ => post r) (fun _ => []) mc ms
theorem gMetP_mk {l : Launch} {y : MethodName} {w w' : List Cond} {rm : Room} {G : gG} {As : List Value} {ws : va_W} {mc ms : Nat} {cc : ByteArray} {nL : Nat} {ret : Option FieldType} {Qc : (Nat → Prop) → Array Value → State → Outcome → State → Prop}
    (hy : plainName y.cls = true) (hw : w = .code y cc nL ret :: w') (hAs : (lg_sl As).length ≤ nL)
    (body : ∀ (p : Program) (e : Env) (s : State) (m : MethodId) (args : Array Value) (below : List Frame) (meth : Method) (c : Code) (A : Nat → Prop), gAt p s m args meth c y w cc nL ret G A → gX A s s.heap → ∀ ls : Array Slot, lv_has ls nL (lv_args 0 As) → va_P G.1 vwCl ws s.heap → va_D A ws → va_S A s.heap s.heap [] →
      W p l e rm s m args below meth c s.heap [] 0 0 (MQ below (Qc A) args s mc ms A) (F0 m 0 ls [])) :
    ∀ sz : Nat, Met l y w rm (va_Pc As (gPreX G ws sz)) (Qc (va_A ws sz)) mc ms (va_A ws sz) := by
  intro sz
  refine Met.ofW (cc := cc) (maxL := nL) (ret := ret) hy hw ?_
  intro p e s m args below meth c s₁ B hml hv
  obtain ⟨rfl, ⟨hsz, hP, hK, hD0⟩, hZ⟩ := hv
  subst hsz
  rw [lg_entry_eq]
  exact body p e s m _ below meth c _ ⟨B.exec, B.bytes, hml, B.returns, B.notSynchronized, findClass_of_methodNamed B.named, atoms_spec (ws := w) B.pre, (name_of_methodNamed B.named B.method).1, hK, fun q h => Or.inr h⟩ hZ _ (lv_entry As hAs) hP hD0.self va_S.rf
section LCalls
variable {p : Program} {l : Launch} {e : Env} {R : Room} {s : State} {m : MethodId} {args : Array Value} {below : List Frame} {meth : Method} {c : Code} {H : Heap} {locs : List Loc} {cells slots mc ms c2 s2 : Nat} {Q : State → Prop}
variable {x y : MethodName} {w wy wy' : List Cond} {cc bytes : ByteArray} {nL maxL index n : Nat} {rt ret : Option FieldType} {G : gG} {A free : Nat → Prop} {rm : Room} {wc lit wt wv X : va_W} {b lq : Nat} {As rest st0 : List Value} {pc : Nat} {ls : Array Slot} {isC : List Nat} {own : String} {S S' : SpT}
theorem gRl {S : Type} {post : Int64 → S → Prop} {wo : S → va_W} {v : Int64} {pc : Nat} {ls : Array Slot} (F : gAt p s m args meth c y w cc nL (some .long) G A) (hdg : decode cc pc = .ok (.lreturn, 1))
    (u : S) (hp : post v u) (hP : va_P G.1 vwCl (wo u) H) (hD : va_D A (wo u)) (hS : va_S A s.heap H locs) (hc : cells ≤ mc) (hs : slots ≤ ms) :
    W p l e R s m args below meth c H locs cells slots (MQ below (va_Ql post (gB G A wo) A) args s mc ms A) (F0 m pc ls [.long v]) := by
  refine W.widen hc hs ?_
  exact W.lret F.1 F.2.1 F.2.2.2.1 (fun t ht hW => ⟨⟨v, u, rfl, hp, by rw [ht]; exact hP, hD⟩, hS.F ht⟩) hS.2.2 hdg F.2.2.2.2.1
theorem gCl {S : Type} {post : Int64 → S → Prop} {wo : S → va_W} {wr : va_W} {isR : List Nat} {a : Array Value} (F : gAt p s m args meth c x w cc nL rt G A) (hr : va_Run p l e R s m args below meth c H locs cells slots mc ms (F0 m pc ls st0) rest (va_Ql post (gB G (va_A wc H.size) wo) (va_A wc H.size) a) (va_A wc H.size))
    (hP : va_P G.1 vwCl (lit ++ wt) H) (hD : va_D A (lit ++ wt)) (hS : va_S A s.heap H locs) (hC : isC.map (fun i => lit[i]?) = wc.map some) (hR : isR.map (fun i => lit[i]?) = wr.map some) (hn : va_nd isR = true) (hdis : ∀ i ∈ isR, i ∉ isC)
    (kk : ∀ (r : Int64) (u : S) (H1 : Heap) (locs1 : List Loc), post r u → va_P G.1 vwCl (wr ++ wo u ++ wt) H1 → va_D A (wr ++ wo u ++ wt) → va_S A s.heap H1 locs1 → W p l e R s m args below meth c H1 locs1 (cells + mc) (slots + ms) Q (F0 m (pc + 3) ls (.long r :: rest))) : W p l e R s m args below meth c H locs cells slots Q (F0 m pc ls st0) := by
  have hFc := va_free (gDl hD) hS F.2.2.2.2.2.2.2.2.2 isC hC
  refine va_calll hr hS (fun q _ h => hFc q h) hFc (fun r u t H1 locs1 ht hvm hp hB hz1 hk1 hS1 => ?_)
  obtain ⟨hP1, hD1⟩ := hB
  rw [ht] at hP1
  obtain ⟨hP2, hD2⟩ := gJoin hP hD hC hR hn hdis hk1 hFc hP1 hD1
  exact kk r u H1 locs1 hp hP2 hD2 hS1
/-- a static call of a method that may look at the thrown things' statics -/
theorem gRunSP {Qc : Array Value → State → Outcome → State → Prop} (F : gAt p s m args meth c x w cc nL rt G A) (hZ : gX A s s.heap) (hS : va_S A s.heap H locs) (hM : Met l y wy rm (va_Pc As (gPreX G wc H.size)) Qc mc ms free)
    (hG : GoodIn w (va_wsS own index y wy)) (hown : x.cls = own) (hw : wy = Cond.code y bytes maxL ret :: wy') (hrc : rm.cells = mc) (hrs : rm.slots = ms)
    (hd : y.cls ≠ "java/lang/invoke/MethodHandle" ∧ y.cls ≠ "java/lang/invoke/VarHandle" ∧ (parseMethodDescriptor y.desc).map (fun d => d.parameters.length) = some n) (hAn : As.length = n) (hR : rm.frames + 1 ≤ R.frames ∧ 8 + (maxL + 11) + rm.locals ≤ R.locals)
    (hP : va_P G.1 vwCl (lit ++ wt) H) (hD : va_D A (lit ++ wt)) (hC : isC.map (fun i => lit[i]?) = wc.map some) (hnC : va_nd isC = true)
    (hst : st0 = As.reverse ++ rest) (hls : ls.size = nL) (hW : (rest.map fun v => v.category).sum ≤ 8) (hdg : decode cc pc = .ok (.invokestatic index, 3)) (hf : cells + mc ≤ R.cells ∧ slots + ms ≤ R.slots) :
    va_Run p l e R s m args below meth c H locs cells slots mc ms (F0 m pc ls st0) rest (Qc As.toArray) free := by
  subst hown
  exact va_runS (As := As) (rest := rest) ⟨F.1, F.2.1, F.2.2.1, F.2.2.2.2.2.1, F.2.2.2.2.2.2.1⟩ hM (va_cwS n F.2.2.2.2.2.2.1 hG hw hrc hrs hd hR) ⟨gBlindX, gCallPreX F hZ hP hD hS hC hnC As⟩ rfl hAn hls hst (lv_room hW) hdg hf
/-- a virtual call with up to 16 words beside it on the stack -/
theorem gRunV16 {C : String} {T : u_T} {N ci : Nat} {fs : List Value} {Qc : Array Value → State → Outcome → State → Prop} (F : gAt p s m args meth c x w cc nL rt G A) (hM : Met l y wy rm (va_Pc (.ref b :: As) (gPre G wc H.size)) Qc mc ms free)
    (hG : GoodIn w (wsV own index C y wy)) (hown : x.cls = own) (hw : wy = Cond.code y bytes maxL ret :: wy') (hrc : rm.cells = mc) (hrs : rm.slots = ms)
    (hd : y.cls = C ∧ y.cls ≠ "java/lang/invoke/MethodHandle" ∧ y.cls ≠ "java/lang/invoke/VarHandle" ∧ (parseMethodDescriptor y.desc).map (fun d => d.parameters.length) = some n) (hAn : As.length = n) (hR : rm.frames + 1 ≤ R.frames ∧ 16 + (maxL + 11) + rm.locals ≤ R.locals)
    (hP : va_P G.1 vwCl (lit ++ wt) H) (hD : va_D A (lit ++ wt)) (hC : isC.map (fun i => lit[i]?) = wc.map some) (hnC : va_nd isC = true) (hc : vwCl[ci]? = some (C, T, N)) (he : wc[0]? = some (b, .inr (ci, fs)))
    (hst : st0 = As.reverse ++ .ref b :: rest) (hls : ls.size = nL) (hW : (rest.map fun v => v.category).sum ≤ 16) (hdg : decode cc pc = .ok (.invokevirtual index, 3)) (hf : cells + mc ≤ R.cells ∧ slots + ms ≤ R.slots) :
    va_Run p l e R s m args below meth c H locs cells slots mc ms (F0 m pc ls st0) rest (Qc (Value.ref b :: As).toArray) free := by
  subst hown
  have cw : CallW R s args x.cls C index y bytes maxL ret wy rm mc ms n := cwV n F.2.2.2.2.2.2.1 hG hw hrc hrs hd ⟨hR.1, by omega⟩
  have hp : PreV s H C b (va_Pc (.ref b :: As) (gPre G wc H.size)) As := ⟨gBlind, va_recv (q := (C, T, N)) F.2.2.2.2.2.2.2.2.1.1 (gSub (gPl hP) hC) hc he, gCallPre F hP hD hC hnC (.ref b :: As)⟩
  have hK : Back l R p e below s args y 3 16 (PreOf R mc ms (va_Pc (.ref b :: As) (gPre G wc H.size))) (PostOf Qc mc ms free) := by
    obtain ⟨h1, h2, -, -, h5, h6, -, h8, -⟩ := cw.1
    exact back_of (bytes := bytes) (maxL := maxL) (ret := ret) hM hp.1 h1 h2 hR.1 hR.2 h5 h6 (fun a' U hW => word_at hW (Or.inl (by first | rfl | simp [Cond.onTables, Cond.keeps, Cond.steady])) h8)
  obtain ⟨⟨-, -, -, -, -, -, hcode, -, hy, hlen, hl⟩, hin, hse⟩ := cw
  obtain ⟨-, ⟨cellB, hcB, hoB, hclB⟩, hPc⟩ := hp
  intro T hT X
  obtain ⟨v, vm₁, ⟨U', l2, c2, s2⟩, hW₁, X', ⟨g', mk, t, L, e1, e2, hq, h1, hL, h2, h3⟩, st⟩ := callV X F.1 (C := C) (bytes := bytes) (maxL := maxL) (ret := ret) F.2.2.2.2.2.1 hl hin hse hcode hy hK (by rw [hT]; exact hcB) hoB hclB (g := F0 m pc ls st0) rfl (hls.trans F.2.2.1.symm) (argsL := As) (rest := rest) (fun sig h => hAn.trans (hlen sig h)) hst (by show 2 * 0 + _ ≤ 16; omega) (by rw [F.2.1]; exact hdg)
    (fun vm₁ hW₁ => ⟨hf.1, hf.2, hPc (T.setVm vm₁) hT hW₁⟩)
  dsimp only [Pt.U, Pt.locs, Pt.cells, Pt.slots] at X' e1 e2 h1 h2 h3 st
  subst h1; subst h2; subst h3
  exact ⟨v, (T.setVm vm₁).calling g' mk (Value.ref b :: As).toArray, t, U', L, hT, X', hL, e1, e2, hq, st⟩
/-- the law calls the class -/
theorem lqV {r : Int32} (F : gAt p s m args meth c x w cc nL rt G A) (hM : LQ l G lq y wy rm As S r S' mc ms) (hC : clS G lq wv S)
    (hG : GoodIn w (wsV own index RX3 y wy)) (hown : x.cls = own) (hw : wy = Cond.code y bytes maxL ret :: wy') (hrc : rm.cells = mc) (hrs : rm.slots = ms)
    (hd : y.cls = RX3 ∧ y.cls ≠ "java/lang/invoke/MethodHandle" ∧ y.cls ≠ "java/lang/invoke/VarHandle" ∧ (parseMethodDescriptor y.desc).map (fun d => d.parameters.length) = some n) (hAn : As.length = n) (hR : rm.frames + 1 ≤ R.frames ∧ 8 + (maxL + 11) + rm.locals ≤ R.locals)
    (hP : va_P G.1 vwCl (wv ++ X) H) (hD : va_D A (wv ++ X)) (hS : va_S A s.heap H locs)
    (hst : st0 = As.reverse ++ .ref lq :: rest) (hls : ls.size = nL) (hW : (rest.map fun v => v.category).sum ≤ 8) (hdg : decode cc pc = .ok (.invokevirtual index, 3)) (h2 : cells + mc ≤ c2 ∧ slots + ms ≤ s2) (hf : c2 ≤ R.cells ∧ s2 ≤ R.slots)
    (kk : ∀ (u : va_W) (H1 : Heap) (locs1 : List Loc), clS G lq u S' → va_P G.1 vwCl (u ++ X) H1 → va_D A (u ++ X) → va_S A s.heap H1 locs1 → W p l e R s m args below meth c H1 locs1 c2 s2 Q (F0 m (pc + 3) ls (.int r :: rest))) : W p l e R s m args below meth c H locs cells slots Q (F0 m pc ls st0) := by
  obtain ⟨fs, h0⟩ := cl_recv hC
  refine gCi F (gRunV (C := RX3) (ci := 3) F (hM wv hC H.size) hG hown hw hrc hrs hd hAn hR hP hD (lit := wv) (wt := X) (wc := wv) (isC := List.range wv.length) (gRange wv) (gRange_nd _) rfl h0 hst hls hW hdg ⟨Nat.le_trans h2.1 hf.1, Nat.le_trans h2.2 hf.2⟩) hP hD hS (lit := wv) (wt := X) (wc := wv) (wr := []) (isC := List.range wv.length) (isR := []) (gRange wv) rfl rfl (fun _ h_ => by cases h_) (fun r u H1 locs1 hp hP hD hS => ?_)
  obtain ⟨rfl, hc⟩ := hp
  exact W.widen h2.1 h2.2 (kk u H1 locs1 hc hP hD hS)
theorem lqV16 {r : Int32} (F : gAt p s m args meth c x w cc nL rt G A) (hM : LQ l G lq y wy rm As S r S' mc ms) (hC : clS G lq wv S)
    (hG : GoodIn w (wsV own index RX3 y wy)) (hown : x.cls = own) (hw : wy = Cond.code y bytes maxL ret :: wy') (hrc : rm.cells = mc) (hrs : rm.slots = ms)
    (hd : y.cls = RX3 ∧ y.cls ≠ "java/lang/invoke/MethodHandle" ∧ y.cls ≠ "java/lang/invoke/VarHandle" ∧ (parseMethodDescriptor y.desc).map (fun d => d.parameters.length) = some n) (hAn : As.length = n) (hR : rm.frames + 1 ≤ R.frames ∧ 16 + (maxL + 11) + rm.locals ≤ R.locals)
    (hP : va_P G.1 vwCl (wv ++ X) H) (hD : va_D A (wv ++ X)) (hS : va_S A s.heap H locs)
    (hst : st0 = As.reverse ++ .ref lq :: rest) (hls : ls.size = nL) (hW : (rest.map fun v => v.category).sum ≤ 16) (hdg : decode cc pc = .ok (.invokevirtual index, 3)) (h2 : cells + mc ≤ c2 ∧ slots + ms ≤ s2) (hf : c2 ≤ R.cells ∧ s2 ≤ R.slots)
    (kk : ∀ (u : va_W) (H1 : Heap) (locs1 : List Loc), clS G lq u S' → va_P G.1 vwCl (u ++ X) H1 → va_D A (u ++ X) → va_S A s.heap H1 locs1 → W p l e R s m args below meth c H1 locs1 c2 s2 Q (F0 m (pc + 3) ls (.int r :: rest))) : W p l e R s m args below meth c H locs cells slots Q (F0 m pc ls st0) := by
  obtain ⟨fs, h0⟩ := cl_recv hC
  refine gCi F (gRunV16 (C := RX3) (ci := 3) F (hM wv hC H.size) hG hown hw hrc hrs hd hAn hR hP hD (lit := wv) (wt := X) (wc := wv) (isC := List.range wv.length) (gRange wv) (gRange_nd _) rfl h0 hst hls hW hdg ⟨Nat.le_trans h2.1 hf.1, Nat.le_trans h2.2 hf.2⟩) hP hD hS (lit := wv) (wt := X) (wc := wv) (wr := []) (isC := List.range wv.length) (isR := []) (gRange wv) rfl rfl (fun _ h_ => by cases h_) (fun r u H1 locs1 hp hP hD hS => ?_)
  obtain ⟨rfl, hc⟩ := hp
  exact W.widen h2.1 h2.2 (kk u H1 locs1 hc hP hD hS)
/-- a double is answered -/
theorem lqD {r : UInt64} (F : gAt p s m args meth c x w cc nL rt G A) (hM : LD l G lq y wy rm As S r mc ms) (hC : clS G lq wv S)
    (hG : GoodIn w (wsV own index RX3 y wy)) (hown : x.cls = own) (hw : wy = Cond.code y bytes maxL ret :: wy') (hrc : rm.cells = mc) (hrs : rm.slots = ms)
    (hd : y.cls = RX3 ∧ y.cls ≠ "java/lang/invoke/MethodHandle" ∧ y.cls ≠ "java/lang/invoke/VarHandle" ∧ (parseMethodDescriptor y.desc).map (fun d => d.parameters.length) = some n) (hAn : As.length = n) (hR : rm.frames + 1 ≤ R.frames ∧ 8 + (maxL + 11) + rm.locals ≤ R.locals)
    (hP : va_P G.1 vwCl (wv ++ X) H) (hD : va_D A (wv ++ X)) (hS : va_S A s.heap H locs)
    (hst : st0 = As.reverse ++ .ref lq :: rest) (hls : ls.size = nL) (hW : (rest.map fun v => v.category).sum ≤ 8) (hdg : decode cc pc = .ok (.invokevirtual index, 3)) (h2 : cells + mc ≤ c2 ∧ slots + ms ≤ s2) (hf : c2 ≤ R.cells ∧ s2 ≤ R.slots)
    (kk : ∀ (u : va_W) (H1 : Heap) (locs1 : List Loc), clS G lq u S → va_P G.1 vwCl (u ++ X) H1 → va_D A (u ++ X) → va_S A s.heap H1 locs1 → W p l e R s m args below meth c H1 locs1 c2 s2 Q (F0 m (pc + 3) ls (.double r :: rest))) : W p l e R s m args below meth c H locs cells slots Q (F0 m pc ls st0) := by
  obtain ⟨fs, h0⟩ := cl_recv hC
  refine gCd F (gRunV (C := RX3) (ci := 3) F (hM wv hC H.size) hG hown hw hrc hrs hd hAn hR hP hD (lit := wv) (wt := X) (wc := wv) (isC := List.range wv.length) (gRange wv) (gRange_nd _) rfl h0 hst hls hW hdg ⟨Nat.le_trans h2.1 hf.1, Nat.le_trans h2.2 hf.2⟩) hP hD hS (lit := wv) (wt := X) (wc := wv) (wr := []) (isC := List.range wv.length) (isR := []) (gRange wv) rfl rfl (fun _ h_ => by cases h_) (fun r u H1 locs1 hp hP hD hS => ?_)
  obtain ⟨rfl, hc⟩ := hp
  exact W.widen h2.1 h2.2 (kk u H1 locs1 hc hP hD hS)
/-- the law calls a method of its own with the object -/
theorem lqS {r : Int32} (F : gAt p s m args meth c x w cc nL rt G A) (hZ : gX A s s.heap) (hM : LW l G lq y wy rm As S r S' mc ms) (hC : clS G lq wv S)
    (hG : GoodIn w (va_wsS own index y wy)) (hown : x.cls = own) (hw : wy = Cond.code y bytes maxL ret :: wy') (hrc : rm.cells = mc) (hrs : rm.slots = ms)
    (hd : y.cls ≠ "java/lang/invoke/MethodHandle" ∧ y.cls ≠ "java/lang/invoke/VarHandle" ∧ (parseMethodDescriptor y.desc).map (fun d => d.parameters.length) = some n) (hAn : As.length + 1 = n) (hR : rm.frames + 1 ≤ R.frames ∧ 8 + (maxL + 11) + rm.locals ≤ R.locals)
    (hP : va_P G.1 vwCl (wv ++ X) H) (hD : va_D A (wv ++ X)) (hS : va_S A s.heap H locs)
    (hst : st0 = (.ref lq :: As).reverse ++ rest) (hls : ls.size = nL) (hW : (rest.map fun v => v.category).sum ≤ 8) (hdg : decode cc pc = .ok (.invokestatic index, 3)) (h2 : cells + mc ≤ c2 ∧ slots + ms ≤ s2) (hf : c2 ≤ R.cells ∧ s2 ≤ R.slots)
    (kk : ∀ (u : va_W) (H1 : Heap) (locs1 : List Loc), clS G lq u S' → va_P G.1 vwCl (u ++ X) H1 → va_D A (u ++ X) → va_S A s.heap H1 locs1 → W p l e R s m args below meth c H1 locs1 c2 s2 Q (F0 m (pc + 3) ls (.int r :: rest))) : W p l e R s m args below meth c H locs cells slots Q (F0 m pc ls st0) := by
  refine gCi F (gRunSP F hZ hS (hM wv hC H.size) hG hown hw hrc hrs hd hAn hR hP hD (lit := wv) (wt := X) (wc := wv) (isC := List.range wv.length) (gRange wv) (gRange_nd _) hst hls hW hdg ⟨Nat.le_trans h2.1 hf.1, Nat.le_trans h2.2 hf.2⟩) hP hD hS (lit := wv) (wt := X) (wc := wv) (wr := []) (isC := List.range wv.length) (isR := []) (gRange wv) rfl rfl (fun _ h_ => by cases h_) (fun r u H1 locs1 hp hP hD hS => ?_)
  obtain ⟨rfl, hc⟩ := hp
  exact W.widen h2.1 h2.2 (kk u H1 locs1 hc hP hD hS)
/-- .. one with a table of its own -/
theorem lqSW {r : Int32} {hh : List (Nat × Nat × Nat × Nat)} (F : gAt p s m args meth c x w cc nL rt G A) (hZ : gX A s s.heap) (hM : LW l G lq y wy rm As S r S' mc ms) (hC : clS G lq wv S)
    (hG : GoodIn w (va_wsS own index y wy)) (hown : x.cls = own) (hw : wy = Cond.codeWith y bytes maxL ret hh :: wy') (hrc : rm.cells = mc) (hrs : rm.slots = ms)
    (hd : y.cls ≠ "java/lang/invoke/MethodHandle" ∧ y.cls ≠ "java/lang/invoke/VarHandle" ∧ (parseMethodDescriptor y.desc).map (fun d => d.parameters.length) = some n) (hAn : As.length + 1 = n) (hR : rm.frames + 1 ≤ R.frames ∧ 8 + (maxL + 11) + rm.locals ≤ R.locals)
    (hP : va_P G.1 vwCl (wv ++ X) H) (hD : va_D A (wv ++ X)) (hS : va_S A s.heap H locs)
    (hst : st0 = (.ref lq :: As).reverse ++ rest) (hls : ls.size = nL) (hW : (rest.map fun v => v.category).sum ≤ 8) (hdg : decode cc pc = .ok (.invokestatic index, 3)) (h2 : cells + mc ≤ c2 ∧ slots + ms ≤ s2) (hf : c2 ≤ R.cells ∧ s2 ≤ R.slots)
    (kk : ∀ (u : va_W) (H1 : Heap) (locs1 : List Loc), clS G lq u S' → va_P G.1 vwCl (u ++ X) H1 → va_D A (u ++ X) → va_S A s.heap H1 locs1 → W p l e R s m args below meth c H1 locs1 c2 s2 Q (F0 m (pc + 3) ls (.int r :: rest))) : W p l e R s m args below meth c H locs cells slots Q (F0 m pc ls st0) := by
  refine gCi F (gRunSW F hZ hS (hM wv hC H.size) hG hown hw hrc hrs hd hAn hR hP hD (lit := wv) (wt := X) (wc := wv) (isC := List.range wv.length) (gRange wv) (gRange_nd _) hst hls hW hdg ⟨Nat.le_trans h2.1 hf.1, Nat.le_trans h2.2 hf.2⟩) hP hD hS (lit := wv) (wt := X) (wc := wv) (wr := []) (isC := List.range wv.length) (isR := []) (gRange wv) rfl rfl (fun _ h_ => by cases h_) (fun r u H1 locs1 hp hP hD hS => ?_)
  obtain ⟨rfl, hc⟩ := hp
  exact W.widen h2.1 h2.2 (kk u H1 locs1 hc hP hD hS)
/-- .. one that answers a long -/
theorem lqL {r : Int64} (F : gAt p s m args meth c x w cc nL rt G A) (hZ : gX A s s.heap) (hM : LL l G lq y wy rm As S r mc ms) (hC : clS G lq wv S)
    (hG : GoodIn w (va_wsS own index y wy)) (hown : x.cls = own) (hw : wy = Cond.code y bytes maxL ret :: wy') (hrc : rm.cells = mc) (hrs : rm.slots = ms)
    (hd : y.cls ≠ "java/lang/invoke/MethodHandle" ∧ y.cls ≠ "java/lang/invoke/VarHandle" ∧ (parseMethodDescriptor y.desc).map (fun d => d.parameters.length) = some n) (hAn : As.length + 1 = n) (hR : rm.frames + 1 ≤ R.frames ∧ 8 + (maxL + 11) + rm.locals ≤ R.locals)
    (hP : va_P G.1 vwCl (wv ++ X) H) (hD : va_D A (wv ++ X)) (hS : va_S A s.heap H locs)
    (hst : st0 = (.ref lq :: As).reverse ++ rest) (hls : ls.size = nL) (hW : (rest.map fun v => v.category).sum ≤ 8) (hdg : decode cc pc = .ok (.invokestatic index, 3)) (h2 : cells + mc ≤ c2 ∧ slots + ms ≤ s2) (hf : c2 ≤ R.cells ∧ s2 ≤ R.slots)
    (kk : ∀ (u : va_W) (H1 : Heap) (locs1 : List Loc), clS G lq u S → va_P G.1 vwCl (u ++ X) H1 → va_D A (u ++ X) → va_S A s.heap H1 locs1 → W p l e R s m args below meth c H1 locs1 c2 s2 Q (F0 m (pc + 3) ls (.long r :: rest))) : W p l e R s m args below meth c H locs cells slots Q (F0 m pc ls st0) := by
  refine gCl F (gRunSP F hZ hS (hM wv hC H.size) hG hown hw hrc hrs hd hAn hR hP hD (lit := wv) (wt := X) (wc := wv) (isC := List.range wv.length) (gRange wv) (gRange_nd _) hst hls hW hdg ⟨Nat.le_trans h2.1 hf.1, Nat.le_trans h2.2 hf.2⟩) hP hD hS (lit := wv) (wt := X) (wc := wv) (wr := []) (isC := List.range wv.length) (isR := []) (gRange wv) rfl rfl (fun _ h_ => by cases h_) (fun r u H1 locs1 hp hP hD hS => ?_)
  obtain ⟨rfl, hc⟩ := hp
  exact W.widen h2.1 h2.2 (kk u H1 locs1 hc hP hD hS)
/-- .. one over numbers alone -/
theorem lqN {post : Int32 → Prop} (F : gAt p s m args meth c x w cc nL rt G A) (hZ : gX A s s.heap) (hM : LN l G y wy rm As post mc ms)
    (hG : GoodIn w (va_wsS own index y wy)) (hown : x.cls = own) (hw : wy = Cond.code y bytes maxL ret :: wy') (hrc : rm.cells = mc) (hrs : rm.slots = ms)
    (hd : y.cls ≠ "java/lang/invoke/MethodHandle" ∧ y.cls ≠ "java/lang/invoke/VarHandle" ∧ (parseMethodDescriptor y.desc).map (fun d => d.parameters.length) = some n) (hAn : As.length = n) (hR : rm.frames + 1 ≤ R.frames ∧ 8 + (maxL + 11) + rm.locals ≤ R.locals)
    (hP : va_P G.1 vwCl X H) (hD : va_D A X) (hS : va_S A s.heap H locs)
    (hst : st0 = As.reverse ++ rest) (hls : ls.size = nL) (hW : (rest.map fun v => v.category).sum ≤ 8) (hdg : decode cc pc = .ok (.invokestatic index, 3)) (h2 : cells + mc ≤ c2 ∧ slots + ms ≤ s2) (hf : c2 ≤ R.cells ∧ s2 ≤ R.slots)
    (kk : ∀ (r : Int32) (H1 : Heap) (locs1 : List Loc), post r → va_P G.1 vwCl X H1 → va_D A X → va_S A s.heap H1 locs1 → W p l e R s m args below meth c H1 locs1 c2 s2 Q (F0 m (pc + 3) ls (.int r :: rest))) : W p l e R s m args below meth c H locs cells slots Q (F0 m pc ls st0) := by
  refine gCi F (gRunSP F hZ hS (hM H.size) hG hown hw hrc hrs hd hAn hR (lit := []) (wt := X) (wc := []) (isC := []) hP hD rfl rfl hst hls hW hdg ⟨Nat.le_trans h2.1 hf.1, Nat.le_trans h2.2 hf.2⟩) (lit := []) (wt := X) (wc := []) (wr := []) (isC := []) (isR := []) hP hD hS rfl rfl rfl (fun _ h_ => by cases h_) (fun r u H1 locs1 hp hP hD hS => ?_)
  exact W.widen h2.1 h2.2 (kk r H1 locs1 hp hP hD hS)
end LCalls
/-! branches that are sure -/
section LBr
variable {p : Program} {l : Launch} {e : Env} {R : Room} {s : State} {m : MethodId} {args : Array Value} {below : List Frame} {meth : Method} {c : Code} {H : Heap} {locs : List Loc} {cells slots : Nat} {Q : State → Prop} {cc : ByteArray} {pc : Nat} {ls : Array Slot} {rest : List Value} {x y : Int32} {off : Int} {tgt : Nat}
theorem bIT_eq (hx : p.tables.exec = Jvm.exec) (hb : c.code = cc) (hdg : decode cc pc = .ok (.if_icmp .eq off, 3)) (ht : (pc : Int) + off = (tgt : Int)) (h9 : x = y)
    (k : W p l e R s m args below meth c H locs cells slots Q (F0 m tgt ls rest)) : W p l e R s m args below meth c H locs cells slots Q (F0 m pc ls (.int y :: .int x :: rest)) := lv_icmp_eq hx hb hdg ht (fun _ => k) (fun h8 => absurd h9 h8)
theorem bIF_eq (hx : p.tables.exec = Jvm.exec) (hb : c.code = cc) (hdg : decode cc pc = .ok (.if_icmp .eq off, 3)) (ht : (pc : Int) + off = (tgt : Int)) (h9 : ¬ (x = y))
    (k : W p l e R s m args below meth c H locs cells slots Q (F0 m (pc + 3) ls rest)) : W p l e R s m args below meth c H locs cells slots Q (F0 m pc ls (.int y :: .int x :: rest)) := lv_icmp_eq hx hb hdg ht (fun h8 => absurd h8 h9) (fun _ => k)
theorem bZT_eq (hx : p.tables.exec = Jvm.exec) (hb : c.code = cc) (hdg : decode cc pc = .ok (.ifCond .eq off, 3)) (ht : (pc : Int) + off = (tgt : Int)) (h9 : x = 0)
    (k : W p l e R s m args below meth c H locs cells slots Q (F0 m tgt ls rest)) : W p l e R s m args below meth c H locs cells slots Q (F0 m pc ls (.int x :: rest)) := lv_if_eq hx hb hdg ht (fun _ => k) (fun h8 => absurd h9 h8)
theorem bZF_eq (hx : p.tables.exec = Jvm.exec) (hb : c.code = cc) (hdg : decode cc pc = .ok (.ifCond .eq off, 3)) (ht : (pc : Int) + off = (tgt : Int)) (h9 : ¬ (x = 0))
    (k : W p l e R s m args below meth c H locs cells slots Q (F0 m (pc + 3) ls rest)) : W p l e R s m args below meth c H locs cells slots Q (F0 m pc ls (.int x :: rest)) := lv_if_eq hx hb hdg ht (fun h8 => absurd h8 h9) (fun _ => k)
theorem bIT_ne (hx : p.tables.exec = Jvm.exec) (hb : c.code = cc) (hdg : decode cc pc = .ok (.if_icmp .ne off, 3)) (ht : (pc : Int) + off = (tgt : Int)) (h9 : ¬ x = y)
    (k : W p l e R s m args below meth c H locs cells slots Q (F0 m tgt ls rest)) : W p l e R s m args below meth c H locs cells slots Q (F0 m pc ls (.int y :: .int x :: rest)) := lv_icmp_ne hx hb hdg ht (fun _ => k) (fun h8 => absurd h8 h9)
theorem bIF_ne (hx : p.tables.exec = Jvm.exec) (hb : c.code = cc) (hdg : decode cc pc = .ok (.if_icmp .ne off, 3)) (ht : (pc : Int) + off = (tgt : Int)) (h9 : x = y)
    (k : W p l e R s m args below meth c H locs cells slots Q (F0 m (pc + 3) ls rest)) : W p l e R s m args below meth c H locs cells slots Q (F0 m pc ls (.int y :: .int x :: rest)) := lv_icmp_ne hx hb hdg ht (fun h8 => absurd h9 h8) (fun _ => k)
theorem bZT_ne (hx : p.tables.exec = Jvm.exec) (hb : c.code = cc) (hdg : decode cc pc = .ok (.ifCond .ne off, 3)) (ht : (pc : Int) + off = (tgt : Int)) (h9 : ¬ x = 0)
    (k : W p l e R s m args below meth c H locs cells slots Q (F0 m tgt ls rest)) : W p l e R s m args below meth c H locs cells slots Q (F0 m pc ls (.int x :: rest)) := lv_if_ne hx hb hdg ht (fun _ => k) (fun h8 => absurd h8 h9)
theorem bZF_ne (hx : p.tables.exec = Jvm.exec) (hb : c.code = cc) (hdg : decode cc pc = .ok (.ifCond .ne off, 3)) (ht : (pc : Int) + off = (tgt : Int)) (h9 : x = 0)
    (k : W p l e R s m args below meth c H locs cells slots Q (F0 m (pc + 3) ls rest)) : W p l e R s m args below meth c H locs cells slots Q (F0 m pc ls (.int x :: rest)) := lv_if_ne hx hb hdg ht (fun h8 => absurd h9 h8) (fun _ => k)
theorem bIT_lt (hx : p.tables.exec = Jvm.exec) (hb : c.code = cc) (hdg : decode cc pc = .ok (.if_icmp .lt off, 3)) (ht : (pc : Int) + off = (tgt : Int)) (h9 : x < y)
    (k : W p l e R s m args below meth c H locs cells slots Q (F0 m tgt ls rest)) : W p l e R s m args below meth c H locs cells slots Q (F0 m pc ls (.int y :: .int x :: rest)) := lv_icmp_lt hx hb hdg ht (fun _ => k) (fun h8 => absurd h9 h8)
theorem bIF_lt (hx : p.tables.exec = Jvm.exec) (hb : c.code = cc) (hdg : decode cc pc = .ok (.if_icmp .lt off, 3)) (ht : (pc : Int) + off = (tgt : Int)) (h9 : ¬ (x < y))
    (k : W p l e R s m args below meth c H locs cells slots Q (F0 m (pc + 3) ls rest)) : W p l e R s m args below meth c H locs cells slots Q (F0 m pc ls (.int y :: .int x :: rest)) := lv_icmp_lt hx hb hdg ht (fun h8 => absurd h8 h9) (fun _ => k)
theorem bZT_lt (hx : p.tables.exec = Jvm.exec) (hb : c.code = cc) (hdg : decode cc pc = .ok (.ifCond .lt off, 3)) (ht : (pc : Int) + off = (tgt : Int)) (h9 : x < 0)
    (k : W p l e R s m args below meth c H locs cells slots Q (F0 m tgt ls rest)) : W p l e R s m args below meth c H locs cells slots Q (F0 m pc ls (.int x :: rest)) := lv_if_lt hx hb hdg ht (fun _ => k) (fun h8 => absurd h9 h8)
theorem bZF_lt (hx : p.tables.exec = Jvm.exec) (hb : c.code = cc) (hdg : decode cc pc = .ok (.ifCond .lt off, 3)) (ht : (pc : Int) + off = (tgt : Int)) (h9 : ¬ (x < 0))
    (k : W p l e R s m args below meth c H locs cells slots Q (F0 m (pc + 3) ls rest)) : W p l e R s m args below meth c H locs cells slots Q (F0 m pc ls (.int x :: rest)) := lv_if_lt hx hb hdg ht (fun h8 => absurd h8 h9) (fun _ => k)
theorem bIT_ge (hx : p.tables.exec = Jvm.exec) (hb : c.code = cc) (hdg : decode cc pc = .ok (.if_icmp .ge off, 3)) (ht : (pc : Int) + off = (tgt : Int)) (h9 : y ≤ x)
    (k : W p l e R s m args below meth c H locs cells slots Q (F0 m tgt ls rest)) : W p l e R s m args below meth c H locs cells slots Q (F0 m pc ls (.int y :: .int x :: rest)) := lv_icmp_ge hx hb hdg ht (fun _ => k) (fun h8 => absurd h9 h8)
theorem bIF_ge (hx : p.tables.exec = Jvm.exec) (hb : c.code = cc) (hdg : decode cc pc = .ok (.if_icmp .ge off, 3)) (ht : (pc : Int) + off = (tgt : Int)) (h9 : ¬ (y ≤ x))
    (k : W p l e R s m args below meth c H locs cells slots Q (F0 m (pc + 3) ls rest)) : W p l e R s m args below meth c H locs cells slots Q (F0 m pc ls (.int y :: .int x :: rest)) := lv_icmp_ge hx hb hdg ht (fun h8 => absurd h8 h9) (fun _ => k)
theorem bZT_ge (hx : p.tables.exec = Jvm.exec) (hb : c.code = cc) (hdg : decode cc pc = .ok (.ifCond .ge off, 3)) (ht : (pc : Int) + off = (tgt : Int)) (h9 : 0 ≤ x)
    (k : W p l e R s m args below meth c H locs cells slots Q (F0 m tgt ls rest)) : W p l e R s m args below meth c H locs cells slots Q (F0 m pc ls (.int x :: rest)) := lv_if_ge hx hb hdg ht (fun _ => k) (fun h8 => absurd h9 h8)
theorem bZF_ge (hx : p.tables.exec = Jvm.exec) (hb : c.code = cc) (hdg : decode cc pc = .ok (.ifCond .ge off, 3)) (ht : (pc : Int) + off = (tgt : Int)) (h9 : ¬ (0 ≤ x))
    (k : W p l e R s m args below meth c H locs cells slots Q (F0 m (pc + 3) ls rest)) : W p l e R s m args below meth c H locs cells slots Q (F0 m pc ls (.int x :: rest)) := lv_if_ge hx hb hdg ht (fun h8 => absurd h8 h9) (fun _ => k)
theorem bIT_gt (hx : p.tables.exec = Jvm.exec) (hb : c.code = cc) (hdg : decode cc pc = .ok (.if_icmp .gt off, 3)) (ht : (pc : Int) + off = (tgt : Int)) (h9 : y < x)
    (k : W p l e R s m args below meth c H locs cells slots Q (F0 m tgt ls rest)) : W p l e R s m args below meth c H locs cells slots Q (F0 m pc ls (.int y :: .int x :: rest)) := lv_icmp_gt hx hb hdg ht (fun _ => k) (fun h8 => absurd h9 h8)
theorem bIF_gt (hx : p.tables.exec = Jvm.exec) (hb : c.code = cc) (hdg : decode cc pc = .ok (.if_icmp .gt off, 3)) (ht : (pc : Int) + off = (tgt : Int)) (h9 : ¬ (y < x))
    (k : W p l e R s m args below meth c H locs cells slots Q (F0 m (pc + 3) ls rest)) : W p l e R s m args below meth c H locs cells slots Q (F0 m pc ls (.int y :: .int x :: rest)) := lv_icmp_gt hx hb hdg ht (fun h8 => absurd h8 h9) (fun _ => k)
theorem bZT_gt (hx : p.tables.exec = Jvm.exec) (hb : c.code = cc) (hdg : decode cc pc = .ok (.ifCond .gt off, 3)) (ht : (pc : Int) + off = (tgt : Int)) (h9 : 0 < x)
    (k : W p l e R s m args below meth c H locs cells slots Q (F0 m tgt ls rest)) : W p l e R s m args below meth c H locs cells slots Q (F0 m pc ls (.int x :: rest)) := lv_if_gt hx hb hdg ht (fun _ => k) (fun h8 => absurd h9 h8)
theorem bZF_gt (hx : p.tables.exec = Jvm.exec) (hb : c.code = cc) (hdg : decode cc pc = .ok (.ifCond .gt off, 3)) (ht : (pc : Int) + off = (tgt : Int)) (h9 : ¬ (0 < x))
    (k : W p l e R s m args below meth c H locs cells slots Q (F0 m (pc + 3) ls rest)) : W p l e R s m args below meth c H locs cells slots Q (F0 m pc ls (.int x :: rest)) := lv_if_gt hx hb hdg ht (fun h8 => absurd h8 h9) (fun _ => k)
theorem bIT_le (hx : p.tables.exec = Jvm.exec) (hb : c.code = cc) (hdg : decode cc pc = .ok (.if_icmp .le off, 3)) (ht : (pc : Int) + off = (tgt : Int)) (h9 : x ≤ y)
    (k : W p l e R s m args below meth c H locs cells slots Q (F0 m tgt ls rest)) : W p l e R s m args below meth c H locs cells slots Q (F0 m pc ls (.int y :: .int x :: rest)) := lv_icmp_le hx hb hdg ht (fun _ => k) (fun h8 => absurd h9 h8)
theorem bIF_le (hx : p.tables.exec = Jvm.exec) (hb : c.code = cc) (hdg : decode cc pc = .ok (.if_icmp .le off, 3)) (ht : (pc : Int) + off = (tgt : Int)) (h9 : ¬ (x ≤ y))
    (k : W p l e R s m args below meth c H locs cells slots Q (F0 m (pc + 3) ls rest)) : W p l e R s m args below meth c H locs cells slots Q (F0 m pc ls (.int y :: .int x :: rest)) := lv_icmp_le hx hb hdg ht (fun h8 => absurd h8 h9) (fun _ => k)
theorem bZT_le (hx : p.tables.exec = Jvm.exec) (hb : c.code = cc) (hdg : decode cc pc = .ok (.ifCond .le off, 3)) (ht : (pc : Int) + off = (tgt : Int)) (h9 : x ≤ 0)
    (k : W p l e R s m args below meth c H locs cells slots Q (F0 m tgt ls rest)) : W p l e R s m args below meth c H locs cells slots Q (F0 m pc ls (.int x :: rest)) := lv_if_le hx hb hdg ht (fun _ => k) (fun h8 => absurd h9 h8)
theorem bZF_le (hx : p.tables.exec = Jvm.exec) (hb : c.code = cc) (hdg : decode cc pc = .ok (.ifCond .le off, 3)) (ht : (pc : Int) + off = (tgt : Int)) (h9 : ¬ (x ≤ 0))
    (k : W p l e R s m args below meth c H locs cells slots Q (F0 m (pc + 3) ls rest)) : W p l e R s m args below meth c H locs cells slots Q (F0 m pc ls (.int x :: rest)) := lv_if_le hx hb hdg ht (fun h8 => absurd h8 h9) (fun _ => k)
end LBr
