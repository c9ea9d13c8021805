/-! OWN: a method with a table of its own, that answers; the law's row of one long -/
section GWrap
def gMw {S : Type} (l : Launch) (y : MethodName) (w : List Cond) (rm : Room) (G : gG) (As : List Value) (ws : va_W) (post : Int32 → S → Prop) (wo : S → va_W) (mc ms : Nat) : Prop :=
  ∀ sz : Nat, Met l y w rm (va_Pc As (gPreX G ws sz)) (va_Qi post (gB G (va_A ws sz) wo) (va_A ws sz)) mc ms (va_A ws sz)
theorem gMw_mk {l : Launch} {y : MethodName} {w w' : List Cond} {rm : Room} {G : gG} {As : List Value} {ws : va_W} {mc ms : Nat} {cc : ByteArray} {nL : Nat} {ret : Option FieldType} {hh : List (Nat × Nat × Nat × Nat)} {Qc : (Nat → Prop) → Array Value → State → Outcome → State → Prop}
    (hy : plainName y.cls = true) (hw : w = .codeWith y cc nL ret hh :: w') (hAs : (lg_sl As).length ≤ nL)
    (body : ∀ (p : Program) (e : Env) (s : State) (m : MethodId) (args : Array Value) (below : List Frame) (meth : Method) (c : Code) (A : Nat → Prop), gAt p s m args meth c y w cc nL ret G A → c.exceptionTable.toList = tableOf hh → gX A s s.heap → ∀ ls : Array Slot, lv_has ls nL (lv_args 0 As) → va_P G.1 vwCl ws s.heap → va_D A ws → va_S A s.heap s.heap [] →
      W p l e rm s m args below meth c s.heap [] 0 0 (MQ below (Qc A) args s mc ms A) (F0 m 0 ls [])) :
    ∀ sz : Nat, Met l y w rm (va_Pc As (gPreX G ws sz)) (Qc (va_A ws sz)) mc ms (va_A ws sz) := by
  intro sz
  refine MetFree.of_bodyS (code := cc) (maxLocals := nL) (ret := ret) hy ?_ ?_
  · intro args s m h hn
    obtain ⟨m9, meth, c, hn9, h1, h2, h3, h4, -, h5, h6, -⟩ := Cond.codeWith_spec (atoms_spec (ws := w) h _ (by rw [hw]; exact List.mem_cons_self))
    cases hn.symm.trans hn9
    exact ⟨meth, c, h1, h2, h3, h4, h5, h6⟩
  · intro p e s m args below meth c s₁ B hml hv _
    have hh0 : s₁.heap = s.heap := by rw [B.state]; rfl
    obtain ⟨rfl, ⟨hsz, hP, hK, hD0⟩, hZ⟩ := hv
    subst hsz
    have htb := vx_table (x := y) B (atoms_spec (ws := w) B.pre _ (by rw [hw]; exact List.mem_cons_self))
    have K := body p e s m _ below meth c _ ⟨B.exec, B.bytes, hml, B.returns, B.notSynchronized, findClass_of_methodNamed B.named, atoms_spec (ws := w) B.pre, (name_of_methodNamed B.named B.method).1, hK, fun q h => Or.inr h⟩ htb hZ _ (lv_entry As hAs) hP hD0.self va_S.rf
    rw [← lg_entry_eq] at K
    obtain ⟨t, a1, o, b1, b2, b3⟩ := K s₁ hh0 (Stand.of_body B)
    exact ⟨t, o, a1, b1, b2, ⟨b3.1, b3.2⟩⟩
variable {p : Program} {l : Launch} {e : Env} {R : Room} {s : State} {m : MethodId} {args : Array Value} {below : List Frame} {meth : Method} {c : Code} {H H0 : Heap} {locs : List Loc} {cells slots mc ms : Nat} {Q : State → Prop}
variable {x y : MethodName} {w wy wy' : List Cond} {cc bytes : ByteArray} {nL maxL index n : Nat} {rt ret : Option FieldType} {G : gG} {A free : Nat → Prop} {rm : Room} {wc lit wt : va_W} {As rest st0 : List Value} {pc : Nat} {ls : Array Slot} {isC : List Nat} {own : String}
/-- a static call of a method with a table -/
theorem gRunSW {Qc : Array Value → State → Outcome → State → Prop} {hh : List (Nat × Nat × Nat × Nat)} (F : gAt p s m args meth c x w cc nL rt G A) (hZ : gX A s s.heap) (hS : va_S A s.heap H locs) (hM : Met l y wy rm (va_Pc As (gPreX G wc H.size)) Qc mc ms free)
    (hG : GoodIn w (va_wsS own index y wy)) (hown : x.cls = own) (hw : wy = Cond.codeWith y bytes maxL ret hh :: wy') (hrc : rm.cells = mc) (hrs : rm.slots = ms)
    (hd : y.cls ≠ "java/lang/invoke/MethodHandle" ∧ y.cls ≠ "java/lang/invoke/VarHandle" ∧ (parseMethodDescriptor y.desc).map (fun d => d.parameters.length) = some n) (hAn : As.length = n) (hR : rm.frames + 1 ≤ R.frames ∧ 8 + (maxL + 11) + rm.locals ≤ R.locals)
    (hP : va_P G.1 vwCl (lit ++ wt) H) (hD : va_D A (lit ++ wt)) (hC : isC.map (fun i => lit[i]?) = wc.map some) (hnC : va_nd isC = true)
    (hst : st0 = As.reverse ++ rest) (hls : ls.size = nL) (hW : (rest.map fun v => v.category).sum ≤ 8) (hdg : decode cc pc = .ok (.invokestatic index, 3)) (hf : cells + mc ≤ R.cells ∧ slots + ms ≤ R.slots) :
    va_Run p l e R s m args below meth c H locs cells slots mc ms (F0 m pc ls st0) rest (Qc As.toArray) free := by
  subst hown
  exact vx_runSW (As := As) (rest := rest) ⟨F.1, F.2.1, F.2.2.1, F.2.2.2.2.2.1, F.2.2.2.2.2.2.1⟩ hM (vx_cwSW n F.2.2.2.2.2.2.1 hG hw hrc hrs hd hR) ⟨gBlindX, gCallPreX F hZ hP hD hS hC hnC As⟩ rfl hAn hls hst (lv_room hW) hdg hf
end GWrap
