/-! OWN BASE: the world of a run (classes' ids, the arrays' classes, what the tables say), contracts over it, their entry, their end, their calls -/
section GBase
/-- classes' ids and their fields' places; the classes of int[], char[], long[], Land[] -/
abbrev gG : Type := va_G × ClassId × ClassId × ClassId × ClassId
abbrev gT (G : gG) : List (ClassId × FieldType) := [(G.2.1, .int), (G.2.2.1, .char), (G.2.2.2.1, .long), (G.2.2.2.2, .object RX1)]
def gNM : List (String × Nat × MethodName × String) := [(RX2, 72, yX3_isCell, RX3), (RX1, 57, yX3_isSquare, RX3), (RX2, 66, yX3_isSquare, RX3), (RX1, 49, yX3_isCell, RX3), (RX3, 46, yX0_init, RX3), (RX1, 53, yX3_isOwner, RX3)]
def gNF : List (String × Nat × String × String × String × String) := [(RX3, 119, RX1, "cellPrice", "I", RX3), (RX3, 124, RX1, "plotTax", "I", RX3), (RX3, 206, RX1, "salesSoFar", "I", RX3), (RX3, 209, RX1, "floodsSoFar", "I", RX3), (RX3, 212, RX1, "lostSoFar", "I", RX3), (RX3, 16, RX2, "land", "LLandQuarters$Land;", RX3), (RX3, 283, RX0, "kind", "C", RX3), (RX3, 287, RX0, "x", "I", RX3), (RX3, 290, RX0, "y", "I", RX3), (RX3, 293, RX0, "size", "I", RX3), (RX3, 296, RX0, "number", "I", RX3)]
def gStr : List (String × Nat × String) := [(RX3, 232, "there is no such cell"), (RX3, 239, "there is no such owner"), (RX3, 249, "there is no such square"), (RX3, 75, "by is out of range"), (RX3, 251, "level is out of range"), (RX3, 241, "there is no such person"), (RX3, 262, "this person cannot buy this"), (RX3, 117, "there is no such price"), (RX3, 122, "there is no such tax"), (RX3, 127, "there is no such character"), (RX3, 131, "the buffer is full"), (RX3, 141, "the buffer is not a complete deed text"), (RX3, 150, "no state is saved"), (RX3, 243, "there is no such slot"), (RX3, 166, "the slot is empty"), (RX3, 256, "there is no such plot")]
abbrev gIA : String := "java/lang/IllegalArgumentException"
abbrev gIS : String := "java/lang/IllegalStateException"
abbrev gIO : String := "java/lang/IndexOutOfBoundsException"
def gCast : List (String × String) := [(gIA, gIA), (gIS, gIS), (gIO, gIO)]
def gNc : List (String × String) := [(gIA, gIS), (gIA, gIO), (gIS, gIA), (gIS, gIO), (gIO, gIA), (gIO, gIS)]
/-- what the tables say, of the whole run -/
def gK (G : gG) (U : State) : Prop :=
  va_K G.1 vwCl (gT G) U ∧ (∀ q ∈ gNM, va_Nw (.methodLinkNest q.1 q.2.1 q.2.2.1 q.2.2.2) U) ∧ (∀ q ∈ gNF, va_Nw (.fieldLinkNest q.1 q.2.1 q.2.2.1 q.2.2.2.1 q.2.2.2.2.1 q.2.2.2.2.2) U) ∧
  (U.vm.findClass "[I" = some G.2.1 ∧ U.vm.findClass "[C" = some G.2.2.1 ∧ U.vm.findClass "[J" = some G.2.2.2.1 ∧ U.vm.findClass "[LLandQuarters$Land;" = some G.2.2.2.2) ∧
  (∀ q ∈ gStr, ∃ a, vk_R q.1 q.2.1 q.2.2 a U) ∧ (∀ q ∈ gCast, va_Nw (.castable q.1 q.2) U) ∧ (∀ q ∈ gNc, va_Nc q.1 q.2 U) ∧ va_AO RX1 U
theorem gK.warm {G : gG} {s U : State} (hW : s.WarmedH U.vm) (h : gK G s) : gK G U := by
  obtain ⟨h1, h2, h3, ⟨h4, h5, h6, h7⟩, h8, h9, h10, h11⟩ := h
  refine ⟨va_K.moved hW.alike h1, fun q hq => va_Nw.warmM hW (h2 q hq), fun q hq => va_Nw.warmF hW (h3 q hq), ⟨?_, ?_, ?_, ?_⟩, fun q hq => ?_, fun q hq => va_Nw.warmC hW (h9 q hq), fun q hq => va_Nc.moved hW.alike (h10 q hq), va_AO.moved hW.alike h11⟩
  · rw [hW.alike.findClass]; exact h4
  · rw [hW.alike.findClass]; exact h5
  · rw [hW.alike.findClass]; exact h6
  · rw [hW.alike.findClass]; exact h7
  · obtain ⟨a, ha⟩ := h8 q hq
    exact ⟨a, vk_R.warm hW ha⟩
theorem gK.call {G : gG} {U : State} {g : JFrame} {mk : MethodId} {a : Array Value} (h : gK G U) : gK G (U.calling g mk a) := gK.warm (s := U) (State.WarmedH.refl U) h
/-- a part of a world, by places -/
theorem gSub {D : va_G} {cl : List vw_C} {ws wc : va_W} {H : Heap} (hP : va_P D cl ws H) {isC : List Nat} (hC : isC.map (fun i => ws[i]?) = wc.map some) : va_P D cl wc H := by
  intro k q hq
  have h1 : (isC.map (fun i => ws[i]?))[k]? = some (some q) := by rw [hC, List.getElem?_map, hq]; rfl
  rw [List.getElem?_map] at h1
  cases hi : isC[k]? with
  | none => rw [hi] at h1; cases h1
  | some i => rw [hi] at h1; exact hP i q (Option.some.inj h1)
theorem gIn {ws wc : va_W} {isC : List Nat} (hC : isC.map (fun i => ws[i]?) = wc.map some) {k : Nat} {q : Nat × va_E} (hq : wc[k]? = some q) : ∃ i, isC[k]? = some i ∧ ws[i]? = some q := by
  have h1 : (isC.map (fun i => ws[i]?))[k]? = some (some q) := by rw [hC, List.getElem?_map, hq]; rfl
  rw [List.getElem?_map] at h1
  cases hi : isC[k]? with
  | none => rw [hi] at h1; cases h1
  | some i => rw [hi] at h1; exact ⟨i, rfl, Option.some.inj h1⟩
theorem gPl {D : va_G} {cl : List vw_C} {w1 w2 : va_W} {H : Heap} (hP : va_P D cl (w1 ++ w2) H) : va_P D cl w1 H := by
  intro k q hq
  refine hP k q ?_
  rw [List.getElem?_append_left (List.getElem?_eq_some_iff.mp hq).1]; exact hq
theorem gPr {D : va_G} {cl : List vw_C} {w1 w2 : va_W} {H : Heap} (hP : va_P D cl (w1 ++ w2) H) : va_P D cl w2 H := by
  intro k q hq
  refine hP (w1.length + k) q ?_
  rw [List.getElem?_append_right (Nat.le_add_right _ _), Nat.add_sub_cancel_left]; exact hq
theorem gDl {A : Nat → Prop} {w1 w2 : va_W} (hD : va_D A (w1 ++ w2)) : va_D A w1 := by
  have e : ∀ (k : Nat) (q : Nat × va_E), w1[k]? = some q → (w1 ++ w2)[k]? = some q := fun k q hq => by
    rw [List.getElem?_append_left (List.getElem?_eq_some_iff.mp hq).1]; exact hq
  exact ⟨fun i j p q hp hq h => hD.1 i j p q (e i p hp) (e j q hq) h, fun k q hq => hD.2 k q (e k q hq)⟩
theorem gDr {A : Nat → Prop} {w1 w2 : va_W} (hD : va_D A (w1 ++ w2)) : va_D A w2 := by
  have e : ∀ (k : Nat) (q : Nat × va_E), w2[k]? = some q → (w1 ++ w2)[w1.length + k]? = some q := fun k q hq => by
    rw [List.getElem?_append_right (Nat.le_add_right _ _), Nat.add_sub_cancel_left]; exact hq
  exact ⟨fun i j p q hp hq h => by have := hD.1 _ _ p q (e i p hp) (e j q hq) h; omega, fun k q hq => hD.2 _ q (e k q hq)⟩
theorem gDx {A : Nat → Prop} {w1 w2 : va_W} (hD : va_D A (w1 ++ w2)) {i j : Nat} {p q : Nat × va_E} (hp : w1[i]? = some p) (hq : w2[j]? = some q) : p.1 ≠ q.1 := by
  intro h
  have hl := (List.getElem?_eq_some_iff.mp hp).1
  have e1 : (w1 ++ w2)[i]? = some p := by rw [List.getElem?_append_left hl]; exact hp
  have e2 : (w1 ++ w2)[w1.length + j]? = some q := by rw [List.getElem?_append_right (Nat.le_add_right _ _), Nat.add_sub_cancel_left]; exact hq
  have := hD.1 _ _ p q e1 e2 h
  omega
/-- behind a call, with a rest of the world that no place names -/
theorem gJoin {A0 : Nat → Prop} {D : va_G} {cl : List vw_C} {lit wt wc wr w1 : va_W} {H H1 : Heap} (hP : va_P D cl (lit ++ wt) H) (hD : va_D A0 (lit ++ wt)) {isC isR : List Nat} (hC : isC.map (fun i => lit[i]?) = wc.map some) (hR : isR.map (fun i => lit[i]?) = wr.map some) (hn : va_nd isR = true) (hdis : ∀ i ∈ isR, i ∉ isC)
    (hk : ∀ q : Nat, q < H.size → ¬ va_A wc H.size q → H1[q]? = H[q]?) (hF : ∀ q, va_A wc H.size q → A0 q) (hP1 : va_P D cl w1 H1) (hD1 : va_D (va_A wc H.size) w1) : va_P D cl (wr ++ w1 ++ wt) H1 ∧ va_D A0 (wr ++ w1 ++ wt) := by
  obtain ⟨hPa, hDa⟩ := va_join (gPl hP) (gDl hD) isC isR hC hR hn hdis hk hF hP1 hD1
  have apart : ∀ (j : Nat) (y : Nat × va_E), wt[j]? = some y → y.1 < H.size ∧ ¬ va_A wc H.size y.1 := by
    intro j y hy
    have hl := (gPr hP j y hy).lt
    refine ⟨hl, fun h => ?_⟩
    rcases h with ⟨k2, e, h⟩ | h
    · obtain ⟨i, _, h4⟩ := gIn hC h
      exact gDx hD h4 hy rfl
    · omega
  refine ⟨va_P.app hPa (fun k q hq => ((gPr hP) k q hq).kept (hk q.1 (apart k q hq).1 (apart k q hq).2)), va_D.app hDa (gDr hD) (fun i j x y hx hy hxy => ?_)⟩
  by_cases hi : i < wr.length
  · rw [List.getElem?_append_left hi] at hx
    obtain ⟨i2, _, h4⟩ := gIn hR hx
    exact gDx hD h4 hy hxy
  · rw [List.getElem?_append_right (by omega)] at hx
    exact (apart j y hy).2 (by rw [← hxy]; exact hD1.2 _ x hx)
/-- a method's start over the world ws -/
def gPre (G : gG) (ws : va_W) (sz : Nat) (U : State) : Prop := U.heap.size = sz ∧ va_P G.1 vwCl ws U.heap ∧ gK G U ∧ va_D (fun _ => True) ws
theorem gBlind {G : gG} {ws : va_W} {sz : Nat} {As : List Value} : FrameBlind (va_Pc As (gPre G ws sz)) := fun _ _ _ _ h => ⟨h.1, h.2.1, h.2.2.1, h.2.2.2.1.call, h.2.2.2.2⟩
/-- a method's end: the world wo, in A -/
abbrev gB {S : Type} (G : gG) (A : Nat → Prop) (wo : S → va_W) : S → State → Prop := fun u t => va_P G.1 vwCl (wo u) t.heap ∧ va_D A (wo u)
def gMi {S : Type} (l : Launch) (y : MethodName) (w : List Cond) (rm : Room) (G : gG) (As : List Value) (ws : va_W) (post : Int32 → S → Prop) (wo : S → va_W) (mc ms : Nat) : Prop :=
  ∀ sz : Nat, Met l y w rm (va_Pc As (gPre G ws sz)) (va_Qi post (gB G (va_A ws sz) wo) (va_A ws sz)) mc ms (va_A ws sz)
def gMv {S : Type} (l : Launch) (y : MethodName) (w : List Cond) (rm : Room) (G : gG) (As : List Value) (ws : va_W) (post : S → Prop) (wo : S → va_W) (mc ms : Nat) : Prop :=
  ∀ sz : Nat, Met l y w rm (va_Pc As (gPre G ws sz)) (va_Qv post (gB G (va_A ws sz) wo) (va_A ws sz)) mc ms (va_A ws sz)
def gMd {S : Type} (l : Launch) (y : MethodName) (w : List Cond) (rm : Room) (G : gG) (As : List Value) (ws : va_W) (post : UInt64 → S → Prop) (wo : S → va_W) (mc ms : Nat) : Prop :=
  ∀ sz : Nat, Met l y w rm (va_Pc As (gPre G ws sz)) (va_Qd post (gB G (va_A ws sz) wo) (va_A ws sz)) mc ms (va_A ws sz)
def gMq {S : Type} (l : Launch) (y : MethodName) (w : List Cond) (rm : Room) (G : gG) (As : List Value) (ws : va_W) (post : Option Nat → S → Prop) (wo : S → va_W) (mc ms : Nat) : Prop :=
  ∀ sz : Nat, Met l y w rm (va_Pc As (gPre G ws sz)) (va_Qq post (gB G (va_A ws sz) wo) (va_A ws sz)) mc ms (va_A ws sz)
/-- what stands at a method's entry -/
def gAt (p : Program) (s : State) (m : MethodId) (args : Array Value) (meth : Method) (c : Code) (y : MethodName) (w : List Cond) (cc : ByteArray) (nL : Nat) (ret : Option FieldType) (G : gG) (A : Nat → Prop) : Prop :=
  p.tables.exec = Jvm.exec ∧ c.code = cc ∧ c.maxLocals = nL ∧ meth.sig.returnType = ret ∧ meth.locks = false ∧ s.vm.findClass y.cls = some m.cls ∧ (∀ x ∈ w, x.before args s = true) ∧ meth.name = y.name ∧ gK G s ∧ ∀ q, s.heap.size ≤ q → A q
theorem gMet_mk {l : Launch} {y : MethodName} {w w' : List Cond} {rm : Room} {G : gG} {As : List Value} {ws : va_W} {mc ms : Nat} {cc : ByteArray} {nL : Nat} {ret : Option FieldType} {Qc : (Nat → Prop) → Array Value → State → Outcome → State → Prop}
    (hy : plainName y.cls = true) (hw : w = .code y cc nL ret :: w') (hAs : (lg_sl As).length ≤ nL)
    (body : ∀ (p : Program) (e : Env) (s : State) (m : MethodId) (args : Array Value) (below : List Frame) (meth : Method) (c : Code) (A : Nat → Prop), gAt p s m args meth c y w cc nL ret G A → ∀ ls : Array Slot, lv_has ls nL (lv_args 0 As) → va_P G.1 vwCl ws s.heap → va_D A ws → va_S A s.heap s.heap [] →
      W p l e rm s m args below meth c s.heap [] 0 0 (MQ below (Qc A) args s mc ms A) (F0 m 0 ls [])) :
    ∀ sz : Nat, Met l y w rm (va_Pc As (gPre G ws sz)) (Qc (va_A ws sz)) mc ms (va_A ws sz) := by
  intro sz
  refine Met.ofW (cc := cc) (maxL := nL) (ret := ret) hy hw ?_
  intro p e s m args below meth c s₁ B hml hv
  obtain ⟨rfl, hsz, hP, hK, hD0⟩ := hv
  subst hsz
  rw [lg_entry_eq]
  exact body p e s m _ below meth c _ ⟨B.exec, B.bytes, hml, B.returns, B.notSynchronized, findClass_of_methodNamed B.named, atoms_spec (ws := w) B.pre, (name_of_methodNamed B.named B.method).1, hK, fun q h => Or.inr h⟩ _ (lv_entry As hAs) hP hD0.self va_S.rf
end GBase
