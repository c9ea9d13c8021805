/-! OWN: rows of the law; what holds at its loop -/
section LawRows
variable {p : Program} {l : Launch} {e : Env} {R : Room} {s : State} {m : MethodId} {args : Array Value} {below : List Frame} {meth : Method} {c : Code} {H H0 : Heap} {locs : List Loc} {cells slots : Nat} {Q : State → Prop} {cc : ByteArray} {pc : Nat} {ls : Array Slot} {rest : List Value} {A : Nat → Prop} {G : gG}
theorem gSld {b L : Nat} {xs : Nat → Int32} (hx : p.tables.exec = Jvm.exec) (hb : c.code = cc) (hX : va_X b L xs s H0) (hbl : b < H0.size) (hbA : ¬ A b) (hS : va_S A H0 H locs) (k : Nat) (hk : k < L) (hL : L < 65536) (hdg : decode cc pc = .ok (.iaload, 1))
    (kk : W p l e R s m args below meth c H locs cells slots Q (F0 m (pc + 1) ls (.int (xs k) :: rest))) : W p l e R s m args below meth c H locs cells slots Q (F0 m pc ls (.int (nI k) :: .ref b :: rest)) :=
  va_sld hx hb hX hbl hbA hS (vp_in_nI hk (by omega)) hdg (by rw [nI_clamp (by omega)]; exact kk)
theorem gLald {wv : va_W} {ol : Nat} {f : Nat → Int64} (hx : p.tables.exec = Jvm.exec) (hb : c.code = cc) (hK : va_K G.1 vwCl (gT G) s) (hP : va_P G.1 vwCl (wv ++ [outc G ol f]) H) (hdg : decode cc pc = .ok (.laload, 1))
    (kk : W p l e R s m args below meth c H locs cells slots Q (F0 m (pc + 1) ls (.long (f 0) :: rest))) : W p l e R s m args below meth c H locs cells slots Q (F0 m pc ls (.int (nI 0) :: .ref ol :: rest)) := by
  have hg : (wv ++ [outc G ol f])[wv.length]? = some (ol, .inl (G.2.2.2.1, 1, .inr (.inl f))) := by rw [List.getElem?_append_right (Nat.le_refl _), Nat.sub_self]; rfl
  exact va_lald hx hb hK hP wv.length 2 hg rfl (vp_in_nI (by decide) (by decide)) hdg (by rw [nI_clamp (by decide)]; exact kk)
theorem lcmp_self (x : Int64) : lg_cmp x x = 0 := by
  unfold lg_cmp
  rw [if_neg (fun h => absurd h (Int64.lt_irrefl)), if_pos rfl]
theorem and63 (x : Int32) : ∃ q, q < 64 ∧ x &&& nI 63 = nI q := by
  refine ⟨(x.toBitVec &&& 63#32).toNat, ?_, ?_⟩
  · rw [BitVec.toNat_and]; exact Nat.lt_of_le_of_lt Nat.and_le_right (by decide)
  · apply Int32.toBitVec.inj
    show x.toBitVec &&& 63#32 = BitVec.ofNat 32 _
    rw [BitVec.ofNat_toNat, BitVec.setWidth_eq]
end LawRows
/-- what holds of the law's frame all the while -/
def lwF (p : Program) (l : Launch) (s : State) (m : MethodId) (args : Array Value) (meth : Method) (c : Code) (G : gG) (A : Nat → Prop) (b L : Nat) (xs : Nat → Int32) : Prop :=
  gAt p s m args meth c ⟨RL, meth.name, ""⟩ wsL_law cL_law 9 ret G A ∧ gX A s s.heap ∧ va_X b L xs s s.heap ∧ b < s.heap.size ∧ ¬ A b ∧ L ≤ 2560 ∧ l.stackTraces = false
/-- what holds between two calls -/
def lwI (s : State) (G : gG) (A : Nat → Prop) (lq mq ol b i : Nat) (H : Heap) (locs : List Loc) (ls : Array Slot) : Prop :=
  ∃ (wv vv : va_W) (f : Nat → Int64) (S : SpT) (th : Nat), clS G lq wv S ∧ rfS G mq vv S th ∧ spS S ∧ va_P G.1 vwCl ((wv ++ [outc G ol f]) ++ vv) H ∧ va_D A ((wv ++ [outc G ol f]) ++ vv) ∧ va_S A s.heap H locs ∧ lv_has ls 9 [(0, .ref b), (1, .ref lq), (2, .ref mq), (3, .ref ol), (4, .int (nI i))]
