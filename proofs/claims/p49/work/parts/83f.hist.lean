/-! OWN: the saved states are the last six -/
def SLn (SL0 : List LdS) (hs : Nat → LdS) : Nat → List LdS
  | 0 => SL0
  | i + 1 => pushH (SLn SL0 hs i) (hs i)
theorem SLn_cg {SL0 : List LdS} {hs hs' : Nat → LdS} : ∀ n, (∀ i, i < n → hs i = hs' i) → SLn SL0 hs n = SLn SL0 hs' n
  | 0, _ => rfl
  | n + 1, h => by show pushH _ _ = pushH _ _; rw [SLn_cg n (fun i hi => h i (by omega)), h n (by omega)]
theorem SLn_pop {SL0 : List LdS} {hs : Nat → LdS} {n d : Nat} (h : ((SLn SL0 hs (n + 1)).drop d) ≠ []) : ∃ d', (SLn SL0 hs (n + 1)).drop d = (SLn SL0 hs n).drop d' ++ [hs n] := by
  have e : SLn SL0 hs (n + 1) = pushH (SLn SL0 hs n) (hs n) := rfl
  rw [e] at h ⊢
  unfold pushH at h ⊢
  have key : ∀ Y : List LdS, (Y ++ [hs n]).drop d ≠ [] → (Y ++ [hs n]).drop d = Y.drop d ++ [hs n] := fun Y hY => by
    by_cases e1 : d ≤ Y.length
    · rw [List.drop_append_of_le_length e1]
    · exact absurd (List.drop_eq_nil_of_le (by rw [List.length_append]; show Y.length + 1 ≤ d; omega)) hY
  by_cases e6 : (SLn SL0 hs n).length < 6
  · rw [if_pos e6] at h ⊢; exact ⟨d, key _ h⟩
  · rw [if_neg e6] at h ⊢
    refine ⟨1 + d, ?_⟩
    rw [key _ h, List.drop_drop]
/-- a row of 64 digests beside the object -/
def wasC (G : gG) (wl : Nat) (f : Nat → Int64) : Nat × va_E := (wl, .inl (G.2.2.2.1, 64, .inr (.inl f)))
section LRow
variable {p : Program} {l : Launch} {e : Env} {R : Room} {s : State} {m : MethodId} {args : Array Value} {below : List Frame} {meth : Method} {c : Code} {H H0 : Heap} {locs : List Loc} {cells slots : Nat} {Q : State → Prop} {cc : ByteArray} {pc : Nat} {ls : Array Slot} {rest : List Value} {A : Nat → Prop} {G : gG}
theorem gWst {wv : va_W} {wl : Nat} {f : Nat → Int64} {x : Int64} {k : Nat} (hx : p.tables.exec = Jvm.exec) (hb : c.code = cc) (hK : va_K G.1 vwCl (gT G) s) (hP : va_P G.1 vwCl (wv ++ [wasC G wl f]) H) (hD : va_D A (wv ++ [wasC G wl f])) (hS : va_S A H0 H locs) (hk : k < 64) (hdg : decode cc pc = .ok (.lastore, 1))
    (kk : ∀ (H : Heap) (locs : List Loc), va_P G.1 vwCl (wv ++ [wasC G wl (vp_updL f k x)]) H → va_D A (wv ++ [wasC G wl (vp_updL f k x)]) → va_S A H0 H locs → W p l e R s m args below meth c H locs cells slots Q (F0 m (pc + 1) ls rest)) :
    W p l e R s m args below meth c H locs cells slots Q (F0 m pc ls (.long x :: .int (nI k) :: .ref wl :: rest)) := by
  have hg : (wv ++ [wasC G wl f])[wv.length]? = some (wl, .inl (G.2.2.2.1, 64, .inr (.inl f))) := by rw [List.getElem?_append_right (Nat.le_refl _), Nat.sub_self]; rfl
  refine va_last hx hb hK hP hD hS wv.length 2 hg rfl (vp_in_nI hk (by decide)) hdg (fun H1 locs1 h1 h2 h3 => ?_)
  have e : (wv ++ [wasC G wl f]).set wv.length (wl, .inl (G.2.2.2.1, 64, .inr (.inl (vp_updL f (nI k).toNatClampNeg x)))) = wv ++ [wasC G wl (vp_updL f k x)] := by
    rw [List.set_append_right _ _ (Nat.le_refl _), Nat.sub_self, nI_clamp (by omega)]; rfl
  rw [e] at h1 h2
  exact kk H1 locs1 h1 h2 h3
theorem gWld {wv : va_W} {wl : Nat} {f : Nat → Int64} {k : Nat} (hx : p.tables.exec = Jvm.exec) (hb : c.code = cc) (hK : va_K G.1 vwCl (gT G) s) (hP : va_P G.1 vwCl (wv ++ [wasC G wl f]) H) (hk : k < 64) (hdg : decode cc pc = .ok (.laload, 1))
    (kk : W p l e R s m args below meth c H locs cells slots Q (F0 m (pc + 1) ls (.long (f k) :: rest))) : W p l e R s m args below meth c H locs cells slots Q (F0 m pc ls (.int (nI k) :: .ref wl :: rest)) := by
  have hg : (wv ++ [wasC G wl f])[wv.length]? = some (wl, .inl (G.2.2.2.1, 64, .inr (.inl f))) := by rw [List.getElem?_append_right (Nat.le_refl _), Nat.sub_self]; rfl
  exact va_lald hx hb hK hP wv.length 2 hg rfl (vp_in_nI hk (by decide)) hdg (by rw [nI_clamp (by omega)]; exact kk)
theorem gNew64 {x : MethodName} {w : List Cond} {nL : Nat} {rt : Option FieldType} {ws : va_W} (F : gAt p s m args meth c x w cc nL rt G A) (harr : Cond.arrayClass .long ∈ w) (hP : va_P G.1 vwCl ws H) (hD : va_D A ws) (hS : va_S A s.heap H locs) (hcells : cells + 1 ≤ R.cells) (hslots : slots + 64 ≤ R.slots) (hdg : decode cc pc = .ok (.newarray .long, 2))
    (kk : ∀ (q : Nat) (H1 : Heap), va_P G.1 vwCl (ws ++ [wasC G q (fun _ => 0)]) H1 → va_D A (ws ++ [wasC G q (fun _ => 0)]) → va_S A s.heap H1 locs → W p l e R s m args below meth c H1 locs (cells + 1) (slots + 64) Q (F0 m (pc + 2) ls (.ref q :: rest))) :
    W p l e R s m args below meth c H locs cells slots Q (F0 m pc ls (.int (nI 64) :: rest)) := by
  have hK := F.2.2.2.2.2.2.2.2.1.1
  refine va_newa (atype := .long) F.1 F.2.1 (F.2.2.2.2.2.2.1 _ harr) (ty := .long) rfl hK hP hD hS F.2.2.2.2.2.2.2.2.2 (a0 := (64, .inr (.inl (fun _ => 0)))) (fun _ => rfl) (nI_pos (by omega)) (nI_clamp (by omega)) (by show 64 * 8 ≤ _; omega) hcells hslots hdg (fun q cA H1 hK1 hP1 hD1 hS1 => ?_)
  have e1 : s.vm.findClass ("[" ++ FieldType.long.toString) = some cA := (hK1.2 4 (cA, .long) rfl).2
  have e2 : s.vm.findClass ("[" ++ FieldType.long.toString) = some G.2.2.2.1 := (hK.2 2 (G.2.2.2.1, .long) rfl).2
  have e3 : cA = G.2.2.2.1 := Option.some.inj (e1.symm.trans e2)
  subst e3
  exact kk q H1 hP1 hD1 hS1
end LRow
theorem up_old {f : Nat → Int64} {k i : Nat} {x : Int64} (h : i < k) : vp_updL f k x i = f i := by unfold vp_updL; rw [if_neg (by omega)]
theorem up_new {f : Nat → Int64} {k : Nat} {x : Int64} : vp_updL f k x k = x := by unfold vp_updL; rw [if_pos rfl]
/-- 1 << q -/
theorem shl_q {q : Nat} (h : q < 4) : ∃ z, (z = 1 ∨ z = 2 ∨ z = 4 ∨ z = 8) ∧ nI 1 <<< (nI q &&& 31) = nI z := by
  have : q = 0 ∨ q = 1 ∨ q = 2 ∨ q = 3 := by omega
  rcases this with rfl | rfl | rfl | rfl
  · exact ⟨1, by decide, by decide⟩
  · exact ⟨2, by decide, by decide⟩
  · exact ⟨4, by decide, by decide⟩
  · exact ⟨8, by decide, by decide⟩
