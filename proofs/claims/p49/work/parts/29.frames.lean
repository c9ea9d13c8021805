/-! OWN: the order of a world's cells does not matter; a contract beside further cells; lands in any number -/
section GFrames
theorem gPperm {D : va_G} {cl : List vw_C} {ws ws' : va_W} {H : Heap} (h : ws.Perm ws') (hP : va_P D cl ws H) : va_P D cl ws' H := by
  intro k q hq
  obtain ⟨i, hi⟩ := List.getElem?_of_mem (h.mem_iff.mpr (List.mem_of_getElem? hq))
  exact hP i q hi
theorem gD_iff {A : Nat → Prop} {ws : va_W} : va_D A ws ↔ (ws.map Prod.fst).Nodup ∧ ∀ q ∈ ws, A q.1 := by
  constructor
  · intro h
    refine ⟨?_, fun q hq => ?_⟩
    · unfold List.Nodup
      rw [List.pairwise_iff_getElem]
      intro i j hi hj hij he
      rw [List.length_map] at hi hj
      rw [List.getElem_map, List.getElem_map] at he
      have := h.1 i j ws[i] ws[j] (List.getElem?_eq_getElem hi) (List.getElem?_eq_getElem hj) he
      omega
    · obtain ⟨i, hi⟩ := List.getElem?_of_mem hq
      exact h.2 i q hi
  · rintro ⟨h1, h2⟩
    refine ⟨fun i j p q hp hq he => ?_, fun k q hq => h2 q (List.mem_of_getElem? hq)⟩
    unfold List.Nodup at h1
    rw [List.pairwise_iff_getElem] at h1
    obtain ⟨hi, ei⟩ := List.getElem?_eq_some_iff.mp hp
    obtain ⟨hj, ej⟩ := List.getElem?_eq_some_iff.mp hq
    rcases Nat.lt_trichotomy i j with h | h | h
    · refine absurd ?_ (h1 i j (by rw [List.length_map]; exact hi) (by rw [List.length_map]; exact hj) h)
      rw [List.getElem_map, List.getElem_map, ei, ej]; exact he
    · exact h
    · refine absurd ?_ (h1 j i (by rw [List.length_map]; exact hj) (by rw [List.length_map]; exact hi) h)
      rw [List.getElem_map, List.getElem_map, ei, ej]; exact he.symm
theorem gDperm {A : Nat → Prop} {ws ws' : va_W} (h : ws.Perm ws') (hD : va_D A ws) : va_D A ws' := by
  rw [gD_iff] at hD ⊢
  exact ⟨(h.map Prod.fst).nodup hD.1, fun q hq => hD.2 q (h.mem_iff.mpr hq)⟩
theorem gRange (wc : va_W) : (List.range wc.length).map (fun i => wc[i]?) = wc.map some := by
  apply List.ext_getElem?
  intro i
  rw [List.getElem?_map, List.getElem?_map]
  by_cases h : i < wc.length
  · rw [List.getElem?_range h, List.getElem?_eq_getElem h]; simp
  · rw [List.getElem?_eq_none (by simpa using h), List.getElem?_eq_none (by simpa using h)]; rfl
theorem va_nd_of {l : List Nat} (h : l.Nodup) : va_nd l = true := by
  induction l with
  | nil => rfl
  | cons a l ih =>
    rw [List.nodup_cons] at h
    show (decide (a ∉ l) && va_nd l) = true
    rw [ih h.2, decide_eq_true h.1]; rfl
theorem gRange_nd (n : Nat) : va_nd (List.range n) = true := va_nd_of List.nodup_range
theorem gAsub {wc wr ws : va_W} {sz : Nat} (hp : (wc ++ wr).Perm ws) : ∀ q, va_A wc sz q → va_A ws sz q := by
  intro q h
  rcases h with ⟨k, e, h⟩ | h
  · have h1 : (q, e) ∈ ws := hp.mem_iff.mp (List.mem_append_left _ (List.mem_of_getElem? h))
    obtain ⟨i, hi⟩ := List.getElem?_of_mem h1
    exact Or.inl ⟨i, e, hi⟩
  · exact Or.inr h
theorem gFrj {wc wr ws w1 : va_W} {D : va_G} {cl : List vw_C} {H H1 : Heap} (hp : (wc ++ wr).Perm ws) (hP : va_P D cl ws H) (hD : va_D (fun _ => True) ws) (hk : ∀ q : Nat, q < H.size → ¬ va_A wc H.size q → H1[q]? = H[q]?) (hP1 : va_P D cl w1 H1) (hD1 : va_D (va_A wc H.size) w1) :
    va_P D cl (w1 ++ wr) H1 ∧ va_D (va_A ws H.size) (w1 ++ wr) := by
  have h := gJoin (lit := wc) (wt := wr) (wc := wc) (wr := []) (isC := List.range wc.length) (isR := []) (gPperm hp.symm hP) (gDperm hp.symm hD.self) (gRange wc) rfl rfl (fun i h => by cases h) hk (gAsub hp) hP1 hD1
  exact h
theorem gMv_fr {S S2 : Type} {l : Launch} {y : MethodName} {w : List Cond} {rm : Room} {G : gG} {As : List Value} {wc ws wr : va_W} {post : S → Prop} {wo : S → va_W} {post2 : S2 → Prop} {wo2 : S2 → va_W} {mc ms : Nat}
    (h : gMv l y w rm G As wc post wo mc ms) (hp : (wc ++ wr).Perm ws) (hk : ∀ u, post u → ∃ u2, post2 u2 ∧ (wo u ++ wr).Perm (wo2 u2)) : gMv l y w rm G As ws post2 wo2 mc ms := by
  intro sz
  refine MetFree.mono (h sz) ?_ (fun _ _ _ _ _ h => h) ?_
  · rintro a U ⟨h1, h2, h3, h4, h5⟩
    exact ⟨h1, h2, gPl (gPperm hp.symm h3), h4, gDl (gDperm hp.symm h5)⟩
  · rintro a st o t ⟨_, hsz, hP, hK, hD⟩ ⟨⟨⟨u, ho, hpo, hB1, hB2⟩, hF⟩, L, hFE, hL⟩
    subst hsz
    obtain ⟨u2, hp2, hpm⟩ := hk u hpo
    have hj := gFrj hp hP hD hF.2 hB1 hB2
    exact ⟨⟨⟨u2, ho, hp2, gPperm hpm hj.1, gDperm hpm hj.2⟩, hF.1, fun q h1 h2 => hF.2 q h1 (fun h3 => h2 (gAsub hp q h3))⟩, L, hFE, fun q hq => gAsub hp _ (hL q hq)⟩
theorem gMi_fr {S S2 : Type} {l : Launch} {y : MethodName} {w : List Cond} {rm : Room} {G : gG} {As : List Value} {wc ws wr : va_W} {post : Int32 → S → Prop} {wo : S → va_W} {post2 : Int32 → S2 → Prop} {wo2 : S2 → va_W} {mc ms : Nat}
    (h : gMi l y w rm G As wc post wo mc ms) (hp : (wc ++ wr).Perm ws) (hk : ∀ r u, post r u → ∃ u2, post2 r u2 ∧ (wo u ++ wr).Perm (wo2 u2)) : gMi l y w rm G As ws post2 wo2 mc ms := by
  intro sz
  refine MetFree.mono (h sz) ?_ (fun _ _ _ _ _ h => h) ?_
  · rintro a U ⟨h1, h2, h3, h4, h5⟩
    exact ⟨h1, h2, gPl (gPperm hp.symm h3), h4, gDl (gDperm hp.symm h5)⟩
  · rintro a st o t ⟨_, hsz, hP, hK, hD⟩ ⟨⟨⟨r, u, ho, hpo, hB1, hB2⟩, hF⟩, L, hFE, hL⟩
    subst hsz
    obtain ⟨u2, hp2, hpm⟩ := hk r u hpo
    have hj := gFrj hp hP hD hF.2 hB1 hB2
    exact ⟨⟨⟨r, u2, ho, hp2, gPperm hpm hj.1, gDperm hpm hj.2⟩, hF.1, fun q h1 h2 => hF.2 q h1 (fun h3 => h2 (gAsub hp q h3))⟩, L, hFE, fun q hq => gAsub hp _ (hL q hq)⟩
theorem gMd_fr {S S2 : Type} {l : Launch} {y : MethodName} {w : List Cond} {rm : Room} {G : gG} {As : List Value} {wc ws wr : va_W} {post : UInt64 → S → Prop} {wo : S → va_W} {post2 : UInt64 → S2 → Prop} {wo2 : S2 → va_W} {mc ms : Nat}
    (h : gMd l y w rm G As wc post wo mc ms) (hp : (wc ++ wr).Perm ws) (hk : ∀ r u, post r u → ∃ u2, post2 r u2 ∧ (wo u ++ wr).Perm (wo2 u2)) : gMd l y w rm G As ws post2 wo2 mc ms := by
  intro sz
  refine MetFree.mono (h sz) ?_ (fun _ _ _ _ _ h => h) ?_
  · rintro a U ⟨h1, h2, h3, h4, h5⟩
    exact ⟨h1, h2, gPl (gPperm hp.symm h3), h4, gDl (gDperm hp.symm h5)⟩
  · rintro a st o t ⟨_, hsz, hP, hK, hD⟩ ⟨⟨⟨r, u, ho, hpo, hB1, hB2⟩, hF⟩, L, hFE, hL⟩
    subst hsz
    obtain ⟨u2, hp2, hpm⟩ := hk r u hpo
    have hj := gFrj hp hP hD hF.2 hB1 hB2
    exact ⟨⟨⟨r, u2, ho, hp2, gPperm hpm hj.1, gDperm hpm hj.2⟩, hF.1, fun q h1 h2 => hF.2 q h1 (fun h3 => h2 (gAsub hp q h3))⟩, L, hFE, fun q hq => gAsub hp _ (hL q hq)⟩
theorem gMx_fr {S S2 : Type} {l : Launch} {y : MethodName} {w : List Cond} {rm : Room} {G : gG} {As : List Value} {wc ws wr : va_W} {E : String} {post : S → Prop} {wo : S → va_W} {post2 : S2 → Prop} {wo2 : S2 → va_W} {mc ms : Nat}
    (h : gMx l y w rm G As wc E post wo mc ms) (hp : (wc ++ wr).Perm ws) (hk : ∀ u, post u → ∃ u2, post2 u2 ∧ (wo u ++ wr).Perm (wo2 u2)) : gMx l y w rm G As ws E post2 wo2 mc ms := by
  intro sz
  refine MetFree.mono (h sz) ?_ (fun _ _ _ _ _ h => h) ?_
  · rintro a U ⟨h1, ⟨h2, h3, h4, h5⟩, h6⟩
    exact ⟨h1, ⟨h2, gPl (gPperm hp.symm h3), h4, gDl (gDperm hp.symm h5)⟩, h6.narrow (gAsub hp)⟩
  · rintro a st o t ⟨_, ⟨hsz, hP, hK, hD⟩, _⟩ hq
    subst hsz
    rcases hq with ⟨hq, _⟩ | ⟨q, ho, E', ce, L, ⟨u, hpo, ⟨hE, hB1, hB2⟩, hF⟩, r1, r2, r3, r4, r5, r6⟩
    · exact hq.elim
    · obtain ⟨u2, hp2, hpm⟩ := hk u hpo
      have hj := gFrj hp hP hD hF.2 hB1 hB2
      exact Or.inr ⟨q, ho, E', ce, L, ⟨u2, hp2, ⟨hE, gPperm hpm hj.1, gDperm hpm hj.2⟩, hF.1, fun q h1 h2 => hF.2 q h1 (fun h3 => h2 (gAsub hp q h3))⟩, r1, r2, r3, r4, r5, fun z hz => gAsub hp _ (r6 z hz)⟩
/-- a land's state: owners, heights, coins, price, tax, sales, floods, losses -/
abbrev LdS : Type := (Nat → Nat) × (Nat → Nat) × (Nat → Nat) × Nat × Nat × Nat × Nat × Nat
/-- a land with its addresses -/
abbrev LdR : Type := (Nat × Nat × Nat × Nat) × LdS
def lcell (G : gG) (r : LdR) : va_W := [(r.1.1, .inr (1, [.ref r.1.2.1, .ref r.1.2.2.1, .ref r.1.2.2.2, .int (nI r.2.2.2.2.1), .int (nI r.2.2.2.2.2.1), .int (nI r.2.2.2.2.2.2.1), .int (nI r.2.2.2.2.2.2.2.1), .int (nI r.2.2.2.2.2.2.2.2)])), (r.1.2.1, .inl (G.2.1, 256, .inl (gn r.2.1))), (r.1.2.2.1, .inl (G.2.1, 256, .inl (gn r.2.2.1))), (r.1.2.2.2, .inl (G.2.1, 8, .inl (gn r.2.2.2.1)))]
def lcells (G : gG) : List LdR → va_W
  | [] => []
  | r :: L => lcell G r ++ lcells G L
theorem lcells_app (G : gG) (L L' : List LdR) : lcells G (L ++ L') = lcells G L ++ lcells G L' := by
  induction L with
  | nil => rfl
  | cons r L ih => show lcell G r ++ lcells G (L ++ L') = (lcell G r ++ lcells G L) ++ lcells G L'; rw [ih, List.append_assoc]
/-- a land taken out -/
theorem lcells_out (G : gG) (L1 L2 : List LdR) (r : LdR) : (lcells G (L1 ++ r :: L2)).Perm (lcell G r ++ lcells G (L1 ++ L2)) := by
  rw [lcells_app, lcells_app]
  show (lcells G L1 ++ (lcell G r ++ lcells G L2)).Perm (lcell G r ++ (lcells G L1 ++ lcells G L2))
  rw [← List.append_assoc, ← List.append_assoc]
  exact List.Perm.append_right _ List.perm_append_comm
end GFrames
section GRefs
variable {p : Program} {l : Launch} {e : Env} {R : Room} {s : State} {m : MethodId} {args : Array Value} {below : List Frame} {meth : Method} {c : Code} {H H0 : Heap} {locs : List Loc} {cells slots : Nat} {Q : State → Prop} {cc : ByteArray} {pc : Nat} {ls : Array Slot} {rest : List Value} {A : Nat → Prop} {D : va_G} {cl : List vw_C} {tys : List (ClassId × FieldType)} {ws : va_W}
theorem gRald (hx : p.tables.exec = Jvm.exec) (hb : c.code = cc) (hK : va_K D cl tys s) (hP : va_P D cl ws H) (q0 t0 : Nat) {a : Nat} {cA : ClassId} {C : String} {n : Nat} {f : Nat → Option Nat} (ha : ws[q0]? = some (a, .inl (cA, n, .inr (.inr (.inr (.inr f)))))) (ht : tys[t0]? = some (cA, .object C)) {k : Nat} (hk : k < n) (hn : n ≤ 65536) (hdg : decode cc pc = .ok (.aaload, 1))
    (kk : W p l e R s m args below meth c H locs cells slots Q (F0 m (pc + 1) ls (va_rf (f k) :: rest))) : W p l e R s m args below meth c H locs cells slots Q (F0 m pc ls (.int (nI k) :: .ref a :: rest)) :=
  va_aldq hx hb hK hP q0 t0 ha ht (vp_in_nI hk (by omega)) hdg (by rw [nI_clamp (by omega)]; exact kk)
theorem gRast (hx : p.tables.exec = Jvm.exec) (hb : c.code = cc) (hK : va_K D cl tys s) (hP : va_P D cl ws H) (hD : va_D A ws) (hS : va_S A H0 H locs) (q0 t0 qk ci : Nat) {a : Nat} {cA : ClassId} {r : vw_C} {n v : Nat} {vs : List Value} {f : Nat → Option Nat} (ha : ws[q0]? = some (a, .inl (cA, n, .inr (.inr (.inr (.inr f)))))) (ht : tys[t0]? = some (cA, .object r.1)) (hv : ws[qk]? = some (v, .inr (ci, vs))) (hc : cl[ci]? = some r) {k : Nat} (hk : k < n) (hn : n ≤ 65536) (hdg : decode cc pc = .ok (.aastore, 1))
    (kk : ∀ (H1 : Heap) (locs1 : List Loc), va_P D cl (ws.set q0 (a, .inl (cA, n, .inr (.inr (.inr (.inr (va_up f k (some v)))))))) H1 → va_D A (ws.set q0 (a, .inl (cA, n, .inr (.inr (.inr (.inr (va_up f k (some v)))))))) → va_S A H0 H1 locs1 → W p l e R s m args below meth c H1 locs1 cells slots Q (F0 m (pc + 1) ls rest)) : W p l e R s m args below meth c H locs cells slots Q (F0 m pc ls (.ref v :: .int (nI k) :: .ref a :: rest)) :=
  va_astq hx hb hK hP hD hS q0 t0 qk ci ha ht hv hc (vp_in_nI hk (by omega)) hdg (fun H1 locs1 h1 h2 h3 => by rw [nI_clamp (by omega)] at h1 h2; exact kk H1 locs1 h1 h2 h3)
end GRefs
