/-! OWN: class and reference side by side -/
abbrev SpT : Type := LdS × List LdS × (Nat → Option LdS) × (Nat → Nat) × Nat
abbrev clS (G : gG) (lq : Nat) (wv : va_W) (S : SpT) : Prop := clI G lq wv S.1.1 S.1.2.1 S.1.2.2.1 S.1.2.2.2.1 S.1.2.2.2.2.1 S.1.2.2.2.2.2.1 S.1.2.2.2.2.2.2.1 S.1.2.2.2.2.2.2.2 S.2.1 S.2.2.1 S.2.2.2.1 S.2.2.2.2
abbrev rfS (G : gG) (mq : Nat) (wv : va_W) (S : SpT) (th : Nat) : Prop := rfI G mq wv S.1.1 S.1.2.1 S.1.2.2.1 S.1.2.2.2.1 S.1.2.2.2.2.1 S.1.2.2.2.2.2.1 S.1.2.2.2.2.2.2.1 S.1.2.2.2.2.2.2.2 S.2.1 S.2.2.1 S.2.2.2.1 S.2.2.2.2 th
abbrev spS (S : SpT) : Prop := spI S.1.1 S.1.2.1 S.1.2.2.1 S.1.2.2.2.1 S.1.2.2.2.2.1 S.2.1 S.2.2.1 S.2.2.2.1 S.2.2.2.2
theorem cl_recv {G : gG} {lq : Nat} {wv : va_W} {ow : Nat → Nat} {he : Nat → Nat} {co : Nat → Nat} {pr : Nat} {tx : Nat} {sa : Nat} {fl : Nat} {lo : Nat} {SL : List LdS} {K : Nat → Option LdS} {bu : Nat → Nat} {bl : Nat} (h : clI G lq wv ow he co pr tx sa fl lo SL K bu bl) : ∃ fs, wv[0]? = some (lq, .inr (3, fs)) := by
  obtain ⟨ad, ar, su, ff, fk, L, kk, rs, hW, _⟩ := h
  subst hW; exact ⟨_, rfl⟩
theorem rf_recv {G : gG} {mq : Nat} {wv : va_W} {ow : Nat → Nat} {he : Nat → Nat} {co : Nat → Nat} {pr : Nat} {tx : Nat} {sa : Nat} {fl : Nat} {lo : Nat} {SL : List LdS} {K : Nat → Option LdS} {bu : Nat → Nat} {bl : Nat} {th : Nat} (h : rfI G mq wv ow he co pr tx sa fl lo SL K bu bl th) : ∃ fs, wv[0]? = some (mq, .inr (4, fs)) := by
  obtain ⟨rd, rs, nw, pa, ke, ik, as_, pC, pW, to, hW, _⟩ := h
  subst hW; exact ⟨_, rfl⟩
def bndR (rm : Room) (mc ms : Nat) : Prop := rm.cells = mc ∧ rm.slots = ms ∧ mc ≤ 4 ∧ ms ≤ 528 ∧ rm.frames ≤ 10 ∧ rm.locals ≤ 370
theorem gMw_mono {S1 S2 : Type} {l : Launch} {y : MethodName} {w : List Cond} {rm : Room} {G : gG} {As : List Value} {ws : va_W} {post : Int32 → S1 → Prop} {wo : S1 → va_W} {post2 : Int32 → S2 → Prop} {wo2 : S2 → va_W} {mc ms : Nat}
    (h : gMw l y w rm G As ws post wo mc ms) (hk : ∀ r u, post r u → ∃ u2, post2 r u2 ∧ wo u = wo2 u2) : gMw l y w rm G As ws post2 wo2 mc ms := by
  intro sz
  refine MetFree.mono (h sz) (fun _ _ h => h) (fun _ _ _ _ _ h => h) ?_
  rintro a st o t _ ⟨⟨⟨r, u, ho, hpo, hB1, hB2⟩, hF⟩, hL⟩
  obtain ⟨u2, hp2, hw⟩ := hk r u hpo
  rw [hw] at hB1 hB2
  exact ⟨⟨⟨r, u2, ho, hp2, hB1, hB2⟩, hF⟩, hL⟩
theorem gMi_mono {S1 S2 : Type} {l : Launch} {y : MethodName} {w : List Cond} {rm : Room} {G : gG} {As : List Value} {ws : va_W} {post : Int32 → S1 → Prop} {wo : S1 → va_W} {post2 : Int32 → S2 → Prop} {wo2 : S2 → va_W} {mc ms : Nat}
    (h : gMi l y w rm G As ws post wo mc ms) (hk : ∀ r u, post r u → ∃ u2, post2 r u2 ∧ wo u = wo2 u2) : gMi l y w rm G As ws post2 wo2 mc ms := by
  intro sz
  refine MetFree.mono (h sz) (fun _ _ h => h) (fun _ _ _ _ _ h => h) ?_
  rintro a st o t _ ⟨⟨⟨r, u, ho, hpo, hB1, hB2⟩, hF⟩, hL⟩
  obtain ⟨u2, hp2, hw⟩ := hk r u hpo
  rw [hw] at hB1 hB2
  exact ⟨⟨⟨r, u2, ho, hp2, hB1, hB2⟩, hF⟩, hL⟩
/-- a call through a method of the law that catches, and the reference's -/
def PairW (G : gG) (l : Launch) (lq ol mq : Nat) (yL : MethodName) (wL : List Cond) (yM : MethodName) (wM : List Cond) (As : List Value) (wv vv : va_W) (f : Nat → Int64) : Prop :=
  ∃ (k : Nat) (Z : SpT → Int32 → Prop), k ≤ 3 ∧ (∀ S v, Z S v → spS S) ∧
    (∃ rm mc ms, bndR rm mc ms ∧ gMw (S := va_W × (Nat → Int64)) l yL wL rm G (.ref lq :: (As ++ [.ref ol])) (wv ++ [outc G ol f]) (fun r u => r = nI k ∧ ∃ S v, Z S v ∧ clS G lq u.1 S ∧ (k = 0 → u.2 0 = v.toInt64)) (fun u => u.1 ++ [outc G ol u.2]) mc ms) ∧
    (∃ rm, bndR rm 0 0 ∧ gMi (S := va_W) l yM wM rm G (.ref mq :: As) vv (fun r u => ∀ S v, Z S v → rfS G mq u S k ∧ (k = 0 → r = v)) (fun u => u) 0 0)
/-- a call that never throws -/
def PairD (G : gG) (l : Launch) (lq mq : Nat) (yX : MethodName) (wX : List Cond) (yM : MethodName) (wM : List Cond) (wv vv : va_W) : Prop :=
  ∃ (Z : SpT → Int32 → Prop), (∀ S v, Z S v → spS S) ∧
    (∃ rm mc ms, bndR rm mc ms ∧ gMi (S := va_W) l yX wX rm G [.ref lq] wv (fun r u => ∃ S, Z S r ∧ clS G lq u S) (fun u => u) mc ms) ∧
    (∃ rm, bndR rm 0 0 ∧ gMi (S := va_W) l yM wM rm G [.ref mq] vv (fun r u => ∀ S v, Z S v → rfS G mq u S 0 ∧ r = v) (fun u => u) 0 0)
theorem upd0 (f : Nat → Int64) (x : Int64) : vp_updL f 0 x 0 = x := by simp [vp_updL]
section Pairs
variable {G : gG} {l : Launch} {lq ol mq : Nat} {yL yX yM : MethodName} {wL wX wM : List Cond} {As : List Value} {wv vv : va_W} {f : Nat → Int64} {rm rm2 : Room} {mc ms : Nat} {p1 p2 : Int32 → va_W → Prop} {q1 : va_W → Prop}
theorem pair_z (Z : SpT → Int32 → Prop) (hZ : ∀ S v, Z S v → spS S) (hL : gMw (S := va_W × Int32) l yL wL rm G (.ref lq :: (As ++ [.ref ol])) (wv ++ [outc G ol f]) (fun r u => r = nI 0 ∧ p1 u.2 u.1) (fun u => u.1 ++ [outc G ol (vp_updL f 0 u.2.toInt64)]) mc ms) (h1 : ∀ r u, p1 r u → ∃ S, Z S r ∧ clS G lq u S) (hb : bndR rm mc ms)
    (hM : gMi (S := va_W) l yM wM rm2 G (.ref mq :: As) vv p2 (fun u => u) 0 0) (h2 : ∀ r u, p2 r u → ∀ S v, Z S v → rfS G mq u S 0 ∧ r = v) (hb2 : bndR rm2 0 0) : PairW G l lq ol mq yL wL yM wM As wv vv f := by
  refine ⟨0, Z, by decide, hZ, ⟨rm, mc, ms, hb, gMw_mono hL ?_⟩, rm2, hb2, gMi_mono hM ?_⟩
  · rintro r u ⟨hr, hp⟩
    obtain ⟨S, hz, hc⟩ := h1 _ _ hp
    exact ⟨(u.1, vp_updL f 0 u.2.toInt64), ⟨hr, S, u.2, hz, hc, fun _ => upd0 f _⟩, rfl⟩
  · exact fun r u hp => ⟨u, fun S v hz => ⟨(h2 r u hp S v hz).1, fun _ => (h2 r u hp S v hz).2⟩, rfl⟩
theorem pair_a (v0 : Int32) (S0 : SpT) (hS : spS S0) (hL : gMw (S := va_W × Int32) l yL wL rm G (.ref lq :: (As ++ [.ref ol])) (wv ++ [outc G ol f]) (fun r u => r = nI 0 ∧ p1 u.2 u.1) (fun u => u.1 ++ [outc G ol (vp_updL f 0 u.2.toInt64)]) mc ms) (h1 : ∀ r u, p1 r u → r = v0 ∧ clS G lq u S0) (hb : bndR rm mc ms)
    (hM : gMi (S := va_W) l yM wM rm2 G (.ref mq :: As) vv p2 (fun u => u) 0 0) (h2 : ∀ r u, p2 r u → r = v0 ∧ rfS G mq u S0 0) (hb2 : bndR rm2 0 0) : PairW G l lq ol mq yL wL yM wM As wv vv f :=
  pair_z (fun S v => S = S0 ∧ v = v0) (fun S v h => by rw [h.1]; exact hS) hL (fun r u h => ⟨S0, ⟨rfl, (h1 r u h).1⟩, (h1 r u h).2⟩) hb hM (fun r u h S v hz => by rw [hz.1, hz.2]; exact ⟨(h2 r u h).2, (h2 r u h).1⟩) hb2
theorem pair_x (k : Nat) (hk : 1 ≤ k ∧ k ≤ 3) (S0 : SpT) (hS : spS S0) (hL : gMw (S := va_W) l yL wL rm G (.ref lq :: (As ++ [.ref ol])) (wv ++ [outc G ol f]) (fun r u => r = nI k ∧ q1 u) (fun u => u ++ [outc G ol f]) mc ms) (h1 : ∀ u, q1 u → clS G lq u S0) (hb : bndR rm mc ms)
    (hM : gMi (S := va_W) l yM wM rm2 G (.ref mq :: As) vv p2 (fun u => u) 0 0) (h2 : ∀ r u, p2 r u → rfS G mq u S0 k) (hb2 : bndR rm2 0 0) : PairW G l lq ol mq yL wL yM wM As wv vv f := by
  refine ⟨k, fun S _ => S = S0, hk.2, fun S v h => by rw [h]; exact hS, ⟨rm, mc, ms, hb, gMw_mono hL ?_⟩, rm2, hb2, gMi_mono hM ?_⟩
  · exact fun r u hp => ⟨(u, f), ⟨hp.1, S0, 0, rfl, h1 _ hp.2, fun e => by omega⟩, rfl⟩
  · exact fun r u hp => ⟨u, fun S v hz => ⟨by rw [hz]; exact h2 r u hp, fun e => by omega⟩, rfl⟩
theorem pairD_z (Z : SpT → Int32 → Prop) (hZ : ∀ S v, Z S v → spS S) (hL : gMi (S := va_W) l yX wX rm G [.ref lq] wv p1 (fun u => u) mc ms) (h1 : ∀ r u, p1 r u → ∃ S, Z S r ∧ clS G lq u S) (hb : bndR rm mc ms)
    (hM : gMi (S := va_W) l yM wM rm2 G [.ref mq] vv p2 (fun u => u) 0 0) (h2 : ∀ r u, p2 r u → ∀ S v, Z S v → rfS G mq u S 0 ∧ r = v) (hb2 : bndR rm2 0 0) : PairD G l lq mq yX wX yM wM wv vv :=
  ⟨Z, hZ, ⟨rm, mc, ms, hb, gMi_mono hL (fun r u h => ⟨u, h1 r u h, rfl⟩)⟩, rm2, hb2, gMi_mono hM (fun r u h => ⟨u, h2 r u h, rfl⟩)⟩
theorem pairD_a (v0 : Int32) (S0 : SpT) (hS : spS S0) (hL : gMi (S := va_W) l yX wX rm G [.ref lq] wv p1 (fun u => u) mc ms) (h1 : ∀ r u, p1 r u → r = v0 ∧ clS G lq u S0) (hb : bndR rm mc ms)
    (hM : gMi (S := va_W) l yM wM rm2 G [.ref mq] vv p2 (fun u => u) 0 0) (h2 : ∀ r u, p2 r u → r = v0 ∧ rfS G mq u S0 0) (hb2 : bndR rm2 0 0) : PairD G l lq mq yX wX yM wM wv vv :=
  pairD_z (fun S v => S = S0 ∧ v = v0) (fun S v h => by rw [h.1]; exact hS) hL (fun r u h => ⟨S0, ⟨rfl, (h1 r u h).1⟩, (h1 r u h).2⟩) hb hM (fun r u h S v hz => by rw [hz.1, hz.2]; exact ⟨(h2 r u h).2, (h2 r u h).1⟩) hb2
end Pairs
theorem i32_z (a : Int32) : ∃ x : Int, (-2147483648 ≤ x ∧ x < 2147483648) ∧ a = zI x :=
  ⟨a.toInt, ⟨a.le_toInt, a.toInt_lt⟩, (Int32.ofInt_toInt a).symm⟩
theorem z_nat {x : Int} (h : 0 ≤ x) : ∃ n : Nat, x = (n : Int) := ⟨x.toNat, by omega⟩
theorem sp_push {ow : Nat → Nat} {he : Nat → Nat} {co : Nat → Nat} {pr : Nat} {tx : Nat} {sa : Nat} {fl : Nat} {lo : Nat} {SL : List LdS} {K : Nat → Option LdS} {bu : Nat → Nat} {bl : Nat} {ow' he' co' : Nat → Nat} {pr' tx' : Nat} (hS : spI ow he co pr tx SL K bu bl) (hl : lOK ow' he' co' pr' tx') : spI ow' he' co' pr' tx' (pushH SL (ow, he, co, pr, tx, sa, fl, lo)) K bu bl :=
  ⟨hl, fun r hr => (push_mem hr).elim (fun h => hS.2.1 r h) (fun h => by rw [h]; exact hS.1), push_6 _ hS.2.2.1, hS.2.2.2.1, hS.2.2.2.2⟩
/-- the reading does not hang on what the registers held ahead -/
theorem rd_ind (bu : Nat → Nat) (s s' : RdT) : ∀ i, (rdF bu s i).1 = (rdF bu s' i).1 ∧ ((rdF bu s i).1 ≠ 0 → (rdF bu s i).2.1 = (rdF bu s' i).2.1)
  | 0 => ⟨rfl, fun h => absurd rfl h⟩
  | i + 1 => by
    obtain ⟨h1, h2⟩ := rd_ind bu s s' i
    show rdSt (rdF bu s i).1 (rdF bu s i).2.1 (bu i) = rdSt (rdF bu s' i).1 (rdF bu s' i).2.1 (bu i) ∧ (rdSt (rdF bu s i).1 (rdF bu s i).2.1 (bu i) ≠ 0 → rdKd (rdF bu s i).1 (rdF bu s i).2.1 (bu i) = rdKd (rdF bu s' i).1 (rdF bu s' i).2.1 (bu i))
    rw [← h1]
    by_cases e : (rdF bu s i).1 = 0
    · rw [e]
      refine ⟨rfl, fun h => ?_⟩
      have hk : kdOk (bu i) := Classical.byContradiction fun q => h (by show (if kdOk (bu i) then kdN (bu i) else 0) = 0; rw [if_neg q])
      show (if kdOk (bu i) then bu i else _) = if kdOk (bu i) then bu i else _
      rw [if_pos hk, if_pos hk]
    · rw [h2 e]; exact ⟨rfl, fun _ => rfl⟩
theorem rdK_ind (bu : Nat → Nat) (s s' : RdT) (i : Nat) : rdK bu s i ↔ rdK bu s' i := by
  obtain ⟨h1, h2⟩ := rd_ind bu s s' i
  show rdOk _ _ _ ↔ rdOk _ _ _
  rw [← h1]
  by_cases e : (rdF bu s i).1 = 0
  · rw [rdOk_0 e, rdOk_0 e]
  · rw [h2 e]
theorem rdLen_ind (bu : Nat → Nat) (s s' : RdT) : ∀ n, rdLen bu s n = rdLen bu s' n
  | 0 => rfl
  | n + 1 => by
    have hk := rdK_ind bu s s' n
    simp only [rdLen]; rw [rdLen_ind bu s s' n]
    by_cases e : rdLen bu s' n = n ∧ rdK bu s n
    · rw [if_pos e, if_pos ⟨e.1, hk.mp e.2⟩]
    · rw [if_neg e, if_neg (fun q => e ⟨q.1, hk.mpr q.2⟩)]
theorem rd_end_ind (bu : Nat → Nat) (s s' : RdT) (bl : Nat) : (rdLen bu s bl = bl ∧ (rdF bu s bl).1 = 8) ↔ (rdLen bu s' bl = bl ∧ (rdF bu s' bl).1 = 8) := by
  rw [rdLen_ind bu s s', (rd_ind bu s s' bl).1]
