/-! OWN, pure: the class's taxes and the reference's -/
theorem fSm_lt (so zs : Nat → Nat) (o n : Nat) (hn : 0 < n) : (fSm so zs o n).1.toNat < n := by
  rcases fSm_w so zs o n with h | h
  · rw [h]; exact hn
  · omega
theorem lsM_cg {F F' : Nat → Nat} (h : agr F F') (o : Nat) : agr (lsM F o) (lsM F' o) := by
  intro k hk
  have hr := fSm_lt (svO F) (svZ F) o (cnt F) (cnt_le F).1
  unfold lsM
  rw [← fSm_cg h o, ← svX_cg h hr, ← svY_cg h hr, ← svZ_cg h hr]
  unfold gvOw
  by_cases e : inSq (svX F (fSm (svO F) (svZ F) o (cnt F)).1.toNat) (svY F (fSm (svO F) (svZ F) o (cnt F)).1.toNat) (svZ F (fSm (svO F) (svZ F) o (cnt F)).1.toNat) k
  · rw [if_pos e, if_pos e]
  · rw [if_neg e, if_neg e]; exact h k hk
theorem lsN_cg {F F' : Nat → Nat} (h : agr F F') (o : Nat) : ∀ m, agr (lsN F o m) (lsN F' o m)
  | 0 => h
  | m + 1 => lsM_cg (lsN_cg h o m) o
theorem agr.trans {F F' F'' : Nat → Nat} (h : agr F F') (h2 : agr F' F'') : agr F F'' := fun k hk => (h k hk).trans (h2 k hk)
theorem t2M_agr (nw : Nat → Nat) (o : Nat) : agr (t1M nw o) (t2M nw o) := fun k hk => by unfold t2M; rw [gu_n _ _ (by omega), gu_n _ _ (by omega)]
theorem t2M_hi {nw : Nat → Nat} {o k : Nat} (ho : o < 8) (hk : 256 ≤ k) (h : k < 512 ∨ 520 ≤ k) (h2 : k ≠ 524) : t2M nw o k = nw k := by
  unfold t2M; rw [gu_n _ _ (by omega), gu_n _ _ (by omega), t1M_hi hk h2]
def txP (ow : Nat → Nat) (tx : Nat) (nw : Nat → Nat) (c : TxT) (t : TM) : Prop := agr c.1 t.1 ∧ mkI ow c.1 c.2.1 ∧ (∀ i, i < 8 → c.2.2.1 i = t.1 (512 + i)) ∧ t.1 521 = tx ∧ c.2.2.2.1 = t.1 524 ∧ c.2.2.2.2 = t.2 ∧ ∀ k, 256 ≤ k → k < 512 ∨ 520 ≤ k → k ≠ 524 → t.1 k = nw k
theorem txP_step {ow nw : Nat → Nat} {tx : Nat} {c : TxT} {t : TM} (h : txP ow tx nw c t) {o : Nat} (ho : o ≠ 0) (ho8 : o < 8) : txP ow tx nw (txStep (svX ow) (svY ow) (svZ ow) (cnt ow) tx c o) (t2M t.1 o, t.2 + dueM t.1 o) := by
  obtain ⟨h1, h2, h3, h4, h5, h6, h7⟩ := h
  have eK : sCnt c.2.1 o (cnt ow) = sCnt (svO t.1) o (cnt t.1) := (mk_same h2 ho).trans (sCnt_cg h1 o)
  have eL : lsO c.2.2.1 c.2.1 tx o (cnt ow) = losM t.1 o := by unfold lsO losM; rw [eK, h3 o ho8, h4]
  have hlp := lp_ls h2 ho (lsO c.2.2.1 c.2.1 tx o (cnt ow)) (lsO_cnt _ _ _ _ _)
  rw [eL] at hlp
  have ha : agr (lsN c.1 o (losM t.1 o)) (t1M t.1 o) := (lsN_cg h1 o _).trans (t1M_agr t.1 o)
  have eD : tx * sCnt (lpN (svX ow) (svY ow) (svZ ow) (cnt ow) o (c.1, c.2.1) (losM t.1 o)).2 o (cnt ow) = dueM t.1 o := by
    unfold dueM; rw [mk_same hlp.2 ho, sCnt_cg ha o, h4]
  have hd := due_le (nw := t.1) ho ho8
  unfold txStep
  rw [eL, eD]
  refine ⟨?_, ?_, fun i hi => ?_, ?_, ?_, ?_, fun k k1 k2 k3 => ?_⟩
  · show agr (lpN _ _ _ _ _ _ _).1 _
    rw [hlp.1]; exact ha.trans (t2M_agr t.1 o)
  · show mkI ow (lpN _ _ _ _ _ _ _).1 (lpN _ _ _ _ _ _ _).2
    rw [hlp.1]; exact hlp.2
  · show payC c.2.2.1 o 0 (dueM t.1 o) i = t2M t.1 o (512 + i)
    rw [t2M_at ho hi]
    unfold payC
    rw [gu_if]
    by_cases e : i = 0
    · rw [if_pos e, if_pos e, gu_n _ _ (show (0 : Nat) ≠ o by omega), h3 0 (by omega)]
    · rw [if_neg e, if_neg e, gu_if]
      by_cases e2 : i = o
      · rw [if_pos e2, if_pos e2, e2, h3 o ho8]
      · rw [if_neg e2, if_neg e2, h3 i hi]
  · show t2M t.1 o 521 = tx
    rw [t2M_hi ho8 (by omega) (by omega) (by omega)]; exact h4
  · show c.2.2.2.1 + losM t.1 o = t2M t.1 o 524
    unfold t2M t1M
    rw [gu_n _ _ (by omega), gu_n _ _ (by omega), gu_s, h5]
  · show c.2.2.2.2 + dueM t.1 o = t.2 + dueM t.1 o
    rw [h6]
  · show t2M t.1 o k = nw k
    rw [t2M_hi ho8 k1 k2 k3]; exact h7 k k1 k2 k3
theorem tx_tie {ow nw co : Nat → Nat} {tx lo : Nat} (h : agr ow nw) (h3 : ∀ i, i < 8 → co i = nw (512 + i)) (h4 : nw 521 = tx) (h5 : lo = nw 524) : ∀ k, k ≤ 7 → txP ow tx nw (txN (svX ow) (svY ow) (svZ ow) (cnt ow) tx (ow, svO ow, co, lo, 0) k) (txM (nw, 0) k)
  | 0 => fun _ => ⟨h, mkI_0 ow, h3, h4, h5, rfl, fun _ _ _ _ => rfl⟩
  | k + 1 => fun hk => txP_step (tx_tie h h3 h4 h5 k (by omega)) (by omega) (by omega)
theorem los_tie {ow nw co : Nat → Nat} {tx o : Nat} (h : agr ow nw) (h3 : ∀ i, i < 8 → co i = nw (512 + i)) (h4 : nw 521 = tx) (ho8 : o < 8) : lsO co (svO ow) tx o (cnt ow) = losM nw o := by
  unfold lsO losM; rw [sCnt_cg h o, h3 o ho8, h4]
