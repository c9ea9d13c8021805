/-! OWN: lands told by numbers -/
def tb (T : Nat) : Nat → Nat := fun k => if k < 256 then T / 8 ^ k % 8 else 0
def tbH (T : Nat) : Nat → Nat := fun k => if k < 256 then T / 10 ^ k % 10 else 5
def tbC (T : Nat) : Nat → Nat := fun k => if k < 8 then T / 1024 ^ k % 1024 else 100
theorem tb_lt (T : Nat) : ∀ k, tb T k < 8 := fun k => by unfold tb; split <;> omega
theorem tbH_lt (T : Nat) : ∀ k, tbH T k < 10 := fun k => by unfold tbH; split <;> omega
theorem tbC_ok {C : Nat} (h : sum8 (tbC C) = 700) : coOK (tbC C) := ⟨h, fun k hk => by unfold tbC; rw [if_neg (by omega)]; omega⟩
theorem tb_ext {f : Nat → Nat} {T : Nat} (h : ∀ k, k < 256 → f k = tb T k) (h2 : ∀ k, 256 ≤ k → f k = 0) : f = tb T := funext fun k => by
  by_cases e : k < 256
  · exact h k e
  · rw [h2 k (by omega)]; unfold tb; rw [if_neg e]
theorem tbH_ext {f : Nat → Nat} {T : Nat} (h : ∀ k, k < 256 → f k = tbH T k) (h2 : ∀ k, 256 ≤ k → f k = 5) : f = tbH T := funext fun k => by
  by_cases e : k < 256
  · exact h k e
  · rw [h2 k (by omega)]; unfold tbH; rw [if_neg e]
theorem tbC_ext {f : Nat → Nat} {T : Nat} (h : ∀ k, k < 8 → f k = tbC T k) (h2 : ∀ k, 8 ≤ k → f k = 100) : f = tbC T := funext fun k => by
  by_cases e : k < 8
  · exact h k e
  · rw [h2 k (by omega)]; unfold tbC; rw [if_neg e]
theorem tb_hi {T k : Nat} (h : 256 ≤ k) : tb T k = 0 := by unfold tb; rw [if_neg (by omega)]
theorem tbH_hi {T k : Nat} (h : 256 ≤ k) : tbH T k = 5 := by unfold tbH; rw [if_neg (by omega)]
theorem tbC_hi {T k : Nat} (h : 8 ≤ k) : tbC T k = 100 := by unfold tbC; rw [if_neg (by omega)]
theorem inSq_hi {x y z k : Nat} (hq : sqN x y z) (h : 256 ≤ k) : ¬ inSq x y z k := by
  have h1 := (sq_le hq).2.1
  intro h2; have := h2.2.2.2; omega
theorem gv_tb {T T' x y z o : Nat} (hq : sqN x y z) (h : ∀ k, k < 256 → gvOw (tb T) x y z o k = tb T' k) : gvOw (tb T) x y z o = tb T' :=
  tb_ext h fun k hk => by unfold gvOw; rw [if_neg (inSq_hi hq hk)]; exact tb_hi hk
theorem lf_tb {T T' x y z : Nat} {d : Int} (hq : sqN x y z) (h : ∀ k, k < 256 → lfHe (tbH T) x y z d k = tbH T' k) : lfHe (tbH T) x y z d = tbH T' :=
  tbH_ext h fun k hk => by unfold lfHe; rw [if_neg (inSq_hi hq hk)]; exact tbH_hi hk
theorem dr_tb {T T' H lv : Nat} (h : ∀ k, k < 256 → drOw (tb T) (tbH H) lv k = tb T' k) : drOw (tb T) (tbH H) lv = tb T' :=
  tb_ext h fun k hk => by unfold drOw; split <;> first | rfl | exact tb_hi hk
theorem pay_tb {C C' a b v : Nat} (ha : a < 8) (hb : b < 8) (h : ∀ k, k < 8 → payC (tbC C) a b v k = tbC C' k) : payC (tbC C) a b v = tbC C' :=
  tbC_ext h fun k hk => by unfold payC; rw [gu_if, if_neg (by omega), gu_if, if_neg (by omega)]; exact tbC_hi hk
/-- numbers in a row -/
def lf (l : List Nat) : Nat → Nat := fun k => l.getD k 0
/-- the places at which plots begin -/
def scn (ow : Nat → Nat) : Nat → Nat → List Nat
  | 0, _ => []
  | f + 1, p => if p < 256 then p :: scn ow f (p + psz ow p * psz ow p) else []
theorem scn_gP (ow : Nat → Nat) : ∀ f k, (∀ i, i < (scn ow f (gP ow k)).length → gP ow (k + i) = (scn ow f (gP ow k)).getD i 0 ∧ gP ow (k + i) < 256) ∧ ((scn ow f (gP ow k)).length < f → 256 ≤ gP ow (k + (scn ow f (gP ow k)).length))
  | 0, k => ⟨fun i hi => by simp [scn] at hi, fun h => by omega⟩
  | f + 1, k => by
    by_cases e : gP ow k < 256
    · have e1 : scn ow (f + 1) (gP ow k) = gP ow k :: scn ow f (gP ow (k + 1)) := by
        show (if gP ow k < 256 then _ else _) = _
        rw [if_pos e]; rfl
      obtain ⟨h1, h2⟩ := scn_gP ow f (k + 1)
      rw [e1]
      refine ⟨fun i hi => ?_, fun hl => ?_⟩
      · cases i with
        | zero => exact ⟨rfl, e⟩
        | succ i =>
          have h3 := h1 i (by simpa using hi)
          rw [show k + (i + 1) = k + 1 + i by omega]
          exact ⟨by rw [h3.1]; rfl, h3.2⟩
      · have h3 := h2 (by simpa using hl)
        rw [List.length_cons, show k + ((scn ow f (gP ow (k + 1))).length + 1) = k + 1 + (scn ow f (gP ow (k + 1))).length by omega]; exact h3
    · have e1 : scn ow (f + 1) (gP ow k) = [] := by
        show (if gP ow k < 256 then _ else _) = _
        rw [if_neg e]
      rw [e1]
      exact ⟨fun i hi => by simp at hi, fun _ => by show 256 ≤ gP ow k; omega⟩
/-- a land's plots: where each begins, its corner, size, owner -/
def PL (ow : Nat → Nat) (st xs ys zs os : List Nat) : Prop := cnt ow = st.length ∧ ∀ k, k < st.length → gP ow k = lf st k ∧ svX ow k = lf xs k ∧ svY ow k = lf ys k ∧ svZ ow k = lf zs k ∧ svO ow k = lf os k
theorem lf_map {f : Nat → Nat} {l : List Nat} {k : Nat} (h : k < l.length) : lf (l.map f) k = f (lf l k) := by
  unfold lf; rw [List.getD_eq_getElem?_getD, List.getD_eq_getElem?_getD, List.getElem?_map, List.getElem?_eq_getElem h]; rfl
theorem PL_of {ow : Nat → Nat} {st xs ys zs os : List Nat} (h : scn ow 40 0 = st) (hl : st.length < 40) (hx : st.map mx = xs) (hy : st.map my = ys) (hz : st.map (psz ow) = zs) (ho : st.map (fun p => ow (mc p)) = os) : PL ow st xs ys zs os := by
  subst hx; subst hy; subst hz; subst ho
  have h0 := scn_gP ow 40 0
  rw [show gP ow 0 = 0 from rfl, h] at h0
  obtain ⟨h1, h2⟩ := h0
  have hg : ∀ k, k < st.length → gP ow k = lf st k := fun k hk => by have := (h1 k hk).1; rw [Nat.zero_add] at this; exact this
  have hc : cnt ow = st.length := (cnt_eq ow (k := st.length) (by have := h2 hl; rw [Nat.zero_add] at this; exact this) (fun j hj => by have := (h1 j hj).2; rw [Nat.zero_add] at this; exact this)).1
  refine ⟨hc, fun k hk => ⟨hg k hk, ?_, ?_, ?_, ?_⟩⟩
  · rw [lf_map hk, ← hg k hk]; rfl
  · rw [lf_map hk, ← hg k hk]; rfl
  · rw [lf_map hk, ← hg k hk]; rfl
  · rw [lf_map hk, ← hg k hk]; rfl
section PLq
variable {ow : Nat → Nat} {st xs ys zs os : List Nat}
theorem PL.o (h : PL ow st xs ys zs os) : ∀ k, k < cnt ow → svO ow k = lf os k := fun k hk => (h.2 k (by rw [← h.1]; exact hk)).2.2.2.2
theorem PL.x (h : PL ow st xs ys zs os) : ∀ k, k < cnt ow → svX ow k = lf xs k := fun k hk => (h.2 k (by rw [← h.1]; exact hk)).2.1
theorem PL.y (h : PL ow st xs ys zs os) : ∀ k, k < cnt ow → svY ow k = lf ys k := fun k hk => (h.2 k (by rw [← h.1]; exact hk)).2.2.1
theorem PL.z (h : PL ow st xs ys zs os) : ∀ k, k < cnt ow → svZ ow k = lf zs k := fun k hk => (h.2 k (by rw [← h.1]; exact hk)).2.2.2.1
theorem PL.cn (h : PL ow st xs ys zs os) (o : Nat) : sCnt (svO ow) o (cnt ow) = sCnt (lf os) o st.length := by rw [sCnt_congr h.o o _ (Nat.le_refl _), h.1]
theorem PL.ar (h : PL ow st xs ys zs os) (o : Nat) : sAr (svO ow) (svZ ow) o (cnt ow) = sAr (lf os) (lf zs) o st.length := by rw [sAr_congr h.o h.z o _ (Nat.le_refl _), h.1]
theorem PL.fn (h : PL ow st xs ys zs os) (o : Nat) : sFn ow (svO ow) (svX ow) (svY ow) (svZ ow) o (cnt ow) = sFn ow (lf os) (lf xs) (lf ys) (lf zs) o st.length := by rw [sFn_congr h.o h.x h.y h.z o _ (Nat.le_refl _), h.1]
theorem PL.lg (h : PL ow st xs ys zs os) (o : Nat) : (fLg (svO ow) (svZ ow) o (cnt ow)).1 = (fLg (lf os) (lf zs) o st.length).1 := by rw [fLg_congr h.o h.z o _ (Nat.le_refl _), h.1]
theorem PL.sm (h : PL ow st xs ys zs os) (o : Nat) : (fSm (svO ow) (svZ ow) o (cnt ow)).1 = (fSm (lf os) (lf zs) o st.length).1 := by rw [fSm_congr h.o h.z o _ (Nat.le_refl _), h.1]
theorem PL.ls (h : PL ow st xs ys zs os) (co : Nat → Nat) (tx o : Nat) : lsO co (svO ow) tx o (cnt ow) = lsO co (lf os) tx o st.length := by rw [lsO_congr h.o, h.1]
theorem PL.rk (h : PL ow st xs ys zs os) {x y j : Nat} (hj : j < st.length) (h1 : lf st j ≤ mp (y * 16 + x)) (h2 : mp (y * 16 + x) < lf st j + lf zs j * lf zs j) : rkA ow x y = j := by
  have h3 := h.2 j hj
  have hc := (cnt_le ow).2
  rw [h.1] at hc
  refine rk_eq ow (by rw [h3.1]; exact h1) ?_ (by omega)
  have e : gP ow (j + 1) = gP ow j + svZ ow j * svZ ow j := rfl
  rw [e, h3.1, h3.2.2.2.1]; exact h2
theorem PL.tx (h : PL ow st xs ys zs os) {tx : Nat} {he co : Nat → Nat} {sa fl lo : Nat} {t : TxT} (ht : txN (lf xs) (lf ys) (lf zs) st.length tx (ow, lf os, co, lo, 0) 7 = t) : (txA tx (ow, he, co, sa, fl, lo)).1 = t.1 ∧ (txA tx (ow, he, co, sa, fl, lo)).2.2 = t.2.2 := by
  have h1 := txN_congr (tx := tx) (t := (ow, svO ow, co, lo, 0)) (t' := (ow, lf os, co, lo, 0)) h.x h.y h.z rfl h.o rfl (fun k _ => svZ_le ow k) 7
  rw [h.1] at h1
  rw [← ht]
  refine ⟨?_, ?_⟩
  · rw [← h1.1]; show (txN _ _ _ (cnt ow) _ _ 7).1 = _; rw [h.1]
  · rw [← h1.2.2]; show (txN _ _ _ (cnt ow) _ _ 7).2.2 = _; rw [h.1]
end PLq
theorem lf_set {l : List Nat} {r v : Nat} (h : r < l.length) : va_up (lf l) r v = lf (l.set r v) := funext fun k => by
  rw [gu_if]; unfold lf
  rw [List.getD_eq_getElem?_getD, List.getD_eq_getElem?_getD, List.getElem?_set]
  by_cases e : k = r
  · subst e; rw [if_pos rfl, if_pos rfl, if_pos h]; rfl
  · rw [if_neg e, if_neg (fun q => e q.symm)]
theorem lp_st {cx cy zs : Nat → Nat} {n pn m r : Nat} {t t1 t2 : LP2} (h : lpN cx cy zs n pn t m = t1) (hr : lpR zs n pn t1 = r) (h2 : (gvOw t1.1 (cx r) (cy r) (zs r) 0, va_up t1.2 r 0) = t2) : lpN cx cy zs n pn t (m + 1) = t2 := by
  show lpStep cx cy zs n pn (lpN cx cy zs n pn t m) = t2
  rw [h]; unfold lpStep; rw [hr]; exact h2
theorem tx_st {cx cy zs : Nat → Nat} {n tx pn m c : Nat} {ow so co : Nat → Nat} {lo du : Nat} {ow' so' co' : Nat → Nat} {t : TxT} {k : Nat} {t0 : TxT} (h0 : txN cx cy zs n tx t0 k = (ow, so, co, lo, du)) (hk : k + 1 = pn) (h1 : lsO co so tx pn n = m) (h2 : lpN cx cy zs n pn (ow, so) m = (ow', so')) (h3 : sCnt so' pn n = c) (h4 : payC co pn 0 (tx * c) = co') (h5 : (ow', so', co', lo + m, du + tx * c) = t) : txN cx cy zs n tx t0 (k + 1) = t := by
  subst hk
  show txStep cx cy zs n tx (txN cx cy zs n tx t0 k) (k + 1) = t
  rw [h0]; unfold txStep
  show ((lpN cx cy zs n (k + 1) (ow, so) (lsO co so tx (k + 1) n)).1, (lpN cx cy zs n (k + 1) (ow, so) (lsO co so tx (k + 1) n)).2, payC co (k + 1) 0 (tx * sCnt (lpN cx cy zs n (k + 1) (ow, so) (lsO co so tx (k + 1) n)).2 (k + 1) n), lo + lsO co so tx (k + 1) n, du + tx * sCnt (lpN cx cy zs n (k + 1) (ow, so) (lsO co so tx (k + 1) n)).2 (k + 1) n) = t
  rw [h1, h2, h3, h4]; exact h5
theorem LQ.r {l : Launch} {G : gG} {lq : Nat} {y : MethodName} {w : List Cond} {rm : Room} {As : List Value} {S S' : SpT} {r r' : Int32} {mc ms : Nat} (h : LQ l G lq y w rm As S r S' mc ms) (e : r = r') : LQ l G lq y w rm As S r' S' mc ms := by rw [← e]; exact h
theorem LQ.s {l : Launch} {G : gG} {lq : Nat} {y : MethodName} {w : List Cond} {rm : Room} {As : List Value} {S S' S2 : SpT} {r : Int32} {mc ms : Nat} (h : LQ l G lq y w rm As S r S' mc ms) (e : S' = S2) : LQ l G lq y w rm As S r S2 mc ms := by rw [← e]; exact h
theorem LD.r {l : Launch} {G : gG} {lq : Nat} {y : MethodName} {w : List Cond} {rm : Room} {As : List Value} {S : SpT} {r r' : UInt64} {mc ms : Nat} (h : LD l G lq y w rm As S r mc ms) (e : r = r') : LD l G lq y w rm As S r' mc ms := by rw [← e]; exact h
theorem spS_keep {S : SpT} (hS : spS S) (k : Nat) : spS (S.1, S.2.1, va_up S.2.2.1 k (some S.1), S.2.2.2) :=
  ⟨hS.1, hS.2.1, hS.2.2.1, fun i r hr => by
    have hr : va_up S.2.2.1 k (some S.1) i = some r := hr
    rw [gu_if] at hr; split at hr
    · cases hr; exact hS.1
    · exact hS.2.2.2.1 i r hr, hS.2.2.2.2⟩
abbrev BU0 : Nat → Nat := fun _ => 0
abbrev KN0 : Nat → Option LdS := fun _ => none
