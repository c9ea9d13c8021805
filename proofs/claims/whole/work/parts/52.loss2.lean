/-! OWN, pure: losses by old ranks and by new ranks are the same -/
def lsM (F : Nat → Nat) (o : Nat) : Nat → Nat := gvOw F (svX F (fSm (svO F) (svZ F) o (cnt F)).1.toNat) (svY F (fSm (svO F) (svZ F) o (cnt F)).1.toNat) (svZ F (fSm (svO F) (svZ F) o (cnt F)).1.toNat) 0
def lsN (F : Nat → Nat) (o : Nat) : Nat → Nat → Nat
  | 0 => F
  | m + 1 => lsM (lsN F o m) o
theorem mk_same {ow0 F so : Nat → Nat} (h : mkI ow0 F so) {q : Nat} (hq : q ≠ 0) : sCnt so q (cnt ow0) = sCnt (svO F) q (cnt F) := by
  have a := mk_cnt h hq (cnt ow0) (Nat.le_refl _)
  have b := mk_cnt (mkI_0 F) hq (cnt F) (Nat.le_refl _)
  rw [a, b, gP_cnt, gP_cnt]
theorem mk_pick {ow0 F so : Nat → Nat} (h : mkI ow0 F so) {o : Nat} (ho : o ≠ 0) (hc : 0 < sCnt so o (cnt ow0)) : (fSm so (svZ ow0) o (cnt ow0)).1.toNat < cnt ow0 ∧ so (fSm so (svZ ow0) o (cnt ow0)).1.toNat = o ∧ (fSm (svO F) (svZ F) o (cnt F)).1.toNat < cnt F ∧
    gP ow0 (fSm so (svZ ow0) o (cnt ow0)).1.toNat = gP F (fSm (svO F) (svZ F) o (cnt F)).1.toNat ∧ svZ ow0 (fSm so (svZ ow0) o (cnt ow0)).1.toNat = svZ F (fSm (svO F) (svZ F) o (cnt F)).1.toNat := by
  have h1 := fSm_ok (so := so) (zs := svZ ow0) (o := o) (n := cnt ow0) (fun k _ => svZ_le ow0 k) hc
  have h2 := fSm_ok (so := svO F) (zs := svZ F) (o := o) (n := cnt F) (fun k _ => svZ_le F k) (by rw [← mk_same h ho]; exact hc)
  have b1 := (mk_best h ho (cnt ow0) (Nat.le_refl _)).2
  have b2 := (mk_best (mkI_0 F) ho (cnt F) (Nat.le_refl _)).2
  rw [gP_cnt] at b1 b2
  have e1 := b1.resolve_left (fun k => by have := h1.1; omega)
  have e2 := b2.resolve_left (fun k => by have := h2.1; omega)
  have e3 : gP ow0 (fSm so (svZ ow0) o (cnt ow0)).1.toNat = gP F (fSm (svO F) (svZ F) o (cnt F)).1.toNat := Int.ofNat.inj (e1.2.2.symm.trans e2.2.2)
  refine ⟨h1.2.1, h1.2.2, h2.2.1, e3, ?_⟩
  rw [(h o ho).2.1 _ h1.2.1 h1.2.2, e3, Mz_gP h2.2.1]
theorem mk_step {ow0 F so : Nat → Nat} (h : mkI ow0 F so) {o : Nat} (ho : o ≠ 0) (hc : 0 < sCnt so o (cnt ow0)) :
    gvOw F (svX ow0 (fSm so (svZ ow0) o (cnt ow0)).1.toNat) (svY ow0 (fSm so (svZ ow0) o (cnt ow0)).1.toNat) (svZ ow0 (fSm so (svZ ow0) o (cnt ow0)).1.toNat) 0 = lsM F o ∧ mkI ow0 (lsM F o) (va_up so (fSm so (svZ ow0) o (cnt ow0)).1.toNat 0) := by
  have hp := mk_pick h ho hc
  obtain ⟨r1, r2, r3, r4, r5⟩ := hp
  have em : gvOw F (svX ow0 (fSm so (svZ ow0) o (cnt ow0)).1.toNat) (svY ow0 (fSm so (svZ ow0) o (cnt ow0)).1.toNat) (svZ ow0 (fSm so (svZ ow0) o (cnt ow0)).1.toNat) 0 = lsM F o := by
    unfold lsM svX svY
    rw [r4, r5]
  refine ⟨em, ?_⟩
  rw [← em]
  generalize (fSm so (svZ ow0) o (cnt ow0)).1.toNat = r at r1 r2 r4 r5 em ⊢
  generalize (fSm (svO F) (svZ F) o (cnt F)).1.toNat = r' at r3 r4 r5
  have hg : gP ow0 r < 256 := (lt_cnt ow0).mp r1
  have hs := (h o ho).1 r r1
  have hs2 := hs.mp r2
  have hz : svZ ow0 r = Mz F (gP ow0 r) := (h o ho).2.1 r r1 r2
  have hsq : sqN (mx (gP ow0 r)) (my (gP ow0 r)) (svZ ow0 r) := by rw [r4, r5]; exact psz_sq F _
  have hf := fP_lose (ow := F) hg hsq
  have hzp := (iszB hsq.1).2.2.1
  have key : ∀ q, q ≠ 0 → ∀ j, j < cnt ow0 → (va_up so r 0 j = q ↔ (fP (gvOw F (svX ow0 r) (svY ow0 r) (svZ ow0 r) 0) (gP ow0 j) = q ∧ pst (gvOw F (svX ow0 r) (svY ow0 r) (svZ ow0 r) 0) (gP ow0 j))) := by
    intro q hq j hj
    have hgj := (lt_cnt ow0).mp hj
    have hl := pst_lose (ow' := gvOw F (svX ow0 r) (svY ow0 r) (svZ ow0 r) 0) hg hz hs2.2 hf hgj hq
    rw [hl, gu_if]
    by_cases e : j = r
    · rw [if_pos e]
      constructor
      · intro k; exact absurd k.symm hq
      · rintro ⟨_, _, k⟩
        exact absurd (show gP ow0 r ≤ gP ow0 j ∧ gP ow0 j < gP ow0 r + svZ ow0 r * svZ ow0 r by rw [e]; omega) k
    · rw [if_neg e]
      have h1 := (h q hq).1 j hj
      constructor
      · intro k
        have k2 := h1.mp k
        refine ⟨k2.1, k2.2, fun z => e ?_⟩
        have e2 := pst_one hg hs2.2 hgj k2.2 z.1 (by rw [← hz]; exact z.2)
        have e3 := rk_gP hj
        rw [e2, rk_gP r1] at e3; exact e3.symm
      · rintro ⟨a, b, _⟩; exact h1.mpr ⟨a, b⟩
  intro q hq
  refine ⟨key q hq, fun j hj k => ?_, fun s hs9 a b => ?_⟩
  · have hgj := (lt_cnt ow0).mp hj
    have k2 := (key q hq j hj).mp k
    have hm := Mz_lose (ow' := gvOw F (svX ow0 r) (svY ow0 r) (svZ ow0 r) 0) hg hz hs2.2 hf hgj (by rw [k2.1]; exact hq)
    rw [← hm.2.2]
    refine (h q hq).2.1 j hj ?_
    rw [gu_if] at k
    by_cases e : j = r
    · rw [if_pos e] at k; exact absurd k.symm hq
    · rw [if_neg e] at k; exact k
  · have hl := (pst_lose (ow' := gvOw F (svX ow0 r) (svY ow0 r) (svZ ow0 r) 0) hg hz hs2.2 hf hs9 hq).mp ⟨a, b⟩
    exact (h q hq).2.2 s hs9 hl.1 hl.2.1
theorem lp_ls {ow0 F so : Nat → Nat} (h : mkI ow0 F so) {o : Nat} (ho : o ≠ 0) : ∀ m, m ≤ sCnt so o (cnt ow0) → (lpN (svX ow0) (svY ow0) (svZ ow0) (cnt ow0) o (F, so) m).1 = lsN F o m ∧ mkI ow0 (lsN F o m) (lpN (svX ow0) (svY ow0) (svZ ow0) (cnt ow0) o (F, so) m).2
  | 0 => fun _ => ⟨rfl, h⟩
  | m + 1 => fun hm => by
    obtain ⟨i1, i2⟩ := lp_ls h ho m (by omega)
    have hc := lpN_cnt (cx := svX ow0) (cy := svY ow0) (zs := svZ ow0) (n := cnt ow0) (pn := o) (t := (F, so)) (fun k _ => svZ_le ow0 k) ho m (by show m ≤ sCnt so o (cnt ow0); omega)
    have hc2 : 0 < sCnt (lpN (svX ow0) (svY ow0) (svZ ow0) (cnt ow0) o (F, so) m).2 o (cnt ow0) := by
      rw [hc]; show 0 < sCnt so o (cnt ow0) - m; omega
    have hst := mk_step i2 ho hc2
    refine ⟨?_, hst.2⟩
    show gvOw (lpN _ _ _ _ _ _ m).1 _ _ _ 0 = lsM (lsN F o m) o
    rw [i1]; exact hst.1
theorem ls_cnt {F : Nat → Nat} {o : Nat} (ho : o ≠ 0) {m : Nat} (hm : m ≤ sCnt (svO F) o (cnt F)) : sCnt (svO (lsN F o m)) o (cnt (lsN F o m)) = sCnt (svO F) o (cnt F) - m := by
  have h := lp_ls (mkI_0 F) ho m hm
  rw [← mk_same h.2 ho]
  exact lpN_cnt (cx := svX F) (cy := svY F) (zs := svZ F) (n := cnt F) (pn := o) (t := (F, svO F)) (fun k _ => svZ_le F k) ho m hm
theorem lsM_ge {F : Nat → Nat} {o k : Nat} (hk : 256 ≤ k) : lsM F o k = F k := by
  have hq := sv_sq F (fSm (svO F) (svZ F) o (cnt F)).1.toNat
  have h1 := sq_le hq
  unfold lsM gvOw
  rw [if_neg]
  rintro ⟨a, b, d, e⟩; omega
theorem lsN_ge {F : Nat → Nat} {o k : Nat} (hk : 256 ≤ k) : ∀ m, lsN F o m k = F k
  | 0 => rfl
  | m + 1 => by rw [lsN, lsM_ge hk, lsN_ge hk m]
theorem lsN_lt {F : Nat → Nat} {o : Nat} (h : ∀ k, k < 256 → F k < 8) : ∀ m k, k < 256 → lsN F o m k < 8
  | 0 => h
  | m + 1 => fun k hk => by
    have ih := lsN_lt (o := o) h m k hk
    show gvOw _ _ _ _ 0 k < 8
    unfold gvOw; split
    · omega
    · exact ih
