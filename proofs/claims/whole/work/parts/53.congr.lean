/-! OWN, pure: maps that agree on the cells have the same plots -/
def agr (F F' : Nat → Nat) : Prop := ∀ k, k < 256 → F k = F' k
theorem agr.symm {F F' : Nat → Nat} (h : agr F F') : agr F' F := fun k hk => (h k hk).symm
theorem okc_cg {F F' : Nat → Nat} (h : agr F F') {q z : Nat} (hq : q < 256) (hz : isz z) (ho : okc F q z) : okc F' q z := by
  rw [okc_uB hq hz] at ho ⊢
  refine ⟨ho.1, fun t ht he => ?_⟩
  have := ho.2 t ht he
  unfold fP at this ⊢
  rw [← h _ (mc_lt t), ← h _ (mc_lt q)]; exact this
theorem psz_cg {F F' : Nat → Nat} (h : agr F F') {q : Nat} (hq : q < 256) : psz F q = psz F' q := by
  have a := psz_ge (psz_isz F q) (okc_cg h hq (psz_isz F q) (psz_ok F q))
  have b := psz_ge (psz_isz F' q) (okc_cg h.symm hq (psz_isz F' q) (psz_ok F' q))
  omega
theorem gP_cg {F F' : Nat → Nat} (h : agr F F') : ∀ k, k ≤ cnt F → gP F k = gP F' k
  | 0 => fun _ => rfl
  | k + 1 => fun hk => by
    have ih := gP_cg h k (by omega)
    have hg := (lt_cnt F).mp (show k < cnt F by omega)
    rw [gP, gP, ← ih, psz_cg h hg]
theorem cnt_cg {F F' : Nat → Nat} (h : agr F F') : cnt F = cnt F' := cnt_of (by rw [← gP_cg h _ (Nat.le_refl _)]; exact gP_cnt F)
theorem svO_cg {F F' : Nat → Nat} (h : agr F F') {k : Nat} (hk : k < cnt F) : svO F k = svO F' k := by
  unfold svO; rw [← gP_cg h k (by omega)]; exact h _ (mc_lt _)
theorem svZ_cg {F F' : Nat → Nat} (h : agr F F') {k : Nat} (hk : k < cnt F) : svZ F k = svZ F' k := by
  unfold svZ; rw [← gP_cg h k (by omega)]; exact psz_cg h ((lt_cnt F).mp hk)
theorem svX_cg {F F' : Nat → Nat} (h : agr F F') {k : Nat} (hk : k < cnt F) : svX F k = svX F' k := by
  unfold svX; rw [← gP_cg h k (by omega)]
theorem svY_cg {F F' : Nat → Nat} (h : agr F F') {k : Nat} (hk : k < cnt F) : svY F k = svY F' k := by
  unfold svY; rw [← gP_cg h k (by omega)]
theorem rk_cg {F F' : Nat → Nat} (h : agr F F') {q : Nat} (hq : q < 256) : rk F q = rk F' q := by
  have h1 := rk_spec F (q := q) (by omega)
  have h2 := rk_lt F hq
  have h3 := (cnt_le F).2
  rw [gP_cg h _ (by omega), gP_cg h _ (by omega)] at h1
  exact (rk_eq F' h1.1 h1.2 (by omega)).symm
theorem sCnt_cg {F F' : Nat → Nat} (h : agr F F') (o : Nat) : sCnt (svO F) o (cnt F) = sCnt (svO F') o (cnt F') := by
  rw [← cnt_cg h]; exact sCnt_congr (fun k hk => svO_cg h hk) o _ (Nat.le_refl _)
theorem fSm_cg {F F' : Nat → Nat} (h : agr F F') (o : Nat) : fSm (svO F) (svZ F) o (cnt F) = fSm (svO F') (svZ F') o (cnt F') := by
  rw [← cnt_cg h]; exact fSm_congr (fun k hk => svO_cg h hk) (fun k hk => svZ_cg h hk) o _ (Nat.le_refl _)
/-- how many plots a person loses of the reference's row -/
def losM (nw : Nat → Nat) (o : Nat) : Nat := sCnt (svO nw) o (cnt nw) - aff (nw (512 + o)) (nw 521) (sCnt (svO nw) o (cnt nw))
theorem losM_le (nw : Nat → Nat) (o : Nat) : losM nw o ≤ sCnt (svO nw) o (cnt nw) := by unfold losM; omega
theorem losM_due {nw : Nat → Nat} {o : Nat} (ho : o ≠ 0) : sCnt (svO (lsN nw o (losM nw o))) o (cnt (lsN nw o (losM nw o))) = aff (nw (512 + o)) (nw 521) (sCnt (svO nw) o (cnt nw)) := by
  rw [ls_cnt ho (losM_le nw o)]
  have := aff_le (nw (512 + o)) (nw 521) (sCnt (svO nw) o (cnt nw))
  unfold losM; omega
theorem sCnt_256 (nw : Nat → Nat) (o : Nat) : sCnt (svO nw) o (cnt nw) ≤ 256 := by have := sCnt_le (svO nw) o (cnt nw); have := cnt_le nw; omega
theorem lose_fit {nw : Nat → Nat} {o R0 : Nat} (ho : o ≠ 0) (hR : svO nw R0 = o) : sSq (fun a => if nw a = 0 then 0 else 1) (mc (gP nw R0)) (psz nw (gP nw R0)) (psz nw (gP nw R0) * psz nw (gP nw R0)) = psz nw (gP nw R0) * psz nw (gP nw R0) := by
  refine sSq_all _ fun k hk => ?_
  have hu := (psz_ok nw (gP nw R0)).2 k hk
  have e : nw (mc (gP nw R0) + 16 * (k / psz nw (gP nw R0)) + k % psz nw (gP nw R0)) = nw (mc (gP nw R0)) := hu
  have e2 : nw (mc (gP nw R0)) = o := hR
  show (if _ = 0 then 0 else 1 : Nat) = 1
  rw [e, e2, if_neg ho]
theorem lose_row (nw : Nat → Nat) (o m R0 : Nat) (hR : R0 = (fSm (svO (lsN nw o m)) (svZ (lsN nw o m)) o (cnt (lsN nw o m))).1.toNat) : gvOw (lsN nw o m) (mc (gP (lsN nw o m) R0) % 16) (mc (gP (lsN nw o m) R0) / 16) (psz (lsN nw o m) (gP (lsN nw o m) R0)) 0 = lsN nw o (m + 1) := by
  rw [(mc_xy _).1, (mc_xy _).2, hR]; rfl
