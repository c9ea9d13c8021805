/-! OWN, pure: a purchase in the class's maps and in the reference's row -/
theorem buM_lo {ow nw : Nat → Nat} (h : agr ow nw) (pn : Nat) {x y z : Nat} (hq : sqN x y z) : agr (gvOw ow x y z pn) (buM nw pn (16 * y + x) z) := by
  have hx := hq.2.1
  intro k hk
  unfold buM
  rw [show (16 * y + x) % 16 = x by omega, show (16 * y + x) / 16 = y by omega]
  refine gvOw_cg (fun j hj => ?_) x y z pn k hk
  rw [gu_n _ _ (by omega), gu_n _ _ (by omega), gu_n _ _ (by omega)]; exact h j hj
theorem buM_hi {nw : Nat → Nat} {pn x y z k : Nat} (hq : sqN x y z) (hp : pn < 8) (hw : nw (16 * y + x) < 8) (hk : 256 ≤ k) (h : k < 512 ∨ 520 ≤ k) (h2 : k ≠ 522) : buM nw pn (16 * y + x) z k = nw k := by
  have hx := hq.2.1
  unfold buM
  rw [show (16 * y + x) % 16 = x by omega, show (16 * y + x) / 16 = y by omega, gvOw_hi hq hk, gu_n _ _ (by omega), gu_n _ _ (by omega), gu_n _ _ (by omega)]
theorem buM_522 {nw : Nat → Nat} {pn x y z : Nat} (hq : sqN x y z) : buM nw pn (16 * y + x) z 522 = nw 522 + 1 := by
  have hx := hq.2.1
  unfold buM
  rw [show (16 * y + x) % 16 = x by omega, show (16 * y + x) / 16 = y by omega, gvOw_hi hq (by omega), gu_s]
theorem buM_co {nw co : Nat → Nat} {pn x y z i : Nat} (hq : sqN x y z) (hp : pn < 8) (hw : nw (16 * y + x) < 8) (hne : nw (16 * y + x) ≠ pn) (h : ∀ j, j < 8 → co j = nw (512 + j)) (hi : i < 8) : payC co pn (nw (16 * y + x)) (nw 520 * z * z) i = buM nw pn (16 * y + x) z (512 + i) := by
  have hx := hq.2.1
  unfold buM payC
  rw [show (16 * y + x) % 16 = x by omega, show (16 * y + x) / 16 = y by omega, gvOw_hi hq (by omega), gu_n _ _ (show 512 + i ≠ 522 by omega)]
  generalize nw (16 * y + x) = w at hw hne ⊢
  have hA := h pn hp; have hB := h w hw; have hC := h i hi
  by_cases e : i = w
  · subst e
    rw [gu_s, gu_s, gu_n _ _ hne, hB]
  · rw [gu_n _ _ e, gu_n _ _ (show 512 + i ≠ 512 + w by omega)]
    by_cases e2 : i = pn
    · subst e2; rw [gu_s, gu_s, hA]
    · rw [gu_n _ _ e2, gu_n _ _ (show 512 + i ≠ 512 + pn by omega), hC]
