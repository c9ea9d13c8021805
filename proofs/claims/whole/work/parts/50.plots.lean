/-! OWN, pure: the plots by the places of the cells; a plot given to the common changes no other plot of a person -/
/-- owners by place -/
def fP (ow : Nat → Nat) (s : Nat) : Nat := ow (mc s)
/-- whether the block of that size that has a place is of one owner -/
def uB (f : Nat → Nat) (s z : Nat) : Prop := ∀ t, t < 256 → t / (z * z) = s / (z * z) → f t = f s
theorem uni_sq {ow : Nat → Nat} {x y z : Nat} (hq : sqN x y z) : uni ow (y * 16 + x) z ↔ ∀ k, k < 256 → inSq x y z k → ow k = ow (y * 16 + x) := by
  have h1 := sq_le hq
  rw [uni_iff h1.2.2]
  constructor
  · intro h k hk hi
    obtain ⟨a, b, d, e⟩ := hi
    have h2 := h (k / 16 - y) (k % 16 - x) (by omega) (by omega)
    rw [← h2]; congr 1; omega
  · intro h i j hi hj
    exact h _ (by omega) ⟨by omega, by omega, by omega, by omega⟩
theorem okc_uB {ow : Nat → Nat} {q z : Nat} (hq : q < 256) (hz : isz z) : okc ow q z ↔ (q % (z * z) = 0 ∧ uB (fP ow) q z) := by
  have hb := iszB hz
  have hd := Nat.div_add_mod q (z * z)
  constructor
  · rintro ⟨h1, h2⟩
    have h0 := ((sq_al hq).mp h1).2
    refine ⟨h0, fun t ht he => ?_⟩
    have h3 := (uni_sq h1).mp h2 (mc t) (mc_lt t) ((sq_place hq h1 (mc_lt t)).mpr ?_)
    · exact h3
    · rw [mp_mc_all t ht]
      have ht2 := Nat.div_add_mod t (z * z); have ht3 := Nat.mod_lt t hb.2.2.1
      rw [he] at ht2; omega
  · rintro ⟨h0, h2⟩
    have h1 : sqN (mx q) (my q) z := (sq_al hq).mpr ⟨hz, h0⟩
    refine ⟨h1, (uni_sq h1).mpr fun k hk hi => ?_⟩
    have h3 := (sq_place hq h1 hk).mp hi
    have h4 := h2 (mp k) (mp_lt k) (by
      have e1 : q = q / (z * z) * (z * z) := by rw [Nat.mul_comm]; omega
      have a1 : q / (z * z) ≤ mp k / (z * z) := Nat.div_le_div_right h3.1
      have a2 : mp k / (z * z) < q / (z * z) + 1 := Nat.div_lt_of_lt_mul (by rw [Nat.mul_comm, Nat.succ_mul]; omega)
      omega)
    show ow k = ow (mc q)
    have e5 : fP ow (mp k) = ow k := by unfold fP; rw [mc_mp_all k hk]
    rw [← e5]; exact h4
theorem uB_down {f : Nat → Nat} {s z w : Nat} (h : uB f s z) (hz : isz z) (hw : isz w) (hwz : w ≤ z) : uB f s w := by
  intro t ht he
  refine h t ht ?_
  obtain rfl | rfl | rfl | rfl | rfl := hz <;> obtain rfl | rfl | rfl | rfl | rfl := hw <;> omega
theorem uB_at {f : Nat → Nat} {s t z : Nat} (h : uB f s z) (hz : 0 < z) (ht : t < 256) (he : t / (z * z) = s / (z * z)) : uB f t z := by
  intro r hr hr2
  rw [h r hr (by omega), h t ht he]
theorem psz_ge {ow : Nat → Nat} {q w : Nat} (hw : isz w) (h : okc ow q w) : w ≤ psz ow q := by
  have d : ∀ v, isz v → v ≤ w → okc ow q v := fun v hv hl => okc_down h hv hl
  unfold psz
  obtain rfl | rfl | rfl | rfl | rfl := hw
  · (repeat' split) <;> omega
  · rw [if_pos h]; (repeat' split) <;> omega
  · rw [if_pos (d 2 (by decide) (by decide)), if_pos h]; (repeat' split) <;> omega
  · rw [if_pos (d 2 (by decide) (by decide)), if_pos (d 4 (by decide) (by decide)), if_pos h]; (repeat' split) <;> omega
  · rw [if_pos (d 2 (by decide) (by decide)), if_pos (d 4 (by decide) (by decide)), if_pos (d 8 (by decide) (by decide)), if_pos h]; exact Nat.le_refl _
theorem nest1 {z w q s : Nat} (hz : isz z) (hw : isz w) (hzw : z ≤ w) (hq : q % (z * z) = 0) (h1 : q ≤ s) (h2 : s < q + z * z) (h3 : q ≤ s / (w * w) * (w * w)) : s / (w * w) * (w * w) = q := by
  obtain rfl | rfl | rfl | rfl | rfl := hz <;> obtain rfl | rfl | rfl | rfl | rfl := hw <;> omega
theorem blk_in {w s : Nat} (hw : isz w) : s / (w * w) * (w * w) ≤ s ∧ s < s / (w * w) * (w * w) + w * w ∧ (s / (w * w) * (w * w)) % (w * w) = 0 ∧ (s / (w * w) * (w * w)) / (w * w) = s / (w * w) := by
  obtain rfl | rfl | rfl | rfl | rfl := hw <;> omega
theorem blk_eq {w q s : Nat} (hw : isz w) (hq : q % (w * w) = 0) (h1 : q ≤ s) (h2 : s < q + w * w) : s / (w * w) = q / (w * w) ∧ s / (w * w) * (w * w) = q := by
  obtain rfl | rfl | rfl | rfl | rfl := hw <;> omega
theorem nest2 {y w q b s : Nat} (hy : isz y) (hw : isz w) (hyw : w < y) (hq : q % (y * y) = 0) (hb : b % (w * w) = 0) (h1 : q ≤ b) (h2 : b < q + y * y) (h3 : s < b + w * w) : s < q + y * y := by
  obtain rfl | rfl | rfl | rfl | rfl := hy <;> obtain rfl | rfl | rfl | rfl | rfl := hw <;> omega
theorem nest3 {y w q b : Nat} (hy : isz y) (hw : isz w) (hyw : y ≤ w) (hq : q % (y * y) = 0) (hb : b % (w * w) = 0) (h1 : q ≤ b) (h2 : b < q + y * y) : b = q := by
  obtain rfl | rfl | rfl | rfl | rfl := hy <;> obtain rfl | rfl | rfl | rfl | rfl := hw <;> omega
/-- the plot that has a place is the largest block of one owner round it -/
theorem plot_max {ow : Nat → Nat} {s w : Nat} (hs : s < 256) (hw : isz w) (hu : uB (fP ow) s w) : w ≤ psz ow (gP ow (rk ow s)) := by
  obtain ⟨h1, h2⟩ := rk_spec ow (q := s) (by omega)
  rw [gP] at h2
  have hp256 : gP ow (rk ow s) < 256 := by omega
  have hzz := psz_isz ow (gP ow (rk ow s))
  have hok := (okc_uB hp256 hzz).mp (psz_ok ow (gP ow (rk ow s)))
  by_cases hle : w ≤ psz ow (gP ow (rk ow s))
  · exact hle
  · have hb := blk_in (s := s) hw
    have hb256 : s / (w * w) * (w * w) < 256 := by omega
    by_cases e : gP ow (rk ow s) ≤ s / (w * w) * (w * w)
    · have e2 := nest1 hzz hw (by omega) hok.1 h1 h2 e
      rw [← e2] at hp256 ⊢
      exact psz_ge hw ((okc_uB hb256 hw).mpr ⟨hb.2.2.1, uB_at hu (iszB hw).1 hb256 hb.2.2.2⟩)
    · exfalso
      obtain ⟨g1, g2⟩ := rk_spec ow (q := s / (w * w) * (w * w)) (by omega)
      have hjk : rk ow (s / (w * w) * (w * w)) < rk ow s := by
        rcases Nat.lt_or_ge (rk ow (s / (w * w) * (w * w))) (rk ow s) with h | h
        · exact h
        · have := gP_le ow h; omega
      have hgj := gP_le ow (show rk ow (s / (w * w) * (w * w)) + 1 ≤ rk ow s from hjk)
      rw [gP] at g2 hgj
      have hq256 : gP ow (rk ow (s / (w * w) * (w * w))) < 256 := by omega
      have hyy := psz_isz ow (gP ow (rk ow (s / (w * w) * (w * w))))
      have hoy := (okc_uB hq256 hyy).mp (psz_ok ow (gP ow (rk ow (s / (w * w) * (w * w)))))
      rcases Nat.lt_or_ge w (psz ow (gP ow (rk ow (s / (w * w) * (w * w))))) with hlt | hge
      · have := nest2 hyy hw hlt hoy.1 hb.2.2.1 g1 g2 hb.2.1; omega
      · have e3 := nest3 hyy hw hge hoy.1 hb.2.2.1 g1 g2
        have h5 := psz_ge (ow := ow) (q := s / (w * w) * (w * w)) hw ((okc_uB hb256 hw).mpr ⟨hb.2.2.1, uB_at hu (iszB hw).1 hb256 hb.2.2.2⟩)
        rw [← e3] at hge hgj
        have e6 : psz ow (s / (w * w) * (w * w)) = w := by omega
        rw [e6] at hgj; omega
/-- the size of the largest block of one owner round a place -/
def Mz (ow : Nat → Nat) (s : Nat) : Nat := psz ow (gP ow (rk ow s))
theorem Mz_spec {ow : Nat → Nat} {s : Nat} (hs : s < 256) : isz (Mz ow s) ∧ uB (fP ow) s (Mz ow s) ∧ gP ow (rk ow s) = s / (Mz ow s * Mz ow s) * (Mz ow s * Mz ow s) ∧ ∀ w, isz w → uB (fP ow) s w → w ≤ Mz ow s := by
  obtain ⟨h1, h2⟩ := rk_spec ow (q := s) (by omega)
  rw [gP] at h2
  have hp256 : gP ow (rk ow s) < 256 := by omega
  have hzz := psz_isz ow (gP ow (rk ow s))
  have hok := (okc_uB hp256 hzz).mp (psz_ok ow (gP ow (rk ow s)))
  have hb := blk_eq hzz hok.1 h1 h2
  exact ⟨hzz, uB_at hok.2 (iszB hzz).1 hs hb.1, hb.2.symm, fun w hw hu => plot_max hs hw hu⟩
/-- two maps that have the same blocks of one owner round a place have the same plot there -/
theorem Mz_eq {ow ow' : Nat → Nat} {s : Nat} (hs : s < 256) (h : ∀ w, isz w → (uB (fP ow) s w ↔ uB (fP ow') s w)) : Mz ow s = Mz ow' s := by
  have h1 := Mz_spec (ow := ow) hs; have h2 := Mz_spec (ow := ow') hs
  have a := h2.2.2.2 _ h1.1 ((h _ h1.1).mp h1.2.1)
  have b := h1.2.2.2 _ h2.1 ((h _ h2.1).mpr h2.2.1)
  omega
