/-! OWN, pure: what a loss leaves of the plots of people -/
/-- a place where a plot begins -/
abbrev pst (ow : Nat → Nat) (s : Nat) : Prop := gP ow (rk ow s) = s
theorem pst_x {ow : Nat → Nat} {s : Nat} (h : pst ow s) : gP ow (rk ow s) = s := h
theorem rk_gP {ow : Nat → Nat} {j : Nat} (hj : j < cnt ow) : rk ow (gP ow j) = j := rk_eq ow (Nat.le_refl _) (gP_s ow j) (by have := (cnt_le ow).2; omega)
theorem pst_gP {ow : Nat → Nat} {j : Nat} (hj : j < cnt ow) : pst ow (gP ow j) := by show gP ow (rk ow (gP ow j)) = gP ow j; rw [rk_gP hj]
theorem pst_iff {ow : Nat → Nat} {s : Nat} (hs : s < 256) : pst ow s ↔ s / (Mz ow s * Mz ow s) * (Mz ow s * Mz ow s) = s := by
  show gP ow (rk ow s) = s ↔ _
  rw [(Mz_spec hs).2.2.1]
theorem Mz_gP {ow : Nat → Nat} {j : Nat} (hj : j < cnt ow) : Mz ow (gP ow j) = svZ ow j := by unfold Mz svZ; rw [rk_gP hj]
/-- the cells of a plot given to the common, by place -/
theorem fP_lose {ow : Nat → Nat} {g z : Nat} (hg : g < 256) (hq : sqN (mx g) (my g) z) : ∀ s, s < 256 → fP (gvOw ow (mx g) (my g) z 0) s = if g ≤ s ∧ s < g + z * z then 0 else fP ow s := by
  intro s hs
  have h := sq_place hg hq (mc_lt s)
  rw [mp_mc_all s hs] at h
  unfold fP gvOw
  by_cases e : g ≤ s ∧ s < g + z * z
  · rw [if_pos e, if_pos (h.mpr e)]
  · rw [if_neg e, if_neg (fun k => e (h.mp k))]
theorem blk_sub {w z g t s : Nat} (hw : isz w) (hz : isz z) (hwz : w ≤ z) (hg : g % (z * z) = 0) (h1 : g ≤ t) (h2 : t < g + z * z) (he : t / (w * w) = s / (w * w)) : g ≤ s ∧ s < g + z * z := by
  obtain rfl | rfl | rfl | rfl | rfl := hz <;> obtain rfl | rfl | rfl | rfl | rfl := hw <;> omega
theorem blk_sup {w z g t s : Nat} (hw : isz w) (hz : isz z) (hwz : z < w) (hg : g % (z * z) = 0) (h1 : g ≤ t) (h2 : t < g + z * z) (he : t / (w * w) = s / (w * w)) : g / (w * w) = s / (w * w) := by
  obtain rfl | rfl | rfl | rfl | rfl := hz <;> obtain rfl | rfl | rfl | rfl | rfl := hw <;> omega
theorem Mz_lose {ow ow' : Nat → Nat} {g z s : Nat} (hg : g < 256) (hz : z = Mz ow g) (hp : pst ow g) (hf : ∀ s, s < 256 → fP ow' s = if g ≤ s ∧ s < g + z * z then 0 else fP ow s) (hs : s < 256) (h0 : fP ow' s ≠ 0) : fP ow s = fP ow' s ∧ ¬ (g ≤ s ∧ s < g + z * z) ∧ Mz ow s = Mz ow' s := by
  have e1 := hf s hs
  have hn : ¬ (g ≤ s ∧ s < g + z * z) := fun h => h0 (by rw [e1, if_pos h])
  rw [if_neg hn] at e1
  have hgm := Mz_spec (ow := ow) hg
  rw [← hz] at hgm
  have hga : g % (z * z) = 0 := by
    have := (pst_iff hg).mp hp
    rw [← hz] at this
    rw [← this]; exact Nat.mul_mod_left _ _
  refine ⟨e1.symm, hn, Mz_eq hs fun w hw => ⟨fun hu t ht he => ?_, fun hu t ht he => ?_⟩⟩
  · have hnt : ¬ (g ≤ t ∧ t < g + z * z) := by
      rintro ⟨a, b⟩
      rcases Nat.lt_or_ge z w with h | h
      · have h1 := blk_sup hw hgm.1 h hga a b he
        have h2 := hgm.2.2.2 w hw (uB_at hu (iszB hw).1 hg h1)
        omega
      · exact hn (blk_sub hw hgm.1 h hga a b he)
    rw [hf t ht, if_neg hnt, e1]; exact hu t ht he
  · have h3 := hu t ht he
    have h4 := hf t ht
    by_cases hnt : g ≤ t ∧ t < g + z * z
    · rw [if_pos hnt] at h4; exact absurd (h3.symm.trans h4) h0
    · rw [if_neg hnt] at h4; rw [← h4, ← e1]; exact h3
theorem pst_lose {ow ow' : Nat → Nat} {g z s : Nat} (hg : g < 256) (hz : z = Mz ow g) (hp : pst ow g) (hf : ∀ s, s < 256 → fP ow' s = if g ≤ s ∧ s < g + z * z then 0 else fP ow s) (hs : s < 256) {q : Nat} (hq : q ≠ 0) : (fP ow' s = q ∧ pst ow' s) ↔ (fP ow s = q ∧ pst ow s ∧ ¬ (g ≤ s ∧ s < g + z * z)) := by
  constructor
  · rintro ⟨a, b⟩
    have h := Mz_lose hg hz hp hf hs (by rw [a]; exact hq)
    refine ⟨h.1.trans a, ?_, h.2.1⟩
    rw [pst_iff hs] at b ⊢
    rw [h.2.2]; exact b
  · rintro ⟨a, b, d⟩
    have e : fP ow' s = fP ow s := by rw [hf s hs, if_neg d]
    have h := Mz_lose hg hz hp hf hs (by rw [e, a]; exact hq)
    refine ⟨e.trans a, ?_⟩
    rw [pst_iff hs] at b ⊢
    rw [← h.2.2]; exact b
theorem pst_one {ow : Nat → Nat} {g s : Nat} (hg : g < 256) (hp : pst ow g) (hs : s < 256) (hps : pst ow s) (h1 : g ≤ s) (h2 : s < g + Mz ow g * Mz ow g) : s = g := by
  have hk := rk_spec ow (q := g) (by omega)
  have hle : gP ow (rk ow g) = g := hp
  have e : Mz ow g = psz ow g := by unfold Mz; rw [hle]
  rw [e] at h2
  have h3 : s < gP ow (rk ow g + 1) := by rw [gP, hle]; exact h2
  have h4 := rk_lt ow hg
  have h5 := (cnt_le ow).2
  have hr : rk ow s = rk ow g := rk_eq ow (by rw [hle]; exact h1) h3 (by omega)
  have h6 : gP ow (rk ow s) = s := hps
  rw [hr, hle] at h6; exact h6.symm
/-- the best place: the smallest plot of an owner, the last of several -/
def bS (ow : Nat → Nat) (q : Nat) : Nat → Int × Nat
  | 0 => (-1, 16)
  | s + 1 => if fP ow s = q ∧ gP ow (rk ow s) = s ∧ Mz ow s ≤ (bS ow q s).2 then ((s : Int), Mz ow s) else bS ow q s
/-- how many plots an owner has, by places -/
def cS (ow : Nat → Nat) (q : Nat) : Nat → Nat
  | 0 => 0
  | s + 1 => cS ow q s + (if fP ow s = q ∧ gP ow (rk ow s) = s then 1 else 0)
theorem bS_gap {ow : Nat → Nat} {q a : Nat} : ∀ s, a ≤ s → (∀ t, a ≤ t → t < s → ¬ (fP ow t = q ∧ pst ow t)) → bS ow q s = bS ow q a
  | 0 => fun h _ => by rw [show a = 0 by omega]
  | s + 1 => fun h hn => by
    by_cases e : a = s + 1
    · rw [e]
    · simp only [bS]; rw [if_neg (fun k => hn s (by omega) (by omega) ⟨k.1, k.2.1⟩)]
      exact bS_gap s (by omega) (fun t h1 h2 => hn t h1 (by omega))
theorem cS_gap {ow : Nat → Nat} {q a : Nat} : ∀ s, a ≤ s → (∀ t, a ≤ t → t < s → ¬ (fP ow t = q ∧ pst ow t)) → cS ow q s = cS ow q a
  | 0 => fun h _ => by rw [show a = 0 by omega]
  | s + 1 => fun h hn => by
    by_cases e : a = s + 1
    · rw [e]
    · simp only [cS]; rw [if_neg (hn s (by omega) (by omega)), Nat.add_zero]
      exact cS_gap s (by omega) (fun t h1 h2 => hn t h1 (by omega))
/-- the marks of the plots of the map ow0, as they stand for the map F -/
def mkI (ow0 F so : Nat → Nat) : Prop := ∀ q, q ≠ 0 → (∀ j, j < cnt ow0 → (so j = q ↔ (fP F (gP ow0 j) = q ∧ pst F (gP ow0 j)))) ∧ (∀ j, j < cnt ow0 → so j = q → svZ ow0 j = Mz F (gP ow0 j)) ∧ ∀ s, s < 256 → fP F s = q → pst F s → ∃ j, j < cnt ow0 ∧ gP ow0 j = s
theorem mkI_0 (ow : Nat → Nat) : mkI ow ow (svO ow) := fun q hq => ⟨fun j hj => ⟨fun h => ⟨h, pst_gP hj⟩, fun h => h.1⟩, fun j hj _ => (Mz_gP hj).symm, fun s hs _ hp => ⟨rk ow s, rk_lt ow hs, hp⟩⟩
theorem mk_gap {ow0 F so : Nat → Nat} (h : mkI ow0 F so) {q : Nat} (hq : q ≠ 0) {k t : Nat} (hk : k < cnt ow0) (h1 : gP ow0 k + 1 ≤ t) (h2 : t < gP ow0 (k + 1)) : ¬ (fP F t = q ∧ pst F t) := by
  rintro ⟨a, b⟩
  have h256 := gP_top ow0 ((lt_cnt ow0).mp hk)
  obtain ⟨j, hj, e⟩ := (h q hq).2.2 t (by omega) a b
  rcases Nat.lt_or_ge k j with g | g
  · have := gP_le ow0 (show k + 1 ≤ j from g); omega
  · have := gP_le ow0 g; omega
theorem mk_cnt {ow0 F so : Nat → Nat} (h : mkI ow0 F so) {q : Nat} (hq : q ≠ 0) : ∀ k, k ≤ cnt ow0 → sCnt so q k = cS F q (gP ow0 k)
  | 0 => fun _ => rfl
  | k + 1 => fun hk => by
    have ih := mk_cnt h hq k (by omega)
    have e := cS_gap (ow := F) (q := q) (a := gP ow0 k + 1) (gP ow0 (k + 1)) (gP_s ow0 k) (fun t h1 h2 => mk_gap h hq (by omega) h1 h2)
    rw [e]; simp only [sCnt, cS]; rw [ih]
    have h3 := (h q hq).1 k (by omega)
    by_cases e3 : so k = q
    · rw [if_pos e3, if_pos (h3.mp e3)]
    · rw [if_neg e3, if_neg (fun z => e3 (h3.mpr z))]
theorem mk_best {ow0 F so : Nat → Nat} (h : mkI ow0 F so) {q : Nat} (hq : q ≠ 0) : ∀ k, k ≤ cnt ow0 → (fSm so (svZ ow0) q k).2 = (bS F q (gP ow0 k)).2 ∧ ((fSm so (svZ ow0) q k).1 = -1 ∧ (bS F q (gP ow0 k)).1 = -1 ∨ 0 ≤ (fSm so (svZ ow0) q k).1 ∧ (fSm so (svZ ow0) q k).1 < (k : Int) ∧ (bS F q (gP ow0 k)).1 = ((gP ow0 (fSm so (svZ ow0) q k).1.toNat : Nat) : Int))
  | 0 => fun _ => ⟨rfl, Or.inl ⟨rfl, rfl⟩⟩
  | k + 1 => fun hk => by
    have ih := mk_best h hq k (by omega)
    have e := bS_gap (ow := F) (q := q) (a := gP ow0 k + 1) (gP ow0 (k + 1)) (gP_s ow0 k) (fun t h1 h2 => mk_gap h hq (by omega) h1 h2)
    rw [e]; simp only [fSm, bS]
    have h3 := (h q hq).1 k (by omega)
    by_cases e3 : so k = q ∧ svZ ow0 k ≤ (fSm so (svZ ow0) q k).2
    · have hz := (h q hq).2.1 k (by omega) e3.1
      have h4 := h3.mp e3.1
      rw [if_pos e3, if_pos ⟨h4.1, h4.2, by rw [← hz, ← ih.1]; exact e3.2⟩]
      exact ⟨hz, Or.inr ⟨Int.natCast_nonneg k, by omega, by rw [Int.toNat_natCast]⟩⟩
    · rw [if_neg e3, if_neg (fun z => e3 ⟨h3.mpr ⟨z.1, z.2.1⟩, by rw [(h q hq).2.1 k (by omega) (h3.mpr ⟨z.1, z.2.1⟩), ih.1]; exact z.2.2⟩)]
      refine ⟨ih.1, ?_⟩
      rcases ih.2 with a | ⟨a, b, d⟩
      · exact Or.inl a
      · exact Or.inr ⟨a, by omega, d⟩
