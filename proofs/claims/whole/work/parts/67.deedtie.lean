/-! OWN, pure: a deed in the class's land and in the reference's row -/
/-- a land against the reference's row -/
def pk (pr tx : Nat) (A : LA) (nw : Nat → Nat) : Prop := agr A.1 nw ∧ (∀ k, k < 256 → A.2.1 k = nw (256 + k)) ∧ (∀ i, i < 8 → A.2.2.1 i = nw (512 + i)) ∧ nw 520 = pr ∧ nw 521 = tx ∧ A.2.2.2.1 = nw 522 ∧ A.2.2.2.2.1 = nw 523 ∧ A.2.2.2.2.2 = nw 524
theorem pk_ok {pr tx : Nat} {A : LA} {nw : Nat → Nat} (h : pk pr tx A nw) (hA : AOK A) (ht : tx ≤ 9) : tOK nw ∧ ∀ k, k < 256 → nw (256 + k) < 10 := by
  obtain ⟨h1, h2, h3, h4, h5, h6, h7, h8⟩ := h
  obtain ⟨a1, a2, a3⟩ := hA
  refine ⟨⟨fun k hk => by rw [← h1 k hk]; exact a1 k, ?_, by omega⟩, fun k hk => by rw [← h2 k hk]; exact a2 k⟩
  have s := a3.1
  unfold sum8 at s
  rw [h3 0 (by omega), h3 1 (by omega), h3 2 (by omega), h3 3 (by omega), h3 4 (by omega), h3 5 (by omega), h3 6 (by omega), h3 7 (by omega)] at s
  exact s
theorem mc_16 (q : Nat) : mc q = 16 * my q + mx q := by unfold mc; omega
/-- the plot at a cell is the same one -/
theorem pk_plot {ow nw : Nat → Nat} (h : agr ow nw) (x y : Nat) : rkA ow x y = rkA nw x y ∧ gP ow (rkA ow x y) = gP nw (rkA nw x y) ∧ svZ ow (rkA ow x y) = psz nw (gP nw (rkA nw x y)) ∧ svY ow (rkA ow x y) = my (gP nw (rkA nw x y)) ∧ svX ow (rkA ow x y) = mx (gP nw (rkA nw x y)) ∧ gP nw (rkA nw x y) < 256 := by
  have e1 : rkA ow x y = rkA nw x y := rk_cg h (mp_lt _)
  have hl := rkA_lt ow x y
  have e2 : gP ow (rkA ow x y) = gP nw (rkA nw x y) := by rw [← e1]; exact gP_cg h _ (Nat.le_of_lt hl)
  have hg : gP nw (rkA nw x y) < 256 := by rw [← e2]; exact (lt_cnt ow).mp hl
  refine ⟨e1, e2, ?_, by unfold svY; rw [e2], by unfold svX; rw [e2], hg⟩
  unfold svZ; rw [e2]; exact psz_cg h hg
theorem pk_can {pr pn : Nat} {ow co nw : Nat → Nat} (h : agr ow nw) (h3 : ∀ i, i < 8 → co i = nw (512 + i)) (h4 : nw 520 = pr) (hp : pn < 8) (x y : Nat) :
    canS pr pn (svX ow (rkA ow x y)) (svY ow (rkA ow x y)) (svZ ow (rkA ow x y)) ow co ↔ (uK nw (mc (gP nw (rkA nw x y))) (psz nw (gP nw (rkA nw x y))) (psz nw (gP nw (rkA nw x y)) * psz nw (gP nw (rkA nw x y))) ∧ nw (mc (gP nw (rkA nw x y))) ≠ pn ∧ nw 520 * psz nw (gP nw (rkA nw x y)) * psz nw (gP nw (rkA nw x y)) ≤ nw (512 + pn)) := by
  obtain ⟨e1, e2, eZ, eY, eX, hg⟩ := pk_plot h x y
  rw [eZ, eY, eX]
  generalize gP nw (rkA nw x y) = q at hg ⊢
  have hq := psz_sq nw q
  have hu := uni_cg h hq
  unfold canS
  rw [hu, h3 pn hp, h4, show ow (my q * 16 + mx q) = nw (mc q) from h _ (mc_lt q)]
  exact Iff.rfl
theorem pk_buy {pr tx pn : Nat} {A : LA} {nw : Nat → Nat} (h : pk pr tx A nw) (hA : AOK A) (hp : pn < 8) {x y z : Nat} (hq : sqN x y z) (hne : nw (16 * y + x) ≠ pn) :
    pk pr tx (gvOw A.1 x y z pn, A.2.1, payC A.2.2.1 pn (A.1 (y * 16 + x)) (pr * z * z), A.2.2.2.1 + 1, A.2.2.2.2) (buM nw pn (16 * y + x) z) := by
  obtain ⟨h1, h2, h3, h4, h5, h6, h7, h8⟩ := h
  have hl := sq_le hq
  have hx := hq.2.1
  have hcell : 16 * y + x < 256 := by omega
  have e1 : A.1 (y * 16 + x) = nw (16 * y + x) := by rw [show y * 16 + x = 16 * y + x by omega]; exact h1 _ hcell
  have hw : nw (16 * y + x) < 8 := by rw [← h1 _ hcell]; exact hA.1 _
  have hi : ∀ k, 256 ≤ k → (k < 512 ∨ 520 ≤ k) → k ≠ 522 → buM nw pn (16 * y + x) z k = nw k := fun k a b d => buM_hi hq hp hw a b d
  refine ⟨buM_lo h1 pn hq, fun k hk => ?_, fun i hi9 => ?_, ?_, ?_, ?_, ?_, ?_⟩
  · rw [hi _ (by omega) (by omega) (by omega)]; exact h2 k hk
  · show payC A.2.2.1 pn (A.1 (y * 16 + x)) (pr * z * z) i = _
    rw [e1, ← h4]; exact buM_co hq hp hw hne h3 hi9
  · rw [hi _ (by omega) (by omega) (by omega)]; exact h4
  · rw [hi _ (by omega) (by omega) (by omega)]; exact h5
  · rw [buM_522 hq]; show A.2.2.2.1 + 1 = _; rw [h6]
  · rw [hi _ (by omega) (by omega) (by omega)]; exact h7
  · rw [hi _ (by omega) (by omega) (by omega)]; exact h8
theorem pk_give {pr tx o : Nat} {A : LA} {nw : Nat → Nat} (h : pk pr tx A nw) {x y z : Nat} (hq : sqN x y z) : pk pr tx (gvOw A.1 x y z o, A.2) (gvOw nw ((16 * y + x) % 16) ((16 * y + x) / 16) z o) := by
  rw [gvOw_xy nw hq]
  obtain ⟨h1, h2, h3, h4, h5, h6, h7, h8⟩ := h
  refine ⟨gvOw_cg h1 x y z o, fun k hk => ?_, fun i hi => ?_, ?_, ?_, ?_, ?_, ?_⟩
  · rw [gvOw_hi hq (by omega)]; exact h2 k hk
  · rw [gvOw_hi hq (by omega)]; exact h3 i hi
  · rw [gvOw_hi hq (by omega)]; exact h4
  · rw [gvOw_hi hq (by omega)]; exact h5
  · rw [gvOw_hi hq (by omega)]; exact h6
  · rw [gvOw_hi hq (by omega)]; exact h7
  · rw [gvOw_hi hq (by omega)]; exact h8
theorem pk_lift {pr tx : Nat} {A : LA} {nw : Nat → Nat} {d : Int} (h : pk pr tx A nw) {x y z : Nat} (hq : sqN x y z) : pk pr tx (A.1, lfHe A.2.1 x y z d, A.2.2) (rsM nw (16 * y + x) z d) := by
  obtain ⟨h1, h2, h3, h4, h5, h6, h7, h8⟩ := h
  refine ⟨fun k hk => ?_, fun k hk => rsM_he h2 hq k hk, fun i hi => ?_, ?_, ?_, ?_, ?_, ?_⟩
  · rw [rsM_lo hk]; exact h1 k hk
  · rw [rsM_hi hq (by omega)]; exact h3 i hi
  · rw [rsM_hi hq (by omega)]; exact h4
  · rw [rsM_hi hq (by omega)]; exact h5
  · rw [rsM_hi hq (by omega)]; exact h6
  · rw [rsM_hi hq (by omega)]; exact h7
  · rw [rsM_hi hq (by omega)]; exact h8
theorem pk_flood {pr tx lv : Nat} {A : LA} {nw : Nat → Nat} (h : pk pr tx A nw) : pk pr tx (drOw A.1 A.2.1 lv, A.2.1, A.2.2.1, A.2.2.2.1, A.2.2.2.2.1 + 1, A.2.2.2.2.2) (flM nw lv) := by
  obtain ⟨h1, h2, h3, h4, h5, h6, h7, h8⟩ := h
  refine ⟨flM_lo h1 h2 lv, fun k hk => ?_, fun i hi => ?_, ?_, ?_, ?_, ?_, ?_⟩
  · rw [flM_hi (by omega) (by omega)]; exact h2 k hk
  · rw [flM_hi (by omega) (by omega)]; exact h3 i hi
  · rw [flM_hi (by omega) (by omega)]; exact h4
  · rw [flM_hi (by omega) (by omega)]; exact h5
  · rw [flM_hi (by omega) (by omega)]; exact h6
  · rw [flM_523]; show A.2.2.2.2.1 + 1 = _; rw [h7]
  · rw [flM_hi (by omega) (by omega)]; exact h8
theorem pk_tax {pr tx : Nat} {A : LA} {nw : Nat → Nat} (h : pk pr tx A nw) : pk pr tx ((txA tx A).1, A.2.1, (txA tx A).2.2.1, A.2.2.2.1, A.2.2.2.2.1, (txA tx A).2.2.2.1) (txM (nw, 0) 7).1 ∧ (txA tx A).2.2.2.2 = (txM (nw, 0) 7).2 := by
  obtain ⟨h1, h2, h3, h4, h5, h6, h7, h8⟩ := h
  have ht := tx_tie h1 h3 h5 h8 7 (Nat.le_refl _)
  obtain ⟨t1, _, t3, t4, t5, t6, t7⟩ := ht
  refine ⟨⟨t1, fun k hk => ?_, t3, ?_, t4, ?_, ?_, t5⟩, t6⟩
  · rw [t7 _ (by omega) (by omega) (by omega)]; exact h2 k hk
  · rw [t7 _ (by omega) (by omega) (by omega)]; exact h4
  · rw [t7 _ (by omega) (by omega) (by omega)]; exact h6
  · rw [t7 _ (by omega) (by omega) (by omega)]; exact h7
theorem deed_tie {pr tx kd x y z nu : Nat} {sg : Int} {A : LA} {nw : Nat → Nat} {S : RdT} (h : pk pr tx A nw) (hA : AOK A) (hb : kd = 98 → nu ≤ 6) (hg : rgs S kd x y z sg nu) :
    (doOk nw kd x y z nu ↔ deedOk pr S A) ∧ (deedOk pr S A → pk pr tx (deedA pr tx S A) (doM nw kd x y z sg nu)) := by
  obtain ⟨g1, g2, g3, g4, g5, g6⟩ := hg
  by_cases e1 : kd = 103
  · have eS : S.2.1 = 103 := g1.trans e1
    obtain ⟨x1, x2, x3⟩ := g2 (Or.inl e1)
    rw [doOk_g (Or.inl e1), deedOk_g eS, x1, x2, x3]
    refine ⟨Iff.rfl, fun hq => ?_⟩
    unfold deedA
    rw [if_pos eS, x1, x2, x3, g4 e1, doM_g e1, if_pos hq]
    exact pk_give h hq
  · by_cases e2 : kd = 114
    · have eS : S.2.1 = 114 := g1.trans e2
      obtain ⟨x1, x2, x3⟩ := g2 (Or.inr e2)
      rw [doOk_g (Or.inr e2), deedOk_r eS, x1, x2, x3]
      refine ⟨Iff.rfl, fun hq => ?_⟩
      unfold deedA
      rw [if_neg (by omega), if_pos eS, x1, x2, x3, g6 e2, doM_r e2, if_pos hq]
      exact pk_lift h hq
    · by_cases e3 : kd = 98
      · have eS : S.2.1 = 98 := g1.trans e3
        obtain ⟨x1, x2, x3⟩ := g3 e3
        have hp : nu + 1 < 8 := by have := hb e3; omega
        have hc := pk_can (pr := pr) (pn := nu + 1) (co := A.2.2.1) h.1 h.2.2.1 h.2.2.2.1 hp x y
        rw [doOk_b e3, deedOk_b eS, x1, x2, x3, hc]
        refine ⟨Iff.rfl, fun hq => ?_⟩
        unfold deedA
        rw [if_neg (by omega), if_neg (by omega), if_pos eS, x1, x2, x3, doM_b e3, if_pos hq]
        unfold slA
        obtain ⟨p1, p2, eZ, eY, eX, hg⟩ := pk_plot h.1 x y
        rw [eZ, eY, eX, mc_16]
        exact pk_buy h hA hp (psz_sq nw _) (by rw [← mc_16]; exact hq.2.1)
      · have d0 : doOk nw kd x y z nu := doOk_o e1 e2 e3
        have d1 : deedOk pr S A := deedOk_o (by omega) (by omega) (by omega)
        refine ⟨⟨fun _ => d1, fun _ => d0⟩, fun _ => ?_⟩
        unfold deedA
        by_cases e4 : kd = 102
        · rw [if_neg (by omega), if_neg (by omega), if_neg (by omega), if_pos (by omega), doM_f e4, g5 (Or.inl e4)]
          exact pk_flood h
        · rw [if_neg (by omega), if_neg (by omega), if_neg (by omega), if_neg (by omega), doM_t e1 e2 e3 e4]
          exact (pk_tax h).1
