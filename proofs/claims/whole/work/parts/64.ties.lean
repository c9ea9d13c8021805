/-! OWN, pure: squares of the class's maps and of the reference's row -/
theorem sSq_cg {F F' : Nat → Nat} {cz z : Nat} (h : ∀ k, k < z * z → F (cz + 16 * (k / z) + k % z) = F' (cz + 16 * (k / z) + k % z)) : ∀ n, n ≤ z * z → sSq F cz z n = sSq F' cz z n
  | 0 => fun _ => rfl
  | n + 1 => fun hn => by simp only [sSq]; rw [sSq_cg h n (by omega), h n (by omega)]
theorem sq_cell {x y z k : Nat} (hq : sqN x y z) (hk : k < z * z) : y * 16 + x + 16 * (k / z) + k % z < 256 := by
  have h1 := sq_le hq
  have := cellQ h1.2.2 hk
  omega
theorem give_tie {ow nw : Nat → Nat} (h : agr ow nw) {x y z o : Nat} (hq : sqN x y z) : sSq (fun a => if ow a = o then 0 else 1) (y * 16 + x) z (z * z) = sSq (fun a => if nw a = o then 0 else 1) (16 * y + x) z (z * z) := by
  rw [show 16 * y + x = y * 16 + x by omega]
  refine sSq_cg (fun k hk => ?_) _ (Nat.le_refl _)
  show (if ow _ = o then 0 else 1 : Nat) = if nw _ = o then 0 else 1
  rw [h _ (sq_cell hq hk)]
theorem lift_tie {he nw : Nat → Nat} (h : ∀ k, k < 256 → he k = nw (256 + k)) {x y z : Nat} {d : Int} (hq : sqN x y z) : sSq (fun a => lfV d (he a)) (y * 16 + x) z (z * z) = sSq (fun a => lfV d (nw (256 + a))) (16 * y + x) z (z * z) := by
  rw [show 16 * y + x = y * 16 + x by omega]
  refine sSq_cg (fun k hk => ?_) _ (Nat.le_refl _)
  show lfV d (he _) = lfV d (nw (256 + _))
  rw [h _ (sq_cell hq hk)]
theorem gvOw_xy (nw : Nat → Nat) {x y z o : Nat} (hq : sqN x y z) : gvOw nw ((16 * y + x) % 16) ((16 * y + x) / 16) z o = gvOw nw x y z o := by
  have hx := hq.2.1
  rw [show (16 * y + x) % 16 = x by omega, show (16 * y + x) / 16 = y by omega]
theorem gvOw_hi {nw : Nat → Nat} {x y z o k : Nat} (hq : sqN x y z) (hk : 256 ≤ k) : gvOw nw x y z o k = nw k := by
  have h1 := sq_le hq
  unfold gvOw; rw [if_neg]
  rintro ⟨a, b, d, e⟩; omega
theorem rsM_he {he nw : Nat → Nat} (h : ∀ k, k < 256 → he k = nw (256 + k)) {x y z : Nat} {d : Int} (hq : sqN x y z) : ∀ k, k < 256 → lfHe he x y z d k = rsM nw (16 * y + x) z d (256 + k) := by
  intro k hk
  have hx := hq.2.1
  unfold lfHe rsM
  rw [show (16 * y + x) % 16 = x by omega, show (16 * y + x) / 16 = y by omega, show 256 + k - 256 = k by omega]
  by_cases e : inSq x y z k
  · rw [if_pos e, if_pos ⟨by omega, e⟩, h k hk]
  · rw [if_neg e, if_neg (fun q => e q.2), h k hk]
theorem rsM_lo {nw : Nat → Nat} {cz z : Nat} {d : Int} {k : Nat} (hk : k < 256) : rsM nw cz z d k = nw k := by unfold rsM; rw [if_neg (by omega)]
theorem rsM_hi {nw : Nat → Nat} {x y z : Nat} {d : Int} {k : Nat} (hq : sqN x y z) (hk : 512 ≤ k) : rsM nw (16 * y + x) z d k = nw k := by
  have h1 := sq_le hq
  have hx := hq.2.1
  unfold rsM
  rw [show (16 * y + x) % 16 = x by omega, show (16 * y + x) / 16 = y by omega, if_neg]
  rintro ⟨_, a, b, d, e⟩; omega
theorem flM_lo {ow he nw : Nat → Nat} (h : agr ow nw) (h2 : ∀ k, k < 256 → he k = nw (256 + k)) (lv : Nat) : agr (drOw ow he lv) (flM nw lv) := by
  intro k hk
  unfold flM; rw [gu_n _ _ (by omega)]
  show _ = if k < 256 then drOw nw (hM nw) lv k else nw k
  rw [if_pos hk]
  exact drOw_cg h (fun j hj => h2 j hj) lv k hk
theorem flM_hi {nw : Nat → Nat} {lv k : Nat} (hk : 256 ≤ k) (h : k ≠ 523) : flM nw lv k = nw k := by
  unfold flM; rw [gu_n _ _ h]
  show (if k < 256 then _ else _) = _
  rw [if_neg (by omega)]
theorem flM_523 (nw : Nat → Nat) (lv : Nat) : flM nw lv 523 = nw 523 + 1 := by unfold flM; rw [gu_s]
