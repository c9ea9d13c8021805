/-! OWN, pure: sums over cells of maps that agree -/
theorem aM_cg {F F' : Nat → Nat} (h : agr F F') (o : Nat) : ∀ k, k ≤ 256 → aM F o k = aM F' o k
  | 0 => fun _ => rfl
  | k + 1 => fun hk => by simp only [aM]; rw [aM_cg h o k (by omega), h k (by omega)]
theorem eB_cg {F F' : Nat → Nat} (h : agr F F') (o q : Nat) : ∀ k, k ≤ 256 → eB F o q k = eB F' o q k
  | 0 => fun _ => rfl
  | k + 1 => fun hk => by
    have e0 := h k (by omega)
    simp only [eB]; rw [eB_cg h o q k (by omega)]
    have e1 : (if k % 16 < 15 ∧ (F k = o ∧ F (k + 1) = q ∨ F k = q ∧ F (k + 1) = o) then 1 else 0 : Nat) = if k % 16 < 15 ∧ (F' k = o ∧ F' (k + 1) = q ∨ F' k = q ∧ F' (k + 1) = o) then 1 else 0 := by
      by_cases e : k % 16 < 15
      · rw [e0, h (k + 1) (by omega)]
      · rw [if_neg (fun z => e z.1), if_neg (fun z => e z.1)]
    have e2 : (if k < 240 ∧ (F k = o ∧ F (k + 16) = q ∨ F k = q ∧ F (k + 16) = o) then 1 else 0 : Nat) = if k < 240 ∧ (F' k = o ∧ F' (k + 16) = q ∨ F' k = q ∧ F' (k + 16) = o) then 1 else 0 := by
      by_cases e : k < 240
      · rw [e0, h (k + 16) (by omega)]
      · rw [if_neg (fun z => e z.1), if_neg (fun z => e z.1)]
    rw [e1, e2]
theorem btw_cg {F F' : Nat → Nat} (h : agr F F') (o q : Nat) : btw F o q = btw F' o q := by unfold btw; rw [eB_cg h o q 256 (Nat.le_refl _)]
theorem fM_cg {F F' : Nat → Nat} (h : agr F F') (o : Nat) : ∀ k, fM F o k = fM F' o k
  | 0 => rfl
  | k + 1 => by simp only [fM]; rw [fM_cg h o k, btw_cg h]
theorem nbM_cg {F F' : Nat → Nat} (h : agr F F') (o : Nat) : ∀ k, nbM F o k = nbM F' o k
  | 0 => rfl
  | k + 1 => by simp only [nbM]; rw [nbM_cg h o k, btw_cg h]
theorem sBelow_cg {F F' he he' : Nat → Nat} (h : agr F F') (h2 : agr he he') (o lv : Nat) : ∀ k, k ≤ 256 → sBelow F he o lv k = sBelow F' he' o lv k
  | 0 => fun _ => rfl
  | k + 1 => fun hk => by simp only [sBelow]; rw [sBelow_cg h h2 o lv k (by omega), h k (by omega), h2 k (by omega)]
theorem drLost_cg {F F' he he' : Nat → Nat} (h : agr F F') (h2 : agr he he') (lv : Nat) : ∀ k, k ≤ 256 → drLost F he lv k = drLost F' he' lv k
  | 0 => fun _ => rfl
  | k + 1 => fun hk => by simp only [drLost]; rw [drLost_cg h h2 lv k (by omega), h k (by omega), h2 k (by omega)]
theorem sSumH_cg {he he' : Nat → Nat} (h : agr he he') : ∀ k, k ≤ 256 → sSumH he k = sSumH he' k
  | 0 => fun _ => rfl
  | k + 1 => fun hk => by simp only [sSumH]; rw [sSumH_cg h k (by omega), h k (by omega)]
theorem fLg_cg {F F' : Nat → Nat} (h : agr F F') (o : Nat) : ∀ k, k ≤ cnt F → fLg (svO F) (svZ F) o k = fLg (svO F') (svZ F') o k
  | 0 => fun _ => rfl
  | k + 1 => fun hk => by simp only [fLg]; rw [fLg_cg h o k (by omega), svO_cg h (show k < cnt F by omega), svZ_cg h (show k < cnt F by omega)]
theorem uni_cg {F F' : Nat → Nat} (h : agr F F') {x y z : Nat} (hq : sqN x y z) : uni F (y * 16 + x) z ↔ uni F' (y * 16 + x) z := by
  have h1 := sq_le hq
  rw [uni_sq hq, uni_sq hq]
  have e := h (y * 16 + x) (by omega)
  exact ⟨fun k j hj hi => by rw [← h j hj, ← e]; exact k j hj hi, fun k j hj hi => by rw [h j hj, e]; exact k j hj hi⟩
theorem gvOw_cg {F F' : Nat → Nat} (h : agr F F') (x y z o : Nat) : agr (gvOw F x y z o) (gvOw F' x y z o) := by
  intro k hk
  unfold gvOw
  by_cases e : inSq x y z k
  · rw [if_pos e, if_pos e]
  · rw [if_neg e, if_neg e]; exact h k hk
theorem drOw_cg {F F' he he' : Nat → Nat} (h : agr F F') (h2 : agr he he') (lv : Nat) : agr (drOw F he lv) (drOw F' he' lv) := by
  intro k hk
  unfold drOw
  rw [h k hk, h2 k hk]
