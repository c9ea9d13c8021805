/-! OWN, pure: fences by cells and by sides -/
def sg (F : Nat → Nat) : Nat → Nat
  | 0 => 0
  | k + 1 => sg F k + F k
theorem sg_ext {F G : Nat → Nat} : ∀ n, (∀ k, k < n → F k = G k) → sg F n = sg G n
  | 0 => fun _ => rfl
  | n + 1 => fun h => by simp only [sg]; rw [sg_ext n (fun k hk => h k (by omega)), h n (by omega)]
theorem sg_add (F G : Nat → Nat) : ∀ n, sg (fun k => F k + G k) n = sg F n + sg G n
  | 0 => rfl
  | n + 1 => by simp only [sg]; rw [sg_add F G n]; omega
theorem sg_zero {F : Nat → Nat} : ∀ n, (∀ k, k < n → F k = 0) → sg F n = 0
  | 0 => fun _ => rfl
  | n + 1 => fun h => by simp only [sg]; rw [sg_zero n (fun k hk => h k (by omega)), h n (by omega)]
theorem sg_shift {F : Nat → Nat} (d : Nat) (h : ∀ j, j < d → F j = 0) : ∀ n, sg F (n + d) = sg (fun j => F (j + d)) n
  | 0 => by rw [Nat.zero_add]; exact sg_zero d h
  | n + 1 => by rw [show n + 1 + d = (n + d) + 1 by omega]; simp only [sg]; rw [sg_shift d h n]
theorem sg_cut {F : Nat → Nat} {n : Nat} : ∀ d, (∀ j, n ≤ j → F j = 0) → sg F (n + d) = sg F n
  | 0 => fun _ => rfl
  | d + 1 => fun h => by rw [show n + (d + 1) = (n + d) + 1 by omega]; simp only [sg]; rw [sg_cut d h, h _ (by omega), Nat.add_zero]
theorem oAt_iff {f : Nat → Nat} {x y : Int} {q : Nat} : oAt f x y = (q : Int) ↔ (0 ≤ x ∧ x < 16 ∧ 0 ≤ y ∧ y < 16 ∧ f (y * 16 + x).toNat = q) := by
  unfold oAt
  by_cases e : 0 ≤ x ∧ x < 16 ∧ 0 ≤ y ∧ y < 16
  · rw [if_pos e]; constructor
    · intro h; exact ⟨e.1, e.2.1, e.2.2.1, e.2.2.2, by omega⟩
    · rintro ⟨_, _, _, _, h⟩; omega
  · rw [if_neg e]; constructor
    · intro h; omega
    · rintro ⟨a, b, d, g, _⟩; exact absurd ⟨a, b, d, g⟩ e
/-- the four sides of a cell that lie beside another one's, one by one -/
def sU (f : Nat → Nat) (o q j : Nat) : Nat := if f j = o ∧ 16 ≤ j ∧ f (j - 16) = q then 1 else 0
def sDn (f : Nat → Nat) (o q j : Nat) : Nat := if f j = o ∧ j < 240 ∧ f (j + 16) = q then 1 else 0
def sL (f : Nat → Nat) (o q j : Nat) : Nat := if f j = o ∧ 0 < j % 16 ∧ f (j - 1) = q then 1 else 0
def sR (f : Nat → Nat) (o q j : Nat) : Nat := if f j = o ∧ j % 16 < 15 ∧ f (j + 1) = q then 1 else 0
theorem sd_four {f : Nat → Nat} {o q j : Nat} (hj : j < 256) : (if f j = o then sd f (j % 16) (j / 16) q else 0) = ((sU f o q j + sDn f o q j) + sL f o q j) + sR f o q j := by
  by_cases e : f j = o
  · rw [if_pos e]
    unfold sd sU sDn sL sR
    have h1 : (oAt f ((j % 16 : Nat) : Int) (((j / 16 : Nat) : Int) - 1) = (q : Int)) ↔ (f j = o ∧ 16 ≤ j ∧ f (j - 16) = q) := by
      rw [oAt_iff]; constructor
      · rintro ⟨_, _, a, _, b⟩
        rw [show (((j / 16 : Nat) : Int) - 1) * 16 + ((j % 16 : Nat) : Int) = ((j - 16 : Nat) : Int) by omega, Int.toNat_natCast] at b
        exact ⟨e, by omega, b⟩
      · rintro ⟨_, a, b⟩
        rw [show (((j / 16 : Nat) : Int) - 1) * 16 + ((j % 16 : Nat) : Int) = ((j - 16 : Nat) : Int) by omega, Int.toNat_natCast]
        exact ⟨by omega, by omega, by omega, by omega, b⟩
    have h2 : (oAt f ((j % 16 : Nat) : Int) (((j / 16 : Nat) : Int) + 1) = (q : Int)) ↔ (f j = o ∧ j < 240 ∧ f (j + 16) = q) := by
      rw [oAt_iff, show (((j / 16 : Nat) : Int) + 1) * 16 + ((j % 16 : Nat) : Int) = ((j + 16 : Nat) : Int) by omega, Int.toNat_natCast]
      constructor
      · rintro ⟨_, _, _, a, b⟩; exact ⟨e, by omega, b⟩
      · rintro ⟨_, a, b⟩; exact ⟨by omega, by omega, by omega, by omega, b⟩
    have h3 : (oAt f (((j % 16 : Nat) : Int) - 1) ((j / 16 : Nat) : Int) = (q : Int)) ↔ (f j = o ∧ 0 < j % 16 ∧ f (j - 1) = q) := by
      rw [oAt_iff]; constructor
      · rintro ⟨a, _, _, _, b⟩
        rw [show ((j / 16 : Nat) : Int) * 16 + (((j % 16 : Nat) : Int) - 1) = ((j - 1 : Nat) : Int) by omega, Int.toNat_natCast] at b
        exact ⟨e, by omega, b⟩
      · rintro ⟨_, a, b⟩
        rw [show ((j / 16 : Nat) : Int) * 16 + (((j % 16 : Nat) : Int) - 1) = ((j - 1 : Nat) : Int) by omega, Int.toNat_natCast]
        exact ⟨by omega, by omega, by omega, by omega, b⟩
    have h4 : (oAt f (((j % 16 : Nat) : Int) + 1) ((j / 16 : Nat) : Int) = (q : Int)) ↔ (f j = o ∧ j % 16 < 15 ∧ f (j + 1) = q) := by
      rw [oAt_iff, show ((j / 16 : Nat) : Int) * 16 + (((j % 16 : Nat) : Int) + 1) = ((j + 1 : Nat) : Int) by omega, Int.toNat_natCast]
      constructor
      · rintro ⟨_, a, _, _, b⟩; exact ⟨e, by omega, b⟩
      · rintro ⟨_, a, b⟩; exact ⟨by omega, by omega, by omega, by omega, b⟩
    rw [ite01 h1, ite01 h2, ite01 h3, ite01 h4]
  · rw [if_neg e]; unfold sU sDn sL sR
    rw [if_neg (fun h => e h.1), if_neg (fun h => e h.1), if_neg (fun h => e h.1), if_neg (fun h => e h.1)]
theorem sFence_sg (f : Nat → Nat) (o q : Nat) : ∀ k, sFence f o q k = sg (fun j => if f j = o then sd f (j % 16) (j / 16) q else 0) k
  | 0 => rfl
  | k + 1 => by simp only [sFence, sg]; rw [sFence_sg f o q k]
/-- the edges' ends the other way round -/
def eR (f : Nat → Nat) (o q j : Nat) : Nat := if j % 16 < 15 ∧ f j = q ∧ f (j + 1) = o then 1 else 0
def eD (f : Nat → Nat) (o q j : Nat) : Nat := if j < 240 ∧ f j = q ∧ f (j + 16) = o then 1 else 0
theorem sL_shift (f : Nat → Nat) (o q : Nat) : sg (sL f o q) 256 = sg (eR f o q) 256 := by
  have h1 := sg_shift (F := sL f o q) 1 (fun j hj => by unfold sL; rw [if_neg (by omega)]) 255
  have h2 : sg (eR f o q) 256 = sg (eR f o q) 255 := by show sg (eR f o q) 255 + eR f o q 255 = _; unfold eR; rw [if_neg (by omega), Nat.add_zero]
  rw [h2, show (256 : Nat) = 255 + 1 from rfl, h1]
  refine sg_ext 255 fun k hk => ?_
  show sL f o q (k + 1) = eR f o q k
  unfold sL eR; rw [Nat.add_sub_cancel]
  exact ite01 ⟨fun h => ⟨by omega, h.2.2, h.1⟩, fun h => ⟨h.2.2, by omega, h.2.1⟩⟩
theorem sU_shift (f : Nat → Nat) (o q : Nat) : sg (sU f o q) 256 = sg (eD f o q) 256 := by
  have h1 := sg_shift (F := sU f o q) 16 (fun j hj => by unfold sU; rw [if_neg (by omega)]) 240
  have h2 := sg_cut (F := eD f o q) (n := 240) 16 (fun j hj => by unfold eD; rw [if_neg (by omega)])
  rw [show (256 : Nat) = 240 + 16 from rfl, h1, h2]
  refine sg_ext 240 fun k hk => ?_
  show sU f o q (k + 16) = eD f o q k
  unfold sU eD; rw [Nat.add_sub_cancel]
  exact ite01 ⟨fun h => ⟨hk, h.2.2, h.1⟩, fun h => ⟨h.2.2, by omega, h.2.1⟩⟩
theorem eB_sg {f : Nat → Nat} {o q : Nat} (hne : o ≠ q) : ∀ k, eB f o q k = sg (fun j => ((sR f o q j + eR f o q j) + sDn f o q j) + eD f o q j) k
  | 0 => rfl
  | k + 1 => by
    simp only [eB, sg]; rw [eB_sg hne k]
    have e1 : (if k % 16 < 15 ∧ (f k = o ∧ f (k + 1) = q ∨ f k = q ∧ f (k + 1) = o) then 1 else 0 : Nat) = sR f o q k + eR f o q k := by
      unfold sR eR; (repeat' split) <;> omega
    have e2 : (if k < 240 ∧ (f k = o ∧ f (k + 16) = q ∨ f k = q ∧ f (k + 16) = o) then 1 else 0 : Nat) = sDn f o q k + eD f o q k := by
      unfold sDn eD; (repeat' split) <;> omega
    rw [e1, e2]; omega
theorem eB_sFence {f : Nat → Nat} {o q : Nat} (hne : o ≠ q) : eB f o q 256 = sFence f o q 256 := by
  rw [eB_sg hne, sFence_sg, sg_ext 256 (fun k hk => sd_four hk)]
  have a := sL_shift f o q; have b := sU_shift f o q
  have c1 := sg_add (fun j => (sU f o q j + sDn f o q j) + sL f o q j) (sR f o q) 256
  have c2 := sg_add (fun j => sU f o q j + sDn f o q j) (sL f o q) 256
  have c3 := sg_add (sU f o q) (sDn f o q) 256
  have d1 := sg_add (fun j => (sR f o q j + eR f o q j) + sDn f o q j) (eD f o q) 256
  have d2 := sg_add (fun j => sR f o q j + eR f o q j) (sDn f o q) 256
  have d3 := sg_add (sR f o q) (eR f o q) 256
  omega
theorem btw_shF (f : Nat → Nat) (o q : Nat) : btw f o q = shF f o q := by
  unfold btw shF
  by_cases e : o = q
  · rw [if_pos e, if_pos e]
  · rw [if_neg e, if_neg e, eB_sFence e]
theorem fM_fbc (f : Nat → Nat) (o : Nat) : ∀ k, fM f o k = fbc f o k
  | 0 => rfl
  | k + 1 => by simp only [fM, fbc]; rw [fM_fbc f o k, btw_shF]
theorem nbM_nnb (f : Nat → Nat) (o : Nat) : ∀ k, nbM f o k = nnb f o k
  | 0 => rfl
  | k + 1 => by simp only [nbM, nnb]; rw [nbM_nnb f o k, btw_shF]
