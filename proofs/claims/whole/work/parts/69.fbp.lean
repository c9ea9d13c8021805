/-! OWN, pure: fences by the sides of the plots are fences by cells -/
theorem sg_split (H : Nat → Nat) (a : Nat) : ∀ n, sg H (a + n) = sg H a + sg (fun i => H (a + i)) n
  | 0 => rfl
  | n + 1 => by
    show sg H (a + n) + H (a + n) = sg H a + (sg (fun i => H (a + i)) n + H (a + n))
    rw [sg_split H a n, Nat.add_assoc]
theorem sg_win {H : Nat → Nat} {a n N : Nat} (h : a + n ≤ N) : sg (fun s => if a ≤ s ∧ s < a + n then H s else 0) N = sg (fun i => H (a + i)) n := by
  obtain ⟨d, rfl⟩ : ∃ d, N = a + n + d := ⟨N - (a + n), by omega⟩
  rw [sg_split, sg_split]
  have h1 : sg (fun s => if a ≤ s ∧ s < a + n then H s else 0) a = 0 := sg_zero a (fun k hk => if_neg (by omega))
  have h3 : sg (fun i => (fun s => if a ≤ s ∧ s < a + n then H s else 0) (a + n + i)) d = 0 := sg_zero d (fun k hk => if_neg (by omega))
  have h2 : sg (fun i => (fun s => if a ≤ s ∧ s < a + n then H s else 0) (a + i)) n = sg (fun i => H (a + i)) n := sg_ext n (fun k hk => if_pos (by omega))
  rw [h1, h2, h3]; omega
theorem sg_one {H : Nat → Nat} {a N : Nat} (h : a < N) : sg (fun s => if s = a then H s else 0) N = H a := by
  have := sg_win (H := H) (a := a) (n := 1) (N := N) h
  rw [← sg_ext N (F := fun s => if a ≤ s ∧ s < a + 1 then H s else 0) (fun k hk => by
    by_cases e : k = a
    · show (if _ then _ else _) = if _ then _ else _
      rw [if_pos (by omega), if_pos e]
    · show (if _ then _ else _) = if _ then _ else _
      rw [if_neg (by omega), if_neg e])]
  rw [this]; show 0 + H (a + 0) = H a; rw [Nat.zero_add, Nat.add_zero]
theorem sg_rows (F : Nat → Nat) : ∀ r, sg F (16 * r) = sg (fun i => sg (fun j => F (16 * i + j)) 16) r
  | 0 => rfl
  | r + 1 => by
    rw [show 16 * (r + 1) = 16 * r + 16 by omega, sg_split, sg_rows F r]
    rfl
theorem sg_row {H : Nat → Nat} {x r z : Nat} (hr : r < 16) (hx : x + z ≤ 16) : sg (fun c => if c / 16 = r ∧ x ≤ c % 16 ∧ c % 16 < x + z then H c else 0) 256 = sg (fun i => H (16 * r + (x + i))) z := by
  rw [show (256 : Nat) = 16 * 16 from rfl, sg_rows]
  have h1 : ∀ i, i < 16 → sg (fun j => (fun c => if c / 16 = r ∧ x ≤ c % 16 ∧ c % 16 < x + z then H c else 0) (16 * i + j)) 16 = if i = r then sg (fun k => H (16 * i + (x + k))) z else 0 := by
    intro i hi
    by_cases e : i = r
    · rw [if_pos e, ← sg_win (H := fun j => H (16 * i + j)) (a := x) (n := z) hx]
      refine sg_ext 16 fun j hj => ?_
      show (if _ then _ else _) = if _ then _ else _
      by_cases e2 : x ≤ j ∧ j < x + z
      · rw [if_pos (by omega), if_pos e2]
      · rw [if_neg (by omega), if_neg e2]
    · rw [if_neg e]
      exact sg_zero 16 (fun j hj => if_neg (by omega))
  rw [sg_ext 16 h1]
  exact sg_one (H := fun i => sg (fun k => H (16 * i + (x + k))) z) hr
theorem sg_col {H : Nat → Nat} {x y z : Nat} (hx : x < 16) (hy : y + z ≤ 16) : sg (fun c => if c % 16 = x ∧ y ≤ c / 16 ∧ c / 16 < y + z then H c else 0) 256 = sg (fun i => H (16 * (y + i) + x)) z := by
  rw [show (256 : Nat) = 16 * 16 from rfl, sg_rows, ← sg_win (H := fun r => H (16 * r + x)) (a := y) (n := z) hy]
  refine sg_ext 16 fun i hi => ?_
  show sg _ 16 = if y ≤ i ∧ i < y + z then H (16 * i + x) else 0
  by_cases e : y ≤ i ∧ i < y + z
  · rw [if_pos e, ← sg_one (H := fun j => H (16 * i + j)) hx]
    refine sg_ext 16 fun j hj => ?_
    show (if _ then _ else _) = if _ then _ else _
    by_cases e2 : j = x
    · rw [if_pos (by omega), if_pos e2]
    · rw [if_neg (by omega), if_neg e2]
  · rw [if_neg e]
    exact sg_zero 16 (fun j hj => if_neg (by omega))
/-- a cell's sides beside another owner's -/
def gU (ow : Nat → Nat) (o c : Nat) : Nat := ft ow ((c % 16 : Nat) : Int) (((c / 16 : Nat) : Int) - 1) o
def gD (ow : Nat → Nat) (o c : Nat) : Nat := ft ow ((c % 16 : Nat) : Int) (((c / 16 : Nat) : Int) + 1) o
def gL (ow : Nat → Nat) (o c : Nat) : Nat := ft ow (((c % 16 : Nat) : Int) - 1) ((c / 16 : Nat) : Int) o
def gR (ow : Nat → Nat) (o c : Nat) : Nat := ft ow (((c % 16 : Nat) : Int) + 1) ((c / 16 : Nat) : Int) o
def gap (ow : Nat → Nat) (o c : Nat) : Nat := gU ow o c + gD ow o c + gL ow o c + gR ow o c
theorem ft_in {ow : Nat → Nat} {o X Y : Nat} {x y : Int} (hx : x = (X : Int)) (hy : y = (Y : Int)) (hX : X < 16) (hY : Y < 16) (h : ow (Y * 16 + X) = o) : ft ow x y o = 0 := by
  unfold ft; rw [if_neg]
  rintro ⟨_, h2⟩
  exact h2 (by rw [hx, hy, oAt_n hX hY, h])
section Plot
variable {ow : Nat → Nat} {x y z o : Nat}
theorem gU_sq (hq : sqN x y z) (hu : ∀ k, k < 256 → inSq x y z k → ow k = o) : sg (fun c => if inSq x y z c then gU ow o c else 0) 256 = sg (fun i => ft ow ((x : Int) + (i : Int)) ((y : Int) - 1) o) z := by
  have hl := sq_le hq
  rw [sg_ext 256 (G := fun c => if c / 16 = y ∧ x ≤ c % 16 ∧ c % 16 < x + z then gU ow o c else 0) ?_, sg_row (by omega) hl.1]
  · refine sg_ext z fun i hi => ?_
    show ft ow (((16 * y + (x + i)) % 16 : Nat) : Int) ((((16 * y + (x + i)) / 16 : Nat) : Int) - 1) o = _
    rw [show (16 * y + (x + i)) % 16 = x + i by omega, show (16 * y + (x + i)) / 16 = y by omega]; rfl
  · intro c hc
    show (if inSq x y z c then gU ow o c else 0) = if _ then _ else _
    by_cases e : inSq x y z c
    · rw [if_pos e]
      by_cases e2 : c / 16 = y
      · rw [if_pos ⟨e2, e.1, e.2.1⟩]
      · rw [if_neg (fun q => e2 q.1)]
        have h1 : y < c / 16 := by have := e.2.2.1; omega
        refine ft_in (X := c % 16) (Y := c / 16 - 1) rfl (by omega) (by omega) (by omega) (hu _ (by omega) ?_)
        have := e.2.2.2; have := e.1; have := e.2.1
        exact ⟨by omega, by omega, by omega, by omega⟩
    · rw [if_neg e, if_neg (fun q => e ⟨q.2.1, q.2.2, by omega, by omega⟩)]
theorem gD_sq (hq : sqN x y z) (hu : ∀ k, k < 256 → inSq x y z k → ow k = o) : sg (fun c => if inSq x y z c then gD ow o c else 0) 256 = sg (fun i => ft ow ((x : Int) + (i : Int)) ((y : Int) + (z : Int)) o) z := by
  have hl := sq_le hq
  rw [sg_ext 256 (G := fun c => if c / 16 = y + z - 1 ∧ x ≤ c % 16 ∧ c % 16 < x + z then gD ow o c else 0) ?_, sg_row (by omega) hl.1]
  · refine sg_ext z fun i hi => ?_
    show ft ow (((16 * (y + z - 1) + (x + i)) % 16 : Nat) : Int) ((((16 * (y + z - 1) + (x + i)) / 16 : Nat) : Int) + 1) o = _
    rw [show (16 * (y + z - 1) + (x + i)) % 16 = x + i by omega, show (16 * (y + z - 1) + (x + i)) / 16 = y + z - 1 by omega, show ((y + z - 1 : Nat) : Int) + 1 = (y : Int) + (z : Int) by omega]; rfl
  · intro c hc
    show (if inSq x y z c then gD ow o c else 0) = if _ then _ else _
    by_cases e : inSq x y z c
    · rw [if_pos e]
      by_cases e2 : c / 16 = y + z - 1
      · rw [if_pos ⟨e2, e.1, e.2.1⟩]
      · rw [if_neg (fun q => e2 q.1)]
        have h1 : c / 16 < y + z - 1 := by have := e.2.2.2; omega
        refine ft_in (X := c % 16) (Y := c / 16 + 1) rfl (by omega) (by omega) (by omega) (hu _ (by omega) ?_)
        have := e.2.2.1; have := e.1; have := e.2.1
        exact ⟨by omega, by omega, by omega, by omega⟩
    · rw [if_neg e, if_neg (fun q => e ⟨q.2.1, q.2.2, by omega, by omega⟩)]
theorem gL_sq (hq : sqN x y z) (hu : ∀ k, k < 256 → inSq x y z k → ow k = o) : sg (fun c => if inSq x y z c then gL ow o c else 0) 256 = sg (fun i => ft ow ((x : Int) - 1) ((y : Int) + (i : Int)) o) z := by
  have hl := sq_le hq
  rw [sg_ext 256 (G := fun c => if c % 16 = x ∧ y ≤ c / 16 ∧ c / 16 < y + z then gL ow o c else 0) ?_, sg_col (by omega) hl.2.1]
  · refine sg_ext z fun i hi => ?_
    show ft ow ((((16 * (y + i) + x) % 16 : Nat) : Int) - 1) (((16 * (y + i) + x) / 16 : Nat) : Int) o = _
    rw [show (16 * (y + i) + x) % 16 = x by omega, show (16 * (y + i) + x) / 16 = y + i by omega]; rfl
  · intro c hc
    show (if inSq x y z c then gL ow o c else 0) = if _ then _ else _
    by_cases e : inSq x y z c
    · rw [if_pos e]
      by_cases e2 : c % 16 = x
      · rw [if_pos ⟨e2, e.2.2.1, e.2.2.2⟩]
      · rw [if_neg (fun q => e2 q.1)]
        have h1 : x < c % 16 := by have := e.1; omega
        refine ft_in (X := c % 16 - 1) (Y := c / 16) (by omega) rfl (by omega) (by omega) (hu _ (by omega) ?_)
        have := e.2.2.1; have := e.2.2.2; have := e.2.1
        exact ⟨by omega, by omega, by omega, by omega⟩
    · rw [if_neg e, if_neg (fun q => e ⟨by omega, by omega, q.2.1, q.2.2⟩)]
theorem gR_sq (hq : sqN x y z) (hu : ∀ k, k < 256 → inSq x y z k → ow k = o) : sg (fun c => if inSq x y z c then gR ow o c else 0) 256 = sg (fun i => ft ow ((x : Int) + (z : Int)) ((y : Int) + (i : Int)) o) z := by
  have hl := sq_le hq
  rw [sg_ext 256 (G := fun c => if c % 16 = x + z - 1 ∧ y ≤ c / 16 ∧ c / 16 < y + z then gR ow o c else 0) ?_, sg_col (by omega) hl.2.1]
  · refine sg_ext z fun i hi => ?_
    show ft ow ((((16 * (y + i) + (x + z - 1)) % 16 : Nat) : Int) + 1) (((16 * (y + i) + (x + z - 1)) / 16 : Nat) : Int) o = _
    rw [show (16 * (y + i) + (x + z - 1)) % 16 = x + z - 1 by omega, show (16 * (y + i) + (x + z - 1)) / 16 = y + i by omega, show ((x + z - 1 : Nat) : Int) + 1 = (x : Int) + (z : Int) by omega]; rfl
  · intro c hc
    show (if inSq x y z c then gR ow o c else 0) = if _ then _ else _
    by_cases e : inSq x y z c
    · rw [if_pos e]
      by_cases e2 : c % 16 = x + z - 1
      · rw [if_pos ⟨e2, e.2.2.1, e.2.2.2⟩]
      · rw [if_neg (fun q => e2 q.1)]
        have h1 : c % 16 < x + z - 1 := by have := e.2.1; omega
        refine ft_in (X := c % 16 + 1) (Y := c / 16) (by omega) rfl (by omega) (by omega) (hu _ (by omega) ?_)
        have := e.2.2.1; have := e.2.2.2; have := e.1
        exact ⟨by omega, by omega, by omega, by omega⟩
    · rw [if_neg e, if_neg (fun q => e ⟨by omega, by omega, q.2.1, q.2.2⟩)]
theorem frS_sg : ∀ i, frS ow x y z o i = sg (fun i => ft ow ((x : Int) + (i : Int)) ((y : Int) - 1) o) i + sg (fun i => ft ow ((x : Int) + (i : Int)) ((y : Int) + (z : Int)) o) i + sg (fun i => ft ow ((x : Int) - 1) ((y : Int) + (i : Int)) o) i + sg (fun i => ft ow ((x : Int) + (z : Int)) ((y : Int) + (i : Int)) o) i
  | 0 => rfl
  | i + 1 => by simp only [frS, sg]; rw [frS_sg i]; omega
theorem gap_sq (hq : sqN x y z) (hu : ∀ k, k < 256 → inSq x y z k → ow k = o) : sg (fun c => if inSq x y z c then gap ow o c else 0) 256 = frS ow x y z o z := by
  rw [frS_sg, ← gU_sq hq hu, ← gD_sq hq hu, ← gL_sq hq hu, ← gR_sq hq hu, ← sg_add, ← sg_add, ← sg_add]
  refine sg_ext 256 fun c hc => ?_
  show (if inSq x y z c then gap ow o c else 0) = (if _ then _ else _) + (if _ then _ else _) + (if _ then _ else _) + (if _ then _ else _)
  by_cases e : inSq x y z c
  · rw [if_pos e, if_pos e, if_pos e, if_pos e, if_pos e]; rfl
  · rw [if_neg e, if_neg e, if_neg e, if_neg e, if_neg e]
end Plot
/-- a block of places is a square of cells -/
theorem sg_blk {G : Nat → Nat} {q z : Nat} (hq : q < 256) (h1 : sqN (mx q) (my q) z) (h2 : q + z * z ≤ 256) : sg (fun i => G (mc (q + i))) (z * z) = sg (fun c => if inSq (mx q) (my q) z c then G c else 0) 256 := by
  rw [← sg_mc, ← sg_win (H := fun s => G (mc s)) (a := q) (n := z * z) h2]
  refine sg_ext 256 fun s hs => ?_
  show (if _ then _ else _) = if _ then _ else _
  have hp := sq_place hq h1 (mc_lt s)
  rw [mp_mc_all s hs] at hp
  by_cases e : q ≤ s ∧ s < q + z * z
  · rw [if_pos e, if_pos (hp.mpr e)]
  · rw [if_neg e, if_neg (fun h => e (hp.mp h))]
theorem sFn_sg (ow : Nat → Nat) (o : Nat) : ∀ k, k ≤ cnt ow → sFn ow (svO ow) (svX ow) (svY ow) (svZ ow) o k = sg (fun s => if fP ow s = o then gap ow o (mc s) else 0) (gP ow k)
  | 0 => fun _ => rfl
  | k + 1 => fun hk => by
    have hg := (lt_cnt ow).mp (show k < cnt ow by omega)
    have ht := gP_top ow hg
    have hq := psz_sq ow (gP ow k)
    have hu := (uni_sq hq).mp (psz_ok ow (gP ow k)).2
    rw [gP] at ht ⊢
    rw [sg_split]
    simp only [sFn]
    rw [sFn_sg ow o k (by omega)]
    have hblk := fun G => sg_blk (G := G) hg hq ht
    congr 1
    have hO : svO ow k = ow (mc (gP ow k)) := rfl
    have hin : ∀ i, i < psz ow (gP ow k) * psz ow (gP ow k) → fP ow (gP ow k + i) = svO ow k := fun i hi => by
      have h3 := (sq_place hg hq (mc_lt (gP ow k + i))).mpr (by rw [mp_mc_all _ (by omega)]; omega)
      exact hu _ (mc_lt _) h3
    by_cases e : svO ow k = o
    · rw [if_pos e, sg_ext _ (G := fun i => gap ow o (mc (gP ow k + i))) (fun i hi => by
        show (if _ then _ else _) = _
        rw [if_pos (by rw [hin i hi]; exact e)]), hblk]
      exact (gap_sq hq (fun c hc hi => by rw [← e, hO]; exact hu c hc hi)).symm
    · rw [if_neg e]
      exact (sg_zero _ (fun i hi => by
        show (if _ then _ else _) = 0
        rw [if_neg (by rw [hin i hi]; exact e)])).symm
/-- how often a neighbour is one of the first other owners -/
def nQ (v : Int) (o : Nat) : Nat → Nat
  | 0 => 0
  | q + 1 => nQ v o q + (if o = q then 0 else if v = (q : Int) then 1 else 0)
theorem nQ_8 {v : Int} {o : Nat} (h : -1 ≤ v ∧ v < 8) : nQ v o 8 = if v ≠ -1 ∧ v ≠ (o : Int) then 1 else 0 := by
  have e : nQ v o 8 = 0 + (if o = 0 then 0 else if v = ((0 : Nat) : Int) then 1 else 0) + (if o = 1 then 0 else if v = ((1 : Nat) : Int) then 1 else 0) + (if o = 2 then 0 else if v = ((2 : Nat) : Int) then 1 else 0) + (if o = 3 then 0 else if v = ((3 : Nat) : Int) then 1 else 0) + (if o = 4 then 0 else if v = ((4 : Nat) : Int) then 1 else 0) + (if o = 5 then 0 else if v = ((5 : Nat) : Int) then 1 else 0) + (if o = 6 then 0 else if v = ((6 : Nat) : Int) then 1 else 0) + (if o = 7 then 0 else if v = ((7 : Nat) : Int) then 1 else 0) := rfl
  rw [e]
  have key : v = -1 ∨ v = 0 ∨ v = 1 ∨ v = 2 ∨ v = 3 ∨ v = 4 ∨ v = 5 ∨ v = 6 ∨ v = 7 := by omega
  have ko : o = 0 ∨ o = 1 ∨ o = 2 ∨ o = 3 ∨ o = 4 ∨ o = 5 ∨ o = 6 ∨ o = 7 ∨ 8 ≤ o := by omega
  rcases key with rfl | rfl | rfl | rfl | rfl | rfl | rfl | rfl | rfl <;> rcases ko with rfl | rfl | rfl | rfl | rfl | rfl | rfl | rfl | ko <;> first | decide | (rw [if_neg (show ¬ o = 0 by omega), if_neg (show ¬ o = 1 by omega), if_neg (show ¬ o = 2 by omega), if_neg (show ¬ o = 3 by omega), if_neg (show ¬ o = 4 by omega), if_neg (show ¬ o = 5 by omega), if_neg (show ¬ o = 6 by omega), if_neg (show ¬ o = 7 by omega)]; first | exact Eq.trans (b := 1) (by decide) (if_pos ⟨by decide, by omega⟩).symm | exact Eq.trans (b := 0) (by decide) (if_neg (fun h => h.1 rfl)).symm)
def gQ (ow : Nat → Nat) (o c Q : Nat) : Nat := nQ (oAt ow ((c % 16 : Nat) : Int) (((c / 16 : Nat) : Int) - 1)) o Q + nQ (oAt ow ((c % 16 : Nat) : Int) (((c / 16 : Nat) : Int) + 1)) o Q + nQ (oAt ow (((c % 16 : Nat) : Int) - 1) ((c / 16 : Nat) : Int)) o Q + nQ (oAt ow (((c % 16 : Nat) : Int) + 1) ((c / 16 : Nat) : Int)) o Q
theorem gQ_8 {ow : Nat → Nat} (hw : ∀ k, ow k < 8) (o c : Nat) : gQ ow o c 8 = gap ow o c := by
  unfold gQ gap gU gD gL gR ft
  rw [nQ_8 (oAt_b hw _ _), nQ_8 (oAt_b hw _ _), nQ_8 (oAt_b hw _ _), nQ_8 (oAt_b hw _ _)]
theorem gQ_s (ow : Nat → Nat) (o c q : Nat) : gQ ow o c (q + 1) = gQ ow o c q + (if o = q then 0 else sd ow (c % 16) (c / 16) q) := by
  unfold gQ
  by_cases e : o = q
  · simp only [nQ]; rw [if_pos e, if_pos e, if_pos e, if_pos e, if_pos e]; rfl
  · simp only [nQ]; rw [if_neg e, if_neg e, if_neg e, if_neg e, if_neg e]; unfold sd; omega
theorem fbc_sg (ow : Nat → Nat) (o : Nat) : ∀ q, fbc ow o q = sg (fun c => if ow c = o then gQ ow o c q else 0) 256
  | 0 => (sg_zero 256 (fun c _ => by show (if _ then (0 + 0 + 0 + 0 : Nat) else 0) = 0; split <;> rfl)).symm
  | q + 1 => by
    simp only [fbc]
    rw [fbc_sg ow o q]
    have h1 : shF ow o q = sg (fun c => if ow c = o then (if o = q then 0 else sd ow (c % 16) (c / 16) q) else 0) 256 := by
      unfold shF
      by_cases e : o = q
      · rw [if_pos e]; exact (sg_zero 256 (fun c _ => by show (if _ then (if o = q then 0 else _) else 0) = 0; rw [if_pos e]; split <;> rfl)).symm
      · rw [if_neg e, sFence_sg]
        refine sg_ext 256 fun c _ => ?_
        show (if _ then _ else _) = if _ then (if o = q then 0 else _) else _
        rw [if_neg e]
    rw [h1, ← sg_add]
    refine sg_ext 256 fun c _ => ?_
    show (if _ then _ else _) + (if _ then _ else _) = if _ then _ else _
    by_cases e : ow c = o
    · rw [if_pos e, if_pos e, if_pos e, gQ_s]
    · rw [if_neg e, if_neg e, if_neg e]
theorem fbp_tie {ow : Nat → Nat} (hw : ∀ k, ow k < 8) (o : Nat) : sFn ow (svO ow) (svX ow) (svY ow) (svZ ow) o (cnt ow) = fbc ow o 8 := by
  rw [sFn_sg ow o _ (Nat.le_refl _), gP_cnt, fbc_sg]
  have h1 := sg_mc (fun c => if ow c = o then gap ow o c else 0)
  rw [show (fun s => if fP ow s = o then gap ow o (mc s) else 0) = fun s => (fun c => if ow c = o then gap ow o c else 0) (mc s) from rfl, h1]
  refine sg_ext 256 fun c _ => ?_
  show (if _ then _ else _) = if _ then _ else _
  by_cases e : ow c = o
  · rw [if_pos e, if_pos e, gQ_8 hw]
  · rw [if_neg e, if_neg e]
theorem sFn_congr {ow so so' cx cx' cy cy' zs zs' : Nat → Nat} {n : Nat} (h : ∀ k, k < n → so k = so' k) (hx : ∀ k, k < n → cx k = cx' k) (hy : ∀ k, k < n → cy k = cy' k) (hz : ∀ k, k < n → zs k = zs' k) (o : Nat) : ∀ k, k ≤ n → sFn ow so cx cy zs o k = sFn ow so' cx' cy' zs' o k
  | 0 => fun _ => rfl
  | k + 1 => fun hk => by simp only [sFn]; rw [sFn_congr h hx hy hz o k (by omega), h k (by omega), hx k (by omega), hy k (by omega), hz k (by omega)]
