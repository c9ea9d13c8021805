/-! OWN, pure: areas by cells and by plots -/
theorem sg_list (F : Nat → Nat) : ∀ n, sg F n = ((List.range n).map F).sum
  | 0 => rfl
  | n + 1 => by rw [List.range_succ, List.map_append, List.sum_append, ← sg_list F n]; simp [sg]
theorem mc_perm : ((List.range 256).map mc).Perm (List.range 256) := by decide +kernel
theorem sg_mc (F : Nat → Nat) : sg (fun s => F (mc s)) 256 = sg F 256 := by
  rw [sg_list, sg_list]
  have h := (mc_perm.map F).sum_nat
  rw [List.map_map] at h
  exact h
theorem aM_sg (nw : Nat → Nat) (o : Nat) : ∀ k, aM nw o k = sg (fun c => if nw c = o then 1 else 0) k
  | 0 => rfl
  | k + 1 => by simp only [aM, sg]; rw [aM_sg nw o k]
theorem sg_const {F : Nat → Nat} {a v : Nat} : ∀ d, (∀ j, a ≤ j → j < a + d → F j = v) → sg F (a + d) = sg F a + d * v
  | 0 => fun _ => by rw [Nat.zero_mul]; rfl
  | d + 1 => fun h => by
    rw [show a + (d + 1) = (a + d) + 1 by omega]; simp only [sg]
    rw [sg_const d (fun j h1 h2 => h j h1 (by omega)), h (a + d) (by omega) (by omega), Nat.succ_mul]; omega
theorem sAr_sg (ow : Nat → Nat) (o : Nat) : ∀ k, k ≤ cnt ow → sAr (svO ow) (svZ ow) o k = sg (fun s => if fP ow s = o then 1 else 0) (gP ow k)
  | 0 => fun _ => rfl
  | k + 1 => fun hk => by
    have hg := (lt_cnt ow).mp (show k < cnt ow by omega)
    have hok := (okc_uB hg (psz_isz ow (gP ow k))).mp (psz_ok ow (gP ow k))
    have ht := gP_top ow hg
    have h1 := sg_const (F := fun s => if fP ow s = o then 1 else 0) (a := gP ow k) (v := if svO ow k = o then 1 else 0) (psz ow (gP ow k) * psz ow (gP ow k)) (fun j h1 h2 => by
      rw [gP] at ht
      have hb := blk_eq (psz_isz ow (gP ow k)) hok.1 h1 h2
      have := hok.2 j (by omega) hb.1
      show (if fP ow j = o then 1 else 0 : Nat) = if svO ow k = o then 1 else 0
      rw [this]; rfl)
    rw [gP, h1]; simp only [sAr]
    rw [sAr_sg ow o k (by omega)]
    show _ + (if svO ow k = o then psz ow (gP ow k) * psz ow (gP ow k) else 0) = _
    by_cases e : svO ow k = o
    · rw [if_pos e, if_pos e, Nat.mul_one]
    · rw [if_neg e, if_neg e, Nat.mul_zero]
theorem sAr_aM (ow : Nat → Nat) (o : Nat) : sAr (svO ow) (svZ ow) o (cnt ow) = aM ow o 256 := by
  rw [sAr_sg ow o _ (Nat.le_refl _), gP_cnt, aM_sg]
  exact sg_mc (fun c => if ow c = o then 1 else 0)
theorem sBelow_aM {ow he : Nat → Nat} (h : ∀ k, he k < 10) (o : Nat) : ∀ k, sBelow ow he o 10 k = aM ow o k
  | 0 => rfl
  | k + 1 => by
    simp only [sBelow, aM]; rw [sBelow_aM h o k]
    have := h k
    rw [ite01 (show (ow k = o ∧ he k < 10) ↔ ow k = o from ⟨fun z => z.1, fun z => ⟨z, h k⟩⟩)]
