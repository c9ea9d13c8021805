/-- a square of the land, over naturals -/
abbrev sqN (x y z : Nat) : Prop := (z = 1 ∨ z = 2 ∨ z = 4 ∨ z = 8 ∨ z = 16) ∧ x < 16 ∧ y < 16 ∧ x % z = 0 ∧ y % z = 0
theorem sq_le {x y z : Nat} (h : sqN x y z) : x + z ≤ 16 ∧ y + z ≤ 16 ∧ 0 < z := by
  obtain ⟨rfl | rfl | rfl | rfl | rfl, h⟩ := h <;> omega
theorem sq_cast {x y z : Nat} (h : sqN x y z) : ((z : Int) = 1 ∨ (z : Int) = 2 ∨ (z : Int) = 4 ∨ (z : Int) = 8 ∨ (z : Int) = 16) ∧ 0 ≤ (x : Int) ∧ (x : Int) < 16 ∧ 0 ≤ (y : Int) ∧ (y : Int) < 16 ∧ (x : Int) % (z : Int) = 0 ∧ (y : Int) % (z : Int) = 0 := by
  obtain ⟨rfl | rfl | rfl | rfl | rfl, h⟩ := h <;> omega
theorem sq_uncast {x y z : Nat} (h : ((z : Int) = 1 ∨ (z : Int) = 2 ∨ (z : Int) = 4 ∨ (z : Int) = 8 ∨ (z : Int) = 16) ∧ 0 ≤ (x : Int) ∧ (x : Int) < 16 ∧ 0 ≤ (y : Int) ∧ (y : Int) < 16 ∧ (x : Int) % (z : Int) = 0 ∧ (y : Int) % (z : Int) = 0) : sqN x y z := by
  obtain ⟨h1, h⟩ := h
  have h2 : z = 1 ∨ z = 2 ∨ z = 4 ∨ z = 8 ∨ z = 16 := by omega
  obtain rfl | rfl | rfl | rfl | rfl := h2 <;> refine ⟨by omega, by omega, by omega, ?_, ?_⟩ <;> omega
/-- what an owner (or a height) is at a place, -1 beyond the rim -/
def oAt (f : Nat → Nat) (x y : Int) : Int := if 0 ≤ x ∧ x < 16 ∧ 0 ≤ y ∧ y < 16 then ((f (y * 16 + x).toNat : Nat) : Int) else -1
theorem oAt_b {f : Nat → Nat} (hf : ∀ k, f k < 8) (x y : Int) : -1 ≤ oAt f x y ∧ oAt f x y < 8 := by
  unfold oAt; have := hf (y * 16 + x).toNat; split <;> omega
theorem oAt_n {f : Nat → Nat} {x y : Nat} (hx : x < 16) (hy : y < 16) : oAt f x y = f (y * 16 + x) := by
  unfold oAt; rw [if_pos (by omega)]; congr 2
/-- a sum over the cells of a square, row by row -/
def sSq (F : Nat → Nat) (c z : Nat) : Nat → Nat
  | 0 => 0
  | k + 1 => sSq F c z k + F (c + 16 * (k / z) + k % z)
abbrev inSq (x y z k : Nat) : Prop := x ≤ k % 16 ∧ k % 16 < x + z ∧ y ≤ k / 16 ∧ k / 16 < y + z
abbrev inSqP (x y z i j k : Nat) : Prop := x ≤ k % 16 ∧ k % 16 < x + z ∧ y ≤ k / 16 ∧ (k / 16 < y + i ∨ (k / 16 = y + i ∧ k % 16 < x + j))
def gvOw (ow : Nat → Nat) (x y z o : Nat) : Nat → Nat := fun k => if inSq x y z k then o else ow k
def lfV (d : Int) (v : Nat) : Nat := (max 0 (min 9 ((v : Int) + d))).toNat
def lfHe (he : Nat → Nat) (x y z : Nat) (d : Int) : Nat → Nat := fun k => if inSq x y z k then lfV d (he k) else he k
theorem lfV_lt (d : Int) (v : Nat) : lfV d v < 10 := by unfold lfV; omega
theorem zI_min9 {b : Int} (hb : -2147483648 ≤ b ∧ b < 2147483648) : (if zI b < nI 9 then zI b else nI 9) = zI (min 9 b) := by
  rw [show nI 9 = zI 9 from (zI_nat 9).symm]
  by_cases h : b < 9
  · rw [if_pos ((zI_lt hb (by decide)).mpr h)]; congr 1; omega
  · rw [if_neg (fun z => h ((zI_lt hb (by decide)).mp z))]; congr 1; omega
theorem zI_max0 {b : Int} (hb : -2147483648 ≤ b ∧ b < 2147483648) : (if nI 0 < zI b then zI b else nI 0) = nI (max 0 b).toNat := by
  rw [show nI 0 = zI 0 from (zI_nat 0).symm]
  by_cases h : 0 < b
  · rw [if_pos ((zI_lt (by decide) hb).mpr h), zI_toNat (by omega)]; congr 2; omega
  · rw [if_neg (fun z => h ((zI_lt (by decide) hb).mp z)), show (max 0 b).toNat = 0 by omega]; rfl
abbrev uni (ow : Nat → Nat) (c z : Nat) : Prop := ∀ k, k < z * z → ow (c + 16 * (k / z) + k % z) = ow c
theorem divmod_ij {z i j : Nat} (hj : j < z) : (i * z + j) / z = i ∧ (i * z + j) % z = j := by
  have hz : 0 < z := by omega
  constructor
  · rw [Nat.mul_comm, Nat.mul_add_div hz, Nat.div_eq_of_lt hj, Nat.add_zero]
  · rw [Nat.mul_comm, Nat.mul_add_mod, Nat.mod_eq_of_lt hj]
/-- the cells of an owner that lie beside another one's -/
def sd (ow : Nat → Nat) (x y o : Nat) : Nat := (if oAt ow (x : Int) ((y : Int) - 1) = (o : Int) then 1 else 0) + (if oAt ow (x : Int) ((y : Int) + 1) = (o : Int) then 1 else 0) + (if oAt ow ((x : Int) - 1) (y : Int) = (o : Int) then 1 else 0) + (if oAt ow ((x : Int) + 1) (y : Int) = (o : Int) then 1 else 0)
def sFence (ow : Nat → Nat) (o q : Nat) : Nat → Nat
  | 0 => 0
  | k + 1 => sFence ow o q k + (if ow k = o then sd ow (k % 16) (k / 16) q else 0)
def drLost (ow he : Nat → Nat) (lv : Nat) : Nat → Nat
  | 0 => 0
  | k + 1 => drLost ow he lv k + (if he k < lv ∧ ow k ≠ 0 then 1 else 0)
def drOw (ow he : Nat → Nat) (lv : Nat) : Nat → Nat := fun k => if he k < lv then 0 else ow k
def payC (co : Nat → Nat) (a b v : Nat) : Nat → Nat := va_up (va_up co a (co a - v)) b (va_up co a (co a - v) b + v)

set_option maxHeartbeats 4000000 in
set_option maxRecDepth 100000 in
theorem c_ownerOf (l : Launch) (G : gG) (h : Nat) (a1 : Nat) (a2 : Nat) (a3 : Nat) (ow : Nat → Nat) (he : Nat → Nat) (co : Nat → Nat) (pr : Nat) (tx : Nat) (sa : Nat) (fl : Nat) (lo : Nat) (x : Int) (y : Int) (hx : -2147483648 ≤ x ∧ x < 2147483648) (hy : -2147483648 ≤ y ∧ y < 2147483648) : gMi (S := Unit) l yX1_ownerOf wsX1_ownerOf { frames := 1, cells := 0, slots := 0, locals := 21 } G [.ref h, .int (zI x), .int (zI y)] [(h, .inr (1, [.ref a1, .ref a2, .ref a3, .int (nI pr), .int (nI tx), .int (nI sa), .int (nI fl), .int (nI lo)])), (a1, .inl (G.2.1, 256, .inl (gn ow))), (a2, .inl (G.2.1, 256, .inl (gn he))), (a3, .inl (G.2.1, 8, .inl (gn co)))] (fun (r : Int32) (u : Unit) => (r = zI (oAt ow x y))) (fun u => [(h, .inr (1, [.ref a1, .ref a2, .ref a3, .int (nI pr), .int (nI tx), .int (nI sa), .int (nI fl), .int (nI lo)])), (a1, .inl (G.2.1, 256, .inl (gn ow))), (a2, .inl (G.2.1, 256, .inl (gn he))), (a3, .inl (G.2.1, 8, .inl (gn co)))]) 0 0 := by
  refine gMet_mk (cc := cX1_ownerOf) (nL := 3) (ret := (some .int)) (Qc := fun A => va_Qi (S := Unit) (fun (r : Int32) (u : Unit) => (r = zI (oAt ow x y))) (gB G A (fun u => [(h, .inr (1, [.ref a1, .ref a2, .ref a3, .int (nI pr), .int (nI tx), .int (nI sa), .int (nI fl), .int (nI lo)])), (a1, .inl (G.2.1, 256, .inl (gn ow))), (a2, .inl (G.2.1, 256, .inl (gn he))), (a3, .inl (G.2.1, 8, .inl (gn co)))])) A) (by decide) rfl (Nat.le_of_ble_eq_true rfl) ?_
  intro p e s m args below meth c A F ls hl hP hD hS
  have hx := F.1
  have hb := F.2.1
  have hts := F.2.2.2.2.2.2.1
  have hown : s.vm.findClass RX1 = some m.cls := F.2.2.2.2.2.1
  have hKK := F.2.2.2.2.2.2.2.2.1
  have hK := hKK.1
  have hin0 := F.2.2.2.2.2.2.2.1
  have hi1 : ∀ w ∈ u_ws RX1 TX1 8, w ∈ wsX1_ownerOf := by decide +kernel
  have hl : lv_has ls 3 [(0, .ref h), (1, .int (zI x)), (2, .int (zI y))] := hl
  generalize hH : s.heap = H at hP ⊢
  have hS : va_S A s.heap H [] := by rw [← hH]; exact va_S.rf
  generalize hLo : ([] : List Loc) = locs at hS ⊢
  refine lv_iload_n hx hb dX1_ownerOf_0 rfl (lv_at hl 1 rfl) ?_
  refine lv_iload_n hx hb dX1_ownerOf_1 rfl (lv_at hl 2 rfl) ?_
  refine gCi F (gRunSN (own := RX1) (host := RX3) (bytes := cX3_isCell) (n := 2) (As := [.int (zI x), .int (zI y)]) (rest := []) F (c_X3_isCell l G x y (by first | assumption | omega) (by first | assumption | omega) H.size) gX1_ownerOf_X3_isCell_n49 (by decide +kernel) (by decide +kernel) (by decide +kernel) rfl rfl rfl rfl (by decide +kernel) rfl ⟨Nat.le_of_ble_eq_true rfl, Nat.le_of_ble_eq_true rfl⟩ hP hD (lit := [(h, .inr (1, [.ref a1, .ref a2, .ref a3, .int (nI pr), .int (nI tx), .int (nI sa), .int (nI fl), .int (nI lo)])), (a1, .inl (G.2.1, 256, .inl (gn ow))), (a2, .inl (G.2.1, 256, .inl (gn he))), (a3, .inl (G.2.1, 8, .inl (gn co)))]) (wt := []) (wc := []) (isC := []) rfl (by decide) rfl hl.1 (Nat.le_of_ble_eq_true rfl) dX1_ownerOf_2 ⟨Nat.le_of_ble_eq_true rfl, Nat.le_of_ble_eq_true rfl⟩) hP hD hS (lit := [(h, .inr (1, [.ref a1, .ref a2, .ref a3, .int (nI pr), .int (nI tx), .int (nI sa), .int (nI fl), .int (nI lo)])), (a1, .inl (G.2.1, 256, .inl (gn ow))), (a2, .inl (G.2.1, 256, .inl (gn he))), (a3, .inl (G.2.1, 8, .inl (gn co)))]) (wt := []) (wc := []) (wr := [(h, .inr (1, [.ref a1, .ref a2, .ref a3, .int (nI pr), .int (nI tx), .int (nI sa), .int (nI fl), .int (nI lo)])), (a1, .inl (G.2.1, 256, .inl (gn ow))), (a2, .inl (G.2.1, 256, .inl (gn he))), (a3, .inl (G.2.1, 8, .inl (gn co)))]) (isC := []) (isR := [0, 1, 2, 3]) rfl rfl (by decide) (by decide) (fun r2 u H locs hp2 hP hD hS => ?_)
  subst hp2
  have hP : va_P G.1 vwCl [(h, .inr (1, [.ref a1, .ref a2, .ref a3, .int (nI pr), .int (nI tx), .int (nI sa), .int (nI fl), .int (nI lo)])), (a1, .inl (G.2.1, 256, .inl (gn ow))), (a2, .inl (G.2.1, 256, .inl (gn he))), (a3, .inl (G.2.1, 8, .inl (gn co)))] H := hP
  have hD : va_D A [(h, .inr (1, [.ref a1, .ref a2, .ref a3, .int (nI pr), .int (nI tx), .int (nI sa), .int (nI fl), .int (nI lo)])), (a1, .inl (G.2.1, 256, .inl (gn ow))), (a2, .inl (G.2.1, 256, .inl (gn he))), (a3, .inl (G.2.1, 8, .inl (gn co)))] := hD
  refine gIfB_eq (P := (0 ≤ x ∧ x < 16 ∧ 0 ≤ y ∧ y < 16)) (tgt := 22) hx hb dX1_ownerOf_5 (by decide) (fun c5 => ?_) (fun c5 => ?_)
  · skip
    refine lv_iconst (v := zI (-1)) hx hb dX1_ownerOf_22 (by decide) ?_
    exact gRi F dX1_ownerOf_23 (rfl) () (by first | (rw [oAt, if_pos (by assumption), zI_nat]) | (rw [oAt, if_neg (by assumption)])) hP hD hS (Nat.le_refl _) (Nat.le_refl _)
  refine lv_aload_n hx hb dX1_ownerOf_8 rfl (lv_at hl 0 rfl) ?_
  refine va_get (D := G.1) (ci := 1) (v := .ref a1) (C := RX1) (T := TX1) (N := 8) hx hb hts hi1 hown hK hP 0 rfl rfl 0 (by decide) (hts (.fieldLink RX1 9 "LandQuarters$Land" "owners" "[I") (by decide +kernel)) (fun _ h9 => h9) rfl dX1_ownerOf_9 ?_
  refine lv_iload_n hx hb dX1_ownerOf_12 rfl (lv_at hl 2 rfl) ?_
  refine lv_bipush (v := nI 16) hx hb dX1_ownerOf_13 (by decide) ?_
  refine W.eq (g2 := F0 m 15 ls [.int (zI ((16 : Nat) : Int)), .int (zI y), .ref a1]) (by simp only [zI_nat]) ?_
  refine gZmul (a := y) (b := ((16 : Nat) : Int)) hx hb dX1_ownerOf_15 ?_
  refine lv_iload_n hx hb dX1_ownerOf_16 rfl (lv_at hl 1 rfl) ?_
  refine gZadd (a := y * ((16 : Nat) : Int)) (b := x) hx hb dX1_ownerOf_17 ?_
  refine W.eq (g2 := F0 m 18 ls [.int (nI ((y * 16 + x).toNat)), .ref a1]) (by rw [show (zI ((y * ((16 : Nat) : Int)) + x) : Int32) = nI ((y * 16 + x).toNat) from by exact zI_toNat (by omega)]) ?_
  refine gNald (k := (y * 16 + x).toNat) hx hb hK hP 1 0 rfl rfl (by omega) (by first | decide | omega) dX1_ownerOf_18 ?_
  refine lv_goto (tgt := 23) hx hb dX1_ownerOf_19 (by decide) ?_
  exact gRi F dX1_ownerOf_23 (rfl) () (by first | (rw [oAt, if_pos (by assumption), zI_nat]) | (rw [oAt, if_neg (by assumption)])) hP hD hS (Nat.le_refl _) (Nat.le_refl _)

set_option maxHeartbeats 4000000 in
set_option maxRecDepth 100000 in
theorem c_ownerOf_n (l : Launch) (G : gG) (h : Nat) (a1 : Nat) (a2 : Nat) (a3 : Nat) (ow : Nat → Nat) (he : Nat → Nat) (co : Nat → Nat) (pr : Nat) (tx : Nat) (sa : Nat) (fl : Nat) (lo : Nat) (x : Nat) (y : Nat) (hx : x < 16) (hy : y < 16) : gMi (S := Unit) l yX1_ownerOf wsX1_ownerOf { frames := 1, cells := 0, slots := 0, locals := 21 } G [.ref h, .int (nI x), .int (nI y)] [(h, .inr (1, [.ref a1, .ref a2, .ref a3, .int (nI pr), .int (nI tx), .int (nI sa), .int (nI fl), .int (nI lo)])), (a1, .inl (G.2.1, 256, .inl (gn ow))), (a2, .inl (G.2.1, 256, .inl (gn he))), (a3, .inl (G.2.1, 8, .inl (gn co)))] (fun (r : Int32) (u : Unit) => (r = nI (ow (y * 16 + x)))) (fun u => [(h, .inr (1, [.ref a1, .ref a2, .ref a3, .int (nI pr), .int (nI tx), .int (nI sa), .int (nI fl), .int (nI lo)])), (a1, .inl (G.2.1, 256, .inl (gn ow))), (a2, .inl (G.2.1, 256, .inl (gn he))), (a3, .inl (G.2.1, 8, .inl (gn co)))]) 0 0 := by
  refine gMet_mk (cc := cX1_ownerOf) (nL := 3) (ret := (some .int)) (Qc := fun A => va_Qi (S := Unit) (fun (r : Int32) (u : Unit) => (r = nI (ow (y * 16 + x)))) (gB G A (fun u => [(h, .inr (1, [.ref a1, .ref a2, .ref a3, .int (nI pr), .int (nI tx), .int (nI sa), .int (nI fl), .int (nI lo)])), (a1, .inl (G.2.1, 256, .inl (gn ow))), (a2, .inl (G.2.1, 256, .inl (gn he))), (a3, .inl (G.2.1, 8, .inl (gn co)))])) A) (by decide) rfl (Nat.le_of_ble_eq_true rfl) ?_
  intro p e s m args below meth c A F ls hl hP hD hS
  have hx := F.1
  have hb := F.2.1
  have hts := F.2.2.2.2.2.2.1
  have hown : s.vm.findClass RX1 = some m.cls := F.2.2.2.2.2.1
  have hKK := F.2.2.2.2.2.2.2.2.1
  have hK := hKK.1
  have hin0 := F.2.2.2.2.2.2.2.1
  have hi1 : ∀ w ∈ u_ws RX1 TX1 8, w ∈ wsX1_ownerOf := by decide +kernel
  have hl : lv_has ls 3 [(0, .ref h), (1, .int (nI x)), (2, .int (nI y))] := hl
  generalize hH : s.heap = H at hP ⊢
  have hS : va_S A s.heap H [] := by rw [← hH]; exact va_S.rf
  generalize hLo : ([] : List Loc) = locs at hS ⊢
  refine lv_iload_n hx hb dX1_ownerOf_0 rfl (lv_at hl 1 rfl) ?_
  refine lv_iload_n hx hb dX1_ownerOf_1 rfl (lv_at hl 2 rfl) ?_
  refine W.eq (g2 := F0 m 2 ls [.int (zI ((y : Nat) : Int)), .int (zI ((x : Nat) : Int))]) (by simp only [zI_nat, zI_neg1]) ?_
  refine gCi F (gRunSN (own := RX1) (host := RX3) (bytes := cX3_isCell) (n := 2) (As := [.int (zI ((x : Nat) : Int)), .int (zI ((y : Nat) : Int))]) (rest := []) F (c_X3_isCell l G ((x : Nat) : Int) ((y : Nat) : Int) (by first | assumption | omega) (by first | assumption | omega) H.size) gX1_ownerOf_X3_isCell_n49 (by decide +kernel) (by decide +kernel) (by decide +kernel) rfl rfl rfl rfl (by decide +kernel) rfl ⟨Nat.le_of_ble_eq_true rfl, Nat.le_of_ble_eq_true rfl⟩ hP hD (lit := [(h, .inr (1, [.ref a1, .ref a2, .ref a3, .int (nI pr), .int (nI tx), .int (nI sa), .int (nI fl), .int (nI lo)])), (a1, .inl (G.2.1, 256, .inl (gn ow))), (a2, .inl (G.2.1, 256, .inl (gn he))), (a3, .inl (G.2.1, 8, .inl (gn co)))]) (wt := []) (wc := []) (isC := []) rfl (by decide) rfl hl.1 (Nat.le_of_ble_eq_true rfl) dX1_ownerOf_2 ⟨Nat.le_of_ble_eq_true rfl, Nat.le_of_ble_eq_true rfl⟩) hP hD hS (lit := [(h, .inr (1, [.ref a1, .ref a2, .ref a3, .int (nI pr), .int (nI tx), .int (nI sa), .int (nI fl), .int (nI lo)])), (a1, .inl (G.2.1, 256, .inl (gn ow))), (a2, .inl (G.2.1, 256, .inl (gn he))), (a3, .inl (G.2.1, 8, .inl (gn co)))]) (wt := []) (wc := []) (wr := [(h, .inr (1, [.ref a1, .ref a2, .ref a3, .int (nI pr), .int (nI tx), .int (nI sa), .int (nI fl), .int (nI lo)])), (a1, .inl (G.2.1, 256, .inl (gn ow))), (a2, .inl (G.2.1, 256, .inl (gn he))), (a3, .inl (G.2.1, 8, .inl (gn co)))]) (isC := []) (isR := [0, 1, 2, 3]) rfl rfl (by decide) (by decide) (fun r2 u H locs hp2 hP hD hS => ?_)
  subst hp2
  have hP : va_P G.1 vwCl [(h, .inr (1, [.ref a1, .ref a2, .ref a3, .int (nI pr), .int (nI tx), .int (nI sa), .int (nI fl), .int (nI lo)])), (a1, .inl (G.2.1, 256, .inl (gn ow))), (a2, .inl (G.2.1, 256, .inl (gn he))), (a3, .inl (G.2.1, 8, .inl (gn co)))] H := hP
  have hD : va_D A [(h, .inr (1, [.ref a1, .ref a2, .ref a3, .int (nI pr), .int (nI tx), .int (nI sa), .int (nI fl), .int (nI lo)])), (a1, .inl (G.2.1, 256, .inl (gn ow))), (a2, .inl (G.2.1, 256, .inl (gn he))), (a3, .inl (G.2.1, 8, .inl (gn co)))] := hD
  refine gIfB_eq (P := (0 ≤ ((x : Nat) : Int) ∧ ((x : Nat) : Int) < 16 ∧ 0 ≤ ((y : Nat) : Int) ∧ ((y : Nat) : Int) < 16)) (tgt := 22) hx hb dX1_ownerOf_5 (by decide) (fun c5 => ?_) (fun c5 => ?_)
  · skip
    exfalso; omega
  refine lv_aload_n hx hb dX1_ownerOf_8 rfl (lv_at hl 0 rfl) ?_
  refine va_get (D := G.1) (ci := 1) (v := .ref a1) (C := RX1) (T := TX1) (N := 8) hx hb hts hi1 hown hK hP 0 rfl rfl 0 (by decide) (hts (.fieldLink RX1 9 "LandQuarters$Land" "owners" "[I") (by decide +kernel)) (fun _ h9 => h9) rfl dX1_ownerOf_9 ?_
  refine lv_iload_n hx hb dX1_ownerOf_12 rfl (lv_at hl 2 rfl) ?_
  refine lv_bipush (v := nI 16) hx hb dX1_ownerOf_13 (by decide) ?_
  refine gImul (a := y) (b := 16) hx hb dX1_ownerOf_15 ?_
  refine lv_iload_n hx hb dX1_ownerOf_16 rfl (lv_at hl 1 rfl) ?_
  refine gIadd (a := y * 16) (b := x) hx hb dX1_ownerOf_17 ?_
  refine gNald (k := y * 16 + x) hx hb hK hP 1 0 rfl rfl (by omega) (by first | decide | omega) dX1_ownerOf_18 ?_
  refine lv_goto (tgt := 23) hx hb dX1_ownerOf_19 (by decide) ?_
  exact gRi F dX1_ownerOf_23 (rfl) () (rfl) hP hD hS (Nat.le_refl _) (Nat.le_refl _)

set_option maxHeartbeats 4000000 in
set_option maxRecDepth 100000 in
theorem c_heightOf_n (l : Launch) (G : gG) (h : Nat) (a1 : Nat) (a2 : Nat) (a3 : Nat) (ow : Nat → Nat) (he : Nat → Nat) (co : Nat → Nat) (pr : Nat) (tx : Nat) (sa : Nat) (fl : Nat) (lo : Nat) (x : Nat) (y : Nat) (hx : x < 16) (hy : y < 16) : gMi (S := Unit) l yX1_heightOf wsX1_heightOf { frames := 1, cells := 0, slots := 0, locals := 21 } G [.ref h, .int (nI x), .int (nI y)] [(h, .inr (1, [.ref a1, .ref a2, .ref a3, .int (nI pr), .int (nI tx), .int (nI sa), .int (nI fl), .int (nI lo)])), (a1, .inl (G.2.1, 256, .inl (gn ow))), (a2, .inl (G.2.1, 256, .inl (gn he))), (a3, .inl (G.2.1, 8, .inl (gn co)))] (fun (r : Int32) (u : Unit) => (r = nI (he (y * 16 + x)))) (fun u => [(h, .inr (1, [.ref a1, .ref a2, .ref a3, .int (nI pr), .int (nI tx), .int (nI sa), .int (nI fl), .int (nI lo)])), (a1, .inl (G.2.1, 256, .inl (gn ow))), (a2, .inl (G.2.1, 256, .inl (gn he))), (a3, .inl (G.2.1, 8, .inl (gn co)))]) 0 0 := by
  refine gMet_mk (cc := cX1_heightOf) (nL := 3) (ret := (some .int)) (Qc := fun A => va_Qi (S := Unit) (fun (r : Int32) (u : Unit) => (r = nI (he (y * 16 + x)))) (gB G A (fun u => [(h, .inr (1, [.ref a1, .ref a2, .ref a3, .int (nI pr), .int (nI tx), .int (nI sa), .int (nI fl), .int (nI lo)])), (a1, .inl (G.2.1, 256, .inl (gn ow))), (a2, .inl (G.2.1, 256, .inl (gn he))), (a3, .inl (G.2.1, 8, .inl (gn co)))])) A) (by decide) rfl (Nat.le_of_ble_eq_true rfl) ?_
  intro p e s m args below meth c A F ls hl hP hD hS
  have hx := F.1
  have hb := F.2.1
  have hts := F.2.2.2.2.2.2.1
  have hown : s.vm.findClass RX1 = some m.cls := F.2.2.2.2.2.1
  have hKK := F.2.2.2.2.2.2.2.2.1
  have hK := hKK.1
  have hin0 := F.2.2.2.2.2.2.2.1
  have hi1 : ∀ w ∈ u_ws RX1 TX1 8, w ∈ wsX1_heightOf := by decide +kernel
  have hl : lv_has ls 3 [(0, .ref h), (1, .int (nI x)), (2, .int (nI y))] := hl
  generalize hH : s.heap = H at hP ⊢
  have hS : va_S A s.heap H [] := by rw [← hH]; exact va_S.rf
  generalize hLo : ([] : List Loc) = locs at hS ⊢
  refine lv_iload_n hx hb dX1_heightOf_0 rfl (lv_at hl 1 rfl) ?_
  refine lv_iload_n hx hb dX1_heightOf_1 rfl (lv_at hl 2 rfl) ?_
  refine W.eq (g2 := F0 m 2 ls [.int (zI ((y : Nat) : Int)), .int (zI ((x : Nat) : Int))]) (by simp only [zI_nat, zI_neg1]) ?_
  refine gCi F (gRunSN (own := RX1) (host := RX3) (bytes := cX3_isCell) (n := 2) (As := [.int (zI ((x : Nat) : Int)), .int (zI ((y : Nat) : Int))]) (rest := []) F (c_X3_isCell l G ((x : Nat) : Int) ((y : Nat) : Int) (by first | assumption | omega) (by first | assumption | omega) H.size) gX1_heightOf_X3_isCell_n49 (by decide +kernel) (by decide +kernel) (by decide +kernel) rfl rfl rfl rfl (by decide +kernel) rfl ⟨Nat.le_of_ble_eq_true rfl, Nat.le_of_ble_eq_true rfl⟩ hP hD (lit := [(h, .inr (1, [.ref a1, .ref a2, .ref a3, .int (nI pr), .int (nI tx), .int (nI sa), .int (nI fl), .int (nI lo)])), (a1, .inl (G.2.1, 256, .inl (gn ow))), (a2, .inl (G.2.1, 256, .inl (gn he))), (a3, .inl (G.2.1, 8, .inl (gn co)))]) (wt := []) (wc := []) (isC := []) rfl (by decide) rfl hl.1 (Nat.le_of_ble_eq_true rfl) dX1_heightOf_2 ⟨Nat.le_of_ble_eq_true rfl, Nat.le_of_ble_eq_true rfl⟩) hP hD hS (lit := [(h, .inr (1, [.ref a1, .ref a2, .ref a3, .int (nI pr), .int (nI tx), .int (nI sa), .int (nI fl), .int (nI lo)])), (a1, .inl (G.2.1, 256, .inl (gn ow))), (a2, .inl (G.2.1, 256, .inl (gn he))), (a3, .inl (G.2.1, 8, .inl (gn co)))]) (wt := []) (wc := []) (wr := [(h, .inr (1, [.ref a1, .ref a2, .ref a3, .int (nI pr), .int (nI tx), .int (nI sa), .int (nI fl), .int (nI lo)])), (a1, .inl (G.2.1, 256, .inl (gn ow))), (a2, .inl (G.2.1, 256, .inl (gn he))), (a3, .inl (G.2.1, 8, .inl (gn co)))]) (isC := []) (isR := [0, 1, 2, 3]) rfl rfl (by decide) (by decide) (fun r2 u H locs hp2 hP hD hS => ?_)
  subst hp2
  have hP : va_P G.1 vwCl [(h, .inr (1, [.ref a1, .ref a2, .ref a3, .int (nI pr), .int (nI tx), .int (nI sa), .int (nI fl), .int (nI lo)])), (a1, .inl (G.2.1, 256, .inl (gn ow))), (a2, .inl (G.2.1, 256, .inl (gn he))), (a3, .inl (G.2.1, 8, .inl (gn co)))] H := hP
  have hD : va_D A [(h, .inr (1, [.ref a1, .ref a2, .ref a3, .int (nI pr), .int (nI tx), .int (nI sa), .int (nI fl), .int (nI lo)])), (a1, .inl (G.2.1, 256, .inl (gn ow))), (a2, .inl (G.2.1, 256, .inl (gn he))), (a3, .inl (G.2.1, 8, .inl (gn co)))] := hD
  refine gIfB_eq (P := (0 ≤ ((x : Nat) : Int) ∧ ((x : Nat) : Int) < 16 ∧ 0 ≤ ((y : Nat) : Int) ∧ ((y : Nat) : Int) < 16)) (tgt := 22) hx hb dX1_heightOf_5 (by decide) (fun c5 => ?_) (fun c5 => ?_)
  · skip
    exfalso; omega
  refine lv_aload_n hx hb dX1_heightOf_8 rfl (lv_at hl 0 rfl) ?_
  refine va_get (D := G.1) (ci := 1) (v := .ref a2) (C := RX1) (T := TX1) (N := 8) hx hb hts hi1 hown hK hP 0 rfl rfl 1 (by decide) (hts (.fieldLink RX1 15 "LandQuarters$Land" "heights" "[I") (by decide +kernel)) (fun _ h9 => h9) rfl dX1_heightOf_9 ?_
  refine lv_iload_n hx hb dX1_heightOf_12 rfl (lv_at hl 2 rfl) ?_
  refine lv_bipush (v := nI 16) hx hb dX1_heightOf_13 (by decide) ?_
  refine gImul (a := y) (b := 16) hx hb dX1_heightOf_15 ?_
  refine lv_iload_n hx hb dX1_heightOf_16 rfl (lv_at hl 1 rfl) ?_
  refine gIadd (a := y * 16) (b := x) hx hb dX1_heightOf_17 ?_
  refine gNald (k := y * 16 + x) hx hb hK hP 2 0 rfl rfl (by omega) (by first | decide | omega) dX1_heightOf_18 ?_
  refine lv_goto (tgt := 23) hx hb dX1_heightOf_19 (by decide) ?_
  exact gRi F dX1_heightOf_23 (rfl) () (rfl) hP hD hS (Nat.le_refl _) (Nat.le_refl _)

set_option maxHeartbeats 4000000 in
set_option maxRecDepth 100000 in
theorem c_X1_purseOf (l : Launch) (G : gG) (h : Nat) (a1 : Nat) (a2 : Nat) (a3 : Nat) (ow : Nat → Nat) (he : Nat → Nat) (co : Nat → Nat) (pr : Nat) (tx : Nat) (sa : Nat) (fl : Nat) (lo : Nat) (o : Nat) (ho : o < 8) : gMi (S := Unit) l yX1_purseOf wsX1_purseOf { frames := 1, cells := 0, slots := 0, locals := 20 } G [.ref h, .int (nI o)] [(h, .inr (1, [.ref a1, .ref a2, .ref a3, .int (nI pr), .int (nI tx), .int (nI sa), .int (nI fl), .int (nI lo)])), (a1, .inl (G.2.1, 256, .inl (gn ow))), (a2, .inl (G.2.1, 256, .inl (gn he))), (a3, .inl (G.2.1, 8, .inl (gn co)))] (fun (r : Int32) (u : Unit) => (r = nI (co o))) (fun u => [(h, .inr (1, [.ref a1, .ref a2, .ref a3, .int (nI pr), .int (nI tx), .int (nI sa), .int (nI fl), .int (nI lo)])), (a1, .inl (G.2.1, 256, .inl (gn ow))), (a2, .inl (G.2.1, 256, .inl (gn he))), (a3, .inl (G.2.1, 8, .inl (gn co)))]) 0 0 := by
  refine gMet_mk (cc := cX1_purseOf) (nL := 2) (ret := (some .int)) (Qc := fun A => va_Qi (S := Unit) (fun (r : Int32) (u : Unit) => (r = nI (co o))) (gB G A (fun u => [(h, .inr (1, [.ref a1, .ref a2, .ref a3, .int (nI pr), .int (nI tx), .int (nI sa), .int (nI fl), .int (nI lo)])), (a1, .inl (G.2.1, 256, .inl (gn ow))), (a2, .inl (G.2.1, 256, .inl (gn he))), (a3, .inl (G.2.1, 8, .inl (gn co)))])) A) (by decide) rfl (Nat.le_of_ble_eq_true rfl) ?_
  intro p e s m args below meth c A F ls hl hP hD hS
  have hx := F.1
  have hb := F.2.1
  have hts := F.2.2.2.2.2.2.1
  have hown : s.vm.findClass RX1 = some m.cls := F.2.2.2.2.2.1
  have hKK := F.2.2.2.2.2.2.2.2.1
  have hK := hKK.1
  have hin0 := F.2.2.2.2.2.2.2.1
  have hi1 : ∀ w ∈ u_ws RX1 TX1 8, w ∈ wsX1_purseOf := by decide +kernel
  have hl : lv_has ls 2 [(0, .ref h), (1, .int (nI o))] := hl
  generalize hH : s.heap = H at hP ⊢
  have hS : va_S A s.heap H [] := by rw [← hH]; exact va_S.rf
  generalize hLo : ([] : List Loc) = locs at hS ⊢
  refine lv_iload_n hx hb dX1_purseOf_0 rfl (lv_at hl 1 rfl) ?_
  refine W.eq (g2 := F0 m 1 ls [.int (zI ((o : Nat) : Int))]) (by simp only [zI_nat, zI_neg1]) ?_
  refine gCi F (gRunSN (own := RX1) (host := RX3) (bytes := cX3_isOwner) (n := 1) (As := [.int (zI ((o : Nat) : Int))]) (rest := []) F (c_X3_isOwner l G ((o : Nat) : Int) (by first | assumption | omega) H.size) gX1_purseOf_X3_isOwner_n53 (by decide +kernel) (by decide +kernel) (by decide +kernel) rfl rfl rfl rfl (by decide +kernel) rfl ⟨Nat.le_of_ble_eq_true rfl, Nat.le_of_ble_eq_true rfl⟩ hP hD (lit := [(h, .inr (1, [.ref a1, .ref a2, .ref a3, .int (nI pr), .int (nI tx), .int (nI sa), .int (nI fl), .int (nI lo)])), (a1, .inl (G.2.1, 256, .inl (gn ow))), (a2, .inl (G.2.1, 256, .inl (gn he))), (a3, .inl (G.2.1, 8, .inl (gn co)))]) (wt := []) (wc := []) (isC := []) rfl (by decide) rfl hl.1 (Nat.le_of_ble_eq_true rfl) dX1_purseOf_1 ⟨Nat.le_of_ble_eq_true rfl, Nat.le_of_ble_eq_true rfl⟩) hP hD hS (lit := [(h, .inr (1, [.ref a1, .ref a2, .ref a3, .int (nI pr), .int (nI tx), .int (nI sa), .int (nI fl), .int (nI lo)])), (a1, .inl (G.2.1, 256, .inl (gn ow))), (a2, .inl (G.2.1, 256, .inl (gn he))), (a3, .inl (G.2.1, 8, .inl (gn co)))]) (wt := []) (wc := []) (wr := [(h, .inr (1, [.ref a1, .ref a2, .ref a3, .int (nI pr), .int (nI tx), .int (nI sa), .int (nI fl), .int (nI lo)])), (a1, .inl (G.2.1, 256, .inl (gn ow))), (a2, .inl (G.2.1, 256, .inl (gn he))), (a3, .inl (G.2.1, 8, .inl (gn co)))]) (isC := []) (isR := [0, 1, 2, 3]) rfl rfl (by decide) (by decide) (fun r1 u H locs hp1 hP hD hS => ?_)
  subst hp1
  have hP : va_P G.1 vwCl [(h, .inr (1, [.ref a1, .ref a2, .ref a3, .int (nI pr), .int (nI tx), .int (nI sa), .int (nI fl), .int (nI lo)])), (a1, .inl (G.2.1, 256, .inl (gn ow))), (a2, .inl (G.2.1, 256, .inl (gn he))), (a3, .inl (G.2.1, 8, .inl (gn co)))] H := hP
  have hD : va_D A [(h, .inr (1, [.ref a1, .ref a2, .ref a3, .int (nI pr), .int (nI tx), .int (nI sa), .int (nI fl), .int (nI lo)])), (a1, .inl (G.2.1, 256, .inl (gn ow))), (a2, .inl (G.2.1, 256, .inl (gn he))), (a3, .inl (G.2.1, 8, .inl (gn co)))] := hD
  refine gIfB_eq (P := (0 ≤ ((o : Nat) : Int) ∧ ((o : Nat) : Int) < 8)) (tgt := 16) hx hb dX1_purseOf_4 (by decide) (fun c4 => ?_) (fun c4 => ?_)
  · skip
    exfalso; omega
  refine lv_aload_n hx hb dX1_purseOf_7 rfl (lv_at hl 0 rfl) ?_
  refine va_get (D := G.1) (ci := 1) (v := .ref a3) (C := RX1) (T := TX1) (N := 8) hx hb hts hi1 hown hK hP 0 rfl rfl 2 (by decide) (hts (.fieldLink RX1 18 "LandQuarters$Land" "coins" "[I") (by decide +kernel)) (fun _ h9 => h9) rfl dX1_purseOf_8 ?_
  refine lv_iload_n hx hb dX1_purseOf_11 rfl (lv_at hl 1 rfl) ?_
  refine gNald (k := o) hx hb hK hP 3 0 rfl rfl (by omega) (by first | decide | omega) dX1_purseOf_12 ?_
  refine lv_goto (tgt := 17) hx hb dX1_purseOf_13 (by decide) ?_
  exact gRi F dX1_purseOf_17 (rfl) () (rfl) hP hD hS (Nat.le_refl _) (Nat.le_refl _)

set_option maxHeartbeats 4000000 in
set_option maxRecDepth 100000 in
theorem c_X1_give (l : Launch) (G : gG) (h : Nat) (a1 : Nat) (a2 : Nat) (a3 : Nat) (ow : Nat → Nat) (he : Nat → Nat) (co : Nat → Nat) (pr : Nat) (tx : Nat) (sa : Nat) (fl : Nat) (lo : Nat) (x : Nat) (y : Nat) (z : Nat) (o : Nat) (hw : ∀ k, ow k < 8) (hq : sqN x y z) (ho : o < 8) : gMi (S := Unit) l yX1_give wsX1_give { frames := 1, cells := 0, slots := 0, locals := 24 } G [.ref h, .int (nI x), .int (nI y), .int (nI z), .int (nI o)] [(h, .inr (1, [.ref a1, .ref a2, .ref a3, .int (nI pr), .int (nI tx), .int (nI sa), .int (nI fl), .int (nI lo)])), (a1, .inl (G.2.1, 256, .inl (gn ow))), (a2, .inl (G.2.1, 256, .inl (gn he))), (a3, .inl (G.2.1, 8, .inl (gn co)))] (fun (r : Int32) (u : Unit) => (r = nI (sSq (fun a => if ow a = o then 0 else 1) (y * 16 + x) z (z * z)))) (fun u => [(h, .inr (1, [.ref a1, .ref a2, .ref a3, .int (nI pr), .int (nI tx), .int (nI sa), .int (nI fl), .int (nI lo)])), (a1, .inl (G.2.1, 256, .inl (gn (gvOw ow x y z o)))), (a2, .inl (G.2.1, 256, .inl (gn he))), (a3, .inl (G.2.1, 8, .inl (gn co)))]) 0 0 := by
  refine gMet_mk (cc := cX1_give) (nL := 8) (ret := (some .int)) (Qc := fun A => va_Qi (S := Unit) (fun (r : Int32) (u : Unit) => (r = nI (sSq (fun a => if ow a = o then 0 else 1) (y * 16 + x) z (z * z)))) (gB G A (fun u => [(h, .inr (1, [.ref a1, .ref a2, .ref a3, .int (nI pr), .int (nI tx), .int (nI sa), .int (nI fl), .int (nI lo)])), (a1, .inl (G.2.1, 256, .inl (gn (gvOw ow x y z o)))), (a2, .inl (G.2.1, 256, .inl (gn he))), (a3, .inl (G.2.1, 8, .inl (gn co)))])) A) (by decide) rfl (Nat.le_of_ble_eq_true rfl) ?_
  intro p e s m args below meth c A F ls hl hP hD hS
  have hx := F.1
  have hb := F.2.1
  have hts := F.2.2.2.2.2.2.1
  have hown : s.vm.findClass RX1 = some m.cls := F.2.2.2.2.2.1
  have hKK := F.2.2.2.2.2.2.2.2.1
  have hK := hKK.1
  have hin0 := F.2.2.2.2.2.2.2.1
  have hi1 : ∀ w ∈ u_ws RX1 TX1 8, w ∈ wsX1_give := by decide +kernel
  have hl : lv_has ls 8 [(0, .ref h), (1, .int (nI x)), (2, .int (nI y)), (3, .int (nI z)), (4, .int (nI o))] := hl
  have hq1 := sq_le hq
  have hq2 := sq_cast hq
  generalize hH : s.heap = H at hP ⊢
  have hS : va_S A s.heap H [] := by rw [← hH]; exact va_S.rf
  generalize hLo : ([] : List Loc) = locs at hS ⊢
  refine lv_iconst (v := nI 0) hx hb dX1_give_0 (by decide) ?_
  refine lv_istore (lv' := [(5, .int (nI 0)), (0, .ref h), (1, .int (nI x)), (2, .int (nI y)), (3, .int (nI z)), (4, .int (nI o))]) hx hb dX1_give_1 hl (by decide) rfl (fun ls hl => ?_)
  refine lv_iload_n hx hb dX1_give_3 rfl (lv_at hl 2 rfl) ?_
  refine lv_iload_n hx hb dX1_give_4 rfl (lv_at hl 3 rfl) ?_
  refine lv_iload_n hx hb dX1_give_5 rfl (lv_at hl 4 rfl) ?_
  refine W.eq (g2 := F0 m 6 ls [.int (zI ((z : Nat) : Int)), .int (zI ((y : Nat) : Int)), .int (zI ((x : Nat) : Int))]) (by simp only [zI_nat, zI_neg1]) ?_
  refine gCi F (gRunSN (own := RX1) (host := RX3) (bytes := cX3_isSquare) (n := 3) (As := [.int (zI ((x : Nat) : Int)), .int (zI ((y : Nat) : Int)), .int (zI ((z : Nat) : Int))]) (rest := []) F (c_X3_isSquare l G ((x : Nat) : Int) ((y : Nat) : Int) ((z : Nat) : Int) (by first | assumption | omega) (by first | assumption | omega) (by first | assumption | omega) H.size) gX1_give_X3_isSquare_n57 (by decide +kernel) (by decide +kernel) (by decide +kernel) rfl rfl rfl rfl (by decide +kernel) rfl ⟨Nat.le_of_ble_eq_true rfl, Nat.le_of_ble_eq_true rfl⟩ hP hD (lit := [(h, .inr (1, [.ref a1, .ref a2, .ref a3, .int (nI pr), .int (nI tx), .int (nI sa), .int (nI fl), .int (nI lo)])), (a1, .inl (G.2.1, 256, .inl (gn ow))), (a2, .inl (G.2.1, 256, .inl (gn he))), (a3, .inl (G.2.1, 8, .inl (gn co)))]) (wt := []) (wc := []) (isC := []) rfl (by decide) rfl hl.1 (Nat.le_of_ble_eq_true rfl) dX1_give_6 ⟨Nat.le_of_ble_eq_true rfl, Nat.le_of_ble_eq_true rfl⟩) hP hD hS (lit := [(h, .inr (1, [.ref a1, .ref a2, .ref a3, .int (nI pr), .int (nI tx), .int (nI sa), .int (nI fl), .int (nI lo)])), (a1, .inl (G.2.1, 256, .inl (gn ow))), (a2, .inl (G.2.1, 256, .inl (gn he))), (a3, .inl (G.2.1, 8, .inl (gn co)))]) (wt := []) (wc := []) (wr := [(h, .inr (1, [.ref a1, .ref a2, .ref a3, .int (nI pr), .int (nI tx), .int (nI sa), .int (nI fl), .int (nI lo)])), (a1, .inl (G.2.1, 256, .inl (gn ow))), (a2, .inl (G.2.1, 256, .inl (gn he))), (a3, .inl (G.2.1, 8, .inl (gn co)))]) (isC := []) (isR := [0, 1, 2, 3]) rfl rfl (by decide) (by decide) (fun r6 u H locs hp6 hP hD hS => ?_)
  subst hp6
  have hP : va_P G.1 vwCl [(h, .inr (1, [.ref a1, .ref a2, .ref a3, .int (nI pr), .int (nI tx), .int (nI sa), .int (nI fl), .int (nI lo)])), (a1, .inl (G.2.1, 256, .inl (gn ow))), (a2, .inl (G.2.1, 256, .inl (gn he))), (a3, .inl (G.2.1, 8, .inl (gn co)))] H := hP
  have hD : va_D A [(h, .inr (1, [.ref a1, .ref a2, .ref a3, .int (nI pr), .int (nI tx), .int (nI sa), .int (nI fl), .int (nI lo)])), (a1, .inl (G.2.1, 256, .inl (gn ow))), (a2, .inl (G.2.1, 256, .inl (gn he))), (a3, .inl (G.2.1, 8, .inl (gn co)))] := hD
  refine gIfB_ne (P := ((((z : Nat) : Int) = 1 ∨ ((z : Nat) : Int) = 2 ∨ ((z : Nat) : Int) = 4 ∨ ((z : Nat) : Int) = 8 ∨ ((z : Nat) : Int) = 16) ∧ 0 ≤ ((x : Nat) : Int) ∧ ((x : Nat) : Int) < 16 ∧ 0 ≤ ((y : Nat) : Int) ∧ ((y : Nat) : Int) < 16 ∧ ((x : Nat) : Int) % ((z : Nat) : Int) = 0 ∧ ((y : Nat) : Int) % ((z : Nat) : Int) = 0)) (tgt := 15) hx hb dX1_give_9 (by decide) (fun c9 => ?_) (fun c9 => ?_)
  · skip
    refine lv_iload_n hx hb dX1_give_15 rfl (lv_at hl 3 rfl) ?_
    refine lv_istore (lv' := [(6, .int (nI y)), (5, .int (nI 0)), (0, .ref h), (1, .int (nI x)), (2, .int (nI y)), (3, .int (nI z)), (4, .int (nI o))]) hx hb dX1_give_16 hl (by decide) rfl (fun ls hl => ?_)
    have L18 : ∀ (fuel : Nat) (i : Nat), z - i < fuel → (i ≤ z) → ∀ (H : Heap) (locs : List Loc), va_P G.1 vwCl [(h, .inr (1, [.ref a1, .ref a2, .ref a3, .int (nI pr), .int (nI tx), .int (nI sa), .int (nI fl), .int (nI lo)])), (a1, .inl (G.2.1, 256, .inl (gn (fun k => if inSqP x y z i 0 k then o else ow k)))), (a2, .inl (G.2.1, 256, .inl (gn he))), (a3, .inl (G.2.1, 8, .inl (gn co)))] H → va_D A [(h, .inr (1, [.ref a1, .ref a2, .ref a3, .int (nI pr), .int (nI tx), .int (nI sa), .int (nI fl), .int (nI lo)])), (a1, .inl (G.2.1, 256, .inl (gn (fun k => if inSqP x y z i 0 k then o else ow k)))), (a2, .inl (G.2.1, 256, .inl (gn he))), (a3, .inl (G.2.1, 8, .inl (gn co)))] → va_S A s.heap H locs → ∀ (ls : Array Slot), lv_has ls 8 [(6, .int (nI (y + i))), (5, .int (nI (sSq (fun a => if ow a = o then 0 else 1) (y * 16 + x) z (i * z)))), (0, .ref h), (1, .int (nI x)), (2, .int (nI y)), (3, .int (nI z)), (4, .int (nI o))] → W p l e ({ frames := 1, cells := 0, slots := 0, locals := 24 } : Room) s m args below meth c H locs 0 0 (MQ below (va_Qi (S := Unit) (fun (r : Int32) (u : Unit) => (r = nI (sSq (fun a => if ow a = o then 0 else 1) (y * 16 + x) z (z * z)))) (gB G A (fun u => [(h, .inr (1, [.ref a1, .ref a2, .ref a3, .int (nI pr), .int (nI tx), .int (nI sa), .int (nI fl), .int (nI lo)])), (a1, .inl (G.2.1, 256, .inl (gn (gvOw ow x y z o)))), (a2, .inl (G.2.1, 256, .inl (gn he))), (a3, .inl (G.2.1, 8, .inl (gn co)))])) A) args s 0 0 A) (F0 m 18 ls []) := by
      intro fuel
      induction fuel with
      | zero => intro i hme; exact absurd hme (Nat.not_lt_zero _)
      | succ fuel ih18 =>
        intro i hme hi H locs hP hD hS ls hl
        refine lv_iload hx hb dX1_give_18 (lv_at hl 0 rfl) ?_
        refine lv_iload_n hx hb dX1_give_20 rfl (lv_at hl 4 rfl) ?_
        refine lv_iload_n hx hb dX1_give_21 rfl (lv_at hl 5 rfl) ?_
        refine gIadd (a := y) (b := z) hx hb dX1_give_22 ?_
        refine gIcmp_ge (a := y + i) (b := y + z) (tgt := 85) hx hb dX1_give_23 (by decide) (by omega) (by omega) (fun c23 => ?_) (fun c23 => ?_)
        · skip
          refine lv_iload hx hb dX1_give_85 (lv_at hl 1 rfl) ?_
          have hP := gEqN (q0 := 1) (f := fun k => if inSqP x y z i 0 k then o else ow k) (g := gvOw ow x y z o) rfl (by intro k hk; (try simp only [gu_if, gvOw]); (repeat' split) <;> first | rfl | omega) hP
          have hD := va_D.set (p := 1) (e := .inl (G.2.1, 256, .inl (gn (gvOw ow x y z o)))) hD rfl
          have hP : va_P G.1 vwCl [(h, .inr (1, [.ref a1, .ref a2, .ref a3, .int (nI pr), .int (nI tx), .int (nI sa), .int (nI fl), .int (nI lo)])), (a1, .inl (G.2.1, 256, .inl (gn (gvOw ow x y z o)))), (a2, .inl (G.2.1, 256, .inl (gn he))), (a3, .inl (G.2.1, 8, .inl (gn co)))] H := hP
          have hD : va_D A [(h, .inr (1, [.ref a1, .ref a2, .ref a3, .int (nI pr), .int (nI tx), .int (nI sa), .int (nI fl), .int (nI lo)])), (a1, .inl (G.2.1, 256, .inl (gn (gvOw ow x y z o)))), (a2, .inl (G.2.1, 256, .inl (gn he))), (a3, .inl (G.2.1, 8, .inl (gn co)))] := hD
          exact gRi F dX1_give_87 (rfl) () (by rw [show i = z by omega]) hP hD hS (Nat.le_refl _) (Nat.le_refl _)
        refine lv_iload_n hx hb dX1_give_26 rfl (lv_at hl 3 rfl) ?_
        refine lv_istore (lv' := [(7, .int (nI x)), (6, .int (nI (y + i))), (5, .int (nI (sSq (fun a => if ow a = o then 0 else 1) (y * 16 + x) z (i * z)))), (0, .ref h), (1, .int (nI x)), (2, .int (nI y)), (3, .int (nI z)), (4, .int (nI o))]) hx hb dX1_give_27 hl (by decide) rfl (fun ls hl => ?_)
        have L29 : ∀ (fuel : Nat) (j : Nat), z - j < fuel → (j ≤ z) → ∀ (H : Heap) (locs : List Loc), va_P G.1 vwCl [(h, .inr (1, [.ref a1, .ref a2, .ref a3, .int (nI pr), .int (nI tx), .int (nI sa), .int (nI fl), .int (nI lo)])), (a1, .inl (G.2.1, 256, .inl (gn (fun k => if inSqP x y z i j k then o else ow k)))), (a2, .inl (G.2.1, 256, .inl (gn he))), (a3, .inl (G.2.1, 8, .inl (gn co)))] H → va_D A [(h, .inr (1, [.ref a1, .ref a2, .ref a3, .int (nI pr), .int (nI tx), .int (nI sa), .int (nI fl), .int (nI lo)])), (a1, .inl (G.2.1, 256, .inl (gn (fun k => if inSqP x y z i j k then o else ow k)))), (a2, .inl (G.2.1, 256, .inl (gn he))), (a3, .inl (G.2.1, 8, .inl (gn co)))] → va_S A s.heap H locs → ∀ (ls : Array Slot), lv_has ls 8 [(7, .int (nI (x + j))), (6, .int (nI (y + i))), (5, .int (nI (sSq (fun a => if ow a = o then 0 else 1) (y * 16 + x) z (i * z + j)))), (0, .ref h), (1, .int (nI x)), (2, .int (nI y)), (3, .int (nI z)), (4, .int (nI o))] → W p l e ({ frames := 1, cells := 0, slots := 0, locals := 24 } : Room) s m args below meth c H locs 0 0 (MQ below (va_Qi (S := Unit) (fun (r : Int32) (u : Unit) => (r = nI (sSq (fun a => if ow a = o then 0 else 1) (y * 16 + x) z (z * z)))) (gB G A (fun u => [(h, .inr (1, [.ref a1, .ref a2, .ref a3, .int (nI pr), .int (nI tx), .int (nI sa), .int (nI fl), .int (nI lo)])), (a1, .inl (G.2.1, 256, .inl (gn (gvOw ow x y z o)))), (a2, .inl (G.2.1, 256, .inl (gn he))), (a3, .inl (G.2.1, 8, .inl (gn co)))])) A) args s 0 0 A) (F0 m 29 ls []) := by
          intro fuel
          induction fuel with
          | zero => intro j hme; exact absurd hme (Nat.not_lt_zero _)
          | succ fuel ih29 =>
            intro j hme hj H locs hP hD hS ls hl
            refine lv_iload hx hb dX1_give_29 (lv_at hl 0 rfl) ?_
            refine lv_iload_n hx hb dX1_give_31 rfl (lv_at hl 4 rfl) ?_
            refine lv_iload_n hx hb dX1_give_32 rfl (lv_at hl 6 rfl) ?_
            refine gIadd (a := x) (b := z) hx hb dX1_give_33 ?_
            refine gIcmp_ge (a := x + j) (b := x + z) (tgt := 79) hx hb dX1_give_34 (by decide) (by omega) (by omega) (fun c34 => ?_) (fun c34 => ?_)
            · skip
              refine lv_iinc (v := nI (y + i + 1)) (lv' := [(6, .int (nI (y + i + 1))), (7, .int (nI (x + j))), (5, .int (nI (sSq (fun a => if ow a = o then 0 else 1) (y * 16 + x) z (i * z + j)))), (0, .ref h), (1, .int (nI x)), (2, .int (nI y)), (3, .int (nI z)), (4, .int (nI o))]) hx hb dX1_give_79 hl (k := 1) rfl (gInc_p _ rfl) (by decide) rfl (fun ls hl => ?_)
              refine lv_goto (tgt := 18) hx hb dX1_give_82 (by decide) ?_
              have hP := gEqN (q0 := 1) (f := fun k => if inSqP x y z i j k then o else ow k) (g := fun k => if inSqP x y z (i + 1) 0 k then o else ow k) rfl (by intro k hk; (try simp only [gu_if, gvOw]); (repeat' split) <;> first | rfl | omega) hP
              have hD := va_D.set (p := 1) (e := .inl (G.2.1, 256, .inl (gn (fun k => if inSqP x y z (i + 1) 0 k then o else ow k)))) hD rfl
              have hP : va_P G.1 vwCl [(h, .inr (1, [.ref a1, .ref a2, .ref a3, .int (nI pr), .int (nI tx), .int (nI sa), .int (nI fl), .int (nI lo)])), (a1, .inl (G.2.1, 256, .inl (gn (fun k => if inSqP x y z (i + 1) 0 k then o else ow k)))), (a2, .inl (G.2.1, 256, .inl (gn he))), (a3, .inl (G.2.1, 8, .inl (gn co)))] H := hP
              have hD : va_D A [(h, .inr (1, [.ref a1, .ref a2, .ref a3, .int (nI pr), .int (nI tx), .int (nI sa), .int (nI fl), .int (nI lo)])), (a1, .inl (G.2.1, 256, .inl (gn (fun k => if inSqP x y z (i + 1) 0 k then o else ow k)))), (a2, .inl (G.2.1, 256, .inl (gn he))), (a3, .inl (G.2.1, 8, .inl (gn co)))] := hD
              have hl : lv_has ls 8 [(6, .int (nI (y + i + 1))), (5, .int (nI (sSq (fun a => if ow a = o then 0 else 1) (y * 16 + x) z (i * z + j)))), (0, .ref h), (1, .int (nI x)), (2, .int (nI y)), (3, .int (nI z)), (4, .int (nI o))] := lv_sub hl [0, 2, 3, 4, 5, 6, 7] rfl
              have hle : (.int (nI (y + i + 1)) : Value) = .int (nI (y + (i + 1))) := by first | rfl | (congr 2; omega) | (rw [show j = z by omega, Nat.succ_mul])
              rw [hle] at hl
              have hle : (.int (nI (sSq (fun a => if ow a = o then 0 else 1) (y * 16 + x) z (i * z + j))) : Value) = .int (nI (sSq (fun a => if ow a = o then 0 else 1) (y * 16 + x) z ((i + 1) * z))) := by first | rfl | (congr 2; omega) | (rw [show j = z by omega, Nat.succ_mul])
              rw [hle] at hl
              have hy_1 : (i + 1) ≤ z := by omega
              exact ih18 (i + 1) (by omega) hy_1 H locs hP hD hS ls hl
            refine lv_aload_n hx hb dX1_give_37 rfl (lv_at hl 3 rfl) ?_
            refine va_get (D := G.1) (ci := 1) (v := .ref a1) (C := RX1) (T := TX1) (N := 8) hx hb hts hi1 hown hK hP 0 rfl rfl 0 (by decide) (hts (.fieldLink RX1 9 "LandQuarters$Land" "owners" "[I") (by decide +kernel)) (fun _ h9 => h9) rfl dX1_give_38 ?_
            refine lv_iload hx hb dX1_give_41 (lv_at hl 1 rfl) ?_
            refine lv_bipush (v := nI 16) hx hb dX1_give_43 (by decide) ?_
            refine gImul (a := y + i) (b := 16) hx hb dX1_give_45 ?_
            refine lv_iload hx hb dX1_give_46 (lv_at hl 0 rfl) ?_
            refine gIadd (a := (y + i) * 16) (b := x + j) hx hb dX1_give_48 ?_
            refine gNald (k := (y + i) * 16 + (x + j)) hx hb hK hP 1 0 rfl rfl (by omega) (by first | decide | omega) dX1_give_49 ?_
            refine W.eq (g2 := F0 m 50 ls [.int (nI (ow ((y + i) * 16 + (x + j))))]) (by rw [show (nI ((fun k => if inSqP x y z i j k then o else ow k) ((y + i) * 16 + (x + j))) : Int32) = nI (ow ((y + i) * 16 + (x + j))) from by congr 1; exact if_neg (by omega)]) ?_
            refine lv_iload hx hb dX1_give_50 (lv_at hl 7 rfl) ?_
            refine gIcmp_eq (a := ow ((y + i) * 16 + (x + j))) (b := o) (tgt := 73) hx hb dX1_give_52 (by decide) (by have := hw ((y + i) * 16 + (x + j)); omega) (by omega) (fun c52 => ?_) (fun c52 => ?_)
            · skip
              refine lv_iinc (v := nI (x + j + 1)) (lv' := [(7, .int (nI (x + j + 1))), (6, .int (nI (y + i))), (5, .int (nI (sSq (fun a => if ow a = o then 0 else 1) (y * 16 + x) z (i * z + j)))), (0, .ref h), (1, .int (nI x)), (2, .int (nI y)), (3, .int (nI z)), (4, .int (nI o))]) hx hb dX1_give_73 hl (k := 0) rfl (gInc_p _ rfl) (by decide) rfl (fun ls hl => ?_)
              refine lv_goto (tgt := 29) hx hb dX1_give_76 (by decide) ?_
              have hP := gEqN (q0 := 1) (f := fun k => if inSqP x y z i j k then o else ow k) (g := fun k => if inSqP x y z i (j + 1) k then o else ow k) rfl (by intro k hk; (try simp only [gu_if, gvOw, lfHe]); by_cases ek : k = (y + i) * 16 + (x + j); (subst ek; (repeat' split) <;> first | rfl | omega); ((repeat' split) <;> first | rfl | omega)) hP
              have hD := va_D.set (p := 1) (e := .inl (G.2.1, 256, .inl (gn (fun k => if inSqP x y z i (j + 1) k then o else ow k)))) hD rfl
              have hP : va_P G.1 vwCl [(h, .inr (1, [.ref a1, .ref a2, .ref a3, .int (nI pr), .int (nI tx), .int (nI sa), .int (nI fl), .int (nI lo)])), (a1, .inl (G.2.1, 256, .inl (gn (fun k => if inSqP x y z i (j + 1) k then o else ow k)))), (a2, .inl (G.2.1, 256, .inl (gn he))), (a3, .inl (G.2.1, 8, .inl (gn co)))] H := hP
              have hD : va_D A [(h, .inr (1, [.ref a1, .ref a2, .ref a3, .int (nI pr), .int (nI tx), .int (nI sa), .int (nI fl), .int (nI lo)])), (a1, .inl (G.2.1, 256, .inl (gn (fun k => if inSqP x y z i (j + 1) k then o else ow k)))), (a2, .inl (G.2.1, 256, .inl (gn he))), (a3, .inl (G.2.1, 8, .inl (gn co)))] := hD
              have hl : lv_has ls 8 [(7, .int (nI (x + j + 1))), (6, .int (nI (y + i))), (5, .int (nI (sSq (fun a => if ow a = o then 0 else 1) (y * 16 + x) z (i * z + j)))), (0, .ref h), (1, .int (nI x)), (2, .int (nI y)), (3, .int (nI z)), (4, .int (nI o))] := lv_sub hl [0, 1, 2, 3, 4, 5, 6, 7] rfl
              have hle : (.int (nI (x + j + 1)) : Value) = .int (nI (x + (j + 1))) := by first | rfl | (congr 2; omega) | (congr 2; rw [show i * z + (j + 1) = (i * z + j) + 1 by omega, sSq, (divmod_ij (show j < z by omega)).1, (divmod_ij (show j < z by omega)).2, show y * 16 + x + 16 * i + j = (y + i) * 16 + (x + j) by omega]; simp [c52])
              rw [hle] at hl
              have hle : (.int (nI (sSq (fun a => if ow a = o then 0 else 1) (y * 16 + x) z (i * z + j))) : Value) = .int (nI (sSq (fun a => if ow a = o then 0 else 1) (y * 16 + x) z (i * z + (j + 1)))) := by first | rfl | (congr 2; omega) | (congr 2; rw [show i * z + (j + 1) = (i * z + j) + 1 by omega, sSq, (divmod_ij (show j < z by omega)).1, (divmod_ij (show j < z by omega)).2, show y * 16 + x + 16 * i + j = (y + i) * 16 + (x + j) by omega]; simp [c52])
              rw [hle] at hl
              have hy_2 : (j + 1) ≤ z := by omega
              exact ih29 (j + 1) (by omega) hy_2 H locs hP hD hS ls hl
            refine lv_aload_n hx hb dX1_give_55 rfl (lv_at hl 3 rfl) ?_
            refine va_get (D := G.1) (ci := 1) (v := .ref a1) (C := RX1) (T := TX1) (N := 8) hx hb hts hi1 hown hK hP 0 rfl rfl 0 (by decide) (hts (.fieldLink RX1 9 "LandQuarters$Land" "owners" "[I") (by decide +kernel)) (fun _ h9 => h9) rfl dX1_give_56 ?_
            refine lv_iload hx hb dX1_give_59 (lv_at hl 1 rfl) ?_
            refine lv_bipush (v := nI 16) hx hb dX1_give_61 (by decide) ?_
            refine gImul (a := y + i) (b := 16) hx hb dX1_give_63 ?_
            refine lv_iload hx hb dX1_give_64 (lv_at hl 0 rfl) ?_
            refine gIadd (a := (y + i) * 16) (b := x + j) hx hb dX1_give_66 ?_
            refine lv_iload hx hb dX1_give_67 (lv_at hl 7 rfl) ?_
            refine gNast (k := (y + i) * 16 + (x + j)) (v := o) hx hb hK hP hD hS 1 0 rfl rfl (by omega) (by first | decide | omega) dX1_give_69 (fun H locs hP hD hS => ?_)
            have hP : va_P G.1 vwCl [(h, .inr (1, [.ref a1, .ref a2, .ref a3, .int (nI pr), .int (nI tx), .int (nI sa), .int (nI fl), .int (nI lo)])), (a1, .inl (G.2.1, 256, .inl (gn (va_up (fun k => if inSqP x y z i j k then o else ow k) ((y + i) * 16 + (x + j)) o)))), (a2, .inl (G.2.1, 256, .inl (gn he))), (a3, .inl (G.2.1, 8, .inl (gn co)))] H := hP
            have hD : va_D A [(h, .inr (1, [.ref a1, .ref a2, .ref a3, .int (nI pr), .int (nI tx), .int (nI sa), .int (nI fl), .int (nI lo)])), (a1, .inl (G.2.1, 256, .inl (gn (va_up (fun k => if inSqP x y z i j k then o else ow k) ((y + i) * 16 + (x + j)) o)))), (a2, .inl (G.2.1, 256, .inl (gn he))), (a3, .inl (G.2.1, 8, .inl (gn co)))] := hD
            refine lv_iinc (v := nI (sSq (fun a => if ow a = o then 0 else 1) (y * 16 + x) z (i * z + j) + 1)) (lv' := [(5, .int (nI (sSq (fun a => if ow a = o then 0 else 1) (y * 16 + x) z (i * z + j) + 1))), (7, .int (nI (x + j))), (6, .int (nI (y + i))), (0, .ref h), (1, .int (nI x)), (2, .int (nI y)), (3, .int (nI z)), (4, .int (nI o))]) hx hb dX1_give_70 hl (k := 2) rfl (gInc_p _ rfl) (by decide) rfl (fun ls hl => ?_)
            refine lv_iinc (v := nI (x + j + 1)) (lv' := [(7, .int (nI (x + j + 1))), (5, .int (nI (sSq (fun a => if ow a = o then 0 else 1) (y * 16 + x) z (i * z + j) + 1))), (6, .int (nI (y + i))), (0, .ref h), (1, .int (nI x)), (2, .int (nI y)), (3, .int (nI z)), (4, .int (nI o))]) hx hb dX1_give_73 hl (k := 1) rfl (gInc_p _ rfl) (by decide) rfl (fun ls hl => ?_)
            refine lv_goto (tgt := 29) hx hb dX1_give_76 (by decide) ?_
            have hP := gEqN (q0 := 1) (f := va_up (fun k => if inSqP x y z i j k then o else ow k) ((y + i) * 16 + (x + j)) o) (g := fun k => if inSqP x y z i (j + 1) k then o else ow k) rfl (by intro k hk; (try simp only [gu_if, gvOw, lfHe]); by_cases ek : k = (y + i) * 16 + (x + j); (subst ek; (repeat' split) <;> first | rfl | omega); ((repeat' split) <;> first | rfl | omega)) hP
            have hD := va_D.set (p := 1) (e := .inl (G.2.1, 256, .inl (gn (fun k => if inSqP x y z i (j + 1) k then o else ow k)))) hD rfl
            have hP : va_P G.1 vwCl [(h, .inr (1, [.ref a1, .ref a2, .ref a3, .int (nI pr), .int (nI tx), .int (nI sa), .int (nI fl), .int (nI lo)])), (a1, .inl (G.2.1, 256, .inl (gn (fun k => if inSqP x y z i (j + 1) k then o else ow k)))), (a2, .inl (G.2.1, 256, .inl (gn he))), (a3, .inl (G.2.1, 8, .inl (gn co)))] H := hP
            have hD : va_D A [(h, .inr (1, [.ref a1, .ref a2, .ref a3, .int (nI pr), .int (nI tx), .int (nI sa), .int (nI fl), .int (nI lo)])), (a1, .inl (G.2.1, 256, .inl (gn (fun k => if inSqP x y z i (j + 1) k then o else ow k)))), (a2, .inl (G.2.1, 256, .inl (gn he))), (a3, .inl (G.2.1, 8, .inl (gn co)))] := hD
            have hl : lv_has ls 8 [(7, .int (nI (x + j + 1))), (6, .int (nI (y + i))), (5, .int (nI (sSq (fun a => if ow a = o then 0 else 1) (y * 16 + x) z (i * z + j) + 1))), (0, .ref h), (1, .int (nI x)), (2, .int (nI y)), (3, .int (nI z)), (4, .int (nI o))] := lv_sub hl [0, 2, 1, 3, 4, 5, 6, 7] rfl
            have hle : (.int (nI (x + j + 1)) : Value) = .int (nI (x + (j + 1))) := by first | rfl | (congr 2; omega) | (congr 2; rw [show i * z + (j + 1) = (i * z + j) + 1 by omega, sSq, (divmod_ij (show j < z by omega)).1, (divmod_ij (show j < z by omega)).2, show y * 16 + x + 16 * i + j = (y + i) * 16 + (x + j) by omega]; simp [c52])
            rw [hle] at hl
            have hle : (.int (nI (sSq (fun a => if ow a = o then 0 else 1) (y * 16 + x) z (i * z + j) + 1)) : Value) = .int (nI (sSq (fun a => if ow a = o then 0 else 1) (y * 16 + x) z (i * z + (j + 1)))) := by first | rfl | (congr 2; omega) | (congr 2; rw [show i * z + (j + 1) = (i * z + j) + 1 by omega, sSq, (divmod_ij (show j < z by omega)).1, (divmod_ij (show j < z by omega)).2, show y * 16 + x + 16 * i + j = (y + i) * 16 + (x + j) by omega]; simp [c52])
            rw [hle] at hl
            have hy_3 : (j + 1) ≤ z := by omega
            exact ih29 (j + 1) (by omega) hy_3 H locs hP hD hS ls hl
        have hl : lv_has ls 8 [(7, .int (nI x)), (6, .int (nI (y + i))), (5, .int (nI (sSq (fun a => if ow a = o then 0 else 1) (y * 16 + x) z (i * z)))), (0, .ref h), (1, .int (nI x)), (2, .int (nI y)), (3, .int (nI z)), (4, .int (nI o))] := lv_sub hl [0, 1, 2, 3, 4, 5, 6, 7] rfl
        have hle : (.int (nI x) : Value) = .int (nI (x + 0)) := by first | rfl | (congr 2; omega)
        rw [hle] at hl
        have hle : (.int (nI (sSq (fun a => if ow a = o then 0 else 1) (y * 16 + x) z (i * z))) : Value) = .int (nI (sSq (fun a => if ow a = o then 0 else 1) (y * 16 + x) z (i * z + 0))) := by first | rfl | (congr 2; omega)
        rw [hle] at hl
        have hy_4 : 0 ≤ z := by omega
        exact L29 _ 0 (Nat.lt_succ_self _) hy_4 H locs hP hD hS ls hl
    have hP := gEqN (q0 := 1) (f := ow) (g := fun k => if inSqP x y z 0 0 k then o else ow k) rfl (by intro k hk; (try simp only [gu_if, gvOw]); (repeat' split) <;> first | rfl | omega) hP
    have hD := va_D.set (p := 1) (e := .inl (G.2.1, 256, .inl (gn (fun k => if inSqP x y z 0 0 k then o else ow k)))) hD rfl
    have hP : va_P G.1 vwCl [(h, .inr (1, [.ref a1, .ref a2, .ref a3, .int (nI pr), .int (nI tx), .int (nI sa), .int (nI fl), .int (nI lo)])), (a1, .inl (G.2.1, 256, .inl (gn (fun k => if inSqP x y z 0 0 k then o else ow k)))), (a2, .inl (G.2.1, 256, .inl (gn he))), (a3, .inl (G.2.1, 8, .inl (gn co)))] H := hP
    have hD : va_D A [(h, .inr (1, [.ref a1, .ref a2, .ref a3, .int (nI pr), .int (nI tx), .int (nI sa), .int (nI fl), .int (nI lo)])), (a1, .inl (G.2.1, 256, .inl (gn (fun k => if inSqP x y z 0 0 k then o else ow k)))), (a2, .inl (G.2.1, 256, .inl (gn he))), (a3, .inl (G.2.1, 8, .inl (gn co)))] := hD
    have hl : lv_has ls 8 [(6, .int (nI y)), (5, .int (nI 0)), (0, .ref h), (1, .int (nI x)), (2, .int (nI y)), (3, .int (nI z)), (4, .int (nI o))] := lv_sub hl [0, 1, 2, 3, 4, 5, 6] rfl
    have hle : (.int (nI y) : Value) = .int (nI (y + 0)) := by first | rfl | (rw [Nat.zero_mul]; rfl)
    rw [hle] at hl
    have hle : (.int (nI 0) : Value) = .int (nI (sSq (fun a => if ow a = o then 0 else 1) (y * 16 + x) z (0 * z))) := by first | rfl | (rw [Nat.zero_mul]; rfl)
    rw [hle] at hl
    have hy_5 : 0 ≤ z := by omega
    exact L18 _ 0 (Nat.lt_succ_self _) hy_5 H locs hP hD hS ls hl
  exfalso; exact absurd hq2 c9
