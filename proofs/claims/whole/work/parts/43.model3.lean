theorem divmod_s {k z : Nat} (hz : 0 < z) : (k % z + 1 < z ∧ (k + 1) / z = k / z ∧ (k + 1) % z = k % z + 1) ∨ (k % z + 1 = z ∧ (k + 1) / z = k / z + 1 ∧ (k + 1) % z = 0) := by
  have h1 := Nat.div_add_mod k z
  have h2 := Nat.mod_lt k hz
  rw [Nat.mul_comm] at h1
  by_cases e : k % z + 1 < z
  · have h3 := divmod_ij (z := z) (i := k / z) (j := k % z + 1) e
    rw [show k / z * z + (k % z + 1) = k + 1 by omega] at h3
    exact Or.inl ⟨e, h3.1, h3.2⟩
  · have h3 := divmod_ij (z := z) (i := k / z + 1) (j := 0) hz
    rw [show (k / z + 1) * z + 0 = k + 1 by rw [Nat.succ_mul]; omega] at h3
    exact Or.inr ⟨by omega, h3.1, h3.2⟩
/-- the first k cells of a square written (from place b on) -/
def bkF (b cz z k : Nat) (f nw : Nat → Nat) : Nat → Nat := fun a => if b ≤ a ∧ inSqP (cz % 16) (cz / 16) z (k / z) (k % z) (a - b) then f a else nw a
theorem bkF_0 {b cz z : Nat} {f nw : Nat → Nat} : ∀ a, bkF b cz z 0 f nw a = nw a := by
  intro a
  unfold bkF; rw [if_neg]
  rintro ⟨_, h1, h2, h3, h4⟩
  rw [Nat.zero_div, Nat.zero_mod] at h4; omega
theorem bkF_at {b cz z k i : Nat} {f nw : Nat → Nat} (hi : i = b + cz + 16 * (k / z) + k % z) (hz : cz % 16 + z ≤ 16) (hk : k % z < z) : bkF b cz z k f nw i = nw i := by
  unfold bkF; rw [if_neg]
  rintro ⟨_, h1, h2, h3, h4⟩
  omega
theorem bkF_s {b cz z k i : Nat} {f nw : Nat → Nat} (hi : i = b + cz + 16 * (k / z) + k % z) (hz : cz % 16 + z ≤ 16) (hk : k % z < z) : ∀ a, va_up (bkF b cz z k f nw) i (f i) a = bkF b cz z (k + 1) f nw a := by
  intro a
  rw [gu_if]
  unfold bkF
  have h := divmod_s (k := k) (show 0 < z by omega)
  by_cases e : a = i
  · rw [if_pos e, if_pos (by unfold inSqP; omega), e]
  · rw [if_neg e]
    by_cases e2 : b ≤ a ∧ inSqP (cz % 16) (cz / 16) z (k / z) (k % z) (a - b)
    · rw [if_pos e2, if_pos (by unfold inSqP at e2 ⊢; omega)]
    · rw [if_neg e2, if_neg (by unfold inSqP at e2 ⊢; omega)]
theorem bkF_end {b cz z : Nat} {f nw : Nat → Nat} (hz : 0 < z) : ∀ a, bkF b cz z (z * z) f nw a = if b ≤ a ∧ inSq (cz % 16) (cz / 16) z (a - b) then f a else nw a := by
  intro a
  unfold bkF
  rw [Nat.mul_div_cancel _ hz, Nat.mul_mod_left]
  by_cases e : b ≤ a ∧ inSq (cz % 16) (cz / 16) z (a - b)
  · rw [if_pos e, if_pos (by unfold inSq at e; unfold inSqP; omega)]
  · rw [if_neg e, if_neg (by unfold inSq at e; unfold inSqP; omega)]
/-- a row's heights, as the reference holds them -/
abbrev hM (nw : Nat → Nat) : Nat → Nat := fun k => nw (256 + k)
def rsM (nw : Nat → Nat) (cz z : Nat) (d : Int) : Nat → Nat := fun a => if 256 ≤ a ∧ inSq (cz % 16) (cz / 16) z (a - 256) then lfV d (nw a) else nw a
def flM (nw : Nat → Nat) (lv : Nat) : Nat → Nat := va_up (fun j => if j < 256 then drOw nw (hM nw) lv j else nw j) 523 (nw 523 + 1)
def eB (nw : Nat → Nat) (o q : Nat) : Nat → Nat
  | 0 => 0
  | k + 1 => eB nw o q k + (if k % 16 < 15 ∧ (nw k = o ∧ nw (k + 1) = q ∨ nw k = q ∧ nw (k + 1) = o) then 1 else 0) + (if k < 240 ∧ (nw k = o ∧ nw (k + 16) = q ∨ nw k = q ∧ nw (k + 16) = o) then 1 else 0)
def btw (nw : Nat → Nat) (o q : Nat) : Nat := if o = q then 0 else eB nw o q 256
theorem eB_le (nw : Nat → Nat) (o q : Nat) : ∀ k, eB nw o q k ≤ 2 * k
  | 0 => Nat.le_refl _
  | k + 1 => by have := eB_le nw o q k; simp only [eB]; (repeat' split) <;> omega
theorem btw_le (nw : Nat → Nat) (o q : Nat) : btw nw o q ≤ 512 := by have := eB_le nw o q 256; unfold btw; split <;> omega
def fM (nw : Nat → Nat) (o : Nat) : Nat → Nat
  | 0 => 0
  | q + 1 => fM nw o q + btw nw o q
def nbM (nw : Nat → Nat) (o : Nat) : Nat → Int × Nat
  | 0 => (-1, 0)
  | q + 1 => if (nbM nw o q).2 < btw nw o q then ((q : Int), btw nw o q) else nbM nw o q
theorem nbM_le (nw : Nat → Nat) (o : Nat) : ∀ q, (nbM nw o q).2 ≤ 512
  | 0 => Nat.zero_le _
  | q + 1 => by have := nbM_le nw o q; have := btw_le nw o q; simp only [nbM]; split <;> assumption
def aM (nw : Nat → Nat) (o : Nat) : Nat → Nat
  | 0 => 0
  | k + 1 => aM nw o k + (if nw k = o then 1 else 0)

set_option maxHeartbeats 4000000 in
set_option maxRecDepth 100000 in
theorem c_X4_becomes (l : Launch) (G : gG) (mq : Nat) (an : Nat) (ap : Nat) (st : Nat) (ak : Nat) (ai : Nat) (ad : Nat) (ac : Nat) (aw : Nat) (mn : Nat) (at_ : Nat) (le : Nat) (th : Nat) (sp : Nat) (ao : Nat) (tm : Nat) (nw : Nat → Nat) (cz : Nat) (z : Nat) (o : Nat) (hq : sqN (cz % 16) (cz / 16) z) (how : ∀ k, k < 256 → nw k < 8) (ho : o < 8) : gMi (S := Unit) l yX4_becomes wsX4_becomes { frames := 0, cells := 0, slots := 0, locals := 0 } G [.ref mq, .int (nI cz), .int (nI z), .int (nI o)] [(mq, .inr (4, [.ref an, .ref ap, .int (nI st), .ref ak, .ref ai, .ref ad, .ref ac, .ref aw, .int (nI mn), .ref at_, .int (nI le), .int (nI th), .int (nI sp), .ref ao, .int (nI tm)])), (an, .inl (G.2.1, 525, .inl (gn nw)))] (fun (r : Int32) (u : Unit) => (r = nI (sSq (fun a => if nw a = o then 0 else 1) cz z (z * z)))) (fun u => [(mq, .inr (4, [.ref an, .ref ap, .int (nI st), .ref ak, .ref ai, .ref ad, .ref ac, .ref aw, .int (nI mn), .ref at_, .int (nI le), .int (nI th), .int (nI sp), .ref ao, .int (nI tm)])), (an, .inl (G.2.1, 525, .inl (gn (gvOw nw (cz % 16) (cz / 16) z o))))]) 0 0 := by
  refine gMet_mk (cc := cX4_becomes) (nL := 7) (ret := (some .int)) (Qc := fun A => va_Qi (S := Unit) (fun (r : Int32) (u : Unit) => (r = nI (sSq (fun a => if nw a = o then 0 else 1) cz z (z * z)))) (gB G A (fun (u : Unit) => [(mq, .inr (4, [.ref an, .ref ap, .int (nI st), .ref ak, .ref ai, .ref ad, .ref ac, .ref aw, .int (nI mn), .ref at_, .int (nI le), .int (nI th), .int (nI sp), .ref ao, .int (nI tm)])), (an, .inl (G.2.1, 525, .inl (gn (gvOw nw (cz % 16) (cz / 16) z o))))])) A) (by decide) rfl (Nat.le_of_ble_eq_true rfl) ?_
  intro p e s m args below meth c A F ls hl hP hD hS
  have hx := F.1
  have hb := F.2.1
  have hts := F.2.2.2.2.2.2.1
  have hown : s.vm.findClass RX4 = some m.cls := F.2.2.2.2.2.1
  have hKK := F.2.2.2.2.2.2.2.2.1
  have hK := hKK.1
  have hin0 := F.2.2.2.2.2.2.2.1
  have hi4 : ∀ w ∈ u_ws RX4 TX4 15, w ∈ wsX4_becomes := by decide +kernel
  have hl : lv_has ls 7 [(0, .ref mq), (1, .int (nI cz)), (2, .int (nI z)), (3, .int (nI o))] := hl
  have hq1 := sq_le hq
  have hzz : z * z ≤ 256 := Nat.mul_le_mul (show z ≤ 16 by omega) (show z ≤ 16 by omega)
  generalize hH : s.heap = H at hP ⊢
  have hS : va_S A s.heap H [] := by rw [← hH]; exact va_S.rf
  generalize hLo : ([] : List Loc) = locs at hS ⊢
  refine lv_iconst (v := nI 0) hx hb dX4_becomes_0 (by decide) ?_
  refine lv_istore (lv' := [(4, .int (nI 0)), (0, .ref mq), (1, .int (nI cz)), (2, .int (nI z)), (3, .int (nI o))]) hx hb dX4_becomes_1 hl (by decide) rfl (fun ls hl => ?_)
  refine lv_iconst (v := nI 0) hx hb dX4_becomes_3 (by decide) ?_
  refine lv_istore (lv' := [(5, .int (nI 0)), (4, .int (nI 0)), (0, .ref mq), (1, .int (nI cz)), (2, .int (nI z)), (3, .int (nI o))]) hx hb dX4_becomes_4 hl (by decide) rfl (fun ls hl => ?_)
  have L6 : ∀ (fuel : Nat) (k : Nat), z * z - k < fuel → (k ≤ z * z) → ∀ (H : Heap) (locs : List Loc), va_P G.1 vwCl [(mq, .inr (4, [.ref an, .ref ap, .int (nI st), .ref ak, .ref ai, .ref ad, .ref ac, .ref aw, .int (nI mn), .ref at_, .int (nI le), .int (nI th), .int (nI sp), .ref ao, .int (nI tm)])), (an, .inl (G.2.1, 525, .inl (gn (bkF 0 cz z k (fun _ => o) nw))))] H → va_D A [(mq, .inr (4, [.ref an, .ref ap, .int (nI st), .ref ak, .ref ai, .ref ad, .ref ac, .ref aw, .int (nI mn), .ref at_, .int (nI le), .int (nI th), .int (nI sp), .ref ao, .int (nI tm)])), (an, .inl (G.2.1, 525, .inl (gn (bkF 0 cz z k (fun _ => o) nw))))] → va_S A s.heap H locs → ∀ (ls : Array Slot), lv_has ls 7 [(5, .int (nI k)), (4, .int (nI (sSq (fun a => if nw a = o then 0 else 1) cz z k))), (0, .ref mq), (1, .int (nI cz)), (2, .int (nI z)), (3, .int (nI o))] → W p l e ({ frames := 0, cells := 0, slots := 0, locals := 0 } : Room) s m args below meth c H locs 0 0 (MQ below (va_Qi (S := Unit) (fun (r : Int32) (u : Unit) => (r = nI (sSq (fun a => if nw a = o then 0 else 1) cz z (z * z)))) (gB G A (fun (u : Unit) => [(mq, .inr (4, [.ref an, .ref ap, .int (nI st), .ref ak, .ref ai, .ref ad, .ref ac, .ref aw, .int (nI mn), .ref at_, .int (nI le), .int (nI th), .int (nI sp), .ref ao, .int (nI tm)])), (an, .inl (G.2.1, 525, .inl (gn (gvOw nw (cz % 16) (cz / 16) z o))))])) A) args s 0 0 A) (F0 m 6 ls []) := by
    intro fuel
    induction fuel with
    | zero => intro k hme; exact absurd hme (Nat.not_lt_zero _)
    | succ fuel ih6 =>
      intro k hme hk H locs hP hD hS ls hl
      refine lv_iload hx hb dX4_becomes_6 (lv_at hl 0 rfl) ?_
      refine lv_iload_n hx hb dX4_becomes_8 rfl (lv_at hl 4 rfl) ?_
      refine lv_iload_n hx hb dX4_becomes_9 rfl (lv_at hl 4 rfl) ?_
      refine gImul (a := z) (b := z) hx hb dX4_becomes_10 ?_
      refine gIcmp_ge (a := k) (b := z * z) (tgt := 65) hx hb dX4_becomes_11 (by decide) (by omega) (by omega) (fun c11 => ?_) (fun c11 => ?_)
      · skip
        refine lv_iload hx hb dX4_becomes_65 (lv_at hl 1 rfl) ?_
        have hP := gEqN (q0 := 1) (f := bkF 0 cz z k (fun _ => o) nw) (g := gvOw nw (cz % 16) (cz / 16) z o) rfl (by intro j hj; rw [show k = z * z by omega, bkF_end hq1.2.2]; unfold gvOw; exact ite_congr (propext ⟨fun h => by simpa using h.2, fun h => ⟨Nat.zero_le _, by simpa using h⟩⟩) (fun _ => rfl) (fun _ => rfl)) hP
        have hD := va_D.set (p := 1) (e := .inl (G.2.1, 525, .inl (gn (gvOw nw (cz % 16) (cz / 16) z o)))) hD rfl
        have hP : va_P G.1 vwCl [(mq, .inr (4, [.ref an, .ref ap, .int (nI st), .ref ak, .ref ai, .ref ad, .ref ac, .ref aw, .int (nI mn), .ref at_, .int (nI le), .int (nI th), .int (nI sp), .ref ao, .int (nI tm)])), (an, .inl (G.2.1, 525, .inl (gn (gvOw nw (cz % 16) (cz / 16) z o))))] H := hP
        have hD : va_D A [(mq, .inr (4, [.ref an, .ref ap, .int (nI st), .ref ak, .ref ai, .ref ad, .ref ac, .ref aw, .int (nI mn), .ref at_, .int (nI le), .int (nI th), .int (nI sp), .ref ao, .int (nI tm)])), (an, .inl (G.2.1, 525, .inl (gn (gvOw nw (cz % 16) (cz / 16) z o))))] := hD
        exact gRi F dX4_becomes_67 (rfl) () (by rw [show k = z * z by omega]) hP hD hS (Nat.le_refl _) (Nat.le_refl _)
      have hdm := cellQ hq1.2.2 (show k < z * z by omega)
      refine lv_iload_n hx hb dX4_becomes_14 rfl (lv_at hl 3 rfl) ?_
      refine lv_bipush (v := nI 16) hx hb dX4_becomes_15 (by decide) ?_
      refine lv_iload hx hb dX4_becomes_17 (lv_at hl 0 rfl) ?_
      refine lv_iload_n hx hb dX4_becomes_19 rfl (lv_at hl 4 rfl) ?_
      refine gIdiv (a := k) (b := z) hx hb dX4_becomes_20 (by omega) (by omega) (by omega) ?_
      refine gImul (a := 16) (b := k / z) hx hb dX4_becomes_21 ?_
      refine gIadd (a := cz) (b := 16 * (k / z)) hx hb dX4_becomes_22 ?_
      refine lv_iload hx hb dX4_becomes_23 (lv_at hl 0 rfl) ?_
      refine lv_iload_n hx hb dX4_becomes_25 rfl (lv_at hl 4 rfl) ?_
      refine gIrem (a := k) (b := z) hx hb dX4_becomes_26 (by omega) (by omega) (by omega) ?_
      refine gIadd (a := cz + (16 * (k / z))) (b := k % z) hx hb dX4_becomes_27 ?_
      refine lv_istore (lv' := [(6, .int (nI (cz + (16 * (k / z)) + (k % z)))), (5, .int (nI k)), (4, .int (nI (sSq (fun a => if nw a = o then 0 else 1) cz z k))), (0, .ref mq), (1, .int (nI cz)), (2, .int (nI z)), (3, .int (nI o))]) hx hb dX4_becomes_28 hl (by decide) rfl (fun ls hl => ?_)
      refine lv_iload hx hb dX4_becomes_30 (lv_at hl 2 rfl) ?_
      refine lv_aload_n hx hb dX4_becomes_32 rfl (lv_at hl 3 rfl) ?_
      refine va_get (D := G.1) (ci := 4) (v := .ref an) (C := RX4) (T := TX4) (N := 15) hx hb hts hi4 hown hK hP 0 rfl rfl 0 (by decide) (hts (.fieldLink RX4 7 "LandQuartersModel" "now" "[I") (by decide +kernel)) (fun _ h9 => h9) rfl dX4_becomes_33 ?_
      refine lv_iload hx hb dX4_becomes_36 (lv_at hl 0 rfl) ?_
      refine gNald (k := cz + (16 * (k / z)) + (k % z)) hx hb hK hP 1 0 rfl rfl (by omega) (by first | decide | omega) dX4_becomes_38 ?_
      refine W.eq (g2 := F0 m 39 ls [.int (nI (nw (cz + (16 * (k / z)) + (k % z)))), .int (nI (sSq (fun a => if nw a = o then 0 else 1) cz z k))]) (by rw [show (nI ((bkF 0 cz z k (fun _ => o) nw) (cz + (16 * (k / z)) + (k % z))) : Int32) = nI (nw (cz + (16 * (k / z)) + (k % z))) from by congr 1; exact bkF_at (by omega) (by omega) hdm.2]) ?_
      refine lv_iload_n hx hb dX4_becomes_39 rfl (lv_at hl 6 rfl) ?_
      have J48 : ∀  (H : Heap) (locs : List Loc), va_P G.1 vwCl [(mq, .inr (4, [.ref an, .ref ap, .int (nI st), .ref ak, .ref ai, .ref ad, .ref ac, .ref aw, .int (nI mn), .ref at_, .int (nI le), .int (nI th), .int (nI sp), .ref ao, .int (nI tm)])), (an, .inl (G.2.1, 525, .inl (gn (bkF 0 cz z k (fun _ => o) nw))))] H → va_D A [(mq, .inr (4, [.ref an, .ref ap, .int (nI st), .ref ak, .ref ai, .ref ad, .ref ac, .ref aw, .int (nI mn), .ref at_, .int (nI le), .int (nI th), .int (nI sp), .ref ao, .int (nI tm)])), (an, .inl (G.2.1, 525, .inl (gn (bkF 0 cz z k (fun _ => o) nw))))] → va_S A s.heap H locs → ∀ (ls : Array Slot), lv_has ls 7 [(6, .int (nI (cz + (16 * (k / z)) + (k % z)))), (5, .int (nI k)), (4, .int (nI (sSq (fun a => if nw a = o then 0 else 1) cz z k))), (0, .ref mq), (1, .int (nI cz)), (2, .int (nI z)), (3, .int (nI o))] → W p l e ({ frames := 0, cells := 0, slots := 0, locals := 0 } : Room) s m args below meth c H locs 0 0 (MQ below (va_Qi (S := Unit) (fun (r : Int32) (u : Unit) => (r = nI (sSq (fun a => if nw a = o then 0 else 1) cz z (z * z)))) (gB G A (fun (u : Unit) => [(mq, .inr (4, [.ref an, .ref ap, .int (nI st), .ref ak, .ref ai, .ref ad, .ref ac, .ref aw, .int (nI mn), .ref at_, .int (nI le), .int (nI th), .int (nI sp), .ref ao, .int (nI tm)])), (an, .inl (G.2.1, 525, .inl (gn (gvOw nw (cz % 16) (cz / 16) z o))))])) A) args s 0 0 A) (F0 m 48 ls [.int (nI (if nw (cz + (16 * (k / z)) + (k % z)) = o then 0 else 1)), .int (nI (sSq (fun a => if nw a = o then 0 else 1) cz z k))]) := by
        intro  H locs hP hD hS ls hl
        refine gIadd (a := sSq (fun a => if nw a = o then 0 else 1) cz z k) (b := (if nw (cz + (16 * (k / z)) + (k % z)) = o then 0 else 1)) hx hb dX4_becomes_48 ?_
        refine lv_istore (lv' := [(4, .int (nI (sSq (fun a => if nw a = o then 0 else 1) cz z k + (if nw (cz + (16 * (k / z)) + (k % z)) = o then 0 else 1)))), (6, .int (nI (cz + (16 * (k / z)) + (k % z)))), (5, .int (nI k)), (0, .ref mq), (1, .int (nI cz)), (2, .int (nI z)), (3, .int (nI o))]) hx hb dX4_becomes_49 hl (by decide) rfl (fun ls hl => ?_)
        refine lv_aload_n hx hb dX4_becomes_51 rfl (lv_at hl 3 rfl) ?_
        refine va_get (D := G.1) (ci := 4) (v := .ref an) (C := RX4) (T := TX4) (N := 15) hx hb hts hi4 hown hK hP 0 rfl rfl 0 (by decide) (hts (.fieldLink RX4 7 "LandQuartersModel" "now" "[I") (by decide +kernel)) (fun _ h9 => h9) rfl dX4_becomes_52 ?_
        refine lv_iload hx hb dX4_becomes_55 (lv_at hl 1 rfl) ?_
        refine lv_iload_n hx hb dX4_becomes_57 rfl (lv_at hl 6 rfl) ?_
        refine gNast (k := cz + (16 * (k / z)) + (k % z)) (v := o) hx hb hK hP hD hS 1 0 rfl rfl (by omega) (by first | decide | omega) dX4_becomes_58 (fun H locs hP hD hS => ?_)
        have hP : va_P G.1 vwCl [(mq, .inr (4, [.ref an, .ref ap, .int (nI st), .ref ak, .ref ai, .ref ad, .ref ac, .ref aw, .int (nI mn), .ref at_, .int (nI le), .int (nI th), .int (nI sp), .ref ao, .int (nI tm)])), (an, .inl (G.2.1, 525, .inl (gn (va_up (bkF 0 cz z k (fun _ => o) nw) (cz + (16 * (k / z)) + (k % z)) o))))] H := hP
        have hD : va_D A [(mq, .inr (4, [.ref an, .ref ap, .int (nI st), .ref ak, .ref ai, .ref ad, .ref ac, .ref aw, .int (nI mn), .ref at_, .int (nI le), .int (nI th), .int (nI sp), .ref ao, .int (nI tm)])), (an, .inl (G.2.1, 525, .inl (gn (va_up (bkF 0 cz z k (fun _ => o) nw) (cz + (16 * (k / z)) + (k % z)) o))))] := hD
        refine lv_iinc (v := nI (k + 1)) (lv' := [(5, .int (nI (k + 1))), (4, .int (nI (sSq (fun a => if nw a = o then 0 else 1) cz z k + (if nw (cz + (16 * (k / z)) + (k % z)) = o then 0 else 1)))), (6, .int (nI (cz + (16 * (k / z)) + (k % z)))), (0, .ref mq), (1, .int (nI cz)), (2, .int (nI z)), (3, .int (nI o))]) hx hb dX4_becomes_59 hl (k := 2) rfl (gInc_p _ rfl) (by decide) rfl (fun ls hl => ?_)
        refine lv_goto (tgt := 6) hx hb dX4_becomes_62 (by decide) ?_
        have hP := gEqN (q0 := 1) (f := va_up (bkF 0 cz z k (fun _ => o) nw) (cz + (16 * (k / z)) + (k % z)) o) (g := bkF 0 cz z (k + 1) (fun _ => o) nw) rfl (by intro j hj; exact bkF_s (f := fun _ => o) (by omega) (by omega) hdm.2 j) hP
        have hD := va_D.set (p := 1) (e := .inl (G.2.1, 525, .inl (gn (bkF 0 cz z (k + 1) (fun _ => o) nw)))) hD rfl
        have hP : va_P G.1 vwCl [(mq, .inr (4, [.ref an, .ref ap, .int (nI st), .ref ak, .ref ai, .ref ad, .ref ac, .ref aw, .int (nI mn), .ref at_, .int (nI le), .int (nI th), .int (nI sp), .ref ao, .int (nI tm)])), (an, .inl (G.2.1, 525, .inl (gn (bkF 0 cz z (k + 1) (fun _ => o) nw))))] H := hP
        have hD : va_D A [(mq, .inr (4, [.ref an, .ref ap, .int (nI st), .ref ak, .ref ai, .ref ad, .ref ac, .ref aw, .int (nI mn), .ref at_, .int (nI le), .int (nI th), .int (nI sp), .ref ao, .int (nI tm)])), (an, .inl (G.2.1, 525, .inl (gn (bkF 0 cz z (k + 1) (fun _ => o) nw))))] := hD
        have hl : lv_has ls 7 [(5, .int (nI (k + 1))), (4, .int (nI (sSq (fun a => if nw a = o then 0 else 1) cz z k + (if nw (cz + (16 * (k / z)) + (k % z)) = o then 0 else 1)))), (0, .ref mq), (1, .int (nI cz)), (2, .int (nI z)), (3, .int (nI o))] := lv_sub hl [0, 1, 3, 4, 5, 6] rfl
        have hle : (.int (nI (sSq (fun a => if nw a = o then 0 else 1) cz z k + (if nw (cz + (16 * (k / z)) + (k % z)) = o then 0 else 1))) : Value) = .int (nI (sSq (fun a => if nw a = o then 0 else 1) cz z (k + 1))) := by rfl
        rw [hle] at hl
        have hy_1 : (k + 1) ≤ z * z := by omega
        exact ih6 (k + 1) (by omega) hy_1 H locs hP hD hS ls hl
      refine gIcmp_ne (a := nw (cz + (16 * (k / z)) + (k % z))) (b := o) (tgt := 47) hx hb dX4_becomes_40 (by decide) (by have := how (cz + (16 * (k / z)) + (k % z)) (by omega); omega) (by omega) (fun c40 => ?_) (fun c40 => ?_)
      · skip
        refine lv_iconst (v := nI 1) hx hb dX4_becomes_47 (by decide) ?_
        have hl : lv_has ls 7 [(6, .int (nI (cz + (16 * (k / z)) + (k % z)))), (5, .int (nI k)), (4, .int (nI (sSq (fun a => if nw a = o then 0 else 1) cz z k))), (0, .ref mq), (1, .int (nI cz)), (2, .int (nI z)), (3, .int (nI o))] := lv_sub hl [0, 1, 2, 3, 4, 5, 6] rfl
        have hse : (.int (nI 1) : Value) = .int (nI (if nw (cz + (16 * (k / z)) + (k % z)) = o then 0 else 1)) := by first | rw [if_pos c40] | rw [if_neg c40]
        refine W.eq (g2 := F0 m 48 ls [.int (nI (if nw (cz + (16 * (k / z)) + (k % z)) = o then 0 else 1)), .int (nI (sSq (fun a => if nw a = o then 0 else 1) cz z k))]) (congrArg (fun v_ => F0 m 48 ls [v_, .int (nI (sSq (fun a => if nw a = o then 0 else 1) cz z k))]) hse) ?_
        exact J48  H locs hP hD hS ls hl
      refine lv_iconst (v := nI 0) hx hb dX4_becomes_43 (by decide) ?_
      refine lv_goto (tgt := 48) hx hb dX4_becomes_44 (by decide) ?_
      have hl : lv_has ls 7 [(6, .int (nI (cz + (16 * (k / z)) + (k % z)))), (5, .int (nI k)), (4, .int (nI (sSq (fun a => if nw a = o then 0 else 1) cz z k))), (0, .ref mq), (1, .int (nI cz)), (2, .int (nI z)), (3, .int (nI o))] := lv_sub hl [0, 1, 2, 3, 4, 5, 6] rfl
      have hse : (.int (nI 0) : Value) = .int (nI (if nw (cz + (16 * (k / z)) + (k % z)) = o then 0 else 1)) := by first | rw [if_pos c40] | rw [if_neg c40]
      refine W.eq (g2 := F0 m 48 ls [.int (nI (if nw (cz + (16 * (k / z)) + (k % z)) = o then 0 else 1)), .int (nI (sSq (fun a => if nw a = o then 0 else 1) cz z k))]) (congrArg (fun v_ => F0 m 48 ls [v_, .int (nI (sSq (fun a => if nw a = o then 0 else 1) cz z k))]) hse) ?_
      exact J48  H locs hP hD hS ls hl
  have hP := gEqN (q0 := 1) (f := nw) (g := bkF 0 cz z 0 (fun _ => o) nw) rfl (by intro j hj; exact (bkF_0 j).symm) hP
  have hD := va_D.set (p := 1) (e := .inl (G.2.1, 525, .inl (gn (bkF 0 cz z 0 (fun _ => o) nw)))) hD rfl
  have hP : va_P G.1 vwCl [(mq, .inr (4, [.ref an, .ref ap, .int (nI st), .ref ak, .ref ai, .ref ad, .ref ac, .ref aw, .int (nI mn), .ref at_, .int (nI le), .int (nI th), .int (nI sp), .ref ao, .int (nI tm)])), (an, .inl (G.2.1, 525, .inl (gn (bkF 0 cz z 0 (fun _ => o) nw))))] H := hP
  have hD : va_D A [(mq, .inr (4, [.ref an, .ref ap, .int (nI st), .ref ak, .ref ai, .ref ad, .ref ac, .ref aw, .int (nI mn), .ref at_, .int (nI le), .int (nI th), .int (nI sp), .ref ao, .int (nI tm)])), (an, .inl (G.2.1, 525, .inl (gn (bkF 0 cz z 0 (fun _ => o) nw))))] := hD
  have hl : lv_has ls 7 [(5, .int (nI 0)), (4, .int (nI 0)), (0, .ref mq), (1, .int (nI cz)), (2, .int (nI z)), (3, .int (nI o))] := lv_sub hl [0, 1, 2, 3, 4, 5] rfl
  have hle : (.int (nI 0) : Value) = .int (nI (sSq (fun a => if nw a = o then 0 else 1) cz z 0)) := by rfl
  rw [hle] at hl
  have hy_2 : 0 ≤ z * z := by omega
  exact L6 _ 0 (Nat.lt_succ_self _) hy_2 H locs hP hD hS ls hl

set_option maxHeartbeats 4000000 in
set_option maxRecDepth 100000 in
theorem c_X4_raises (l : Launch) (G : gG) (mq : Nat) (an : Nat) (ap : Nat) (st : Nat) (ak : Nat) (ai : Nat) (ad : Nat) (ac : Nat) (aw : Nat) (mn : Nat) (at_ : Nat) (le : Nat) (th : Nat) (sp : Nat) (ao : Nat) (tm : Nat) (nw : Nat → Nat) (cz : Nat) (z : Nat) (d : Int) (hq : sqN (cz % 16) (cz / 16) z) (hhe : ∀ k, k < 256 → nw (256 + k) < 10) (hd : -9 ≤ d ∧ d ≤ 9) : gMi (S := Unit) l yX4_raises wsX4_raises { frames := 0, cells := 0, slots := 0, locals := 0 } G [.ref mq, .int (nI cz), .int (nI z), .int (zI d)] [(mq, .inr (4, [.ref an, .ref ap, .int (nI st), .ref ak, .ref ai, .ref ad, .ref ac, .ref aw, .int (nI mn), .ref at_, .int (nI le), .int (nI th), .int (nI sp), .ref ao, .int (nI tm)])), (an, .inl (G.2.1, 525, .inl (gn nw)))] (fun (r : Int32) (u : Unit) => (r = nI (sSq (fun a => lfV d (nw (256 + a))) cz z (z * z)))) (fun u => [(mq, .inr (4, [.ref an, .ref ap, .int (nI st), .ref ak, .ref ai, .ref ad, .ref ac, .ref aw, .int (nI mn), .ref at_, .int (nI le), .int (nI th), .int (nI sp), .ref ao, .int (nI tm)])), (an, .inl (G.2.1, 525, .inl (gn (rsM nw cz z d))))]) 0 0 := by
  refine gMet_mk (cc := cX4_raises) (nL := 8) (ret := (some .int)) (Qc := fun A => va_Qi (S := Unit) (fun (r : Int32) (u : Unit) => (r = nI (sSq (fun a => lfV d (nw (256 + a))) cz z (z * z)))) (gB G A (fun (u : Unit) => [(mq, .inr (4, [.ref an, .ref ap, .int (nI st), .ref ak, .ref ai, .ref ad, .ref ac, .ref aw, .int (nI mn), .ref at_, .int (nI le), .int (nI th), .int (nI sp), .ref ao, .int (nI tm)])), (an, .inl (G.2.1, 525, .inl (gn (rsM nw cz z d))))])) A) (by decide) rfl (Nat.le_of_ble_eq_true rfl) ?_
  intro p e s m args below meth c A F ls hl hP hD hS
  have hx := F.1
  have hb := F.2.1
  have hts := F.2.2.2.2.2.2.1
  have hown : s.vm.findClass RX4 = some m.cls := F.2.2.2.2.2.1
  have hKK := F.2.2.2.2.2.2.2.2.1
  have hK := hKK.1
  have hin0 := F.2.2.2.2.2.2.2.1
  have hi4 : ∀ w ∈ u_ws RX4 TX4 15, w ∈ wsX4_raises := by decide +kernel
  have hl : lv_has ls 8 [(0, .ref mq), (1, .int (nI cz)), (2, .int (nI z)), (3, .int (zI d))] := hl
  have hq1 := sq_le hq
  have hzz : z * z ≤ 256 := Nat.mul_le_mul (show z ≤ 16 by omega) (show z ≤ 16 by omega)
  generalize hH : s.heap = H at hP ⊢
  have hS : va_S A s.heap H [] := by rw [← hH]; exact va_S.rf
  generalize hLo : ([] : List Loc) = locs at hS ⊢
  refine lv_iconst (v := nI 0) hx hb dX4_raises_0 (by decide) ?_
  refine lv_istore (lv' := [(4, .int (nI 0)), (0, .ref mq), (1, .int (nI cz)), (2, .int (nI z)), (3, .int (zI d))]) hx hb dX4_raises_1 hl (by decide) rfl (fun ls hl => ?_)
  refine lv_iconst (v := nI 0) hx hb dX4_raises_3 (by decide) ?_
  refine lv_istore (lv' := [(5, .int (nI 0)), (4, .int (nI 0)), (0, .ref mq), (1, .int (nI cz)), (2, .int (nI z)), (3, .int (zI d))]) hx hb dX4_raises_4 hl (by decide) rfl (fun ls hl => ?_)
  have L6 : ∀ (fuel : Nat) (k : Nat), z * z - k < fuel → (k ≤ z * z) → ∀ (H : Heap) (locs : List Loc), va_P G.1 vwCl [(mq, .inr (4, [.ref an, .ref ap, .int (nI st), .ref ak, .ref ai, .ref ad, .ref ac, .ref aw, .int (nI mn), .ref at_, .int (nI le), .int (nI th), .int (nI sp), .ref ao, .int (nI tm)])), (an, .inl (G.2.1, 525, .inl (gn (bkF 256 cz z k (fun a => lfV d (nw a)) nw))))] H → va_D A [(mq, .inr (4, [.ref an, .ref ap, .int (nI st), .ref ak, .ref ai, .ref ad, .ref ac, .ref aw, .int (nI mn), .ref at_, .int (nI le), .int (nI th), .int (nI sp), .ref ao, .int (nI tm)])), (an, .inl (G.2.1, 525, .inl (gn (bkF 256 cz z k (fun a => lfV d (nw a)) nw))))] → va_S A s.heap H locs → ∀ (ls : Array Slot), lv_has ls 8 [(5, .int (nI k)), (4, .int (nI (sSq (fun a => lfV d (nw (256 + a))) cz z k))), (0, .ref mq), (1, .int (nI cz)), (2, .int (nI z)), (3, .int (zI d))] → W p l e ({ frames := 0, cells := 0, slots := 0, locals := 0 } : Room) s m args below meth c H locs 0 0 (MQ below (va_Qi (S := Unit) (fun (r : Int32) (u : Unit) => (r = nI (sSq (fun a => lfV d (nw (256 + a))) cz z (z * z)))) (gB G A (fun (u : Unit) => [(mq, .inr (4, [.ref an, .ref ap, .int (nI st), .ref ak, .ref ai, .ref ad, .ref ac, .ref aw, .int (nI mn), .ref at_, .int (nI le), .int (nI th), .int (nI sp), .ref ao, .int (nI tm)])), (an, .inl (G.2.1, 525, .inl (gn (rsM nw cz z d))))])) A) args s 0 0 A) (F0 m 6 ls []) := by
    intro fuel
    induction fuel with
    | zero => intro k hme; exact absurd hme (Nat.not_lt_zero _)
    | succ fuel ih6 =>
      intro k hme hk H locs hP hD hS ls hl
      refine lv_iload hx hb dX4_raises_6 (lv_at hl 0 rfl) ?_
      refine lv_iload_n hx hb dX4_raises_8 rfl (lv_at hl 4 rfl) ?_
      refine lv_iload_n hx hb dX4_raises_9 rfl (lv_at hl 4 rfl) ?_
      refine gImul (a := z) (b := z) hx hb dX4_raises_10 ?_
      refine gIcmp_ge (a := k) (b := z * z) (tgt := 93) hx hb dX4_raises_11 (by decide) (by omega) (by omega) (fun c11 => ?_) (fun c11 => ?_)
      · skip
        refine lv_iload hx hb dX4_raises_93 (lv_at hl 1 rfl) ?_
        have hP := gEqN (q0 := 1) (f := bkF 256 cz z k (fun a => lfV d (nw a)) nw) (g := rsM nw cz z d) rfl (by intro j hj; rw [show k = z * z by omega, bkF_end hq1.2.2]; rfl) hP
        have hD := va_D.set (p := 1) (e := .inl (G.2.1, 525, .inl (gn (rsM nw cz z d)))) hD rfl
        have hP : va_P G.1 vwCl [(mq, .inr (4, [.ref an, .ref ap, .int (nI st), .ref ak, .ref ai, .ref ad, .ref ac, .ref aw, .int (nI mn), .ref at_, .int (nI le), .int (nI th), .int (nI sp), .ref ao, .int (nI tm)])), (an, .inl (G.2.1, 525, .inl (gn (rsM nw cz z d))))] H := hP
        have hD : va_D A [(mq, .inr (4, [.ref an, .ref ap, .int (nI st), .ref ak, .ref ai, .ref ad, .ref ac, .ref aw, .int (nI mn), .ref at_, .int (nI le), .int (nI th), .int (nI sp), .ref ao, .int (nI tm)])), (an, .inl (G.2.1, 525, .inl (gn (rsM nw cz z d))))] := hD
        exact gRi F dX4_raises_95 (rfl) () (by rw [show k = z * z by omega]) hP hD hS (Nat.le_refl _) (Nat.le_refl _)
      have hdm := cellQ hq1.2.2 (show k < z * z by omega); have hv9 := hhe (cz + (16 * (k / z)) + (k % z)) (by omega); rw [show 256 + (cz + (16 * (k / z)) + (k % z)) = 256 + cz + (16 * (k / z)) + (k % z) by omega] at hv9
      refine lv_sipush (v := nI 256) hx hb dX4_raises_14 (by decide) ?_
      refine lv_iload_n hx hb dX4_raises_17 rfl (lv_at hl 3 rfl) ?_
      refine gIadd (a := 256) (b := cz) hx hb dX4_raises_18 ?_
      refine lv_bipush (v := nI 16) hx hb dX4_raises_19 (by decide) ?_
      refine lv_iload hx hb dX4_raises_21 (lv_at hl 0 rfl) ?_
      refine lv_iload_n hx hb dX4_raises_23 rfl (lv_at hl 4 rfl) ?_
      refine gIdiv (a := k) (b := z) hx hb dX4_raises_24 (by omega) (by omega) (by omega) ?_
      refine gImul (a := 16) (b := k / z) hx hb dX4_raises_25 ?_
      refine gIadd (a := 256 + cz) (b := 16 * (k / z)) hx hb dX4_raises_26 ?_
      refine lv_iload hx hb dX4_raises_27 (lv_at hl 0 rfl) ?_
      refine lv_iload_n hx hb dX4_raises_29 rfl (lv_at hl 4 rfl) ?_
      refine gIrem (a := k) (b := z) hx hb dX4_raises_30 (by omega) (by omega) (by omega) ?_
      refine gIadd (a := 256 + cz + (16 * (k / z))) (b := k % z) hx hb dX4_raises_31 ?_
      refine lv_istore (lv' := [(6, .int (nI (256 + cz + (16 * (k / z)) + (k % z)))), (5, .int (nI k)), (4, .int (nI (sSq (fun a => lfV d (nw (256 + a))) cz z k))), (0, .ref mq), (1, .int (nI cz)), (2, .int (nI z)), (3, .int (zI d))]) hx hb dX4_raises_32 hl (by decide) rfl (fun ls hl => ?_)
      refine lv_aload_n hx hb dX4_raises_34 rfl (lv_at hl 3 rfl) ?_
      refine va_get (D := G.1) (ci := 4) (v := .ref an) (C := RX4) (T := TX4) (N := 15) hx hb hts hi4 hown hK hP 0 rfl rfl 0 (by decide) (hts (.fieldLink RX4 7 "LandQuartersModel" "now" "[I") (by decide +kernel)) (fun _ h9 => h9) rfl dX4_raises_35 ?_
      refine lv_iload hx hb dX4_raises_38 (lv_at hl 0 rfl) ?_
      refine gNald (k := 256 + cz + (16 * (k / z)) + (k % z)) hx hb hK hP 1 0 rfl rfl (by omega) (by first | decide | omega) dX4_raises_40 ?_
      refine W.eq (g2 := F0 m 41 ls [.int (nI (nw (256 + cz + (16 * (k / z)) + (k % z))))]) (by rw [show (nI ((bkF 256 cz z k (fun a => lfV d (nw a)) nw) (256 + cz + (16 * (k / z)) + (k % z))) : Int32) = nI (nw (256 + cz + (16 * (k / z)) + (k % z))) from by congr 1; exact bkF_at (by omega) (by omega) hdm.2]) ?_
      refine lv_iload_n hx hb dX4_raises_41 rfl (lv_at hl 6 rfl) ?_
      refine W.eq (g2 := F0 m 42 ls [.int (zI d), .int (zI ((nw (256 + cz + (16 * (k / z)) + (k % z)) : Nat) : Int))]) (by simp only [zI_nat]) ?_
      refine gZadd (a := ((nw (256 + cz + (16 * (k / z)) + (k % z)) : Nat) : Int)) (b := d) hx hb dX4_raises_42 ?_
      refine lv_istore (lv' := [(7, .int (zI (((nw (256 + cz + (16 * (k / z)) + (k % z)) : Nat) : Int) + d))), (6, .int (nI (256 + cz + (16 * (k / z)) + (k % z)))), (5, .int (nI k)), (4, .int (nI (sSq (fun a => lfV d (nw (256 + a))) cz z k))), (0, .ref mq), (1, .int (nI cz)), (2, .int (nI z)), (3, .int (zI d))]) hx hb dX4_raises_43 hl (by decide) rfl (fun ls hl => ?_)
      refine lv_aload_n hx hb dX4_raises_45 rfl (lv_at hl 4 rfl) ?_
      refine va_get (D := G.1) (ci := 4) (v := .ref an) (C := RX4) (T := TX4) (N := 15) hx hb hts hi4 hown hK hP 0 rfl rfl 0 (by decide) (hts (.fieldLink RX4 7 "LandQuartersModel" "now" "[I") (by decide +kernel)) (fun _ h9 => h9) rfl dX4_raises_46 ?_
      refine lv_iload hx hb dX4_raises_49 (lv_at hl 1 rfl) ?_
      refine lv_iload hx hb dX4_raises_51 (lv_at hl 0 rfl) ?_
      have J74 : ∀  (H : Heap) (locs : List Loc), va_P G.1 vwCl [(mq, .inr (4, [.ref an, .ref ap, .int (nI st), .ref ak, .ref ai, .ref ad, .ref ac, .ref aw, .int (nI mn), .ref at_, .int (nI le), .int (nI th), .int (nI sp), .ref ao, .int (nI tm)])), (an, .inl (G.2.1, 525, .inl (gn (bkF 256 cz z k (fun a => lfV d (nw a)) nw))))] H → va_D A [(mq, .inr (4, [.ref an, .ref ap, .int (nI st), .ref ak, .ref ai, .ref ad, .ref ac, .ref aw, .int (nI mn), .ref at_, .int (nI le), .int (nI th), .int (nI sp), .ref ao, .int (nI tm)])), (an, .inl (G.2.1, 525, .inl (gn (bkF 256 cz z k (fun a => lfV d (nw a)) nw))))] → va_S A s.heap H locs → ∀ (ls : Array Slot), lv_has ls 8 [(7, .int (zI (((nw (256 + cz + (16 * (k / z)) + (k % z)) : Nat) : Int) + d))), (6, .int (nI (256 + cz + (16 * (k / z)) + (k % z)))), (5, .int (nI k)), (4, .int (nI (sSq (fun a => lfV d (nw (256 + a))) cz z k))), (0, .ref mq), (1, .int (nI cz)), (2, .int (nI z)), (3, .int (zI d))] → W p l e ({ frames := 0, cells := 0, slots := 0, locals := 0 } : Room) s m args below meth c H locs 0 0 (MQ below (va_Qi (S := Unit) (fun (r : Int32) (u : Unit) => (r = nI (sSq (fun a => lfV d (nw (256 + a))) cz z (z * z)))) (gB G A (fun (u : Unit) => [(mq, .inr (4, [.ref an, .ref ap, .int (nI st), .ref ak, .ref ai, .ref ad, .ref ac, .ref aw, .int (nI mn), .ref at_, .int (nI le), .int (nI th), .int (nI sp), .ref ao, .int (nI tm)])), (an, .inl (G.2.1, 525, .inl (gn (rsM nw cz z d))))])) A) args s 0 0 A) (F0 m 74 ls [.int (nI (lfV d (nw (256 + cz + (16 * (k / z)) + (k % z))))), .int (nI (256 + cz + (16 * (k / z)) + (k % z))), .ref an]) := by
        intro  H locs hP hD hS ls hl
        refine gNast (k := 256 + cz + (16 * (k / z)) + (k % z)) (v := lfV d (nw (256 + cz + (16 * (k / z)) + (k % z)))) hx hb hK hP hD hS 1 0 rfl rfl (by omega) (by first | decide | omega) dX4_raises_74 (fun H locs hP hD hS => ?_)
        have hP : va_P G.1 vwCl [(mq, .inr (4, [.ref an, .ref ap, .int (nI st), .ref ak, .ref ai, .ref ad, .ref ac, .ref aw, .int (nI mn), .ref at_, .int (nI le), .int (nI th), .int (nI sp), .ref ao, .int (nI tm)])), (an, .inl (G.2.1, 525, .inl (gn (va_up (bkF 256 cz z k (fun a => lfV d (nw a)) nw) (256 + cz + (16 * (k / z)) + (k % z)) (lfV d (nw (256 + cz + (16 * (k / z)) + (k % z))))))))] H := hP
        have hD : va_D A [(mq, .inr (4, [.ref an, .ref ap, .int (nI st), .ref ak, .ref ai, .ref ad, .ref ac, .ref aw, .int (nI mn), .ref at_, .int (nI le), .int (nI th), .int (nI sp), .ref ao, .int (nI tm)])), (an, .inl (G.2.1, 525, .inl (gn (va_up (bkF 256 cz z k (fun a => lfV d (nw a)) nw) (256 + cz + (16 * (k / z)) + (k % z)) (lfV d (nw (256 + cz + (16 * (k / z)) + (k % z))))))))] := hD
        refine lv_iload hx hb dX4_raises_75 (lv_at hl 3 rfl) ?_
        refine lv_aload_n hx hb dX4_raises_77 rfl (lv_at hl 4 rfl) ?_
        refine va_get (D := G.1) (ci := 4) (v := .ref an) (C := RX4) (T := TX4) (N := 15) hx hb hts hi4 hown hK hP 0 rfl rfl 0 (by decide) (hts (.fieldLink RX4 7 "LandQuartersModel" "now" "[I") (by decide +kernel)) (fun _ h9 => h9) rfl dX4_raises_78 ?_
        refine lv_iload hx hb dX4_raises_81 (lv_at hl 1 rfl) ?_
        refine gNald (k := 256 + cz + (16 * (k / z)) + (k % z)) hx hb hK hP 1 0 rfl rfl (by omega) (by first | decide | omega) dX4_raises_83 ?_
        refine W.eq (g2 := F0 m 84 ls [.int (nI (lfV d (nw (256 + cz + (16 * (k / z)) + (k % z))))), .int (nI (sSq (fun a => lfV d (nw (256 + a))) cz z k))]) (by rw [show (nI ((va_up (bkF 256 cz z k (fun a => lfV d (nw a)) nw) (256 + cz + (16 * (k / z)) + (k % z)) (lfV d (nw (256 + cz + (16 * (k / z)) + (k % z))))) (256 + cz + (16 * (k / z)) + (k % z))) : Int32) = nI (lfV d (nw (256 + cz + (16 * (k / z)) + (k % z)))) from by rw [gu_s]]) ?_
        refine gIadd (a := sSq (fun a => lfV d (nw (256 + a))) cz z k) (b := lfV d (nw (256 + cz + (16 * (k / z)) + (k % z)))) hx hb dX4_raises_84 ?_
        refine lv_istore (lv' := [(4, .int (nI (sSq (fun a => lfV d (nw (256 + a))) cz z k + (lfV d (nw (256 + cz + (16 * (k / z)) + (k % z))))))), (7, .int (zI (((nw (256 + cz + (16 * (k / z)) + (k % z)) : Nat) : Int) + d))), (6, .int (nI (256 + cz + (16 * (k / z)) + (k % z)))), (5, .int (nI k)), (0, .ref mq), (1, .int (nI cz)), (2, .int (nI z)), (3, .int (zI d))]) hx hb dX4_raises_85 hl (by decide) rfl (fun ls hl => ?_)
        refine lv_iinc (v := nI (k + 1)) (lv' := [(5, .int (nI (k + 1))), (4, .int (nI (sSq (fun a => lfV d (nw (256 + a))) cz z k + (lfV d (nw (256 + cz + (16 * (k / z)) + (k % z))))))), (7, .int (zI (((nw (256 + cz + (16 * (k / z)) + (k % z)) : Nat) : Int) + d))), (6, .int (nI (256 + cz + (16 * (k / z)) + (k % z)))), (0, .ref mq), (1, .int (nI cz)), (2, .int (nI z)), (3, .int (zI d))]) hx hb dX4_raises_87 hl (k := 3) rfl (gInc_p _ rfl) (by decide) rfl (fun ls hl => ?_)
        refine lv_goto (tgt := 6) hx hb dX4_raises_90 (by decide) ?_
        have hP := gEqN (q0 := 1) (f := va_up (bkF 256 cz z k (fun a => lfV d (nw a)) nw) (256 + cz + (16 * (k / z)) + (k % z)) (lfV d (nw (256 + cz + (16 * (k / z)) + (k % z))))) (g := bkF 256 cz z (k + 1) (fun a => lfV d (nw a)) nw) rfl (by intro j hj; exact bkF_s (f := fun a => lfV d (nw a)) (by omega) (by omega) hdm.2 j) hP
        have hD := va_D.set (p := 1) (e := .inl (G.2.1, 525, .inl (gn (bkF 256 cz z (k + 1) (fun a => lfV d (nw a)) nw)))) hD rfl
        have hP : va_P G.1 vwCl [(mq, .inr (4, [.ref an, .ref ap, .int (nI st), .ref ak, .ref ai, .ref ad, .ref ac, .ref aw, .int (nI mn), .ref at_, .int (nI le), .int (nI th), .int (nI sp), .ref ao, .int (nI tm)])), (an, .inl (G.2.1, 525, .inl (gn (bkF 256 cz z (k + 1) (fun a => lfV d (nw a)) nw))))] H := hP
        have hD : va_D A [(mq, .inr (4, [.ref an, .ref ap, .int (nI st), .ref ak, .ref ai, .ref ad, .ref ac, .ref aw, .int (nI mn), .ref at_, .int (nI le), .int (nI th), .int (nI sp), .ref ao, .int (nI tm)])), (an, .inl (G.2.1, 525, .inl (gn (bkF 256 cz z (k + 1) (fun a => lfV d (nw a)) nw))))] := hD
        have hl : lv_has ls 8 [(5, .int (nI (k + 1))), (4, .int (nI (sSq (fun a => lfV d (nw (256 + a))) cz z k + (lfV d (nw (256 + cz + (16 * (k / z)) + (k % z))))))), (0, .ref mq), (1, .int (nI cz)), (2, .int (nI z)), (3, .int (zI d))] := lv_sub hl [0, 1, 4, 5, 6, 7] rfl
        have hle : (.int (nI (sSq (fun a => lfV d (nw (256 + a))) cz z k + (lfV d (nw (256 + cz + (16 * (k / z)) + (k % z)))))) : Value) = .int (nI (sSq (fun a => lfV d (nw (256 + a))) cz z (k + 1))) := by simp only [sSq]; rw [show 256 + (cz + 16 * (k / z) + k % z) = 256 + cz + 16 * (k / z) + k % z by omega]
        rw [hle] at hl
        have hy_1 : (k + 1) ≤ z * z := by omega
        exact ih6 (k + 1) (by omega) hy_1 H locs hP hD hS ls hl
      refine gZf_ge (a := ((nw (256 + cz + (16 * (k / z)) + (k % z)) : Nat) : Int) + d) (tgt := 60) hx hb dX4_raises_53 (by decide) (by omega) (fun c53 => ?_) (fun c53 => ?_)
      · skip
        refine lv_iload hx hb dX4_raises_60 (lv_at hl 0 rfl) ?_
        refine lv_bipush (v := nI 9) hx hb dX4_raises_62 (by decide) ?_
        refine W.eq (g2 := F0 m 64 ls [.int (zI ((9 : Nat) : Int)), .int (zI (((nw (256 + cz + (16 * (k / z)) + (k % z)) : Nat) : Int) + d)), .int (nI (256 + cz + (16 * (k / z)) + (k % z))), .ref an]) (by simp only [zI_nat]) ?_
        refine gZcmp_le (a := ((nw (256 + cz + (16 * (k / z)) + (k % z)) : Nat) : Int) + d) (b := ((9 : Nat) : Int)) (tgt := 72) hx hb dX4_raises_64 (by decide) (by omega) (by omega) (fun c64 => ?_) (fun c64 => ?_)
        · skip
          refine lv_iload hx hb dX4_raises_72 (lv_at hl 0 rfl) ?_
          have hl : lv_has ls 8 [(7, .int (zI (((nw (256 + cz + (16 * (k / z)) + (k % z)) : Nat) : Int) + d))), (6, .int (nI (256 + cz + (16 * (k / z)) + (k % z)))), (5, .int (nI k)), (4, .int (nI (sSq (fun a => lfV d (nw (256 + a))) cz z k))), (0, .ref mq), (1, .int (nI cz)), (2, .int (nI z)), (3, .int (zI d))] := lv_sub hl [0, 1, 2, 3, 4, 5, 6, 7] rfl
          have hse : (.int (zI (((nw (256 + cz + (16 * (k / z)) + (k % z)) : Nat) : Int) + d)) : Value) = .int (nI (lfV d (nw (256 + cz + (16 * (k / z)) + (k % z))))) := by first | (refine congrArg Value.int ?_; rw [zI_toNat (by omega)]; congr 1; unfold lfV; omega) | (refine congrArg (fun n_ : Nat => Value.int (nI n_)) ?_; unfold lfV; omega)
          refine W.eq (g2 := F0 m 74 ls [.int (nI (lfV d (nw (256 + cz + (16 * (k / z)) + (k % z))))), .int (nI (256 + cz + (16 * (k / z)) + (k % z))), .ref an]) (congrArg (fun v_ => F0 m 74 ls [v_, .int (nI (256 + cz + (16 * (k / z)) + (k % z))), .ref an]) hse) ?_
          exact J74  H locs hP hD hS ls hl
        refine lv_bipush (v := nI 9) hx hb dX4_raises_67 (by decide) ?_
        refine lv_goto (tgt := 74) hx hb dX4_raises_69 (by decide) ?_
        have hl : lv_has ls 8 [(7, .int (zI (((nw (256 + cz + (16 * (k / z)) + (k % z)) : Nat) : Int) + d))), (6, .int (nI (256 + cz + (16 * (k / z)) + (k % z)))), (5, .int (nI k)), (4, .int (nI (sSq (fun a => lfV d (nw (256 + a))) cz z k))), (0, .ref mq), (1, .int (nI cz)), (2, .int (nI z)), (3, .int (zI d))] := lv_sub hl [0, 1, 2, 3, 4, 5, 6, 7] rfl
        have hse : (.int (nI 9) : Value) = .int (nI (lfV d (nw (256 + cz + (16 * (k / z)) + (k % z))))) := by first | (refine congrArg Value.int ?_; rw [zI_toNat (by omega)]; congr 1; unfold lfV; omega) | (refine congrArg (fun n_ : Nat => Value.int (nI n_)) ?_; unfold lfV; omega)
        refine W.eq (g2 := F0 m 74 ls [.int (nI (lfV d (nw (256 + cz + (16 * (k / z)) + (k % z))))), .int (nI (256 + cz + (16 * (k / z)) + (k % z))), .ref an]) (congrArg (fun v_ => F0 m 74 ls [v_, .int (nI (256 + cz + (16 * (k / z)) + (k % z))), .ref an]) hse) ?_
        exact J74  H locs hP hD hS ls hl
      refine lv_iconst (v := nI 0) hx hb dX4_raises_56 (by decide) ?_
      refine lv_goto (tgt := 74) hx hb dX4_raises_57 (by decide) ?_
      have hl : lv_has ls 8 [(7, .int (zI (((nw (256 + cz + (16 * (k / z)) + (k % z)) : Nat) : Int) + d))), (6, .int (nI (256 + cz + (16 * (k / z)) + (k % z)))), (5, .int (nI k)), (4, .int (nI (sSq (fun a => lfV d (nw (256 + a))) cz z k))), (0, .ref mq), (1, .int (nI cz)), (2, .int (nI z)), (3, .int (zI d))] := lv_sub hl [0, 1, 2, 3, 4, 5, 6, 7] rfl
      have hse : (.int (nI 0) : Value) = .int (nI (lfV d (nw (256 + cz + (16 * (k / z)) + (k % z))))) := by first | (refine congrArg Value.int ?_; rw [zI_toNat (by omega)]; congr 1; unfold lfV; omega) | (refine congrArg (fun n_ : Nat => Value.int (nI n_)) ?_; unfold lfV; omega)
      refine W.eq (g2 := F0 m 74 ls [.int (nI (lfV d (nw (256 + cz + (16 * (k / z)) + (k % z))))), .int (nI (256 + cz + (16 * (k / z)) + (k % z))), .ref an]) (congrArg (fun v_ => F0 m 74 ls [v_, .int (nI (256 + cz + (16 * (k / z)) + (k % z))), .ref an]) hse) ?_
      exact J74  H locs hP hD hS ls hl
  have hP := gEqN (q0 := 1) (f := nw) (g := bkF 256 cz z 0 (fun a => lfV d (nw a)) nw) rfl (by intro j hj; exact (bkF_0 j).symm) hP
  have hD := va_D.set (p := 1) (e := .inl (G.2.1, 525, .inl (gn (bkF 256 cz z 0 (fun a => lfV d (nw a)) nw)))) hD rfl
  have hP : va_P G.1 vwCl [(mq, .inr (4, [.ref an, .ref ap, .int (nI st), .ref ak, .ref ai, .ref ad, .ref ac, .ref aw, .int (nI mn), .ref at_, .int (nI le), .int (nI th), .int (nI sp), .ref ao, .int (nI tm)])), (an, .inl (G.2.1, 525, .inl (gn (bkF 256 cz z 0 (fun a => lfV d (nw a)) nw))))] H := hP
  have hD : va_D A [(mq, .inr (4, [.ref an, .ref ap, .int (nI st), .ref ak, .ref ai, .ref ad, .ref ac, .ref aw, .int (nI mn), .ref at_, .int (nI le), .int (nI th), .int (nI sp), .ref ao, .int (nI tm)])), (an, .inl (G.2.1, 525, .inl (gn (bkF 256 cz z 0 (fun a => lfV d (nw a)) nw))))] := hD
  have hl : lv_has ls 8 [(5, .int (nI 0)), (4, .int (nI 0)), (0, .ref mq), (1, .int (nI cz)), (2, .int (nI z)), (3, .int (zI d))] := lv_sub hl [0, 1, 2, 3, 4, 5] rfl
  have hle : (.int (nI 0) : Value) = .int (nI (sSq (fun a => lfV d (nw (256 + a))) cz z 0)) := by rfl
  rw [hle] at hl
  have hy_2 : 0 ≤ z * z := by omega
  exact L6 _ 0 (Nat.lt_succ_self _) hy_2 H locs hP hD hS ls hl

set_option maxHeartbeats 4000000 in
set_option maxRecDepth 100000 in
theorem c_X4_low (l : Launch) (G : gG) (mq : Nat) (an : Nat) (ap : Nat) (st : Nat) (ak : Nat) (ai : Nat) (ad : Nat) (ac : Nat) (aw : Nat) (mn : Nat) (at_ : Nat) (le : Nat) (th : Nat) (sp : Nat) (ao : Nat) (tm : Nat) (nw : Nat → Nat) (o : Nat) (lv : Nat) (how : ∀ k, k < 256 → nw k < 8) (hhe : ∀ k, k < 256 → nw (256 + k) < 10) (ho : o < 8) (hlv : lv < 2 ^ 31) : gMi (S := Unit) l yX4_low wsX4_low { frames := 0, cells := 0, slots := 0, locals := 0 } G [.ref mq, .int (nI o), .int (nI lv)] [(mq, .inr (4, [.ref an, .ref ap, .int (nI st), .ref ak, .ref ai, .ref ad, .ref ac, .ref aw, .int (nI mn), .ref at_, .int (nI le), .int (nI th), .int (nI sp), .ref ao, .int (nI tm)])), (an, .inl (G.2.1, 525, .inl (gn nw)))] (fun (r : Int32) (u : Unit) => (r = nI (sBelow nw (hM nw) o lv 256))) (fun u => [(mq, .inr (4, [.ref an, .ref ap, .int (nI st), .ref ak, .ref ai, .ref ad, .ref ac, .ref aw, .int (nI mn), .ref at_, .int (nI le), .int (nI th), .int (nI sp), .ref ao, .int (nI tm)])), (an, .inl (G.2.1, 525, .inl (gn nw)))]) 0 0 := by
  refine gMet_mk (cc := cX4_low) (nL := 5) (ret := (some .int)) (Qc := fun A => va_Qi (S := Unit) (fun (r : Int32) (u : Unit) => (r = nI (sBelow nw (hM nw) o lv 256))) (gB G A (fun (u : Unit) => [(mq, .inr (4, [.ref an, .ref ap, .int (nI st), .ref ak, .ref ai, .ref ad, .ref ac, .ref aw, .int (nI mn), .ref at_, .int (nI le), .int (nI th), .int (nI sp), .ref ao, .int (nI tm)])), (an, .inl (G.2.1, 525, .inl (gn nw)))])) A) (by decide) rfl (Nat.le_of_ble_eq_true rfl) ?_
  intro p e s m args below meth c A F ls hl hP hD hS
  have hx := F.1
  have hb := F.2.1
  have hts := F.2.2.2.2.2.2.1
  have hown : s.vm.findClass RX4 = some m.cls := F.2.2.2.2.2.1
  have hKK := F.2.2.2.2.2.2.2.2.1
  have hK := hKK.1
  have hin0 := F.2.2.2.2.2.2.2.1
  have hi4 : ∀ w ∈ u_ws RX4 TX4 15, w ∈ wsX4_low := by decide +kernel
  have hl : lv_has ls 5 [(0, .ref mq), (1, .int (nI o)), (2, .int (nI lv))] := hl
  generalize hH : s.heap = H at hP ⊢
  have hS : va_S A s.heap H [] := by rw [← hH]; exact va_S.rf
  generalize hLo : ([] : List Loc) = locs at hS ⊢
  refine lv_iconst (v := nI 0) hx hb dX4_low_0 (by decide) ?_
  refine lv_istore_n (lv' := [(3, .int (nI 0)), (0, .ref mq), (1, .int (nI o)), (2, .int (nI lv))]) hx hb dX4_low_1 rfl hl (by decide) rfl (fun ls hl => ?_)
  refine lv_iconst (v := nI 0) hx hb dX4_low_2 (by decide) ?_
  refine lv_istore (lv' := [(4, .int (nI 0)), (3, .int (nI 0)), (0, .ref mq), (1, .int (nI o)), (2, .int (nI lv))]) hx hb dX4_low_3 hl (by decide) rfl (fun ls hl => ?_)
  have L5 : ∀ (fuel : Nat) (k : Nat), 256 - k < fuel → (k ≤ 256) → ∀ (H : Heap) (locs : List Loc), va_P G.1 vwCl [(mq, .inr (4, [.ref an, .ref ap, .int (nI st), .ref ak, .ref ai, .ref ad, .ref ac, .ref aw, .int (nI mn), .ref at_, .int (nI le), .int (nI th), .int (nI sp), .ref ao, .int (nI tm)])), (an, .inl (G.2.1, 525, .inl (gn nw)))] H → va_D A [(mq, .inr (4, [.ref an, .ref ap, .int (nI st), .ref ak, .ref ai, .ref ad, .ref ac, .ref aw, .int (nI mn), .ref at_, .int (nI le), .int (nI th), .int (nI sp), .ref ao, .int (nI tm)])), (an, .inl (G.2.1, 525, .inl (gn nw)))] → va_S A s.heap H locs → ∀ (ls : Array Slot), lv_has ls 5 [(4, .int (nI k)), (3, .int (nI (sBelow nw (hM nw) o lv k))), (0, .ref mq), (1, .int (nI o)), (2, .int (nI lv))] → W p l e ({ frames := 0, cells := 0, slots := 0, locals := 0 } : Room) s m args below meth c H locs 0 0 (MQ below (va_Qi (S := Unit) (fun (r : Int32) (u : Unit) => (r = nI (sBelow nw (hM nw) o lv 256))) (gB G A (fun (u : Unit) => [(mq, .inr (4, [.ref an, .ref ap, .int (nI st), .ref ak, .ref ai, .ref ad, .ref ac, .ref aw, .int (nI mn), .ref at_, .int (nI le), .int (nI th), .int (nI sp), .ref ao, .int (nI tm)])), (an, .inl (G.2.1, 525, .inl (gn nw)))])) A) args s 0 0 A) (F0 m 5 ls []) := by
    intro fuel
    induction fuel with
    | zero => intro k hme; exact absurd hme (Nat.not_lt_zero _)
    | succ fuel ih5 =>
      intro k hme hk H locs hP hD hS ls hl
      refine lv_iload hx hb dX4_low_5 (lv_at hl 0 rfl) ?_
      refine lv_sipush (v := nI 256) hx hb dX4_low_7 (by decide) ?_
      refine gIcmp_ge (a := k) (b := 256) (tgt := 53) hx hb dX4_low_10 (by decide) (by omega) (by omega) (fun c10 => ?_) (fun c10 => ?_)
      · skip
        refine lv_iload_n hx hb dX4_low_53 rfl (lv_at hl 1 rfl) ?_
        exact gRi F dX4_low_54 (rfl) () (by rw [show k = 256 by omega]) hP hD hS (Nat.le_refl _) (Nat.le_refl _)
      have J45 : ∀  (H : Heap) (locs : List Loc), va_P G.1 vwCl [(mq, .inr (4, [.ref an, .ref ap, .int (nI st), .ref ak, .ref ai, .ref ad, .ref ac, .ref aw, .int (nI mn), .ref at_, .int (nI le), .int (nI th), .int (nI sp), .ref ao, .int (nI tm)])), (an, .inl (G.2.1, 525, .inl (gn nw)))] H → va_D A [(mq, .inr (4, [.ref an, .ref ap, .int (nI st), .ref ak, .ref ai, .ref ad, .ref ac, .ref aw, .int (nI mn), .ref at_, .int (nI le), .int (nI th), .int (nI sp), .ref ao, .int (nI tm)])), (an, .inl (G.2.1, 525, .inl (gn nw)))] → va_S A s.heap H locs → ∀ (ls : Array Slot), lv_has ls 5 [(4, .int (nI k)), (3, .int (nI (sBelow nw (hM nw) o lv k))), (0, .ref mq), (1, .int (nI o)), (2, .int (nI lv))] → W p l e ({ frames := 0, cells := 0, slots := 0, locals := 0 } : Room) s m args below meth c H locs 0 0 (MQ below (va_Qi (S := Unit) (fun (r : Int32) (u : Unit) => (r = nI (sBelow nw (hM nw) o lv 256))) (gB G A (fun (u : Unit) => [(mq, .inr (4, [.ref an, .ref ap, .int (nI st), .ref ak, .ref ai, .ref ad, .ref ac, .ref aw, .int (nI mn), .ref at_, .int (nI le), .int (nI th), .int (nI sp), .ref ao, .int (nI tm)])), (an, .inl (G.2.1, 525, .inl (gn nw)))])) A) args s 0 0 A) (F0 m 45 ls [.int (nI (if (nw k = o ∧ nw (256 + k) < lv) then 1 else 0)), .int (nI (sBelow nw (hM nw) o lv k))]) := by
        intro  H locs hP hD hS ls hl
        refine gIadd (a := sBelow nw (hM nw) o lv k) (b := (if (nw k = o ∧ nw (256 + k) < lv) then 1 else 0)) hx hb dX4_low_45 ?_
        refine lv_istore_n (lv' := [(3, .int (nI (sBelow nw (hM nw) o lv k + (if (nw k = o ∧ nw (256 + k) < lv) then 1 else 0)))), (4, .int (nI k)), (0, .ref mq), (1, .int (nI o)), (2, .int (nI lv))]) hx hb dX4_low_46 rfl hl (by decide) rfl (fun ls hl => ?_)
        refine lv_iinc (v := nI (k + 1)) (lv' := [(4, .int (nI (k + 1))), (3, .int (nI (sBelow nw (hM nw) o lv k + (if (nw k = o ∧ nw (256 + k) < lv) then 1 else 0)))), (0, .ref mq), (1, .int (nI o)), (2, .int (nI lv))]) hx hb dX4_low_47 hl (k := 1) rfl (gInc_p _ rfl) (by decide) rfl (fun ls hl => ?_)
        refine lv_goto (tgt := 5) hx hb dX4_low_50 (by decide) ?_
        have hl : lv_has ls 5 [(4, .int (nI (k + 1))), (3, .int (nI (sBelow nw (hM nw) o lv k + (if (nw k = o ∧ nw (256 + k) < lv) then 1 else 0)))), (0, .ref mq), (1, .int (nI o)), (2, .int (nI lv))] := lv_sub hl [0, 1, 2, 3, 4] rfl
        have hle : (.int (nI (sBelow nw (hM nw) o lv k + (if (nw k = o ∧ nw (256 + k) < lv) then 1 else 0))) : Value) = .int (nI (sBelow nw (hM nw) o lv (k + 1))) := by rfl
        rw [hle] at hl
        have hy_1 : (k + 1) ≤ 256 := by omega
        exact ih5 (k + 1) (by omega) hy_1 H locs hP hD hS ls hl
      refine lv_iload_n hx hb dX4_low_13 rfl (lv_at hl 1 rfl) ?_
      refine lv_aload_n hx hb dX4_low_14 rfl (lv_at hl 2 rfl) ?_
      refine va_get (D := G.1) (ci := 4) (v := .ref an) (C := RX4) (T := TX4) (N := 15) hx hb hts hi4 hown hK hP 0 rfl rfl 0 (by decide) (hts (.fieldLink RX4 7 "LandQuartersModel" "now" "[I") (by decide +kernel)) (fun _ h9 => h9) rfl dX4_low_15 ?_
      refine lv_iload hx hb dX4_low_18 (lv_at hl 0 rfl) ?_
      refine gNald (k := k) hx hb hK hP 1 0 rfl rfl (by omega) (by first | decide | omega) dX4_low_20 ?_
      refine lv_iload_n hx hb dX4_low_21 rfl (lv_at hl 3 rfl) ?_
      refine gIcmp_ne (a := nw k) (b := o) (tgt := 44) hx hb dX4_low_22 (by decide) (by have := how k (by omega); omega) (by omega) (fun c22 => ?_) (fun c22 => ?_)
      · skip
        refine lv_iconst (v := nI 0) hx hb dX4_low_44 (by decide) ?_
        have hl : lv_has ls 5 [(4, .int (nI k)), (3, .int (nI (sBelow nw (hM nw) o lv k))), (0, .ref mq), (1, .int (nI o)), (2, .int (nI lv))] := lv_sub hl [0, 1, 2, 3, 4] rfl
        have hse : (.int (nI 0) : Value) = .int (nI (if (nw k = o ∧ nw (256 + k) < lv) then 1 else 0)) := by first | rw [if_pos (by omega)] | rw [if_neg (by omega)]
        refine W.eq (g2 := F0 m 45 ls [.int (nI (if (nw k = o ∧ nw (256 + k) < lv) then 1 else 0)), .int (nI (sBelow nw (hM nw) o lv k))]) (congrArg (fun v_ => F0 m 45 ls [v_, .int (nI (sBelow nw (hM nw) o lv k))]) hse) ?_
        exact J45  H locs hP hD hS ls hl
      refine lv_aload_n hx hb dX4_low_25 rfl (lv_at hl 2 rfl) ?_
      refine va_get (D := G.1) (ci := 4) (v := .ref an) (C := RX4) (T := TX4) (N := 15) hx hb hts hi4 hown hK hP 0 rfl rfl 0 (by decide) (hts (.fieldLink RX4 7 "LandQuartersModel" "now" "[I") (by decide +kernel)) (fun _ h9 => h9) rfl dX4_low_26 ?_
      refine lv_sipush (v := nI 256) hx hb dX4_low_29 (by decide) ?_
      refine lv_iload hx hb dX4_low_32 (lv_at hl 0 rfl) ?_
      refine gIadd (a := 256) (b := k) hx hb dX4_low_34 ?_
      refine gNald (k := 256 + k) hx hb hK hP 1 0 rfl rfl (by omega) (by first | decide | omega) dX4_low_35 ?_
      refine lv_iload_n hx hb dX4_low_36 rfl (lv_at hl 4 rfl) ?_
      refine gIcmp_ge (a := nw (256 + k)) (b := lv) (tgt := 44) hx hb dX4_low_37 (by decide) (by have := hhe k (by omega); omega) (by omega) (fun c37 => ?_) (fun c37 => ?_)
      · skip
        refine lv_iconst (v := nI 0) hx hb dX4_low_44 (by decide) ?_
        have hl : lv_has ls 5 [(4, .int (nI k)), (3, .int (nI (sBelow nw (hM nw) o lv k))), (0, .ref mq), (1, .int (nI o)), (2, .int (nI lv))] := lv_sub hl [0, 1, 2, 3, 4] rfl
        have hse : (.int (nI 0) : Value) = .int (nI (if (nw k = o ∧ nw (256 + k) < lv) then 1 else 0)) := by first | rw [if_pos (by omega)] | rw [if_neg (by omega)]
        refine W.eq (g2 := F0 m 45 ls [.int (nI (if (nw k = o ∧ nw (256 + k) < lv) then 1 else 0)), .int (nI (sBelow nw (hM nw) o lv k))]) (congrArg (fun v_ => F0 m 45 ls [v_, .int (nI (sBelow nw (hM nw) o lv k))]) hse) ?_
        exact J45  H locs hP hD hS ls hl
      refine lv_iconst (v := nI 1) hx hb dX4_low_40 (by decide) ?_
      refine lv_goto (tgt := 45) hx hb dX4_low_41 (by decide) ?_
      have hl : lv_has ls 5 [(4, .int (nI k)), (3, .int (nI (sBelow nw (hM nw) o lv k))), (0, .ref mq), (1, .int (nI o)), (2, .int (nI lv))] := lv_sub hl [0, 1, 2, 3, 4] rfl
      have hse : (.int (nI 1) : Value) = .int (nI (if (nw k = o ∧ nw (256 + k) < lv) then 1 else 0)) := by first | rw [if_pos (by omega)] | rw [if_neg (by omega)]
      refine W.eq (g2 := F0 m 45 ls [.int (nI (if (nw k = o ∧ nw (256 + k) < lv) then 1 else 0)), .int (nI (sBelow nw (hM nw) o lv k))]) (congrArg (fun v_ => F0 m 45 ls [v_, .int (nI (sBelow nw (hM nw) o lv k))]) hse) ?_
      exact J45  H locs hP hD hS ls hl
  have hl : lv_has ls 5 [(4, .int (nI 0)), (3, .int (nI 0)), (0, .ref mq), (1, .int (nI o)), (2, .int (nI lv))] := lv_sub hl [0, 1, 2, 3, 4] rfl
  have hle : (.int (nI 0) : Value) = .int (nI (sBelow nw (hM nw) o lv 0)) := by rfl
  rw [hle] at hl
  have hy_2 : 0 ≤ 256 := by omega
  exact L5 _ 0 (Nat.lt_succ_self _) hy_2 H locs hP hD hS ls hl

set_option maxHeartbeats 4000000 in
set_option maxRecDepth 100000 in
theorem c_X4_floodsTo (l : Launch) (G : gG) (mq : Nat) (an : Nat) (ap : Nat) (st : Nat) (ak : Nat) (ai : Nat) (ad : Nat) (ac : Nat) (aw : Nat) (mn : Nat) (at_ : Nat) (le : Nat) (th : Nat) (sp : Nat) (ao : Nat) (tm : Nat) (nw : Nat → Nat) (lv : Nat) (how : ∀ k, k < 256 → nw k < 8) (hhe : ∀ k, k < 256 → nw (256 + k) < 10) (hlv : lv < 2 ^ 31) : gMi (S := Unit) l yX4_floodsTo wsX4_floodsTo { frames := 0, cells := 0, slots := 0, locals := 0 } G [.ref mq, .int (nI lv)] [(mq, .inr (4, [.ref an, .ref ap, .int (nI st), .ref ak, .ref ai, .ref ad, .ref ac, .ref aw, .int (nI mn), .ref at_, .int (nI le), .int (nI th), .int (nI sp), .ref ao, .int (nI tm)])), (an, .inl (G.2.1, 525, .inl (gn nw)))] (fun (r : Int32) (u : Unit) => (r = nI (drLost nw (hM nw) lv 256))) (fun u => [(mq, .inr (4, [.ref an, .ref ap, .int (nI st), .ref ak, .ref ai, .ref ad, .ref ac, .ref aw, .int (nI mn), .ref at_, .int (nI le), .int (nI th), .int (nI sp), .ref ao, .int (nI tm)])), (an, .inl (G.2.1, 525, .inl (gn (flM nw lv))))]) 0 0 := by
  refine gMet_mk (cc := cX4_floodsTo) (nL := 5) (ret := (some .int)) (Qc := fun A => va_Qi (S := Unit) (fun (r : Int32) (u : Unit) => (r = nI (drLost nw (hM nw) lv 256))) (gB G A (fun (u : Unit) => [(mq, .inr (4, [.ref an, .ref ap, .int (nI st), .ref ak, .ref ai, .ref ad, .ref ac, .ref aw, .int (nI mn), .ref at_, .int (nI le), .int (nI th), .int (nI sp), .ref ao, .int (nI tm)])), (an, .inl (G.2.1, 525, .inl (gn (flM nw lv))))])) A) (by decide) rfl (Nat.le_of_ble_eq_true rfl) ?_
  intro p e s m args below meth c A F ls hl hP hD hS
  have hx := F.1
  have hb := F.2.1
  have hts := F.2.2.2.2.2.2.1
  have hown : s.vm.findClass RX4 = some m.cls := F.2.2.2.2.2.1
  have hKK := F.2.2.2.2.2.2.2.2.1
  have hK := hKK.1
  have hin0 := F.2.2.2.2.2.2.2.1
  have hi4 : ∀ w ∈ u_ws RX4 TX4 15, w ∈ wsX4_floodsTo := by decide +kernel
  have hl : lv_has ls 5 [(0, .ref mq), (1, .int (nI lv))] := hl
  generalize hH : s.heap = H at hP ⊢
  have hS : va_S A s.heap H [] := by rw [← hH]; exact va_S.rf
  generalize hLo : ([] : List Loc) = locs at hS ⊢
  refine lv_iconst (v := nI 0) hx hb dX4_floodsTo_0 (by decide) ?_
  refine lv_istore_n (lv' := [(2, .int (nI 0)), (0, .ref mq), (1, .int (nI lv))]) hx hb dX4_floodsTo_1 rfl hl (by decide) rfl (fun ls hl => ?_)
  refine lv_iconst (v := nI 0) hx hb dX4_floodsTo_2 (by decide) ?_
  refine lv_istore_n (lv' := [(3, .int (nI 0)), (2, .int (nI 0)), (0, .ref mq), (1, .int (nI lv))]) hx hb dX4_floodsTo_3 rfl hl (by decide) rfl (fun ls hl => ?_)
  have L4 : ∀ (fuel : Nat) (k : Nat), 256 - k < fuel → (k ≤ 256) → ∀ (H : Heap) (locs : List Loc), va_P G.1 vwCl [(mq, .inr (4, [.ref an, .ref ap, .int (nI st), .ref ak, .ref ai, .ref ad, .ref ac, .ref aw, .int (nI mn), .ref at_, .int (nI le), .int (nI th), .int (nI sp), .ref ao, .int (nI tm)])), (an, .inl (G.2.1, 525, .inl (gn (fun j => if j < k then drOw nw (hM nw) lv j else nw j))))] H → va_D A [(mq, .inr (4, [.ref an, .ref ap, .int (nI st), .ref ak, .ref ai, .ref ad, .ref ac, .ref aw, .int (nI mn), .ref at_, .int (nI le), .int (nI th), .int (nI sp), .ref ao, .int (nI tm)])), (an, .inl (G.2.1, 525, .inl (gn (fun j => if j < k then drOw nw (hM nw) lv j else nw j))))] → va_S A s.heap H locs → ∀ (ls : Array Slot), lv_has ls 5 [(3, .int (nI k)), (2, .int (nI (drLost nw (hM nw) lv k))), (0, .ref mq), (1, .int (nI lv))] → W p l e ({ frames := 0, cells := 0, slots := 0, locals := 0 } : Room) s m args below meth c H locs 0 0 (MQ below (va_Qi (S := Unit) (fun (r : Int32) (u : Unit) => (r = nI (drLost nw (hM nw) lv 256))) (gB G A (fun (u : Unit) => [(mq, .inr (4, [.ref an, .ref ap, .int (nI st), .ref ak, .ref ai, .ref ad, .ref ac, .ref aw, .int (nI mn), .ref at_, .int (nI le), .int (nI th), .int (nI sp), .ref ao, .int (nI tm)])), (an, .inl (G.2.1, 525, .inl (gn (flM nw lv))))])) A) args s 0 0 A) (F0 m 4 ls []) := by
    intro fuel
    induction fuel with
    | zero => intro k hme; exact absurd hme (Nat.not_lt_zero _)
    | succ fuel ih4 =>
      intro k hme hk H locs hP hD hS ls hl
      refine lv_iload_n hx hb dX4_floodsTo_4 rfl (lv_at hl 0 rfl) ?_
      refine lv_sipush (v := nI 256) hx hb dX4_floodsTo_5 (by decide) ?_
      refine gIcmp_ge (a := k) (b := 256) (tgt := 81) hx hb dX4_floodsTo_8 (by decide) (by omega) (by omega) (fun c8 => ?_) (fun c8 => ?_)
      · skip
        refine lv_aload_n hx hb dX4_floodsTo_81 rfl (lv_at hl 2 rfl) ?_
        refine va_get (D := G.1) (ci := 4) (v := .ref an) (C := RX4) (T := TX4) (N := 15) hx hb hts hi4 hown hK hP 0 rfl rfl 0 (by decide) (hts (.fieldLink RX4 7 "LandQuartersModel" "now" "[I") (by decide +kernel)) (fun _ h9 => h9) rfl dX4_floodsTo_82 ?_
        refine lv_sipush (v := nI 523) hx hb dX4_floodsTo_85 (by decide) ?_
        refine lv_dup2_11 hx hb dX4_floodsTo_88 rfl rfl ?_
        refine gNald (k := 523) hx hb hK hP 1 0 rfl rfl (by omega) (by first | decide | omega) dX4_floodsTo_89 ?_
        refine W.eq (g2 := F0 m 90 ls [.int (nI (nw 523)), .int (nI 523), .ref an]) (by rw [show (nI ((fun j => if j < k then drOw nw (hM nw) lv j else nw j) 523) : Int32) = nI (nw 523) from by congr 1; exact if_neg (by omega)]) ?_
        refine lv_iconst (v := nI 1) hx hb dX4_floodsTo_90 (by decide) ?_
        refine gIadd (a := nw 523) (b := 1) hx hb dX4_floodsTo_91 ?_
        refine gNast (k := 523) (v := nw 523 + 1) hx hb hK hP hD hS 1 0 rfl rfl (by omega) (by first | decide | omega) dX4_floodsTo_92 (fun H locs hP hD hS => ?_)
        have hP : va_P G.1 vwCl [(mq, .inr (4, [.ref an, .ref ap, .int (nI st), .ref ak, .ref ai, .ref ad, .ref ac, .ref aw, .int (nI mn), .ref at_, .int (nI le), .int (nI th), .int (nI sp), .ref ao, .int (nI tm)])), (an, .inl (G.2.1, 525, .inl (gn (va_up (fun j => if j < k then drOw nw (hM nw) lv j else nw j) 523 (nw 523 + 1)))))] H := hP
        have hD : va_D A [(mq, .inr (4, [.ref an, .ref ap, .int (nI st), .ref ak, .ref ai, .ref ad, .ref ac, .ref aw, .int (nI mn), .ref at_, .int (nI le), .int (nI th), .int (nI sp), .ref ao, .int (nI tm)])), (an, .inl (G.2.1, 525, .inl (gn (va_up (fun j => if j < k then drOw nw (hM nw) lv j else nw j) 523 (nw 523 + 1)))))] := hD
        refine lv_iload_n hx hb dX4_floodsTo_93 rfl (lv_at hl 1 rfl) ?_
        have hP := gEqN (q0 := 1) (f := va_up (fun j => if j < k then drOw nw (hM nw) lv j else nw j) 523 (nw 523 + 1)) (g := flM nw lv) rfl (by intro j hj; rw [show k = 256 by omega]; rfl) hP
        have hD := va_D.set (p := 1) (e := .inl (G.2.1, 525, .inl (gn (flM nw lv)))) hD rfl
        have hP : va_P G.1 vwCl [(mq, .inr (4, [.ref an, .ref ap, .int (nI st), .ref ak, .ref ai, .ref ad, .ref ac, .ref aw, .int (nI mn), .ref at_, .int (nI le), .int (nI th), .int (nI sp), .ref ao, .int (nI tm)])), (an, .inl (G.2.1, 525, .inl (gn (flM nw lv))))] H := hP
        have hD : va_D A [(mq, .inr (4, [.ref an, .ref ap, .int (nI st), .ref ak, .ref ai, .ref ad, .ref ac, .ref aw, .int (nI mn), .ref at_, .int (nI le), .int (nI th), .int (nI sp), .ref ao, .int (nI tm)])), (an, .inl (G.2.1, 525, .inl (gn (flM nw lv))))] := hD
        exact gRi F dX4_floodsTo_94 (rfl) () (by rw [show k = 256 by omega]) hP hD hS (Nat.le_refl _) (Nat.le_refl _)
      have J30 : ∀  (H : Heap) (locs : List Loc), va_P G.1 vwCl [(mq, .inr (4, [.ref an, .ref ap, .int (nI st), .ref ak, .ref ai, .ref ad, .ref ac, .ref aw, .int (nI mn), .ref at_, .int (nI le), .int (nI th), .int (nI sp), .ref ao, .int (nI tm)])), (an, .inl (G.2.1, 525, .inl (gn (fun j => if j < k then drOw nw (hM nw) lv j else nw j))))] H → va_D A [(mq, .inr (4, [.ref an, .ref ap, .int (nI st), .ref ak, .ref ai, .ref ad, .ref ac, .ref aw, .int (nI mn), .ref at_, .int (nI le), .int (nI th), .int (nI sp), .ref ao, .int (nI tm)])), (an, .inl (G.2.1, 525, .inl (gn (fun j => if j < k then drOw nw (hM nw) lv j else nw j))))] → va_S A s.heap H locs → ∀ (ls : Array Slot), lv_has ls 5 [(3, .int (nI k)), (2, .int (nI (drLost nw (hM nw) lv k))), (0, .ref mq), (1, .int (nI lv))] → W p l e ({ frames := 0, cells := 0, slots := 0, locals := 0 } : Room) s m args below meth c H locs 0 0 (MQ below (va_Qi (S := Unit) (fun (r : Int32) (u : Unit) => (r = nI (drLost nw (hM nw) lv 256))) (gB G A (fun (u : Unit) => [(mq, .inr (4, [.ref an, .ref ap, .int (nI st), .ref ak, .ref ai, .ref ad, .ref ac, .ref aw, .int (nI mn), .ref at_, .int (nI le), .int (nI th), .int (nI sp), .ref ao, .int (nI tm)])), (an, .inl (G.2.1, 525, .inl (gn (flM nw lv))))])) A) args s 0 0 A) (F0 m 30 ls [.int (nI (if (nw (256 + k) < lv) then 1 else 0))]) := by
        intro  H locs hP hD hS ls hl
        refine lv_istore (lv' := [(4, .int (nI (if (nw (256 + k) < lv) then 1 else 0))), (3, .int (nI k)), (2, .int (nI (drLost nw (hM nw) lv k))), (0, .ref mq), (1, .int (nI lv))]) hx hb dX4_floodsTo_30 hl (by decide) rfl (fun ls hl => ?_)
        have J52 : ∀  (H : Heap) (locs : List Loc), va_P G.1 vwCl [(mq, .inr (4, [.ref an, .ref ap, .int (nI st), .ref ak, .ref ai, .ref ad, .ref ac, .ref aw, .int (nI mn), .ref at_, .int (nI le), .int (nI th), .int (nI sp), .ref ao, .int (nI tm)])), (an, .inl (G.2.1, 525, .inl (gn (fun j => if j < k then drOw nw (hM nw) lv j else nw j))))] H → va_D A [(mq, .inr (4, [.ref an, .ref ap, .int (nI st), .ref ak, .ref ai, .ref ad, .ref ac, .ref aw, .int (nI mn), .ref at_, .int (nI le), .int (nI th), .int (nI sp), .ref ao, .int (nI tm)])), (an, .inl (G.2.1, 525, .inl (gn (fun j => if j < k then drOw nw (hM nw) lv j else nw j))))] → va_S A s.heap H locs → ∀ (ls : Array Slot), lv_has ls 5 [(4, .int (nI (if (nw (256 + k) < lv) then 1 else 0))), (3, .int (nI k)), (2, .int (nI (drLost nw (hM nw) lv k))), (0, .ref mq), (1, .int (nI lv))] → W p l e ({ frames := 0, cells := 0, slots := 0, locals := 0 } : Room) s m args below meth c H locs 0 0 (MQ below (va_Qi (S := Unit) (fun (r : Int32) (u : Unit) => (r = nI (drLost nw (hM nw) lv 256))) (gB G A (fun (u : Unit) => [(mq, .inr (4, [.ref an, .ref ap, .int (nI st), .ref ak, .ref ai, .ref ad, .ref ac, .ref aw, .int (nI mn), .ref at_, .int (nI le), .int (nI th), .int (nI sp), .ref ao, .int (nI tm)])), (an, .inl (G.2.1, 525, .inl (gn (flM nw lv))))])) A) args s 0 0 A) (F0 m 52 ls [.int (nI (if (nw (256 + k) < lv ∧ nw k ≠ 0) then 1 else 0)), .int (nI (drLost nw (hM nw) lv k))]) := by
          intro  H locs hP hD hS ls hl
          refine gIadd (a := drLost nw (hM nw) lv k) (b := (if (nw (256 + k) < lv ∧ nw k ≠ 0) then 1 else 0)) hx hb dX4_floodsTo_52 ?_
          refine lv_istore_n (lv' := [(2, .int (nI (drLost nw (hM nw) lv k + (if (nw (256 + k) < lv ∧ nw k ≠ 0) then 1 else 0)))), (4, .int (nI (if (nw (256 + k) < lv) then 1 else 0))), (3, .int (nI k)), (0, .ref mq), (1, .int (nI lv))]) hx hb dX4_floodsTo_53 rfl hl (by decide) rfl (fun ls hl => ?_)
          have J74 : ∀  (H : Heap) (locs : List Loc), va_P G.1 vwCl [(mq, .inr (4, [.ref an, .ref ap, .int (nI st), .ref ak, .ref ai, .ref ad, .ref ac, .ref aw, .int (nI mn), .ref at_, .int (nI le), .int (nI th), .int (nI sp), .ref ao, .int (nI tm)])), (an, .inl (G.2.1, 525, .inl (gn (fun j => if j < k then drOw nw (hM nw) lv j else nw j))))] H → va_D A [(mq, .inr (4, [.ref an, .ref ap, .int (nI st), .ref ak, .ref ai, .ref ad, .ref ac, .ref aw, .int (nI mn), .ref at_, .int (nI le), .int (nI th), .int (nI sp), .ref ao, .int (nI tm)])), (an, .inl (G.2.1, 525, .inl (gn (fun j => if j < k then drOw nw (hM nw) lv j else nw j))))] → va_S A s.heap H locs → ∀ (ls : Array Slot), lv_has ls 5 [(2, .int (nI (drLost nw (hM nw) lv k + (if (nw (256 + k) < lv ∧ nw k ≠ 0) then 1 else 0)))), (4, .int (nI (if (nw (256 + k) < lv) then 1 else 0))), (3, .int (nI k)), (0, .ref mq), (1, .int (nI lv))] → W p l e ({ frames := 0, cells := 0, slots := 0, locals := 0 } : Room) s m args below meth c H locs 0 0 (MQ below (va_Qi (S := Unit) (fun (r : Int32) (u : Unit) => (r = nI (drLost nw (hM nw) lv 256))) (gB G A (fun (u : Unit) => [(mq, .inr (4, [.ref an, .ref ap, .int (nI st), .ref ak, .ref ai, .ref ad, .ref ac, .ref aw, .int (nI mn), .ref at_, .int (nI le), .int (nI th), .int (nI sp), .ref ao, .int (nI tm)])), (an, .inl (G.2.1, 525, .inl (gn (flM nw lv))))])) A) args s 0 0 A) (F0 m 74 ls [.int (nI (drOw nw (hM nw) lv k)), .int (nI k), .ref an]) := by
            intro  H locs hP hD hS ls hl
            refine gNast (k := k) (v := drOw nw (hM nw) lv k) hx hb hK hP hD hS 1 0 rfl rfl (by omega) (by first | decide | omega) dX4_floodsTo_74 (fun H locs hP hD hS => ?_)
            have hP : va_P G.1 vwCl [(mq, .inr (4, [.ref an, .ref ap, .int (nI st), .ref ak, .ref ai, .ref ad, .ref ac, .ref aw, .int (nI mn), .ref at_, .int (nI le), .int (nI th), .int (nI sp), .ref ao, .int (nI tm)])), (an, .inl (G.2.1, 525, .inl (gn (va_up (fun j => if j < k then drOw nw (hM nw) lv j else nw j) k (drOw nw (hM nw) lv k)))))] H := hP
            have hD : va_D A [(mq, .inr (4, [.ref an, .ref ap, .int (nI st), .ref ak, .ref ai, .ref ad, .ref ac, .ref aw, .int (nI mn), .ref at_, .int (nI le), .int (nI th), .int (nI sp), .ref ao, .int (nI tm)])), (an, .inl (G.2.1, 525, .inl (gn (va_up (fun j => if j < k then drOw nw (hM nw) lv j else nw j) k (drOw nw (hM nw) lv k)))))] := hD
            refine lv_iinc (v := nI (k + 1)) (lv' := [(3, .int (nI (k + 1))), (2, .int (nI (drLost nw (hM nw) lv k + (if (nw (256 + k) < lv ∧ nw k ≠ 0) then 1 else 0)))), (4, .int (nI (if (nw (256 + k) < lv) then 1 else 0))), (0, .ref mq), (1, .int (nI lv))]) hx hb dX4_floodsTo_75 hl (k := 2) rfl (gInc_p _ rfl) (by decide) rfl (fun ls hl => ?_)
            refine lv_goto (tgt := 4) hx hb dX4_floodsTo_78 (by decide) ?_
            have hP := gEqN (q0 := 1) (f := va_up (fun j => if j < k then drOw nw (hM nw) lv j else nw j) k (drOw nw (hM nw) lv k)) (g := fun j => if j < (k + 1) then drOw nw (hM nw) lv j else nw j) rfl (by intro j hj; rw [gu_if]; by_cases e : j = k; (subst e; rw [if_pos rfl, if_pos (by omega)]); (rw [if_neg e]; by_cases e2 : j < k; (rw [if_pos e2, if_pos (by omega)]); (rw [if_neg e2, if_neg (by omega)]))) hP
            have hD := va_D.set (p := 1) (e := .inl (G.2.1, 525, .inl (gn (fun j => if j < (k + 1) then drOw nw (hM nw) lv j else nw j)))) hD rfl
            have hP : va_P G.1 vwCl [(mq, .inr (4, [.ref an, .ref ap, .int (nI st), .ref ak, .ref ai, .ref ad, .ref ac, .ref aw, .int (nI mn), .ref at_, .int (nI le), .int (nI th), .int (nI sp), .ref ao, .int (nI tm)])), (an, .inl (G.2.1, 525, .inl (gn (fun j => if j < (k + 1) then drOw nw (hM nw) lv j else nw j))))] H := hP
            have hD : va_D A [(mq, .inr (4, [.ref an, .ref ap, .int (nI st), .ref ak, .ref ai, .ref ad, .ref ac, .ref aw, .int (nI mn), .ref at_, .int (nI le), .int (nI th), .int (nI sp), .ref ao, .int (nI tm)])), (an, .inl (G.2.1, 525, .inl (gn (fun j => if j < (k + 1) then drOw nw (hM nw) lv j else nw j))))] := hD
            have hl : lv_has ls 5 [(3, .int (nI (k + 1))), (2, .int (nI (drLost nw (hM nw) lv k + (if (nw (256 + k) < lv ∧ nw k ≠ 0) then 1 else 0)))), (0, .ref mq), (1, .int (nI lv))] := lv_sub hl [0, 1, 3, 4] rfl
            have hle : (.int (nI (drLost nw (hM nw) lv k + (if (nw (256 + k) < lv ∧ nw k ≠ 0) then 1 else 0))) : Value) = .int (nI (drLost nw (hM nw) lv (k + 1))) := by rfl
            rw [hle] at hl
            have hy_1 : (k + 1) ≤ 256 := by omega
            exact ih4 (k + 1) (by omega) hy_1 H locs hP hD hS ls hl
          refine lv_aload_n hx hb dX4_floodsTo_54 rfl (lv_at hl 3 rfl) ?_
          refine va_get (D := G.1) (ci := 4) (v := .ref an) (C := RX4) (T := TX4) (N := 15) hx hb hts hi4 hown hK hP 0 rfl rfl 0 (by decide) (hts (.fieldLink RX4 7 "LandQuartersModel" "now" "[I") (by decide +kernel)) (fun _ h9 => h9) rfl dX4_floodsTo_55 ?_
          refine lv_iload_n hx hb dX4_floodsTo_58 rfl (lv_at hl 2 rfl) ?_
          refine lv_iload hx hb dX4_floodsTo_59 (lv_at hl 1 rfl) ?_
          refine gIfB_eq (P := (nw (256 + k) < lv)) (tgt := 68) hx hb dX4_floodsTo_61 (by decide) (fun c61 => ?_) (fun c61 => ?_)
          · skip
            refine lv_aload_n hx hb dX4_floodsTo_68 rfl (lv_at hl 3 rfl) ?_
            refine va_get (D := G.1) (ci := 4) (v := .ref an) (C := RX4) (T := TX4) (N := 15) hx hb hts hi4 hown hK hP 0 rfl rfl 0 (by decide) (hts (.fieldLink RX4 7 "LandQuartersModel" "now" "[I") (by decide +kernel)) (fun _ h9 => h9) rfl dX4_floodsTo_69 ?_
            refine lv_iload_n hx hb dX4_floodsTo_72 rfl (lv_at hl 2 rfl) ?_
            refine gNald (k := k) hx hb hK hP 1 0 rfl rfl (by omega) (by first | decide | omega) dX4_floodsTo_73 ?_
            refine W.eq (g2 := F0 m 74 ls [.int (nI (nw k)), .int (nI k), .ref an]) (by rw [show (nI ((fun j => if j < k then drOw nw (hM nw) lv j else nw j) k) : Int32) = nI (nw k) from by congr 1; exact if_neg (by omega)]) ?_
            have hl : lv_has ls 5 [(2, .int (nI (drLost nw (hM nw) lv k + (if (nw (256 + k) < lv ∧ nw k ≠ 0) then 1 else 0)))), (4, .int (nI (if (nw (256 + k) < lv) then 1 else 0))), (3, .int (nI k)), (0, .ref mq), (1, .int (nI lv))] := lv_sub hl [0, 1, 2, 3, 4] rfl
            have hse : (.int (nI (nw k)) : Value) = .int (nI (drOw nw (hM nw) lv k)) := by first | (rw [show drOw nw (hM nw) lv k = nw k from if_neg c61]; done) | (rw [show drOw nw (hM nw) lv k = 0 from if_pos c61]; done)
            refine W.eq (g2 := F0 m 74 ls [.int (nI (drOw nw (hM nw) lv k)), .int (nI k), .ref an]) (congrArg (fun v_ => F0 m 74 ls [v_, .int (nI k), .ref an]) hse) ?_
            exact J74  H locs hP hD hS ls hl
          refine lv_iconst (v := nI 0) hx hb dX4_floodsTo_64 (by decide) ?_
          refine lv_goto (tgt := 74) hx hb dX4_floodsTo_65 (by decide) ?_
          have hl : lv_has ls 5 [(2, .int (nI (drLost nw (hM nw) lv k + (if (nw (256 + k) < lv ∧ nw k ≠ 0) then 1 else 0)))), (4, .int (nI (if (nw (256 + k) < lv) then 1 else 0))), (3, .int (nI k)), (0, .ref mq), (1, .int (nI lv))] := lv_sub hl [0, 1, 2, 3, 4] rfl
          have hse : (.int (nI 0) : Value) = .int (nI (drOw nw (hM nw) lv k)) := by first | (rw [show drOw nw (hM nw) lv k = nw k from if_neg c61]; done) | (rw [show drOw nw (hM nw) lv k = 0 from if_pos c61]; done)
          refine W.eq (g2 := F0 m 74 ls [.int (nI (drOw nw (hM nw) lv k)), .int (nI k), .ref an]) (congrArg (fun v_ => F0 m 74 ls [v_, .int (nI k), .ref an]) hse) ?_
          exact J74  H locs hP hD hS ls hl
        refine lv_iload_n hx hb dX4_floodsTo_32 rfl (lv_at hl 2 rfl) ?_
        refine lv_iload hx hb dX4_floodsTo_33 (lv_at hl 0 rfl) ?_
        refine gIfB_eq (P := (nw (256 + k) < lv)) (tgt := 51) hx hb dX4_floodsTo_35 (by decide) (fun c35 => ?_) (fun c35 => ?_)
        · skip
          refine lv_iconst (v := nI 0) hx hb dX4_floodsTo_51 (by decide) ?_
          have hl : lv_has ls 5 [(4, .int (nI (if (nw (256 + k) < lv) then 1 else 0))), (3, .int (nI k)), (2, .int (nI (drLost nw (hM nw) lv k))), (0, .ref mq), (1, .int (nI lv))] := lv_sub hl [0, 1, 2, 3, 4] rfl
          have hse : (.int (nI 0) : Value) = .int (nI (if (nw (256 + k) < lv ∧ nw k ≠ 0) then 1 else 0)) := by first | rw [if_neg (fun h => c35 h.1)] | rw [if_pos ⟨c35, by omega⟩] | rw [if_neg (fun h => by have := h.2; omega)]
          refine W.eq (g2 := F0 m 52 ls [.int (nI (if (nw (256 + k) < lv ∧ nw k ≠ 0) then 1 else 0)), .int (nI (drLost nw (hM nw) lv k))]) (congrArg (fun v_ => F0 m 52 ls [v_, .int (nI (drLost nw (hM nw) lv k))]) hse) ?_
          exact J52  H locs hP hD hS ls hl
        refine lv_aload_n hx hb dX4_floodsTo_38 rfl (lv_at hl 3 rfl) ?_
        refine va_get (D := G.1) (ci := 4) (v := .ref an) (C := RX4) (T := TX4) (N := 15) hx hb hts hi4 hown hK hP 0 rfl rfl 0 (by decide) (hts (.fieldLink RX4 7 "LandQuartersModel" "now" "[I") (by decide +kernel)) (fun _ h9 => h9) rfl dX4_floodsTo_39 ?_
        refine lv_iload_n hx hb dX4_floodsTo_42 rfl (lv_at hl 1 rfl) ?_
        refine gNald (k := k) hx hb hK hP 1 0 rfl rfl (by omega) (by first | decide | omega) dX4_floodsTo_43 ?_
        refine W.eq (g2 := F0 m 44 ls [.int (nI (nw k)), .int (nI (drLost nw (hM nw) lv k))]) (by rw [show (nI ((fun j => if j < k then drOw nw (hM nw) lv j else nw j) k) : Int32) = nI (nw k) from by congr 1; exact if_neg (by omega)]) ?_
        refine gIf_le (a := nw k) (tgt := 51) hx hb dX4_floodsTo_44 (by decide) (by have := how k (by omega); omega) (fun c44 => ?_) (fun c44 => ?_)
        · skip
          refine lv_iconst (v := nI 0) hx hb dX4_floodsTo_51 (by decide) ?_
          have hl : lv_has ls 5 [(4, .int (nI (if (nw (256 + k) < lv) then 1 else 0))), (3, .int (nI k)), (2, .int (nI (drLost nw (hM nw) lv k))), (0, .ref mq), (1, .int (nI lv))] := lv_sub hl [0, 1, 2, 3, 4] rfl
          have hse : (.int (nI 0) : Value) = .int (nI (if (nw (256 + k) < lv ∧ nw k ≠ 0) then 1 else 0)) := by first | rw [if_neg (fun h => c35 h.1)] | rw [if_pos ⟨c35, by omega⟩] | rw [if_neg (fun h => by have := h.2; omega)]
          refine W.eq (g2 := F0 m 52 ls [.int (nI (if (nw (256 + k) < lv ∧ nw k ≠ 0) then 1 else 0)), .int (nI (drLost nw (hM nw) lv k))]) (congrArg (fun v_ => F0 m 52 ls [v_, .int (nI (drLost nw (hM nw) lv k))]) hse) ?_
          exact J52  H locs hP hD hS ls hl
        refine lv_iconst (v := nI 1) hx hb dX4_floodsTo_47 (by decide) ?_
        refine lv_goto (tgt := 52) hx hb dX4_floodsTo_48 (by decide) ?_
        have hl : lv_has ls 5 [(4, .int (nI (if (nw (256 + k) < lv) then 1 else 0))), (3, .int (nI k)), (2, .int (nI (drLost nw (hM nw) lv k))), (0, .ref mq), (1, .int (nI lv))] := lv_sub hl [0, 1, 2, 3, 4] rfl
        have hse : (.int (nI 1) : Value) = .int (nI (if (nw (256 + k) < lv ∧ nw k ≠ 0) then 1 else 0)) := by first | rw [if_neg (fun h => c35 h.1)] | rw [if_pos ⟨c35, by omega⟩] | rw [if_neg (fun h => by have := h.2; omega)]
        refine W.eq (g2 := F0 m 52 ls [.int (nI (if (nw (256 + k) < lv ∧ nw k ≠ 0) then 1 else 0)), .int (nI (drLost nw (hM nw) lv k))]) (congrArg (fun v_ => F0 m 52 ls [v_, .int (nI (drLost nw (hM nw) lv k))]) hse) ?_
        exact J52  H locs hP hD hS ls hl
      refine lv_aload_n hx hb dX4_floodsTo_11 rfl (lv_at hl 2 rfl) ?_
      refine va_get (D := G.1) (ci := 4) (v := .ref an) (C := RX4) (T := TX4) (N := 15) hx hb hts hi4 hown hK hP 0 rfl rfl 0 (by decide) (hts (.fieldLink RX4 7 "LandQuartersModel" "now" "[I") (by decide +kernel)) (fun _ h9 => h9) rfl dX4_floodsTo_12 ?_
      refine lv_sipush (v := nI 256) hx hb dX4_floodsTo_15 (by decide) ?_
      refine lv_iload_n hx hb dX4_floodsTo_18 rfl (lv_at hl 0 rfl) ?_
      refine gIadd (a := 256) (b := k) hx hb dX4_floodsTo_19 ?_
      refine gNald (k := 256 + k) hx hb hK hP 1 0 rfl rfl (by omega) (by first | decide | omega) dX4_floodsTo_20 ?_
      refine W.eq (g2 := F0 m 21 ls [.int (nI (nw (256 + k)))]) (by rw [show (nI ((fun j => if j < k then drOw nw (hM nw) lv j else nw j) (256 + k)) : Int32) = nI (nw (256 + k)) from by congr 1; exact if_neg (by omega)]) ?_
      refine lv_iload_n hx hb dX4_floodsTo_21 rfl (lv_at hl 3 rfl) ?_
      refine gIcmp_ge (a := nw (256 + k)) (b := lv) (tgt := 29) hx hb dX4_floodsTo_22 (by decide) (by have := hhe k (by omega); omega) (by omega) (fun c22 => ?_) (fun c22 => ?_)
      · skip
        refine lv_iconst (v := nI 0) hx hb dX4_floodsTo_29 (by decide) ?_
        have hl : lv_has ls 5 [(3, .int (nI k)), (2, .int (nI (drLost nw (hM nw) lv k))), (0, .ref mq), (1, .int (nI lv))] := lv_sub hl [0, 1, 2, 3] rfl
        have hse : (.int (nI 0) : Value) = .int (nI (if (nw (256 + k) < lv) then 1 else 0)) := by first | rw [if_pos c22] | rw [if_neg (by omega)]
        refine W.eq (g2 := F0 m 30 ls [.int (nI (if (nw (256 + k) < lv) then 1 else 0))]) (congrArg (fun v_ => F0 m 30 ls [v_]) hse) ?_
        exact J30  H locs hP hD hS ls hl
      refine lv_iconst (v := nI 1) hx hb dX4_floodsTo_25 (by decide) ?_
      refine lv_goto (tgt := 30) hx hb dX4_floodsTo_26 (by decide) ?_
      have hl : lv_has ls 5 [(3, .int (nI k)), (2, .int (nI (drLost nw (hM nw) lv k))), (0, .ref mq), (1, .int (nI lv))] := lv_sub hl [0, 1, 2, 3] rfl
      have hse : (.int (nI 1) : Value) = .int (nI (if (nw (256 + k) < lv) then 1 else 0)) := by first | rw [if_pos c22] | rw [if_neg (by omega)]
      refine W.eq (g2 := F0 m 30 ls [.int (nI (if (nw (256 + k) < lv) then 1 else 0))]) (congrArg (fun v_ => F0 m 30 ls [v_]) hse) ?_
      exact J30  H locs hP hD hS ls hl
  have hP := gEqN (q0 := 1) (f := nw) (g := fun j => if j < 0 then drOw nw (hM nw) lv j else nw j) rfl (by intro j hj; rw [if_neg (Nat.not_lt_zero _)]) hP
  have hD := va_D.set (p := 1) (e := .inl (G.2.1, 525, .inl (gn (fun j => if j < 0 then drOw nw (hM nw) lv j else nw j)))) hD rfl
  have hP : va_P G.1 vwCl [(mq, .inr (4, [.ref an, .ref ap, .int (nI st), .ref ak, .ref ai, .ref ad, .ref ac, .ref aw, .int (nI mn), .ref at_, .int (nI le), .int (nI th), .int (nI sp), .ref ao, .int (nI tm)])), (an, .inl (G.2.1, 525, .inl (gn (fun j => if j < 0 then drOw nw (hM nw) lv j else nw j))))] H := hP
  have hD : va_D A [(mq, .inr (4, [.ref an, .ref ap, .int (nI st), .ref ak, .ref ai, .ref ad, .ref ac, .ref aw, .int (nI mn), .ref at_, .int (nI le), .int (nI th), .int (nI sp), .ref ao, .int (nI tm)])), (an, .inl (G.2.1, 525, .inl (gn (fun j => if j < 0 then drOw nw (hM nw) lv j else nw j))))] := hD
  have hl : lv_has ls 5 [(3, .int (nI 0)), (2, .int (nI 0)), (0, .ref mq), (1, .int (nI lv))] := lv_sub hl [0, 1, 2, 3] rfl
  have hle : (.int (nI 0) : Value) = .int (nI (drLost nw (hM nw) lv 0)) := by rfl
  rw [hle] at hl
  have hy_2 : 0 ≤ 256 := by omega
  exact L4 _ 0 (Nat.lt_succ_self _) hy_2 H locs hP hD hS ls hl

set_option maxHeartbeats 4000000 in
set_option maxRecDepth 100000 in
theorem c_X4_area (l : Launch) (G : gG) (mq : Nat) (an : Nat) (ap : Nat) (st : Nat) (ak : Nat) (ai : Nat) (ad : Nat) (ac : Nat) (aw : Nat) (mn : Nat) (at_ : Nat) (le : Nat) (th : Nat) (sp : Nat) (ao : Nat) (tm : Nat) (nw : Nat → Nat) (o : Nat) (how : ∀ k, k < 256 → nw k < 8) (ho : o < 8) : gMi (S := Unit) l yX4_area wsX4_area { frames := 0, cells := 0, slots := 0, locals := 0 } G [.ref mq, .int (nI o)] [(mq, .inr (4, [.ref an, .ref ap, .int (nI st), .ref ak, .ref ai, .ref ad, .ref ac, .ref aw, .int (nI mn), .ref at_, .int (nI le), .int (nI th), .int (nI sp), .ref ao, .int (nI tm)])), (an, .inl (G.2.1, 525, .inl (gn nw)))] (fun (r : Int32) (u : Unit) => (r = nI (aM nw o 256))) (fun u => [(mq, .inr (4, [.ref an, .ref ap, .int (nI st), .ref ak, .ref ai, .ref ad, .ref ac, .ref aw, .int (nI mn), .ref at_, .int (nI le), .int (nI th), .int (nI sp), .ref ao, .int (nI tm)])), (an, .inl (G.2.1, 525, .inl (gn nw)))]) 0 0 := by
  refine gMet_mk (cc := cX4_area) (nL := 4) (ret := (some .int)) (Qc := fun A => va_Qi (S := Unit) (fun (r : Int32) (u : Unit) => (r = nI (aM nw o 256))) (gB G A (fun (u : Unit) => [(mq, .inr (4, [.ref an, .ref ap, .int (nI st), .ref ak, .ref ai, .ref ad, .ref ac, .ref aw, .int (nI mn), .ref at_, .int (nI le), .int (nI th), .int (nI sp), .ref ao, .int (nI tm)])), (an, .inl (G.2.1, 525, .inl (gn nw)))])) A) (by decide) rfl (Nat.le_of_ble_eq_true rfl) ?_
  intro p e s m args below meth c A F ls hl hP hD hS
  have hx := F.1
  have hb := F.2.1
  have hts := F.2.2.2.2.2.2.1
  have hown : s.vm.findClass RX4 = some m.cls := F.2.2.2.2.2.1
  have hKK := F.2.2.2.2.2.2.2.2.1
  have hK := hKK.1
  have hin0 := F.2.2.2.2.2.2.2.1
  have hi4 : ∀ w ∈ u_ws RX4 TX4 15, w ∈ wsX4_area := by decide +kernel
  have hl : lv_has ls 4 [(0, .ref mq), (1, .int (nI o))] := hl
  generalize hH : s.heap = H at hP ⊢
  have hS : va_S A s.heap H [] := by rw [← hH]; exact va_S.rf
  generalize hLo : ([] : List Loc) = locs at hS ⊢
  refine lv_iconst (v := nI 0) hx hb dX4_area_0 (by decide) ?_
  refine lv_istore_n (lv' := [(2, .int (nI 0)), (0, .ref mq), (1, .int (nI o))]) hx hb dX4_area_1 rfl hl (by decide) rfl (fun ls hl => ?_)
  refine lv_iconst (v := nI 0) hx hb dX4_area_2 (by decide) ?_
  refine lv_istore_n (lv' := [(3, .int (nI 0)), (2, .int (nI 0)), (0, .ref mq), (1, .int (nI o))]) hx hb dX4_area_3 rfl hl (by decide) rfl (fun ls hl => ?_)
  have L4 : ∀ (fuel : Nat) (k : Nat), 256 - k < fuel → (k ≤ 256) → ∀ (H : Heap) (locs : List Loc), va_P G.1 vwCl [(mq, .inr (4, [.ref an, .ref ap, .int (nI st), .ref ak, .ref ai, .ref ad, .ref ac, .ref aw, .int (nI mn), .ref at_, .int (nI le), .int (nI th), .int (nI sp), .ref ao, .int (nI tm)])), (an, .inl (G.2.1, 525, .inl (gn nw)))] H → va_D A [(mq, .inr (4, [.ref an, .ref ap, .int (nI st), .ref ak, .ref ai, .ref ad, .ref ac, .ref aw, .int (nI mn), .ref at_, .int (nI le), .int (nI th), .int (nI sp), .ref ao, .int (nI tm)])), (an, .inl (G.2.1, 525, .inl (gn nw)))] → va_S A s.heap H locs → ∀ (ls : Array Slot), lv_has ls 4 [(3, .int (nI k)), (2, .int (nI (aM nw o k))), (0, .ref mq), (1, .int (nI o))] → W p l e ({ frames := 0, cells := 0, slots := 0, locals := 0 } : Room) s m args below meth c H locs 0 0 (MQ below (va_Qi (S := Unit) (fun (r : Int32) (u : Unit) => (r = nI (aM nw o 256))) (gB G A (fun (u : Unit) => [(mq, .inr (4, [.ref an, .ref ap, .int (nI st), .ref ak, .ref ai, .ref ad, .ref ac, .ref aw, .int (nI mn), .ref at_, .int (nI le), .int (nI th), .int (nI sp), .ref ao, .int (nI tm)])), (an, .inl (G.2.1, 525, .inl (gn nw)))])) A) args s 0 0 A) (F0 m 4 ls []) := by
    intro fuel
    induction fuel with
    | zero => intro k hme; exact absurd hme (Nat.not_lt_zero _)
    | succ fuel ih4 =>
      intro k hme hk H locs hP hD hS ls hl
      refine lv_iload_n hx hb dX4_area_4 rfl (lv_at hl 0 rfl) ?_
      refine lv_sipush (v := nI 256) hx hb dX4_area_5 (by decide) ?_
      refine gIcmp_ge (a := k) (b := 256) (tgt := 35) hx hb dX4_area_8 (by decide) (by omega) (by omega) (fun c8 => ?_) (fun c8 => ?_)
      · skip
        refine lv_iload_n hx hb dX4_area_35 rfl (lv_at hl 1 rfl) ?_
        exact gRi F dX4_area_36 (rfl) () (by rw [show k = 256 by omega]) hP hD hS (Nat.le_refl _) (Nat.le_refl _)
      have J27 : ∀  (H : Heap) (locs : List Loc), va_P G.1 vwCl [(mq, .inr (4, [.ref an, .ref ap, .int (nI st), .ref ak, .ref ai, .ref ad, .ref ac, .ref aw, .int (nI mn), .ref at_, .int (nI le), .int (nI th), .int (nI sp), .ref ao, .int (nI tm)])), (an, .inl (G.2.1, 525, .inl (gn nw)))] H → va_D A [(mq, .inr (4, [.ref an, .ref ap, .int (nI st), .ref ak, .ref ai, .ref ad, .ref ac, .ref aw, .int (nI mn), .ref at_, .int (nI le), .int (nI th), .int (nI sp), .ref ao, .int (nI tm)])), (an, .inl (G.2.1, 525, .inl (gn nw)))] → va_S A s.heap H locs → ∀ (ls : Array Slot), lv_has ls 4 [(3, .int (nI k)), (2, .int (nI (aM nw o k))), (0, .ref mq), (1, .int (nI o))] → W p l e ({ frames := 0, cells := 0, slots := 0, locals := 0 } : Room) s m args below meth c H locs 0 0 (MQ below (va_Qi (S := Unit) (fun (r : Int32) (u : Unit) => (r = nI (aM nw o 256))) (gB G A (fun (u : Unit) => [(mq, .inr (4, [.ref an, .ref ap, .int (nI st), .ref ak, .ref ai, .ref ad, .ref ac, .ref aw, .int (nI mn), .ref at_, .int (nI le), .int (nI th), .int (nI sp), .ref ao, .int (nI tm)])), (an, .inl (G.2.1, 525, .inl (gn nw)))])) A) args s 0 0 A) (F0 m 27 ls [.int (nI (if (nw k = o) then 1 else 0)), .int (nI (aM nw o k))]) := by
        intro  H locs hP hD hS ls hl
        refine gIadd (a := aM nw o k) (b := (if (nw k = o) then 1 else 0)) hx hb dX4_area_27 ?_
        refine lv_istore_n (lv' := [(2, .int (nI (aM nw o k + (if (nw k = o) then 1 else 0)))), (3, .int (nI k)), (0, .ref mq), (1, .int (nI o))]) hx hb dX4_area_28 rfl hl (by decide) rfl (fun ls hl => ?_)
        refine lv_iinc (v := nI (k + 1)) (lv' := [(3, .int (nI (k + 1))), (2, .int (nI (aM nw o k + (if (nw k = o) then 1 else 0)))), (0, .ref mq), (1, .int (nI o))]) hx hb dX4_area_29 hl (k := 1) rfl (gInc_p _ rfl) (by decide) rfl (fun ls hl => ?_)
        refine lv_goto (tgt := 4) hx hb dX4_area_32 (by decide) ?_
        have hl : lv_has ls 4 [(3, .int (nI (k + 1))), (2, .int (nI (aM nw o k + (if (nw k = o) then 1 else 0)))), (0, .ref mq), (1, .int (nI o))] := lv_sub hl [0, 1, 2, 3] rfl
        have hle : (.int (nI (aM nw o k + (if (nw k = o) then 1 else 0))) : Value) = .int (nI (aM nw o (k + 1))) := by rfl
        rw [hle] at hl
        have hy_1 : (k + 1) ≤ 256 := by omega
        exact ih4 (k + 1) (by omega) hy_1 H locs hP hD hS ls hl
      refine lv_iload_n hx hb dX4_area_11 rfl (lv_at hl 1 rfl) ?_
      refine lv_aload_n hx hb dX4_area_12 rfl (lv_at hl 2 rfl) ?_
      refine va_get (D := G.1) (ci := 4) (v := .ref an) (C := RX4) (T := TX4) (N := 15) hx hb hts hi4 hown hK hP 0 rfl rfl 0 (by decide) (hts (.fieldLink RX4 7 "LandQuartersModel" "now" "[I") (by decide +kernel)) (fun _ h9 => h9) rfl dX4_area_13 ?_
      refine lv_iload_n hx hb dX4_area_16 rfl (lv_at hl 0 rfl) ?_
      refine gNald (k := k) hx hb hK hP 1 0 rfl rfl (by omega) (by first | decide | omega) dX4_area_17 ?_
      refine lv_iload_n hx hb dX4_area_18 rfl (lv_at hl 3 rfl) ?_
      refine gIcmp_ne (a := nw k) (b := o) (tgt := 26) hx hb dX4_area_19 (by decide) (by have := how k (by omega); omega) (by omega) (fun c19 => ?_) (fun c19 => ?_)
      · skip
        refine lv_iconst (v := nI 0) hx hb dX4_area_26 (by decide) ?_
        have hl : lv_has ls 4 [(3, .int (nI k)), (2, .int (nI (aM nw o k))), (0, .ref mq), (1, .int (nI o))] := lv_sub hl [0, 1, 2, 3] rfl
        have hse : (.int (nI 0) : Value) = .int (nI (if (nw k = o) then 1 else 0)) := by first | rw [if_pos c19] | rw [if_neg c19]
        refine W.eq (g2 := F0 m 27 ls [.int (nI (if (nw k = o) then 1 else 0)), .int (nI (aM nw o k))]) (congrArg (fun v_ => F0 m 27 ls [v_, .int (nI (aM nw o k))]) hse) ?_
        exact J27  H locs hP hD hS ls hl
      refine lv_iconst (v := nI 1) hx hb dX4_area_22 (by decide) ?_
      refine lv_goto (tgt := 27) hx hb dX4_area_23 (by decide) ?_
      have hl : lv_has ls 4 [(3, .int (nI k)), (2, .int (nI (aM nw o k))), (0, .ref mq), (1, .int (nI o))] := lv_sub hl [0, 1, 2, 3] rfl
      have hse : (.int (nI 1) : Value) = .int (nI (if (nw k = o) then 1 else 0)) := by first | rw [if_pos c19] | rw [if_neg c19]
      refine W.eq (g2 := F0 m 27 ls [.int (nI (if (nw k = o) then 1 else 0)), .int (nI (aM nw o k))]) (congrArg (fun v_ => F0 m 27 ls [v_, .int (nI (aM nw o k))]) hse) ?_
      exact J27  H locs hP hD hS ls hl
  have hl : lv_has ls 4 [(3, .int (nI 0)), (2, .int (nI 0)), (0, .ref mq), (1, .int (nI o))] := lv_sub hl [0, 1, 2, 3] rfl
  have hle : (.int (nI 0) : Value) = .int (nI (aM nw o 0)) := by rfl
  rw [hle] at hl
  have hy_2 : 0 ≤ 256 := by omega
  exact L4 _ 0 (Nat.lt_succ_self _) hy_2 H locs hP hD hS ls hl

set_option maxHeartbeats 4000000 in
set_option maxRecDepth 100000 in
theorem c_X4_between (l : Launch) (G : gG) (mq : Nat) (an : Nat) (ap : Nat) (st : Nat) (ak : Nat) (ai : Nat) (ad : Nat) (ac : Nat) (aw : Nat) (mn : Nat) (at_ : Nat) (le : Nat) (th : Nat) (sp : Nat) (ao : Nat) (tm : Nat) (nw : Nat → Nat) (o : Nat) (q : Nat) (how : ∀ k, k < 256 → nw k < 8) (ho : o < 8) (hq : q < 8) : gMi (S := Unit) l yX4_between wsX4_between { frames := 0, cells := 0, slots := 0, locals := 0 } G [.ref mq, .int (nI o), .int (nI q)] [(mq, .inr (4, [.ref an, .ref ap, .int (nI st), .ref ak, .ref ai, .ref ad, .ref ac, .ref aw, .int (nI mn), .ref at_, .int (nI le), .int (nI th), .int (nI sp), .ref ao, .int (nI tm)])), (an, .inl (G.2.1, 525, .inl (gn nw)))] (fun (r : Int32) (u : Unit) => (r = nI (btw nw o q))) (fun u => [(mq, .inr (4, [.ref an, .ref ap, .int (nI st), .ref ak, .ref ai, .ref ad, .ref ac, .ref aw, .int (nI mn), .ref at_, .int (nI le), .int (nI th), .int (nI sp), .ref ao, .int (nI tm)])), (an, .inl (G.2.1, 525, .inl (gn nw)))]) 0 0 := by
  refine gMet_mk (cc := cX4_between) (nL := 7) (ret := (some .int)) (Qc := fun A => va_Qi (S := Unit) (fun (r : Int32) (u : Unit) => (r = nI (btw nw o q))) (gB G A (fun (u : Unit) => [(mq, .inr (4, [.ref an, .ref ap, .int (nI st), .ref ak, .ref ai, .ref ad, .ref ac, .ref aw, .int (nI mn), .ref at_, .int (nI le), .int (nI th), .int (nI sp), .ref ao, .int (nI tm)])), (an, .inl (G.2.1, 525, .inl (gn nw)))])) A) (by decide) rfl (Nat.le_of_ble_eq_true rfl) ?_
  intro p e s m args below meth c A F ls hl hP hD hS
  have hx := F.1
  have hb := F.2.1
  have hts := F.2.2.2.2.2.2.1
  have hown : s.vm.findClass RX4 = some m.cls := F.2.2.2.2.2.1
  have hKK := F.2.2.2.2.2.2.2.2.1
  have hK := hKK.1
  have hin0 := F.2.2.2.2.2.2.2.1
  have hi4 : ∀ w ∈ u_ws RX4 TX4 15, w ∈ wsX4_between := by decide +kernel
  have hl : lv_has ls 7 [(0, .ref mq), (1, .int (nI o)), (2, .int (nI q))] := hl
  generalize hH : s.heap = H at hP ⊢
  have hS : va_S A s.heap H [] := by rw [← hH]; exact va_S.rf
  generalize hLo : ([] : List Loc) = locs at hS ⊢
  refine lv_iconst (v := nI 0) hx hb dX4_between_0 (by decide) ?_
  refine lv_istore_n (lv' := [(3, .int (nI 0)), (0, .ref mq), (1, .int (nI o)), (2, .int (nI q))]) hx hb dX4_between_1 rfl hl (by decide) rfl (fun ls hl => ?_)
  refine lv_iconst (v := nI 0) hx hb dX4_between_2 (by decide) ?_
  refine lv_istore (lv' := [(4, .int (nI 0)), (3, .int (nI 0)), (0, .ref mq), (1, .int (nI o)), (2, .int (nI q))]) hx hb dX4_between_3 hl (by decide) rfl (fun ls hl => ?_)
  have L5 : ∀ (fuel : Nat) (k : Nat), 256 - k < fuel → (k ≤ 256) → ∀ (H : Heap) (locs : List Loc), va_P G.1 vwCl [(mq, .inr (4, [.ref an, .ref ap, .int (nI st), .ref ak, .ref ai, .ref ad, .ref ac, .ref aw, .int (nI mn), .ref at_, .int (nI le), .int (nI th), .int (nI sp), .ref ao, .int (nI tm)])), (an, .inl (G.2.1, 525, .inl (gn nw)))] H → va_D A [(mq, .inr (4, [.ref an, .ref ap, .int (nI st), .ref ak, .ref ai, .ref ad, .ref ac, .ref aw, .int (nI mn), .ref at_, .int (nI le), .int (nI th), .int (nI sp), .ref ao, .int (nI tm)])), (an, .inl (G.2.1, 525, .inl (gn nw)))] → va_S A s.heap H locs → ∀ (ls : Array Slot), lv_has ls 7 [(4, .int (nI k)), (3, .int (nI (eB nw o q k))), (0, .ref mq), (1, .int (nI o)), (2, .int (nI q))] → W p l e ({ frames := 0, cells := 0, slots := 0, locals := 0 } : Room) s m args below meth c H locs 0 0 (MQ below (va_Qi (S := Unit) (fun (r : Int32) (u : Unit) => (r = nI (btw nw o q))) (gB G A (fun (u : Unit) => [(mq, .inr (4, [.ref an, .ref ap, .int (nI st), .ref ak, .ref ai, .ref ad, .ref ac, .ref aw, .int (nI mn), .ref at_, .int (nI le), .int (nI th), .int (nI sp), .ref ao, .int (nI tm)])), (an, .inl (G.2.1, 525, .inl (gn nw)))])) A) args s 0 0 A) (F0 m 5 ls []) := by
    intro fuel
    induction fuel with
    | zero => intro k hme; exact absurd hme (Nat.not_lt_zero _)
    | succ fuel ih5 =>
      intro k hme hk H locs hP hD hS ls hl
      refine lv_iload hx hb dX4_between_5 (lv_at hl 0 rfl) ?_
      refine lv_sipush (v := nI 256) hx hb dX4_between_7 (by decide) ?_
      refine gIcmp_ge (a := k) (b := 256) (tgt := 175) hx hb dX4_between_10 (by decide) (by omega) (by omega) (fun c10 => ?_) (fun c10 => ?_)
      · skip
        refine lv_iload_n hx hb dX4_between_175 rfl (lv_at hl 3 rfl) ?_
        refine lv_iload_n hx hb dX4_between_176 rfl (lv_at hl 4 rfl) ?_
        refine gIcmp_ne (a := o) (b := q) (tgt := 184) hx hb dX4_between_177 (by decide) (by omega) (by omega) (fun c177 => ?_) (fun c177 => ?_)
        · skip
          refine lv_iload_n hx hb dX4_between_184 rfl (lv_at hl 1 rfl) ?_
          exact gRi F dX4_between_185 (rfl) () (by unfold btw; first | rw [if_pos (by assumption)] | rw [if_neg (by assumption), show k = 256 by omega]) hP hD hS (Nat.le_refl _) (Nat.le_refl _)
        refine lv_iconst (v := nI 0) hx hb dX4_between_180 (by decide) ?_
        refine lv_goto (tgt := 185) hx hb dX4_between_181 (by decide) ?_
        exact gRi F dX4_between_185 (rfl) () (by unfold btw; first | rw [if_pos (by assumption)] | rw [if_neg (by assumption), show k = 256 by omega]) hP hD hS (Nat.le_refl _) (Nat.le_refl _)
      have J28 : ∀  (H : Heap) (locs : List Loc), va_P G.1 vwCl [(mq, .inr (4, [.ref an, .ref ap, .int (nI st), .ref ak, .ref ai, .ref ad, .ref ac, .ref aw, .int (nI mn), .ref at_, .int (nI le), .int (nI th), .int (nI sp), .ref ao, .int (nI tm)])), (an, .inl (G.2.1, 525, .inl (gn nw)))] H → va_D A [(mq, .inr (4, [.ref an, .ref ap, .int (nI st), .ref ak, .ref ai, .ref ad, .ref ac, .ref aw, .int (nI mn), .ref at_, .int (nI le), .int (nI th), .int (nI sp), .ref ao, .int (nI tm)])), (an, .inl (G.2.1, 525, .inl (gn nw)))] → va_S A s.heap H locs → ∀ (ls : Array Slot), lv_has ls 7 [(4, .int (nI k)), (3, .int (nI (eB nw o q k))), (0, .ref mq), (1, .int (nI o)), (2, .int (nI q))] → W p l e ({ frames := 0, cells := 0, slots := 0, locals := 0 } : Room) s m args below meth c H locs 0 0 (MQ below (va_Qi (S := Unit) (fun (r : Int32) (u : Unit) => (r = nI (btw nw o q))) (gB G A (fun (u : Unit) => [(mq, .inr (4, [.ref an, .ref ap, .int (nI st), .ref ak, .ref ai, .ref ad, .ref ac, .ref aw, .int (nI mn), .ref at_, .int (nI le), .int (nI th), .int (nI sp), .ref ao, .int (nI tm)])), (an, .inl (G.2.1, 525, .inl (gn nw)))])) A) args s 0 0 A) (F0 m 28 ls [.int (nI (if (k % 16 < 15) then 1 else 0))]) := by
        intro  H locs hP hD hS ls hl
        refine lv_istore (lv' := [(5, .int (nI (if (k % 16 < 15) then 1 else 0))), (4, .int (nI k)), (3, .int (nI (eB nw o q k))), (0, .ref mq), (1, .int (nI o)), (2, .int (nI q))]) hx hb dX4_between_28 hl (by decide) rfl (fun ls hl => ?_)
        have J43 : ∀  (H : Heap) (locs : List Loc), va_P G.1 vwCl [(mq, .inr (4, [.ref an, .ref ap, .int (nI st), .ref ak, .ref ai, .ref ad, .ref ac, .ref aw, .int (nI mn), .ref at_, .int (nI le), .int (nI th), .int (nI sp), .ref ao, .int (nI tm)])), (an, .inl (G.2.1, 525, .inl (gn nw)))] H → va_D A [(mq, .inr (4, [.ref an, .ref ap, .int (nI st), .ref ak, .ref ai, .ref ad, .ref ac, .ref aw, .int (nI mn), .ref at_, .int (nI le), .int (nI th), .int (nI sp), .ref ao, .int (nI tm)])), (an, .inl (G.2.1, 525, .inl (gn nw)))] → va_S A s.heap H locs → ∀ (ls : Array Slot), lv_has ls 7 [(5, .int (nI (if (k % 16 < 15) then 1 else 0))), (4, .int (nI k)), (3, .int (nI (eB nw o q k))), (0, .ref mq), (1, .int (nI o)), (2, .int (nI q))] → W p l e ({ frames := 0, cells := 0, slots := 0, locals := 0 } : Room) s m args below meth c H locs 0 0 (MQ below (va_Qi (S := Unit) (fun (r : Int32) (u : Unit) => (r = nI (btw nw o q))) (gB G A (fun (u : Unit) => [(mq, .inr (4, [.ref an, .ref ap, .int (nI st), .ref ak, .ref ai, .ref ad, .ref ac, .ref aw, .int (nI mn), .ref at_, .int (nI le), .int (nI th), .int (nI sp), .ref ao, .int (nI tm)])), (an, .inl (G.2.1, 525, .inl (gn nw)))])) A) args s 0 0 A) (F0 m 43 ls [.int (nI (if (k < 240) then 1 else 0))]) := by
          intro  H locs hP hD hS ls hl
          refine lv_istore (lv' := [(6, .int (nI (if (k < 240) then 1 else 0))), (5, .int (nI (if (k % 16 < 15) then 1 else 0))), (4, .int (nI k)), (3, .int (nI (eB nw o q k))), (0, .ref mq), (1, .int (nI o)), (2, .int (nI q))]) hx hb dX4_between_43 hl (by decide) rfl (fun ls hl => ?_)
          refine lv_iload_n hx hb dX4_between_45 rfl (lv_at hl 3 rfl) ?_
          have J104 : ∀  (H : Heap) (locs : List Loc), va_P G.1 vwCl [(mq, .inr (4, [.ref an, .ref ap, .int (nI st), .ref ak, .ref ai, .ref ad, .ref ac, .ref aw, .int (nI mn), .ref at_, .int (nI le), .int (nI th), .int (nI sp), .ref ao, .int (nI tm)])), (an, .inl (G.2.1, 525, .inl (gn nw)))] H → va_D A [(mq, .inr (4, [.ref an, .ref ap, .int (nI st), .ref ak, .ref ai, .ref ad, .ref ac, .ref aw, .int (nI mn), .ref at_, .int (nI le), .int (nI th), .int (nI sp), .ref ao, .int (nI tm)])), (an, .inl (G.2.1, 525, .inl (gn nw)))] → va_S A s.heap H locs → ∀ (ls : Array Slot), lv_has ls 7 [(6, .int (nI (if (k < 240) then 1 else 0))), (5, .int (nI (if (k % 16 < 15) then 1 else 0))), (4, .int (nI k)), (3, .int (nI (eB nw o q k))), (0, .ref mq), (1, .int (nI o)), (2, .int (nI q))] → W p l e ({ frames := 0, cells := 0, slots := 0, locals := 0 } : Room) s m args below meth c H locs 0 0 (MQ below (va_Qi (S := Unit) (fun (r : Int32) (u : Unit) => (r = nI (btw nw o q))) (gB G A (fun (u : Unit) => [(mq, .inr (4, [.ref an, .ref ap, .int (nI st), .ref ak, .ref ai, .ref ad, .ref ac, .ref aw, .int (nI mn), .ref at_, .int (nI le), .int (nI th), .int (nI sp), .ref ao, .int (nI tm)])), (an, .inl (G.2.1, 525, .inl (gn nw)))])) A) args s 0 0 A) (F0 m 104 ls [.int (nI (if (k % 16 < 15 ∧ (nw k = o ∧ nw (k + 1) = q ∨ nw k = q ∧ nw (k + 1) = o)) then 1 else 0)), .int (nI (eB nw o q k))]) := by
            intro  H locs hP hD hS ls hl
            refine gIadd (a := eB nw o q k) (b := (if (k % 16 < 15 ∧ (nw k = o ∧ nw (k + 1) = q ∨ nw k = q ∧ nw (k + 1) = o)) then 1 else 0)) hx hb dX4_between_104 ?_
            refine lv_istore_n (lv' := [(3, .int (nI (eB nw o q k + (if (k % 16 < 15 ∧ (nw k = o ∧ nw (k + 1) = q ∨ nw k = q ∧ nw (k + 1) = o)) then 1 else 0)))), (6, .int (nI (if (k < 240) then 1 else 0))), (5, .int (nI (if (k % 16 < 15) then 1 else 0))), (4, .int (nI k)), (0, .ref mq), (1, .int (nI o)), (2, .int (nI q))]) hx hb dX4_between_105 rfl hl (by decide) rfl (fun ls hl => ?_)
            refine lv_iload_n hx hb dX4_between_106 rfl (lv_at hl 0 rfl) ?_
            have J167 : ∀  (H : Heap) (locs : List Loc), va_P G.1 vwCl [(mq, .inr (4, [.ref an, .ref ap, .int (nI st), .ref ak, .ref ai, .ref ad, .ref ac, .ref aw, .int (nI mn), .ref at_, .int (nI le), .int (nI th), .int (nI sp), .ref ao, .int (nI tm)])), (an, .inl (G.2.1, 525, .inl (gn nw)))] H → va_D A [(mq, .inr (4, [.ref an, .ref ap, .int (nI st), .ref ak, .ref ai, .ref ad, .ref ac, .ref aw, .int (nI mn), .ref at_, .int (nI le), .int (nI th), .int (nI sp), .ref ao, .int (nI tm)])), (an, .inl (G.2.1, 525, .inl (gn nw)))] → va_S A s.heap H locs → ∀ (ls : Array Slot), lv_has ls 7 [(3, .int (nI (eB nw o q k + (if (k % 16 < 15 ∧ (nw k = o ∧ nw (k + 1) = q ∨ nw k = q ∧ nw (k + 1) = o)) then 1 else 0)))), (6, .int (nI (if (k < 240) then 1 else 0))), (5, .int (nI (if (k % 16 < 15) then 1 else 0))), (4, .int (nI k)), (0, .ref mq), (1, .int (nI o)), (2, .int (nI q))] → W p l e ({ frames := 0, cells := 0, slots := 0, locals := 0 } : Room) s m args below meth c H locs 0 0 (MQ below (va_Qi (S := Unit) (fun (r : Int32) (u : Unit) => (r = nI (btw nw o q))) (gB G A (fun (u : Unit) => [(mq, .inr (4, [.ref an, .ref ap, .int (nI st), .ref ak, .ref ai, .ref ad, .ref ac, .ref aw, .int (nI mn), .ref at_, .int (nI le), .int (nI th), .int (nI sp), .ref ao, .int (nI tm)])), (an, .inl (G.2.1, 525, .inl (gn nw)))])) A) args s 0 0 A) (F0 m 167 ls [.int (nI (if (k < 240 ∧ (nw k = o ∧ nw (k + 16) = q ∨ nw k = q ∧ nw (k + 16) = o)) then 1 else 0)), .int (nI (eB nw o q k + (if (k % 16 < 15 ∧ (nw k = o ∧ nw (k + 1) = q ∨ nw k = q ∧ nw (k + 1) = o)) then 1 else 0)))]) := by
              intro  H locs hP hD hS ls hl
              refine gIadd (a := eB nw o q k + (if (k % 16 < 15 ∧ (nw k = o ∧ nw (k + 1) = q ∨ nw k = q ∧ nw (k + 1) = o)) then 1 else 0)) (b := (if (k < 240 ∧ (nw k = o ∧ nw (k + 16) = q ∨ nw k = q ∧ nw (k + 16) = o)) then 1 else 0)) hx hb dX4_between_167 ?_
              refine lv_istore_n (lv' := [(3, .int (nI (eB nw o q k + (if (k % 16 < 15 ∧ (nw k = o ∧ nw (k + 1) = q ∨ nw k = q ∧ nw (k + 1) = o)) then 1 else 0) + (if (k < 240 ∧ (nw k = o ∧ nw (k + 16) = q ∨ nw k = q ∧ nw (k + 16) = o)) then 1 else 0)))), (6, .int (nI (if (k < 240) then 1 else 0))), (5, .int (nI (if (k % 16 < 15) then 1 else 0))), (4, .int (nI k)), (0, .ref mq), (1, .int (nI o)), (2, .int (nI q))]) hx hb dX4_between_168 rfl hl (by decide) rfl (fun ls hl => ?_)
              refine lv_iinc (v := nI (k + 1)) (lv' := [(4, .int (nI (k + 1))), (3, .int (nI (eB nw o q k + (if (k % 16 < 15 ∧ (nw k = o ∧ nw (k + 1) = q ∨ nw k = q ∧ nw (k + 1) = o)) then 1 else 0) + (if (k < 240 ∧ (nw k = o ∧ nw (k + 16) = q ∨ nw k = q ∧ nw (k + 16) = o)) then 1 else 0)))), (6, .int (nI (if (k < 240) then 1 else 0))), (5, .int (nI (if (k % 16 < 15) then 1 else 0))), (0, .ref mq), (1, .int (nI o)), (2, .int (nI q))]) hx hb dX4_between_169 hl (k := 3) rfl (gInc_p _ rfl) (by decide) rfl (fun ls hl => ?_)
              refine lv_goto (tgt := 5) hx hb dX4_between_172 (by decide) ?_
              have hl : lv_has ls 7 [(4, .int (nI (k + 1))), (3, .int (nI (eB nw o q k + (if (k % 16 < 15 ∧ (nw k = o ∧ nw (k + 1) = q ∨ nw k = q ∧ nw (k + 1) = o)) then 1 else 0) + (if (k < 240 ∧ (nw k = o ∧ nw (k + 16) = q ∨ nw k = q ∧ nw (k + 16) = o)) then 1 else 0)))), (0, .ref mq), (1, .int (nI o)), (2, .int (nI q))] := lv_sub hl [0, 1, 4, 5, 6] rfl
              have hle : (.int (nI (eB nw o q k + (if (k % 16 < 15 ∧ (nw k = o ∧ nw (k + 1) = q ∨ nw k = q ∧ nw (k + 1) = o)) then 1 else 0) + (if (k < 240 ∧ (nw k = o ∧ nw (k + 16) = q ∨ nw k = q ∧ nw (k + 16) = o)) then 1 else 0))) : Value) = .int (nI (eB nw o q (k + 1))) := by rfl
              rw [hle] at hl
              have hy_1 : (k + 1) ≤ 256 := by omega
              exact ih5 (k + 1) (by omega) hy_1 H locs hP hD hS ls hl
            refine lv_iload hx hb dX4_between_107 (lv_at hl 1 rfl) ?_
            refine gIfB_eq (P := (k < 240)) (tgt := 166) hx hb dX4_between_109 (by decide) (fun c109 => ?_) (fun c109 => ?_)
            · skip
              refine lv_iconst (v := nI 0) hx hb dX4_between_166 (by decide) ?_
              have hl : lv_has ls 7 [(3, .int (nI (eB nw o q k + (if (k % 16 < 15 ∧ (nw k = o ∧ nw (k + 1) = q ∨ nw k = q ∧ nw (k + 1) = o)) then 1 else 0)))), (6, .int (nI (if (k < 240) then 1 else 0))), (5, .int (nI (if (k % 16 < 15) then 1 else 0))), (4, .int (nI k)), (0, .ref mq), (1, .int (nI o)), (2, .int (nI q))] := lv_sub hl [0, 1, 2, 3, 4, 5, 6] rfl
              have hse : (.int (nI 0) : Value) = .int (nI (if (k < 240 ∧ (nw k = o ∧ nw (k + 16) = q ∨ nw k = q ∧ nw (k + 16) = o)) then 1 else 0)) := by first | rw [if_pos (by omega)] | rw [if_neg (by omega)]
              refine W.eq (g2 := F0 m 167 ls [.int (nI (if (k < 240 ∧ (nw k = o ∧ nw (k + 16) = q ∨ nw k = q ∧ nw (k + 16) = o)) then 1 else 0)), .int (nI (eB nw o q k + (if (k % 16 < 15 ∧ (nw k = o ∧ nw (k + 1) = q ∨ nw k = q ∧ nw (k + 1) = o)) then 1 else 0)))]) (congrArg (fun v_ => F0 m 167 ls [v_, .int (nI (eB nw o q k + (if (k % 16 < 15 ∧ (nw k = o ∧ nw (k + 1) = q ∨ nw k = q ∧ nw (k + 1) = o)) then 1 else 0)))]) hse) ?_
              exact J167  H locs hP hD hS ls hl
            refine lv_aload_n hx hb dX4_between_112 rfl (lv_at hl 4 rfl) ?_
            refine va_get (D := G.1) (ci := 4) (v := .ref an) (C := RX4) (T := TX4) (N := 15) hx hb hts hi4 hown hK hP 0 rfl rfl 0 (by decide) (hts (.fieldLink RX4 7 "LandQuartersModel" "now" "[I") (by decide +kernel)) (fun _ h9 => h9) rfl dX4_between_113 ?_
            refine lv_iload hx hb dX4_between_116 (lv_at hl 3 rfl) ?_
            refine gNald (k := k) hx hb hK hP 1 0 rfl rfl (by omega) (by first | decide | omega) dX4_between_118 ?_
            refine lv_iload_n hx hb dX4_between_119 rfl (lv_at hl 5 rfl) ?_
            refine gIcmp_ne (a := nw k) (b := o) (tgt := 137) hx hb dX4_between_120 (by decide) (by have := how k (by omega); omega) (by omega) (fun c120 => ?_) (fun c120 => ?_)
            · skip
              refine lv_aload_n hx hb dX4_between_137 rfl (lv_at hl 4 rfl) ?_
              refine va_get (D := G.1) (ci := 4) (v := .ref an) (C := RX4) (T := TX4) (N := 15) hx hb hts hi4 hown hK hP 0 rfl rfl 0 (by decide) (hts (.fieldLink RX4 7 "LandQuartersModel" "now" "[I") (by decide +kernel)) (fun _ h9 => h9) rfl dX4_between_138 ?_
              refine lv_iload hx hb dX4_between_141 (lv_at hl 3 rfl) ?_
              refine gNald (k := k) hx hb hK hP 1 0 rfl rfl (by omega) (by first | decide | omega) dX4_between_143 ?_
              refine lv_iload_n hx hb dX4_between_144 rfl (lv_at hl 6 rfl) ?_
              refine gIcmp_ne (a := nw k) (b := q) (tgt := 166) hx hb dX4_between_145 (by decide) (by have := how k (by omega); omega) (by omega) (fun c145 => ?_) (fun c145 => ?_)
              · skip
                refine lv_iconst (v := nI 0) hx hb dX4_between_166 (by decide) ?_
                have hl : lv_has ls 7 [(3, .int (nI (eB nw o q k + (if (k % 16 < 15 ∧ (nw k = o ∧ nw (k + 1) = q ∨ nw k = q ∧ nw (k + 1) = o)) then 1 else 0)))), (6, .int (nI (if (k < 240) then 1 else 0))), (5, .int (nI (if (k % 16 < 15) then 1 else 0))), (4, .int (nI k)), (0, .ref mq), (1, .int (nI o)), (2, .int (nI q))] := lv_sub hl [0, 1, 2, 3, 4, 5, 6] rfl
                have hse : (.int (nI 0) : Value) = .int (nI (if (k < 240 ∧ (nw k = o ∧ nw (k + 16) = q ∨ nw k = q ∧ nw (k + 16) = o)) then 1 else 0)) := by first | rw [if_pos (by omega)] | rw [if_neg (by omega)]
                refine W.eq (g2 := F0 m 167 ls [.int (nI (if (k < 240 ∧ (nw k = o ∧ nw (k + 16) = q ∨ nw k = q ∧ nw (k + 16) = o)) then 1 else 0)), .int (nI (eB nw o q k + (if (k % 16 < 15 ∧ (nw k = o ∧ nw (k + 1) = q ∨ nw k = q ∧ nw (k + 1) = o)) then 1 else 0)))]) (congrArg (fun v_ => F0 m 167 ls [v_, .int (nI (eB nw o q k + (if (k % 16 < 15 ∧ (nw k = o ∧ nw (k + 1) = q ∨ nw k = q ∧ nw (k + 1) = o)) then 1 else 0)))]) hse) ?_
                exact J167  H locs hP hD hS ls hl
              refine lv_aload_n hx hb dX4_between_148 rfl (lv_at hl 4 rfl) ?_
              refine va_get (D := G.1) (ci := 4) (v := .ref an) (C := RX4) (T := TX4) (N := 15) hx hb hts hi4 hown hK hP 0 rfl rfl 0 (by decide) (hts (.fieldLink RX4 7 "LandQuartersModel" "now" "[I") (by decide +kernel)) (fun _ h9 => h9) rfl dX4_between_149 ?_
              refine lv_iload hx hb dX4_between_152 (lv_at hl 3 rfl) ?_
              refine lv_bipush (v := nI 16) hx hb dX4_between_154 (by decide) ?_
              refine gIadd (a := k) (b := 16) hx hb dX4_between_156 ?_
              refine gNald (k := k + 16) hx hb hK hP 1 0 rfl rfl (by omega) (by first | decide | omega) dX4_between_157 ?_
              refine lv_iload_n hx hb dX4_between_158 rfl (lv_at hl 5 rfl) ?_
              refine gIcmp_ne (a := nw (k + 16)) (b := o) (tgt := 166) hx hb dX4_between_159 (by decide) (by have := how (k + 16) (by omega); omega) (by omega) (fun c159 => ?_) (fun c159 => ?_)
              · skip
                refine lv_iconst (v := nI 0) hx hb dX4_between_166 (by decide) ?_
                have hl : lv_has ls 7 [(3, .int (nI (eB nw o q k + (if (k % 16 < 15 ∧ (nw k = o ∧ nw (k + 1) = q ∨ nw k = q ∧ nw (k + 1) = o)) then 1 else 0)))), (6, .int (nI (if (k < 240) then 1 else 0))), (5, .int (nI (if (k % 16 < 15) then 1 else 0))), (4, .int (nI k)), (0, .ref mq), (1, .int (nI o)), (2, .int (nI q))] := lv_sub hl [0, 1, 2, 3, 4, 5, 6] rfl
                have hse : (.int (nI 0) : Value) = .int (nI (if (k < 240 ∧ (nw k = o ∧ nw (k + 16) = q ∨ nw k = q ∧ nw (k + 16) = o)) then 1 else 0)) := by first | rw [if_pos (by omega)] | rw [if_neg (by omega)]
                refine W.eq (g2 := F0 m 167 ls [.int (nI (if (k < 240 ∧ (nw k = o ∧ nw (k + 16) = q ∨ nw k = q ∧ nw (k + 16) = o)) then 1 else 0)), .int (nI (eB nw o q k + (if (k % 16 < 15 ∧ (nw k = o ∧ nw (k + 1) = q ∨ nw k = q ∧ nw (k + 1) = o)) then 1 else 0)))]) (congrArg (fun v_ => F0 m 167 ls [v_, .int (nI (eB nw o q k + (if (k % 16 < 15 ∧ (nw k = o ∧ nw (k + 1) = q ∨ nw k = q ∧ nw (k + 1) = o)) then 1 else 0)))]) hse) ?_
                exact J167  H locs hP hD hS ls hl
              refine lv_iconst (v := nI 1) hx hb dX4_between_162 (by decide) ?_
              refine lv_goto (tgt := 167) hx hb dX4_between_163 (by decide) ?_
              have hl : lv_has ls 7 [(3, .int (nI (eB nw o q k + (if (k % 16 < 15 ∧ (nw k = o ∧ nw (k + 1) = q ∨ nw k = q ∧ nw (k + 1) = o)) then 1 else 0)))), (6, .int (nI (if (k < 240) then 1 else 0))), (5, .int (nI (if (k % 16 < 15) then 1 else 0))), (4, .int (nI k)), (0, .ref mq), (1, .int (nI o)), (2, .int (nI q))] := lv_sub hl [0, 1, 2, 3, 4, 5, 6] rfl
              have hse : (.int (nI 1) : Value) = .int (nI (if (k < 240 ∧ (nw k = o ∧ nw (k + 16) = q ∨ nw k = q ∧ nw (k + 16) = o)) then 1 else 0)) := by first | rw [if_pos (by omega)] | rw [if_neg (by omega)]
              refine W.eq (g2 := F0 m 167 ls [.int (nI (if (k < 240 ∧ (nw k = o ∧ nw (k + 16) = q ∨ nw k = q ∧ nw (k + 16) = o)) then 1 else 0)), .int (nI (eB nw o q k + (if (k % 16 < 15 ∧ (nw k = o ∧ nw (k + 1) = q ∨ nw k = q ∧ nw (k + 1) = o)) then 1 else 0)))]) (congrArg (fun v_ => F0 m 167 ls [v_, .int (nI (eB nw o q k + (if (k % 16 < 15 ∧ (nw k = o ∧ nw (k + 1) = q ∨ nw k = q ∧ nw (k + 1) = o)) then 1 else 0)))]) hse) ?_
              exact J167  H locs hP hD hS ls hl
            refine lv_aload_n hx hb dX4_between_123 rfl (lv_at hl 4 rfl) ?_
            refine va_get (D := G.1) (ci := 4) (v := .ref an) (C := RX4) (T := TX4) (N := 15) hx hb hts hi4 hown hK hP 0 rfl rfl 0 (by decide) (hts (.fieldLink RX4 7 "LandQuartersModel" "now" "[I") (by decide +kernel)) (fun _ h9 => h9) rfl dX4_between_124 ?_
            refine lv_iload hx hb dX4_between_127 (lv_at hl 3 rfl) ?_
            refine lv_bipush (v := nI 16) hx hb dX4_between_129 (by decide) ?_
            refine gIadd (a := k) (b := 16) hx hb dX4_between_131 ?_
            refine gNald (k := k + 16) hx hb hK hP 1 0 rfl rfl (by omega) (by first | decide | omega) dX4_between_132 ?_
            refine lv_iload_n hx hb dX4_between_133 rfl (lv_at hl 6 rfl) ?_
            refine gIcmp_eq (a := nw (k + 16)) (b := q) (tgt := 162) hx hb dX4_between_134 (by decide) (by have := how (k + 16) (by omega); omega) (by omega) (fun c134 => ?_) (fun c134 => ?_)
            · skip
              refine lv_iconst (v := nI 1) hx hb dX4_between_162 (by decide) ?_
              refine lv_goto (tgt := 167) hx hb dX4_between_163 (by decide) ?_
              have hl : lv_has ls 7 [(3, .int (nI (eB nw o q k + (if (k % 16 < 15 ∧ (nw k = o ∧ nw (k + 1) = q ∨ nw k = q ∧ nw (k + 1) = o)) then 1 else 0)))), (6, .int (nI (if (k < 240) then 1 else 0))), (5, .int (nI (if (k % 16 < 15) then 1 else 0))), (4, .int (nI k)), (0, .ref mq), (1, .int (nI o)), (2, .int (nI q))] := lv_sub hl [0, 1, 2, 3, 4, 5, 6] rfl
              have hse : (.int (nI 1) : Value) = .int (nI (if (k < 240 ∧ (nw k = o ∧ nw (k + 16) = q ∨ nw k = q ∧ nw (k + 16) = o)) then 1 else 0)) := by first | rw [if_pos (by omega)] | rw [if_neg (by omega)]
              refine W.eq (g2 := F0 m 167 ls [.int (nI (if (k < 240 ∧ (nw k = o ∧ nw (k + 16) = q ∨ nw k = q ∧ nw (k + 16) = o)) then 1 else 0)), .int (nI (eB nw o q k + (if (k % 16 < 15 ∧ (nw k = o ∧ nw (k + 1) = q ∨ nw k = q ∧ nw (k + 1) = o)) then 1 else 0)))]) (congrArg (fun v_ => F0 m 167 ls [v_, .int (nI (eB nw o q k + (if (k % 16 < 15 ∧ (nw k = o ∧ nw (k + 1) = q ∨ nw k = q ∧ nw (k + 1) = o)) then 1 else 0)))]) hse) ?_
              exact J167  H locs hP hD hS ls hl
            refine lv_aload_n hx hb dX4_between_137 rfl (lv_at hl 4 rfl) ?_
            refine va_get (D := G.1) (ci := 4) (v := .ref an) (C := RX4) (T := TX4) (N := 15) hx hb hts hi4 hown hK hP 0 rfl rfl 0 (by decide) (hts (.fieldLink RX4 7 "LandQuartersModel" "now" "[I") (by decide +kernel)) (fun _ h9 => h9) rfl dX4_between_138 ?_
            refine lv_iload hx hb dX4_between_141 (lv_at hl 3 rfl) ?_
            refine gNald (k := k) hx hb hK hP 1 0 rfl rfl (by omega) (by first | decide | omega) dX4_between_143 ?_
            refine lv_iload_n hx hb dX4_between_144 rfl (lv_at hl 6 rfl) ?_
            refine gIcmp_ne (a := nw k) (b := q) (tgt := 166) hx hb dX4_between_145 (by decide) (by have := how k (by omega); omega) (by omega) (fun c145 => ?_) (fun c145 => ?_)
            · skip
              refine lv_iconst (v := nI 0) hx hb dX4_between_166 (by decide) ?_
              have hl : lv_has ls 7 [(3, .int (nI (eB nw o q k + (if (k % 16 < 15 ∧ (nw k = o ∧ nw (k + 1) = q ∨ nw k = q ∧ nw (k + 1) = o)) then 1 else 0)))), (6, .int (nI (if (k < 240) then 1 else 0))), (5, .int (nI (if (k % 16 < 15) then 1 else 0))), (4, .int (nI k)), (0, .ref mq), (1, .int (nI o)), (2, .int (nI q))] := lv_sub hl [0, 1, 2, 3, 4, 5, 6] rfl
              have hse : (.int (nI 0) : Value) = .int (nI (if (k < 240 ∧ (nw k = o ∧ nw (k + 16) = q ∨ nw k = q ∧ nw (k + 16) = o)) then 1 else 0)) := by first | rw [if_pos (by omega)] | rw [if_neg (by omega)]
              refine W.eq (g2 := F0 m 167 ls [.int (nI (if (k < 240 ∧ (nw k = o ∧ nw (k + 16) = q ∨ nw k = q ∧ nw (k + 16) = o)) then 1 else 0)), .int (nI (eB nw o q k + (if (k % 16 < 15 ∧ (nw k = o ∧ nw (k + 1) = q ∨ nw k = q ∧ nw (k + 1) = o)) then 1 else 0)))]) (congrArg (fun v_ => F0 m 167 ls [v_, .int (nI (eB nw o q k + (if (k % 16 < 15 ∧ (nw k = o ∧ nw (k + 1) = q ∨ nw k = q ∧ nw (k + 1) = o)) then 1 else 0)))]) hse) ?_
              exact J167  H locs hP hD hS ls hl
            refine lv_aload_n hx hb dX4_between_148 rfl (lv_at hl 4 rfl) ?_
            refine va_get (D := G.1) (ci := 4) (v := .ref an) (C := RX4) (T := TX4) (N := 15) hx hb hts hi4 hown hK hP 0 rfl rfl 0 (by decide) (hts (.fieldLink RX4 7 "LandQuartersModel" "now" "[I") (by decide +kernel)) (fun _ h9 => h9) rfl dX4_between_149 ?_
            refine lv_iload hx hb dX4_between_152 (lv_at hl 3 rfl) ?_
            refine lv_bipush (v := nI 16) hx hb dX4_between_154 (by decide) ?_
            refine gIadd (a := k) (b := 16) hx hb dX4_between_156 ?_
            refine gNald (k := k + 16) hx hb hK hP 1 0 rfl rfl (by omega) (by first | decide | omega) dX4_between_157 ?_
            refine lv_iload_n hx hb dX4_between_158 rfl (lv_at hl 5 rfl) ?_
            refine gIcmp_ne (a := nw (k + 16)) (b := o) (tgt := 166) hx hb dX4_between_159 (by decide) (by have := how (k + 16) (by omega); omega) (by omega) (fun c159 => ?_) (fun c159 => ?_)
            · skip
              refine lv_iconst (v := nI 0) hx hb dX4_between_166 (by decide) ?_
              have hl : lv_has ls 7 [(3, .int (nI (eB nw o q k + (if (k % 16 < 15 ∧ (nw k = o ∧ nw (k + 1) = q ∨ nw k = q ∧ nw (k + 1) = o)) then 1 else 0)))), (6, .int (nI (if (k < 240) then 1 else 0))), (5, .int (nI (if (k % 16 < 15) then 1 else 0))), (4, .int (nI k)), (0, .ref mq), (1, .int (nI o)), (2, .int (nI q))] := lv_sub hl [0, 1, 2, 3, 4, 5, 6] rfl
              have hse : (.int (nI 0) : Value) = .int (nI (if (k < 240 ∧ (nw k = o ∧ nw (k + 16) = q ∨ nw k = q ∧ nw (k + 16) = o)) then 1 else 0)) := by first | rw [if_pos (by omega)] | rw [if_neg (by omega)]
              refine W.eq (g2 := F0 m 167 ls [.int (nI (if (k < 240 ∧ (nw k = o ∧ nw (k + 16) = q ∨ nw k = q ∧ nw (k + 16) = o)) then 1 else 0)), .int (nI (eB nw o q k + (if (k % 16 < 15 ∧ (nw k = o ∧ nw (k + 1) = q ∨ nw k = q ∧ nw (k + 1) = o)) then 1 else 0)))]) (congrArg (fun v_ => F0 m 167 ls [v_, .int (nI (eB nw o q k + (if (k % 16 < 15 ∧ (nw k = o ∧ nw (k + 1) = q ∨ nw k = q ∧ nw (k + 1) = o)) then 1 else 0)))]) hse) ?_
              exact J167  H locs hP hD hS ls hl
            refine lv_iconst (v := nI 1) hx hb dX4_between_162 (by decide) ?_
            refine lv_goto (tgt := 167) hx hb dX4_between_163 (by decide) ?_
            have hl : lv_has ls 7 [(3, .int (nI (eB nw o q k + (if (k % 16 < 15 ∧ (nw k = o ∧ nw (k + 1) = q ∨ nw k = q ∧ nw (k + 1) = o)) then 1 else 0)))), (6, .int (nI (if (k < 240) then 1 else 0))), (5, .int (nI (if (k % 16 < 15) then 1 else 0))), (4, .int (nI k)), (0, .ref mq), (1, .int (nI o)), (2, .int (nI q))] := lv_sub hl [0, 1, 2, 3, 4, 5, 6] rfl
            have hse : (.int (nI 1) : Value) = .int (nI (if (k < 240 ∧ (nw k = o ∧ nw (k + 16) = q ∨ nw k = q ∧ nw (k + 16) = o)) then 1 else 0)) := by first | rw [if_pos (by omega)] | rw [if_neg (by omega)]
            refine W.eq (g2 := F0 m 167 ls [.int (nI (if (k < 240 ∧ (nw k = o ∧ nw (k + 16) = q ∨ nw k = q ∧ nw (k + 16) = o)) then 1 else 0)), .int (nI (eB nw o q k + (if (k % 16 < 15 ∧ (nw k = o ∧ nw (k + 1) = q ∨ nw k = q ∧ nw (k + 1) = o)) then 1 else 0)))]) (congrArg (fun v_ => F0 m 167 ls [v_, .int (nI (eB nw o q k + (if (k % 16 < 15 ∧ (nw k = o ∧ nw (k + 1) = q ∨ nw k = q ∧ nw (k + 1) = o)) then 1 else 0)))]) hse) ?_
            exact J167  H locs hP hD hS ls hl
          refine lv_iload hx hb dX4_between_46 (lv_at hl 1 rfl) ?_
          refine gIfB_eq (P := (k % 16 < 15)) (tgt := 103) hx hb dX4_between_48 (by decide) (fun c48 => ?_) (fun c48 => ?_)
          · skip
            refine lv_iconst (v := nI 0) hx hb dX4_between_103 (by decide) ?_
            have hl : lv_has ls 7 [(6, .int (nI (if (k < 240) then 1 else 0))), (5, .int (nI (if (k % 16 < 15) then 1 else 0))), (4, .int (nI k)), (3, .int (nI (eB nw o q k))), (0, .ref mq), (1, .int (nI o)), (2, .int (nI q))] := lv_sub hl [0, 1, 2, 3, 4, 5, 6] rfl
            have hse : (.int (nI 0) : Value) = .int (nI (if (k % 16 < 15 ∧ (nw k = o ∧ nw (k + 1) = q ∨ nw k = q ∧ nw (k + 1) = o)) then 1 else 0)) := by first | rw [if_pos (by omega)] | rw [if_neg (by omega)]
            refine W.eq (g2 := F0 m 104 ls [.int (nI (if (k % 16 < 15 ∧ (nw k = o ∧ nw (k + 1) = q ∨ nw k = q ∧ nw (k + 1) = o)) then 1 else 0)), .int (nI (eB nw o q k))]) (congrArg (fun v_ => F0 m 104 ls [v_, .int (nI (eB nw o q k))]) hse) ?_
            exact J104  H locs hP hD hS ls hl
          refine lv_aload_n hx hb dX4_between_51 rfl (lv_at hl 4 rfl) ?_
          refine va_get (D := G.1) (ci := 4) (v := .ref an) (C := RX4) (T := TX4) (N := 15) hx hb hts hi4 hown hK hP 0 rfl rfl 0 (by decide) (hts (.fieldLink RX4 7 "LandQuartersModel" "now" "[I") (by decide +kernel)) (fun _ h9 => h9) rfl dX4_between_52 ?_
          refine lv_iload hx hb dX4_between_55 (lv_at hl 2 rfl) ?_
          refine gNald (k := k) hx hb hK hP 1 0 rfl rfl (by omega) (by first | decide | omega) dX4_between_57 ?_
          refine lv_iload_n hx hb dX4_between_58 rfl (lv_at hl 5 rfl) ?_
          refine gIcmp_ne (a := nw k) (b := o) (tgt := 75) hx hb dX4_between_59 (by decide) (by have := how k (by omega); omega) (by omega) (fun c59 => ?_) (fun c59 => ?_)
          · skip
            refine lv_aload_n hx hb dX4_between_75 rfl (lv_at hl 4 rfl) ?_
            refine va_get (D := G.1) (ci := 4) (v := .ref an) (C := RX4) (T := TX4) (N := 15) hx hb hts hi4 hown hK hP 0 rfl rfl 0 (by decide) (hts (.fieldLink RX4 7 "LandQuartersModel" "now" "[I") (by decide +kernel)) (fun _ h9 => h9) rfl dX4_between_76 ?_
            refine lv_iload hx hb dX4_between_79 (lv_at hl 2 rfl) ?_
            refine gNald (k := k) hx hb hK hP 1 0 rfl rfl (by omega) (by first | decide | omega) dX4_between_81 ?_
            refine lv_iload_n hx hb dX4_between_82 rfl (lv_at hl 6 rfl) ?_
            refine gIcmp_ne (a := nw k) (b := q) (tgt := 103) hx hb dX4_between_83 (by decide) (by have := how k (by omega); omega) (by omega) (fun c83 => ?_) (fun c83 => ?_)
            · skip
              refine lv_iconst (v := nI 0) hx hb dX4_between_103 (by decide) ?_
              have hl : lv_has ls 7 [(6, .int (nI (if (k < 240) then 1 else 0))), (5, .int (nI (if (k % 16 < 15) then 1 else 0))), (4, .int (nI k)), (3, .int (nI (eB nw o q k))), (0, .ref mq), (1, .int (nI o)), (2, .int (nI q))] := lv_sub hl [0, 1, 2, 3, 4, 5, 6] rfl
              have hse : (.int (nI 0) : Value) = .int (nI (if (k % 16 < 15 ∧ (nw k = o ∧ nw (k + 1) = q ∨ nw k = q ∧ nw (k + 1) = o)) then 1 else 0)) := by first | rw [if_pos (by omega)] | rw [if_neg (by omega)]
              refine W.eq (g2 := F0 m 104 ls [.int (nI (if (k % 16 < 15 ∧ (nw k = o ∧ nw (k + 1) = q ∨ nw k = q ∧ nw (k + 1) = o)) then 1 else 0)), .int (nI (eB nw o q k))]) (congrArg (fun v_ => F0 m 104 ls [v_, .int (nI (eB nw o q k))]) hse) ?_
              exact J104  H locs hP hD hS ls hl
            refine lv_aload_n hx hb dX4_between_86 rfl (lv_at hl 4 rfl) ?_
            refine va_get (D := G.1) (ci := 4) (v := .ref an) (C := RX4) (T := TX4) (N := 15) hx hb hts hi4 hown hK hP 0 rfl rfl 0 (by decide) (hts (.fieldLink RX4 7 "LandQuartersModel" "now" "[I") (by decide +kernel)) (fun _ h9 => h9) rfl dX4_between_87 ?_
            refine lv_iload hx hb dX4_between_90 (lv_at hl 2 rfl) ?_
            refine lv_iconst (v := nI 1) hx hb dX4_between_92 (by decide) ?_
            refine gIadd (a := k) (b := 1) hx hb dX4_between_93 ?_
            refine gNald (k := k + 1) hx hb hK hP 1 0 rfl rfl (by omega) (by first | decide | omega) dX4_between_94 ?_
            refine lv_iload_n hx hb dX4_between_95 rfl (lv_at hl 5 rfl) ?_
            refine gIcmp_ne (a := nw (k + 1)) (b := o) (tgt := 103) hx hb dX4_between_96 (by decide) (by have := how (k + 1) (by omega); omega) (by omega) (fun c96 => ?_) (fun c96 => ?_)
            · skip
              refine lv_iconst (v := nI 0) hx hb dX4_between_103 (by decide) ?_
              have hl : lv_has ls 7 [(6, .int (nI (if (k < 240) then 1 else 0))), (5, .int (nI (if (k % 16 < 15) then 1 else 0))), (4, .int (nI k)), (3, .int (nI (eB nw o q k))), (0, .ref mq), (1, .int (nI o)), (2, .int (nI q))] := lv_sub hl [0, 1, 2, 3, 4, 5, 6] rfl
              have hse : (.int (nI 0) : Value) = .int (nI (if (k % 16 < 15 ∧ (nw k = o ∧ nw (k + 1) = q ∨ nw k = q ∧ nw (k + 1) = o)) then 1 else 0)) := by first | rw [if_pos (by omega)] | rw [if_neg (by omega)]
              refine W.eq (g2 := F0 m 104 ls [.int (nI (if (k % 16 < 15 ∧ (nw k = o ∧ nw (k + 1) = q ∨ nw k = q ∧ nw (k + 1) = o)) then 1 else 0)), .int (nI (eB nw o q k))]) (congrArg (fun v_ => F0 m 104 ls [v_, .int (nI (eB nw o q k))]) hse) ?_
              exact J104  H locs hP hD hS ls hl
            refine lv_iconst (v := nI 1) hx hb dX4_between_99 (by decide) ?_
            refine lv_goto (tgt := 104) hx hb dX4_between_100 (by decide) ?_
            have hl : lv_has ls 7 [(6, .int (nI (if (k < 240) then 1 else 0))), (5, .int (nI (if (k % 16 < 15) then 1 else 0))), (4, .int (nI k)), (3, .int (nI (eB nw o q k))), (0, .ref mq), (1, .int (nI o)), (2, .int (nI q))] := lv_sub hl [0, 1, 2, 3, 4, 5, 6] rfl
            have hse : (.int (nI 1) : Value) = .int (nI (if (k % 16 < 15 ∧ (nw k = o ∧ nw (k + 1) = q ∨ nw k = q ∧ nw (k + 1) = o)) then 1 else 0)) := by first | rw [if_pos (by omega)] | rw [if_neg (by omega)]
            refine W.eq (g2 := F0 m 104 ls [.int (nI (if (k % 16 < 15 ∧ (nw k = o ∧ nw (k + 1) = q ∨ nw k = q ∧ nw (k + 1) = o)) then 1 else 0)), .int (nI (eB nw o q k))]) (congrArg (fun v_ => F0 m 104 ls [v_, .int (nI (eB nw o q k))]) hse) ?_
            exact J104  H locs hP hD hS ls hl
          refine lv_aload_n hx hb dX4_between_62 rfl (lv_at hl 4 rfl) ?_
          refine va_get (D := G.1) (ci := 4) (v := .ref an) (C := RX4) (T := TX4) (N := 15) hx hb hts hi4 hown hK hP 0 rfl rfl 0 (by decide) (hts (.fieldLink RX4 7 "LandQuartersModel" "now" "[I") (by decide +kernel)) (fun _ h9 => h9) rfl dX4_between_63 ?_
          refine lv_iload hx hb dX4_between_66 (lv_at hl 2 rfl) ?_
          refine lv_iconst (v := nI 1) hx hb dX4_between_68 (by decide) ?_
          refine gIadd (a := k) (b := 1) hx hb dX4_between_69 ?_
          refine gNald (k := k + 1) hx hb hK hP 1 0 rfl rfl (by omega) (by first | decide | omega) dX4_between_70 ?_
          refine lv_iload_n hx hb dX4_between_71 rfl (lv_at hl 6 rfl) ?_
          refine gIcmp_eq (a := nw (k + 1)) (b := q) (tgt := 99) hx hb dX4_between_72 (by decide) (by have := how (k + 1) (by omega); omega) (by omega) (fun c72 => ?_) (fun c72 => ?_)
          · skip
            refine lv_iconst (v := nI 1) hx hb dX4_between_99 (by decide) ?_
            refine lv_goto (tgt := 104) hx hb dX4_between_100 (by decide) ?_
            have hl : lv_has ls 7 [(6, .int (nI (if (k < 240) then 1 else 0))), (5, .int (nI (if (k % 16 < 15) then 1 else 0))), (4, .int (nI k)), (3, .int (nI (eB nw o q k))), (0, .ref mq), (1, .int (nI o)), (2, .int (nI q))] := lv_sub hl [0, 1, 2, 3, 4, 5, 6] rfl
            have hse : (.int (nI 1) : Value) = .int (nI (if (k % 16 < 15 ∧ (nw k = o ∧ nw (k + 1) = q ∨ nw k = q ∧ nw (k + 1) = o)) then 1 else 0)) := by first | rw [if_pos (by omega)] | rw [if_neg (by omega)]
            refine W.eq (g2 := F0 m 104 ls [.int (nI (if (k % 16 < 15 ∧ (nw k = o ∧ nw (k + 1) = q ∨ nw k = q ∧ nw (k + 1) = o)) then 1 else 0)), .int (nI (eB nw o q k))]) (congrArg (fun v_ => F0 m 104 ls [v_, .int (nI (eB nw o q k))]) hse) ?_
            exact J104  H locs hP hD hS ls hl
          refine lv_aload_n hx hb dX4_between_75 rfl (lv_at hl 4 rfl) ?_
          refine va_get (D := G.1) (ci := 4) (v := .ref an) (C := RX4) (T := TX4) (N := 15) hx hb hts hi4 hown hK hP 0 rfl rfl 0 (by decide) (hts (.fieldLink RX4 7 "LandQuartersModel" "now" "[I") (by decide +kernel)) (fun _ h9 => h9) rfl dX4_between_76 ?_
          refine lv_iload hx hb dX4_between_79 (lv_at hl 2 rfl) ?_
          refine gNald (k := k) hx hb hK hP 1 0 rfl rfl (by omega) (by first | decide | omega) dX4_between_81 ?_
          refine lv_iload_n hx hb dX4_between_82 rfl (lv_at hl 6 rfl) ?_
          refine gIcmp_ne (a := nw k) (b := q) (tgt := 103) hx hb dX4_between_83 (by decide) (by have := how k (by omega); omega) (by omega) (fun c83 => ?_) (fun c83 => ?_)
          · skip
            refine lv_iconst (v := nI 0) hx hb dX4_between_103 (by decide) ?_
            have hl : lv_has ls 7 [(6, .int (nI (if (k < 240) then 1 else 0))), (5, .int (nI (if (k % 16 < 15) then 1 else 0))), (4, .int (nI k)), (3, .int (nI (eB nw o q k))), (0, .ref mq), (1, .int (nI o)), (2, .int (nI q))] := lv_sub hl [0, 1, 2, 3, 4, 5, 6] rfl
            have hse : (.int (nI 0) : Value) = .int (nI (if (k % 16 < 15 ∧ (nw k = o ∧ nw (k + 1) = q ∨ nw k = q ∧ nw (k + 1) = o)) then 1 else 0)) := by first | rw [if_pos (by omega)] | rw [if_neg (by omega)]
            refine W.eq (g2 := F0 m 104 ls [.int (nI (if (k % 16 < 15 ∧ (nw k = o ∧ nw (k + 1) = q ∨ nw k = q ∧ nw (k + 1) = o)) then 1 else 0)), .int (nI (eB nw o q k))]) (congrArg (fun v_ => F0 m 104 ls [v_, .int (nI (eB nw o q k))]) hse) ?_
            exact J104  H locs hP hD hS ls hl
          refine lv_aload_n hx hb dX4_between_86 rfl (lv_at hl 4 rfl) ?_
          refine va_get (D := G.1) (ci := 4) (v := .ref an) (C := RX4) (T := TX4) (N := 15) hx hb hts hi4 hown hK hP 0 rfl rfl 0 (by decide) (hts (.fieldLink RX4 7 "LandQuartersModel" "now" "[I") (by decide +kernel)) (fun _ h9 => h9) rfl dX4_between_87 ?_
          refine lv_iload hx hb dX4_between_90 (lv_at hl 2 rfl) ?_
          refine lv_iconst (v := nI 1) hx hb dX4_between_92 (by decide) ?_
          refine gIadd (a := k) (b := 1) hx hb dX4_between_93 ?_
          refine gNald (k := k + 1) hx hb hK hP 1 0 rfl rfl (by omega) (by first | decide | omega) dX4_between_94 ?_
          refine lv_iload_n hx hb dX4_between_95 rfl (lv_at hl 5 rfl) ?_
          refine gIcmp_ne (a := nw (k + 1)) (b := o) (tgt := 103) hx hb dX4_between_96 (by decide) (by have := how (k + 1) (by omega); omega) (by omega) (fun c96 => ?_) (fun c96 => ?_)
          · skip
            refine lv_iconst (v := nI 0) hx hb dX4_between_103 (by decide) ?_
            have hl : lv_has ls 7 [(6, .int (nI (if (k < 240) then 1 else 0))), (5, .int (nI (if (k % 16 < 15) then 1 else 0))), (4, .int (nI k)), (3, .int (nI (eB nw o q k))), (0, .ref mq), (1, .int (nI o)), (2, .int (nI q))] := lv_sub hl [0, 1, 2, 3, 4, 5, 6] rfl
            have hse : (.int (nI 0) : Value) = .int (nI (if (k % 16 < 15 ∧ (nw k = o ∧ nw (k + 1) = q ∨ nw k = q ∧ nw (k + 1) = o)) then 1 else 0)) := by first | rw [if_pos (by omega)] | rw [if_neg (by omega)]
            refine W.eq (g2 := F0 m 104 ls [.int (nI (if (k % 16 < 15 ∧ (nw k = o ∧ nw (k + 1) = q ∨ nw k = q ∧ nw (k + 1) = o)) then 1 else 0)), .int (nI (eB nw o q k))]) (congrArg (fun v_ => F0 m 104 ls [v_, .int (nI (eB nw o q k))]) hse) ?_
            exact J104  H locs hP hD hS ls hl
          refine lv_iconst (v := nI 1) hx hb dX4_between_99 (by decide) ?_
          refine lv_goto (tgt := 104) hx hb dX4_between_100 (by decide) ?_
          have hl : lv_has ls 7 [(6, .int (nI (if (k < 240) then 1 else 0))), (5, .int (nI (if (k % 16 < 15) then 1 else 0))), (4, .int (nI k)), (3, .int (nI (eB nw o q k))), (0, .ref mq), (1, .int (nI o)), (2, .int (nI q))] := lv_sub hl [0, 1, 2, 3, 4, 5, 6] rfl
          have hse : (.int (nI 1) : Value) = .int (nI (if (k % 16 < 15 ∧ (nw k = o ∧ nw (k + 1) = q ∨ nw k = q ∧ nw (k + 1) = o)) then 1 else 0)) := by first | rw [if_pos (by omega)] | rw [if_neg (by omega)]
          refine W.eq (g2 := F0 m 104 ls [.int (nI (if (k % 16 < 15 ∧ (nw k = o ∧ nw (k + 1) = q ∨ nw k = q ∧ nw (k + 1) = o)) then 1 else 0)), .int (nI (eB nw o q k))]) (congrArg (fun v_ => F0 m 104 ls [v_, .int (nI (eB nw o q k))]) hse) ?_
          exact J104  H locs hP hD hS ls hl
        refine lv_iload hx hb dX4_between_30 (lv_at hl 1 rfl) ?_
        refine lv_sipush (v := nI 240) hx hb dX4_between_32 (by decide) ?_
        refine gIcmp_ge (a := k) (b := 240) (tgt := 42) hx hb dX4_between_35 (by decide) (by omega) (by omega) (fun c35 => ?_) (fun c35 => ?_)
        · skip
          refine lv_iconst (v := nI 0) hx hb dX4_between_42 (by decide) ?_
          have hl : lv_has ls 7 [(5, .int (nI (if (k % 16 < 15) then 1 else 0))), (4, .int (nI k)), (3, .int (nI (eB nw o q k))), (0, .ref mq), (1, .int (nI o)), (2, .int (nI q))] := lv_sub hl [0, 1, 2, 3, 4, 5] rfl
          have hse : (.int (nI 0) : Value) = .int (nI (if (k < 240) then 1 else 0)) := by first | rw [if_pos (by omega)] | rw [if_neg (by omega)]
          refine W.eq (g2 := F0 m 43 ls [.int (nI (if (k < 240) then 1 else 0))]) (congrArg (fun v_ => F0 m 43 ls [v_]) hse) ?_
          exact J43  H locs hP hD hS ls hl
        refine lv_iconst (v := nI 1) hx hb dX4_between_38 (by decide) ?_
        refine lv_goto (tgt := 43) hx hb dX4_between_39 (by decide) ?_
        have hl : lv_has ls 7 [(5, .int (nI (if (k % 16 < 15) then 1 else 0))), (4, .int (nI k)), (3, .int (nI (eB nw o q k))), (0, .ref mq), (1, .int (nI o)), (2, .int (nI q))] := lv_sub hl [0, 1, 2, 3, 4, 5] rfl
        have hse : (.int (nI 1) : Value) = .int (nI (if (k < 240) then 1 else 0)) := by first | rw [if_pos (by omega)] | rw [if_neg (by omega)]
        refine W.eq (g2 := F0 m 43 ls [.int (nI (if (k < 240) then 1 else 0))]) (congrArg (fun v_ => F0 m 43 ls [v_]) hse) ?_
        exact J43  H locs hP hD hS ls hl
      refine lv_iload hx hb dX4_between_13 (lv_at hl 0 rfl) ?_
      refine lv_bipush (v := nI 16) hx hb dX4_between_15 (by decide) ?_
      refine gIrem (a := k) (b := 16) hx hb dX4_between_17 (by omega) (by omega) (by omega) ?_
      refine lv_bipush (v := nI 15) hx hb dX4_between_18 (by decide) ?_
      refine gIcmp_ge (a := k % 16) (b := 15) (tgt := 27) hx hb dX4_between_20 (by decide) (by omega) (by omega) (fun c20 => ?_) (fun c20 => ?_)
      · skip
        refine lv_iconst (v := nI 0) hx hb dX4_between_27 (by decide) ?_
        have hl : lv_has ls 7 [(4, .int (nI k)), (3, .int (nI (eB nw o q k))), (0, .ref mq), (1, .int (nI o)), (2, .int (nI q))] := lv_sub hl [0, 1, 2, 3, 4] rfl
        have hse : (.int (nI 0) : Value) = .int (nI (if (k % 16 < 15) then 1 else 0)) := by first | rw [if_pos (by omega)] | rw [if_neg (by omega)]
        refine W.eq (g2 := F0 m 28 ls [.int (nI (if (k % 16 < 15) then 1 else 0))]) (congrArg (fun v_ => F0 m 28 ls [v_]) hse) ?_
        exact J28  H locs hP hD hS ls hl
      refine lv_iconst (v := nI 1) hx hb dX4_between_23 (by decide) ?_
      refine lv_goto (tgt := 28) hx hb dX4_between_24 (by decide) ?_
      have hl : lv_has ls 7 [(4, .int (nI k)), (3, .int (nI (eB nw o q k))), (0, .ref mq), (1, .int (nI o)), (2, .int (nI q))] := lv_sub hl [0, 1, 2, 3, 4] rfl
      have hse : (.int (nI 1) : Value) = .int (nI (if (k % 16 < 15) then 1 else 0)) := by first | rw [if_pos (by omega)] | rw [if_neg (by omega)]
      refine W.eq (g2 := F0 m 28 ls [.int (nI (if (k % 16 < 15) then 1 else 0))]) (congrArg (fun v_ => F0 m 28 ls [v_]) hse) ?_
      exact J28  H locs hP hD hS ls hl
  have hl : lv_has ls 7 [(4, .int (nI 0)), (3, .int (nI 0)), (0, .ref mq), (1, .int (nI o)), (2, .int (nI q))] := lv_sub hl [0, 1, 2, 3, 4] rfl
  have hle : (.int (nI 0) : Value) = .int (nI (eB nw o q 0)) := by rfl
  rw [hle] at hl
  have hy_2 : 0 ≤ 256 := by omega
  exact L5 _ 0 (Nat.lt_succ_self _) hy_2 H locs hP hD hS ls hl

set_option maxHeartbeats 4000000 in
set_option maxRecDepth 100000 in
theorem c_X4_fence (l : Launch) (G : gG) (mq : Nat) (an : Nat) (ap : Nat) (st : Nat) (ak : Nat) (ai : Nat) (ad : Nat) (ac : Nat) (aw : Nat) (mn : Nat) (at_ : Nat) (le : Nat) (th : Nat) (sp : Nat) (ao : Nat) (tm : Nat) (nw : Nat → Nat) (o : Nat) (how : ∀ k, k < 256 → nw k < 8) (ho : o < 8) : gMi (S := Unit) l yX4_fence wsX4_fence { frames := 1, cells := 0, slots := 0, locals := 26 } G [.ref mq, .int (nI o)] [(mq, .inr (4, [.ref an, .ref ap, .int (nI st), .ref ak, .ref ai, .ref ad, .ref ac, .ref aw, .int (nI mn), .ref at_, .int (nI le), .int (nI th), .int (nI sp), .ref ao, .int (nI tm)])), (an, .inl (G.2.1, 525, .inl (gn nw)))] (fun (r : Int32) (u : Unit) => (r = nI (fM nw o 8))) (fun u => [(mq, .inr (4, [.ref an, .ref ap, .int (nI st), .ref ak, .ref ai, .ref ad, .ref ac, .ref aw, .int (nI mn), .ref at_, .int (nI le), .int (nI th), .int (nI sp), .ref ao, .int (nI tm)])), (an, .inl (G.2.1, 525, .inl (gn nw)))]) 0 0 := by
  refine gMet_mk (cc := cX4_fence) (nL := 4) (ret := (some .int)) (Qc := fun A => va_Qi (S := Unit) (fun (r : Int32) (u : Unit) => (r = nI (fM nw o 8))) (gB G A (fun (u : Unit) => [(mq, .inr (4, [.ref an, .ref ap, .int (nI st), .ref ak, .ref ai, .ref ad, .ref ac, .ref aw, .int (nI mn), .ref at_, .int (nI le), .int (nI th), .int (nI sp), .ref ao, .int (nI tm)])), (an, .inl (G.2.1, 525, .inl (gn nw)))])) A) (by decide) rfl (Nat.le_of_ble_eq_true rfl) ?_
  intro p e s m args below meth c A F ls hl hP hD hS
  have hx := F.1
  have hb := F.2.1
  have hts := F.2.2.2.2.2.2.1
  have hown : s.vm.findClass RX4 = some m.cls := F.2.2.2.2.2.1
  have hKK := F.2.2.2.2.2.2.2.2.1
  have hK := hKK.1
  have hin0 := F.2.2.2.2.2.2.2.1
  have hl : lv_has ls 4 [(0, .ref mq), (1, .int (nI o))] := hl
  generalize hH : s.heap = H at hP ⊢
  have hS : va_S A s.heap H [] := by rw [← hH]; exact va_S.rf
  generalize hLo : ([] : List Loc) = locs at hS ⊢
  refine lv_iconst (v := nI 0) hx hb dX4_fence_0 (by decide) ?_
  refine lv_istore_n (lv' := [(2, .int (nI 0)), (0, .ref mq), (1, .int (nI o))]) hx hb dX4_fence_1 rfl hl (by decide) rfl (fun ls hl => ?_)
  refine lv_iconst (v := nI 0) hx hb dX4_fence_2 (by decide) ?_
  refine lv_istore_n (lv' := [(3, .int (nI 0)), (2, .int (nI 0)), (0, .ref mq), (1, .int (nI o))]) hx hb dX4_fence_3 rfl hl (by decide) rfl (fun ls hl => ?_)
  have L4 : ∀ (fuel : Nat) (q : Nat), 8 - q < fuel → (q ≤ 8) → ∀ (H : Heap) (locs : List Loc), va_P G.1 vwCl [(mq, .inr (4, [.ref an, .ref ap, .int (nI st), .ref ak, .ref ai, .ref ad, .ref ac, .ref aw, .int (nI mn), .ref at_, .int (nI le), .int (nI th), .int (nI sp), .ref ao, .int (nI tm)])), (an, .inl (G.2.1, 525, .inl (gn nw)))] H → va_D A [(mq, .inr (4, [.ref an, .ref ap, .int (nI st), .ref ak, .ref ai, .ref ad, .ref ac, .ref aw, .int (nI mn), .ref at_, .int (nI le), .int (nI th), .int (nI sp), .ref ao, .int (nI tm)])), (an, .inl (G.2.1, 525, .inl (gn nw)))] → va_S A s.heap H locs → ∀ (ls : Array Slot), lv_has ls 4 [(3, .int (nI q)), (2, .int (nI (fM nw o q))), (0, .ref mq), (1, .int (nI o))] → W p l e ({ frames := 1, cells := 0, slots := 0, locals := 26 } : Room) s m args below meth c H locs 0 0 (MQ below (va_Qi (S := Unit) (fun (r : Int32) (u : Unit) => (r = nI (fM nw o 8))) (gB G A (fun (u : Unit) => [(mq, .inr (4, [.ref an, .ref ap, .int (nI st), .ref ak, .ref ai, .ref ad, .ref ac, .ref aw, .int (nI mn), .ref at_, .int (nI le), .int (nI th), .int (nI sp), .ref ao, .int (nI tm)])), (an, .inl (G.2.1, 525, .inl (gn nw)))])) A) args s 0 0 A) (F0 m 4 ls []) := by
    intro fuel
    induction fuel with
    | zero => intro q hme; exact absurd hme (Nat.not_lt_zero _)
    | succ fuel ih4 =>
      intro q hme hq H locs hP hD hS ls hl
      refine lv_iload_n hx hb dX4_fence_4 rfl (lv_at hl 0 rfl) ?_
      refine lv_bipush (v := nI 8) hx hb dX4_fence_5 (by decide) ?_
      refine gIcmp_ge (a := q) (b := 8) (tgt := 25) hx hb dX4_fence_7 (by decide) (by omega) (by omega) (fun c7 => ?_) (fun c7 => ?_)
      · skip
        refine lv_iload_n hx hb dX4_fence_25 rfl (lv_at hl 1 rfl) ?_
        exact gRi F dX4_fence_26 (rfl) () (by rw [show q = 8 by omega]) hP hD hS (Nat.le_refl _) (Nat.le_refl _)
      refine lv_iload_n hx hb dX4_fence_10 rfl (lv_at hl 1 rfl) ?_
      refine lv_aload_n hx hb dX4_fence_11 rfl (lv_at hl 2 rfl) ?_
      refine lv_iload_n hx hb dX4_fence_12 rfl (lv_at hl 3 rfl) ?_
      refine lv_iload_n hx hb dX4_fence_13 rfl (lv_at hl 0 rfl) ?_
      refine gCi F (gRunV (own := RX4) (C := RX4) (ci := 4) (bytes := cX4_between) (n := 2) (As := [.int (nI o), .int (nI q)]) (rest := [.int (nI (fM nw o q))]) F (c_X4_between l G mq an ap st ak ai ad ac aw mn at_ le th sp ao tm nw o q (by first | assumption | omega) (by first | assumption | omega) (by first | assumption | omega) H.size) gX4_fence_X4_between rfl rfl rfl rfl (by decide +kernel) rfl ⟨Nat.le_of_ble_eq_true rfl, Nat.le_of_ble_eq_true rfl⟩ hP hD (lit := [(mq, .inr (4, [.ref an, .ref ap, .int (nI st), .ref ak, .ref ai, .ref ad, .ref ac, .ref aw, .int (nI mn), .ref at_, .int (nI le), .int (nI th), .int (nI sp), .ref ao, .int (nI tm)])), (an, .inl (G.2.1, 525, .inl (gn nw)))]) (wt := []) (wc := [(mq, .inr (4, [.ref an, .ref ap, .int (nI st), .ref ak, .ref ai, .ref ad, .ref ac, .ref aw, .int (nI mn), .ref at_, .int (nI le), .int (nI th), .int (nI sp), .ref ao, .int (nI tm)])), (an, .inl (G.2.1, 525, .inl (gn nw)))]) (isC := [0, 1]) rfl (by decide) rfl rfl rfl hl.1 (Nat.le_of_ble_eq_true rfl) dX4_fence_14 ⟨Nat.le_of_ble_eq_true rfl, Nat.le_of_ble_eq_true rfl⟩) hP hD hS (lit := [(mq, .inr (4, [.ref an, .ref ap, .int (nI st), .ref ak, .ref ai, .ref ad, .ref ac, .ref aw, .int (nI mn), .ref at_, .int (nI le), .int (nI th), .int (nI sp), .ref ao, .int (nI tm)])), (an, .inl (G.2.1, 525, .inl (gn nw)))]) (wt := []) (wc := [(mq, .inr (4, [.ref an, .ref ap, .int (nI st), .ref ak, .ref ai, .ref ad, .ref ac, .ref aw, .int (nI mn), .ref at_, .int (nI le), .int (nI th), .int (nI sp), .ref ao, .int (nI tm)])), (an, .inl (G.2.1, 525, .inl (gn nw)))]) (wr := []) (isC := [0, 1]) (isR := []) rfl rfl (by decide) (by decide) (fun r14 u H locs hp14 hP hD hS => ?_)
      subst hp14
      have hP : va_P G.1 vwCl [(mq, .inr (4, [.ref an, .ref ap, .int (nI st), .ref ak, .ref ai, .ref ad, .ref ac, .ref aw, .int (nI mn), .ref at_, .int (nI le), .int (nI th), .int (nI sp), .ref ao, .int (nI tm)])), (an, .inl (G.2.1, 525, .inl (gn nw)))] H := hP
      have hD : va_D A [(mq, .inr (4, [.ref an, .ref ap, .int (nI st), .ref ak, .ref ai, .ref ad, .ref ac, .ref aw, .int (nI mn), .ref at_, .int (nI le), .int (nI th), .int (nI sp), .ref ao, .int (nI tm)])), (an, .inl (G.2.1, 525, .inl (gn nw)))] := hD
      refine gIadd (a := fM nw o q) (b := btw nw o q) hx hb dX4_fence_17 ?_
      refine lv_istore_n (lv' := [(2, .int (nI (fM nw o q + (btw nw o q)))), (3, .int (nI q)), (0, .ref mq), (1, .int (nI o))]) hx hb dX4_fence_18 rfl hl (by decide) rfl (fun ls hl => ?_)
      refine lv_iinc (v := nI (q + 1)) (lv' := [(3, .int (nI (q + 1))), (2, .int (nI (fM nw o q + (btw nw o q)))), (0, .ref mq), (1, .int (nI o))]) hx hb dX4_fence_19 hl (k := 1) rfl (gInc_p _ rfl) (by decide) rfl (fun ls hl => ?_)
      refine lv_goto (tgt := 4) hx hb dX4_fence_22 (by decide) ?_
      have hl : lv_has ls 4 [(3, .int (nI (q + 1))), (2, .int (nI (fM nw o q + (btw nw o q)))), (0, .ref mq), (1, .int (nI o))] := lv_sub hl [0, 1, 2, 3] rfl
      have hle : (.int (nI (fM nw o q + (btw nw o q))) : Value) = .int (nI (fM nw o (q + 1))) := by rfl
      rw [hle] at hl
      have hy_1 : (q + 1) ≤ 8 := by omega
      exact ih4 (q + 1) (by omega) hy_1 H locs hP hD hS ls hl
  have hl : lv_has ls 4 [(3, .int (nI 0)), (2, .int (nI 0)), (0, .ref mq), (1, .int (nI o))] := lv_sub hl [0, 1, 2, 3] rfl
  have hle : (.int (nI 0) : Value) = .int (nI (fM nw o 0)) := by rfl
  rw [hle] at hl
  have hy_2 : 0 ≤ 8 := by omega
  exact L4 _ 0 (Nat.lt_succ_self _) hy_2 H locs hP hD hS ls hl

set_option maxHeartbeats 4000000 in
set_option maxRecDepth 100000 in
theorem c_X4_neighbour (l : Launch) (G : gG) (mq : Nat) (an : Nat) (ap : Nat) (st : Nat) (ak : Nat) (ai : Nat) (ad : Nat) (ac : Nat) (aw : Nat) (mn : Nat) (at_ : Nat) (le : Nat) (th : Nat) (sp : Nat) (ao : Nat) (tm : Nat) (nw : Nat → Nat) (o : Nat) (how : ∀ k, k < 256 → nw k < 8) (ho : o < 8) : gMi (S := Unit) l yX4_neighbour wsX4_neighbour { frames := 1, cells := 0, slots := 0, locals := 26 } G [.ref mq, .int (nI o)] [(mq, .inr (4, [.ref an, .ref ap, .int (nI st), .ref ak, .ref ai, .ref ad, .ref ac, .ref aw, .int (nI mn), .ref at_, .int (nI le), .int (nI th), .int (nI sp), .ref ao, .int (nI tm)])), (an, .inl (G.2.1, 525, .inl (gn nw)))] (fun (r : Int32) (u : Unit) => (r = zI ((nbM nw o 8).1))) (fun u => [(mq, .inr (4, [.ref an, .ref ap, .int (nI st), .ref ak, .ref ai, .ref ad, .ref ac, .ref aw, .int (nI mn), .ref at_, .int (nI le), .int (nI th), .int (nI sp), .ref ao, .int (nI tm)])), (an, .inl (G.2.1, 525, .inl (gn nw)))]) 0 0 := by
  refine gMet_mk (cc := cX4_neighbour) (nL := 6) (ret := (some .int)) (Qc := fun A => va_Qi (S := Unit) (fun (r : Int32) (u : Unit) => (r = zI ((nbM nw o 8).1))) (gB G A (fun (u : Unit) => [(mq, .inr (4, [.ref an, .ref ap, .int (nI st), .ref ak, .ref ai, .ref ad, .ref ac, .ref aw, .int (nI mn), .ref at_, .int (nI le), .int (nI th), .int (nI sp), .ref ao, .int (nI tm)])), (an, .inl (G.2.1, 525, .inl (gn nw)))])) A) (by decide) rfl (Nat.le_of_ble_eq_true rfl) ?_
  intro p e s m args below meth c A F ls hl hP hD hS
  have hx := F.1
  have hb := F.2.1
  have hts := F.2.2.2.2.2.2.1
  have hown : s.vm.findClass RX4 = some m.cls := F.2.2.2.2.2.1
  have hKK := F.2.2.2.2.2.2.2.2.1
  have hK := hKK.1
  have hin0 := F.2.2.2.2.2.2.2.1
  have hl : lv_has ls 6 [(0, .ref mq), (1, .int (nI o))] := hl
  generalize hH : s.heap = H at hP ⊢
  have hS : va_S A s.heap H [] := by rw [← hH]; exact va_S.rf
  generalize hLo : ([] : List Loc) = locs at hS ⊢
  refine lv_iconst (v := zI (-1)) hx hb dX4_neighbour_0 (by decide) ?_
  refine lv_istore_n (lv' := [(2, .int (zI (-1))), (0, .ref mq), (1, .int (nI o))]) hx hb dX4_neighbour_1 rfl hl (by decide) rfl (fun ls hl => ?_)
  refine lv_iconst (v := nI 0) hx hb dX4_neighbour_2 (by decide) ?_
  refine lv_istore_n (lv' := [(3, .int (nI 0)), (2, .int (zI (-1))), (0, .ref mq), (1, .int (nI o))]) hx hb dX4_neighbour_3 rfl hl (by decide) rfl (fun ls hl => ?_)
  refine lv_iconst (v := nI 0) hx hb dX4_neighbour_4 (by decide) ?_
  refine lv_istore (lv' := [(4, .int (nI 0)), (3, .int (nI 0)), (2, .int (zI (-1))), (0, .ref mq), (1, .int (nI o))]) hx hb dX4_neighbour_5 hl (by decide) rfl (fun ls hl => ?_)
  have L7 : ∀ (fuel : Nat) (q : Nat), 8 - q < fuel → (q ≤ 8) → ∀ (H : Heap) (locs : List Loc), va_P G.1 vwCl [(mq, .inr (4, [.ref an, .ref ap, .int (nI st), .ref ak, .ref ai, .ref ad, .ref ac, .ref aw, .int (nI mn), .ref at_, .int (nI le), .int (nI th), .int (nI sp), .ref ao, .int (nI tm)])), (an, .inl (G.2.1, 525, .inl (gn nw)))] H → va_D A [(mq, .inr (4, [.ref an, .ref ap, .int (nI st), .ref ak, .ref ai, .ref ad, .ref ac, .ref aw, .int (nI mn), .ref at_, .int (nI le), .int (nI th), .int (nI sp), .ref ao, .int (nI tm)])), (an, .inl (G.2.1, 525, .inl (gn nw)))] → va_S A s.heap H locs → ∀ (ls : Array Slot), lv_has ls 6 [(4, .int (nI q)), (3, .int (nI ((nbM nw o q).2))), (2, .int (zI ((nbM nw o q).1))), (0, .ref mq), (1, .int (nI o))] → W p l e ({ frames := 1, cells := 0, slots := 0, locals := 26 } : Room) s m args below meth c H locs 0 0 (MQ below (va_Qi (S := Unit) (fun (r : Int32) (u : Unit) => (r = zI ((nbM nw o 8).1))) (gB G A (fun (u : Unit) => [(mq, .inr (4, [.ref an, .ref ap, .int (nI st), .ref ak, .ref ai, .ref ad, .ref ac, .ref aw, .int (nI mn), .ref at_, .int (nI le), .int (nI th), .int (nI sp), .ref ao, .int (nI tm)])), (an, .inl (G.2.1, 525, .inl (gn nw)))])) A) args s 0 0 A) (F0 m 7 ls []) := by
    intro fuel
    induction fuel with
    | zero => intro q hme; exact absurd hme (Nat.not_lt_zero _)
    | succ fuel ih7 =>
      intro q hme hq H locs hP hD hS ls hl
      refine lv_iload hx hb dX4_neighbour_7 (lv_at hl 0 rfl) ?_
      refine lv_bipush (v := nI 8) hx hb dX4_neighbour_9 (by decide) ?_
      refine gIcmp_ge (a := q) (b := 8) (tgt := 55) hx hb dX4_neighbour_11 (by decide) (by have := btw_le nw o q; omega) (by have := nbM_le nw o q; omega) (fun c11 => ?_) (fun c11 => ?_)
      · skip
        refine lv_iload_n hx hb dX4_neighbour_55 rfl (lv_at hl 2 rfl) ?_
        exact gRi F dX4_neighbour_56 (rfl) () (by rw [show q = 8 by omega]) hP hD hS (Nat.le_refl _) (Nat.le_refl _)
      refine lv_aload_n hx hb dX4_neighbour_14 rfl (lv_at hl 3 rfl) ?_
      refine lv_iload_n hx hb dX4_neighbour_15 rfl (lv_at hl 4 rfl) ?_
      refine lv_iload hx hb dX4_neighbour_16 (lv_at hl 0 rfl) ?_
      refine gCi F (gRunV (own := RX4) (C := RX4) (ci := 4) (bytes := cX4_between) (n := 2) (As := [.int (nI o), .int (nI q)]) (rest := []) F (c_X4_between l G mq an ap st ak ai ad ac aw mn at_ le th sp ao tm nw o q (by first | assumption | omega) (by first | assumption | omega) (by first | assumption | omega) H.size) gX4_neighbour_X4_between rfl rfl rfl rfl (by decide +kernel) rfl ⟨Nat.le_of_ble_eq_true rfl, Nat.le_of_ble_eq_true rfl⟩ hP hD (lit := [(mq, .inr (4, [.ref an, .ref ap, .int (nI st), .ref ak, .ref ai, .ref ad, .ref ac, .ref aw, .int (nI mn), .ref at_, .int (nI le), .int (nI th), .int (nI sp), .ref ao, .int (nI tm)])), (an, .inl (G.2.1, 525, .inl (gn nw)))]) (wt := []) (wc := [(mq, .inr (4, [.ref an, .ref ap, .int (nI st), .ref ak, .ref ai, .ref ad, .ref ac, .ref aw, .int (nI mn), .ref at_, .int (nI le), .int (nI th), .int (nI sp), .ref ao, .int (nI tm)])), (an, .inl (G.2.1, 525, .inl (gn nw)))]) (isC := [0, 1]) rfl (by decide) rfl rfl rfl hl.1 (Nat.le_of_ble_eq_true rfl) dX4_neighbour_18 ⟨Nat.le_of_ble_eq_true rfl, Nat.le_of_ble_eq_true rfl⟩) hP hD hS (lit := [(mq, .inr (4, [.ref an, .ref ap, .int (nI st), .ref ak, .ref ai, .ref ad, .ref ac, .ref aw, .int (nI mn), .ref at_, .int (nI le), .int (nI th), .int (nI sp), .ref ao, .int (nI tm)])), (an, .inl (G.2.1, 525, .inl (gn nw)))]) (wt := []) (wc := [(mq, .inr (4, [.ref an, .ref ap, .int (nI st), .ref ak, .ref ai, .ref ad, .ref ac, .ref aw, .int (nI mn), .ref at_, .int (nI le), .int (nI th), .int (nI sp), .ref ao, .int (nI tm)])), (an, .inl (G.2.1, 525, .inl (gn nw)))]) (wr := []) (isC := [0, 1]) (isR := []) rfl rfl (by decide) (by decide) (fun r18 u H locs hp18 hP hD hS => ?_)
      subst hp18
      have hP : va_P G.1 vwCl [(mq, .inr (4, [.ref an, .ref ap, .int (nI st), .ref ak, .ref ai, .ref ad, .ref ac, .ref aw, .int (nI mn), .ref at_, .int (nI le), .int (nI th), .int (nI sp), .ref ao, .int (nI tm)])), (an, .inl (G.2.1, 525, .inl (gn nw)))] H := hP
      have hD : va_D A [(mq, .inr (4, [.ref an, .ref ap, .int (nI st), .ref ak, .ref ai, .ref ad, .ref ac, .ref aw, .int (nI mn), .ref at_, .int (nI le), .int (nI th), .int (nI sp), .ref ao, .int (nI tm)])), (an, .inl (G.2.1, 525, .inl (gn nw)))] := hD
      refine lv_istore (lv' := [(5, .int (nI (btw nw o q))), (4, .int (nI q)), (3, .int (nI ((nbM nw o q).2))), (2, .int (zI ((nbM nw o q).1))), (0, .ref mq), (1, .int (nI o))]) hx hb dX4_neighbour_21 hl (by decide) rfl (fun ls hl => ?_)
      have J35 : ∀  (H : Heap) (locs : List Loc), va_P G.1 vwCl [(mq, .inr (4, [.ref an, .ref ap, .int (nI st), .ref ak, .ref ai, .ref ad, .ref ac, .ref aw, .int (nI mn), .ref at_, .int (nI le), .int (nI th), .int (nI sp), .ref ao, .int (nI tm)])), (an, .inl (G.2.1, 525, .inl (gn nw)))] H → va_D A [(mq, .inr (4, [.ref an, .ref ap, .int (nI st), .ref ak, .ref ai, .ref ad, .ref ac, .ref aw, .int (nI mn), .ref at_, .int (nI le), .int (nI th), .int (nI sp), .ref ao, .int (nI tm)])), (an, .inl (G.2.1, 525, .inl (gn nw)))] → va_S A s.heap H locs → ∀ (ls : Array Slot), lv_has ls 6 [(5, .int (nI (btw nw o q))), (4, .int (nI q)), (3, .int (nI ((nbM nw o q).2))), (2, .int (zI ((nbM nw o q).1))), (0, .ref mq), (1, .int (nI o))] → W p l e ({ frames := 1, cells := 0, slots := 0, locals := 26 } : Room) s m args below meth c H locs 0 0 (MQ below (va_Qi (S := Unit) (fun (r : Int32) (u : Unit) => (r = zI ((nbM nw o 8).1))) (gB G A (fun (u : Unit) => [(mq, .inr (4, [.ref an, .ref ap, .int (nI st), .ref ak, .ref ai, .ref ad, .ref ac, .ref aw, .int (nI mn), .ref at_, .int (nI le), .int (nI th), .int (nI sp), .ref ao, .int (nI tm)])), (an, .inl (G.2.1, 525, .inl (gn nw)))])) A) args s 0 0 A) (F0 m 35 ls [.int (zI ((nbM nw o (q + 1)).1))]) := by
        intro  H locs hP hD hS ls hl
        refine lv_istore_n (lv' := [(2, .int (zI ((nbM nw o (q + 1)).1))), (5, .int (nI (btw nw o q))), (4, .int (nI q)), (3, .int (nI ((nbM nw o q).2))), (0, .ref mq), (1, .int (nI o))]) hx hb dX4_neighbour_35 rfl hl (by decide) rfl (fun ls hl => ?_)
        have J48 : ∀  (H : Heap) (locs : List Loc), va_P G.1 vwCl [(mq, .inr (4, [.ref an, .ref ap, .int (nI st), .ref ak, .ref ai, .ref ad, .ref ac, .ref aw, .int (nI mn), .ref at_, .int (nI le), .int (nI th), .int (nI sp), .ref ao, .int (nI tm)])), (an, .inl (G.2.1, 525, .inl (gn nw)))] H → va_D A [(mq, .inr (4, [.ref an, .ref ap, .int (nI st), .ref ak, .ref ai, .ref ad, .ref ac, .ref aw, .int (nI mn), .ref at_, .int (nI le), .int (nI th), .int (nI sp), .ref ao, .int (nI tm)])), (an, .inl (G.2.1, 525, .inl (gn nw)))] → va_S A s.heap H locs → ∀ (ls : Array Slot), lv_has ls 6 [(2, .int (zI ((nbM nw o (q + 1)).1))), (5, .int (nI (btw nw o q))), (4, .int (nI q)), (3, .int (nI ((nbM nw o q).2))), (0, .ref mq), (1, .int (nI o))] → W p l e ({ frames := 1, cells := 0, slots := 0, locals := 26 } : Room) s m args below meth c H locs 0 0 (MQ below (va_Qi (S := Unit) (fun (r : Int32) (u : Unit) => (r = zI ((nbM nw o 8).1))) (gB G A (fun (u : Unit) => [(mq, .inr (4, [.ref an, .ref ap, .int (nI st), .ref ak, .ref ai, .ref ad, .ref ac, .ref aw, .int (nI mn), .ref at_, .int (nI le), .int (nI th), .int (nI sp), .ref ao, .int (nI tm)])), (an, .inl (G.2.1, 525, .inl (gn nw)))])) A) args s 0 0 A) (F0 m 48 ls [.int (nI ((nbM nw o (q + 1)).2))]) := by
          intro  H locs hP hD hS ls hl
          refine lv_istore_n (lv' := [(3, .int (nI ((nbM nw o (q + 1)).2))), (2, .int (zI ((nbM nw o (q + 1)).1))), (5, .int (nI (btw nw o q))), (4, .int (nI q)), (0, .ref mq), (1, .int (nI o))]) hx hb dX4_neighbour_48 rfl hl (by decide) rfl (fun ls hl => ?_)
          refine lv_iinc (v := nI (q + 1)) (lv' := [(4, .int (nI (q + 1))), (3, .int (nI ((nbM nw o (q + 1)).2))), (2, .int (zI ((nbM nw o (q + 1)).1))), (5, .int (nI (btw nw o q))), (0, .ref mq), (1, .int (nI o))]) hx hb dX4_neighbour_49 hl (k := 3) rfl (gInc_p _ rfl) (by decide) rfl (fun ls hl => ?_)
          refine lv_goto (tgt := 7) hx hb dX4_neighbour_52 (by decide) ?_
          have hl : lv_has ls 6 [(4, .int (nI (q + 1))), (3, .int (nI ((nbM nw o (q + 1)).2))), (2, .int (zI ((nbM nw o (q + 1)).1))), (0, .ref mq), (1, .int (nI o))] := lv_sub hl [0, 1, 2, 4, 5] rfl
          have hy_1 : (q + 1) ≤ 8 := by omega
          exact ih7 (q + 1) (by omega) hy_1 H locs hP hD hS ls hl
        refine lv_iload hx hb dX4_neighbour_36 (lv_at hl 1 rfl) ?_
        refine lv_iload_n hx hb dX4_neighbour_38 rfl (lv_at hl 3 rfl) ?_
        refine gIcmp_le (a := btw nw o q) (b := (nbM nw o q).2) (tgt := 47) hx hb dX4_neighbour_39 (by decide) (by have := btw_le nw o q; omega) (by have := nbM_le nw o q; omega) (fun c39 => ?_) (fun c39 => ?_)
        · skip
          refine lv_iload_n hx hb dX4_neighbour_47 rfl (lv_at hl 3 rfl) ?_
          have hl : lv_has ls 6 [(2, .int (zI ((nbM nw o (q + 1)).1))), (5, .int (nI (btw nw o q))), (4, .int (nI q)), (3, .int (nI ((nbM nw o q).2))), (0, .ref mq), (1, .int (nI o))] := lv_sub hl [0, 1, 2, 3, 4, 5] rfl
          have hse : (.int (nI ((nbM nw o q).2)) : Value) = .int (nI ((nbM nw o (q + 1)).2)) := by simp only [nbM]; first | (rw [if_neg (by omega)]; done) | (rw [if_pos (by omega)]; done)
          refine W.eq (g2 := F0 m 48 ls [.int (nI ((nbM nw o (q + 1)).2))]) (congrArg (fun v_ => F0 m 48 ls [v_]) hse) ?_
          exact J48  H locs hP hD hS ls hl
        refine lv_iload hx hb dX4_neighbour_42 (lv_at hl 1 rfl) ?_
        refine lv_goto (tgt := 48) hx hb dX4_neighbour_44 (by decide) ?_
        have hl : lv_has ls 6 [(2, .int (zI ((nbM nw o (q + 1)).1))), (5, .int (nI (btw nw o q))), (4, .int (nI q)), (3, .int (nI ((nbM nw o q).2))), (0, .ref mq), (1, .int (nI o))] := lv_sub hl [0, 1, 2, 3, 4, 5] rfl
        have hse : (.int (nI (btw nw o q)) : Value) = .int (nI ((nbM nw o (q + 1)).2)) := by simp only [nbM]; first | (rw [if_neg (by omega)]; done) | (rw [if_pos (by omega)]; done)
        refine W.eq (g2 := F0 m 48 ls [.int (nI ((nbM nw o (q + 1)).2))]) (congrArg (fun v_ => F0 m 48 ls [v_]) hse) ?_
        exact J48  H locs hP hD hS ls hl
      refine lv_iload hx hb dX4_neighbour_23 (lv_at hl 0 rfl) ?_
      refine lv_iload_n hx hb dX4_neighbour_25 rfl (lv_at hl 2 rfl) ?_
      refine gIcmp_le (a := btw nw o q) (b := (nbM nw o q).2) (tgt := 34) hx hb dX4_neighbour_26 (by decide) (by have := btw_le nw o q; omega) (by have := nbM_le nw o q; omega) (fun c26 => ?_) (fun c26 => ?_)
      · skip
        refine lv_iload_n hx hb dX4_neighbour_34 rfl (lv_at hl 3 rfl) ?_
        have hl : lv_has ls 6 [(5, .int (nI (btw nw o q))), (4, .int (nI q)), (3, .int (nI ((nbM nw o q).2))), (2, .int (zI ((nbM nw o q).1))), (0, .ref mq), (1, .int (nI o))] := lv_sub hl [0, 1, 2, 3, 4, 5] rfl
        have hse : (.int (zI ((nbM nw o q).1)) : Value) = .int (zI ((nbM nw o (q + 1)).1)) := by simp only [nbM]; first | (rw [if_neg (by omega)]; done) | (rw [if_pos (by omega), zI_nat]; done)
        refine W.eq (g2 := F0 m 35 ls [.int (zI ((nbM nw o (q + 1)).1))]) (congrArg (fun v_ => F0 m 35 ls [v_]) hse) ?_
        exact J35  H locs hP hD hS ls hl
      refine lv_iload hx hb dX4_neighbour_29 (lv_at hl 1 rfl) ?_
      refine lv_goto (tgt := 35) hx hb dX4_neighbour_31 (by decide) ?_
      have hl : lv_has ls 6 [(5, .int (nI (btw nw o q))), (4, .int (nI q)), (3, .int (nI ((nbM nw o q).2))), (2, .int (zI ((nbM nw o q).1))), (0, .ref mq), (1, .int (nI o))] := lv_sub hl [0, 1, 2, 3, 4, 5] rfl
      have hse : (.int (nI q) : Value) = .int (zI ((nbM nw o (q + 1)).1)) := by simp only [nbM]; first | (rw [if_neg (by omega)]; done) | (rw [if_pos (by omega), zI_nat]; done)
      refine W.eq (g2 := F0 m 35 ls [.int (zI ((nbM nw o (q + 1)).1))]) (congrArg (fun v_ => F0 m 35 ls [v_]) hse) ?_
      exact J35  H locs hP hD hS ls hl
  have hl : lv_has ls 6 [(4, .int (nI 0)), (3, .int (nI 0)), (2, .int (zI (-1))), (0, .ref mq), (1, .int (nI o))] := lv_sub hl [0, 1, 2, 3, 4] rfl
  have hle : (.int (nI 0) : Value) = .int (nI ((nbM nw o 0).2)) := by first | rfl | exact congrArg Value.int zI_neg1.symm
  rw [hle] at hl
  have hle : (.int (zI (-1)) : Value) = .int (zI ((nbM nw o 0).1)) := by first | rfl | exact congrArg Value.int zI_neg1.symm
  rw [hle] at hl
  have hy_2 : 0 ≤ 8 := by omega
  exact L7 _ 0 (Nat.lt_succ_self _) hy_2 H locs hP hD hS ls hl

set_option maxHeartbeats 4000000 in
set_option maxRecDepth 100000 in
theorem c_X4_allPlots (l : Launch) (G : gG) (mq : Nat) (an : Nat) (ap : Nat) (st : Nat) (ak : Nat) (ai : Nat) (ad : Nat) (ac : Nat) (aw : Nat) (mn : Nat) (at_ : Nat) (le : Nat) (th : Nat) (sp : Nat) (ao : Nat) (tm : Nat) (nw : Nat → Nat) (pC : Nat → Nat) (pW : Nat → Nat) (how : ∀ k, k < 256 → nw k < 8) : gMi (S := (Nat → Nat) × (Nat → Nat)) l yX4_allPlots wsX4_allPlots { frames := 2, cells := 0, slots := 0, locals := 46 } G [.ref mq] [(mq, .inr (4, [.ref an, .ref ap, .int (nI st), .ref ak, .ref ai, .ref ad, .ref ac, .ref aw, .int (nI mn), .ref at_, .int (nI le), .int (nI th), .int (nI sp), .ref ao, .int (nI tm)])), (an, .inl (G.2.1, 525, .inl (gn nw))), (ac, .inl (G.2.1, 256, .inl (gn pC))), (aw, .inl (G.2.1, 256, .inl (gn pW)))] (fun (r : Int32) (u : (Nat → Nat) × (Nat → Nat)) => (r = nI (cnt nw)) ∧ (fnd nw u.1 u.2 (cnt nw))) (fun u => [(mq, .inr (4, [.ref an, .ref ap, .int (nI st), .ref ak, .ref ai, .ref ad, .ref ac, .ref aw, .int (nI (cnt nw)), .ref at_, .int (nI le), .int (nI th), .int (nI sp), .ref ao, .int (nI tm)])), (an, .inl (G.2.1, 525, .inl (gn nw))), (ac, .inl (G.2.1, 256, .inl (gn u.1))), (aw, .inl (G.2.1, 256, .inl (gn u.2)))]) 0 0 := by
  refine gMet_mk (cc := cX4_allPlots) (nL := 1) (ret := (some .int)) (Qc := fun A => va_Qi (S := (Nat → Nat) × (Nat → Nat)) (fun (r : Int32) (u : (Nat → Nat) × (Nat → Nat)) => (r = nI (cnt nw)) ∧ (fnd nw u.1 u.2 (cnt nw))) (gB G A (fun (u : (Nat → Nat) × (Nat → Nat)) => [(mq, .inr (4, [.ref an, .ref ap, .int (nI st), .ref ak, .ref ai, .ref ad, .ref ac, .ref aw, .int (nI (cnt nw)), .ref at_, .int (nI le), .int (nI th), .int (nI sp), .ref ao, .int (nI tm)])), (an, .inl (G.2.1, 525, .inl (gn nw))), (ac, .inl (G.2.1, 256, .inl (gn u.1))), (aw, .inl (G.2.1, 256, .inl (gn u.2)))])) A) (by decide) rfl (Nat.le_of_ble_eq_true rfl) ?_
  intro p e s m args below meth c A F ls hl hP hD hS
  have hx := F.1
  have hb := F.2.1
  have hts := F.2.2.2.2.2.2.1
  have hown : s.vm.findClass RX4 = some m.cls := F.2.2.2.2.2.1
  have hKK := F.2.2.2.2.2.2.2.2.1
  have hK := hKK.1
  have hin0 := F.2.2.2.2.2.2.2.1
  have hi4 : ∀ w ∈ u_ws RX4 TX4 15, w ∈ wsX4_allPlots := by decide +kernel
  have hl : lv_has ls 1 [(0, .ref mq)] := hl
  generalize hH : s.heap = H at hP ⊢
  have hS : va_S A s.heap H [] := by rw [← hH]; exact va_S.rf
  generalize hLo : ([] : List Loc) = locs at hS ⊢
  refine lv_aload_n hx hb dX4_allPlots_0 rfl (lv_at hl 0 rfl) ?_
  refine gCv F (gRunV (own := RX4) (C := RX4) (ci := 4) (bytes := cX4_finds) (n := 0) (As := []) (rest := []) F (c_X4_finds l G mq an ap st ak ai ad ac aw mn at_ le th sp ao tm nw pC pW (by first | assumption | omega) H.size) gX4_allPlots_X4_finds rfl rfl rfl rfl (by decide +kernel) rfl ⟨Nat.le_of_ble_eq_true rfl, Nat.le_of_ble_eq_true rfl⟩ hP hD (lit := [(mq, .inr (4, [.ref an, .ref ap, .int (nI st), .ref ak, .ref ai, .ref ad, .ref ac, .ref aw, .int (nI mn), .ref at_, .int (nI le), .int (nI th), .int (nI sp), .ref ao, .int (nI tm)])), (an, .inl (G.2.1, 525, .inl (gn nw))), (ac, .inl (G.2.1, 256, .inl (gn pC))), (aw, .inl (G.2.1, 256, .inl (gn pW)))]) (wt := []) (wc := [(mq, .inr (4, [.ref an, .ref ap, .int (nI st), .ref ak, .ref ai, .ref ad, .ref ac, .ref aw, .int (nI mn), .ref at_, .int (nI le), .int (nI th), .int (nI sp), .ref ao, .int (nI tm)])), (an, .inl (G.2.1, 525, .inl (gn nw))), (ac, .inl (G.2.1, 256, .inl (gn pC))), (aw, .inl (G.2.1, 256, .inl (gn pW)))]) (isC := [0, 1, 2, 3]) rfl (by decide) rfl rfl rfl hl.1 (Nat.le_of_ble_eq_true rfl) dX4_allPlots_1 ⟨Nat.le_of_ble_eq_true rfl, Nat.le_of_ble_eq_true rfl⟩) hP hD hS (lit := [(mq, .inr (4, [.ref an, .ref ap, .int (nI st), .ref ak, .ref ai, .ref ad, .ref ac, .ref aw, .int (nI mn), .ref at_, .int (nI le), .int (nI th), .int (nI sp), .ref ao, .int (nI tm)])), (an, .inl (G.2.1, 525, .inl (gn nw))), (ac, .inl (G.2.1, 256, .inl (gn pC))), (aw, .inl (G.2.1, 256, .inl (gn pW)))]) (wt := []) (wc := [(mq, .inr (4, [.ref an, .ref ap, .int (nI st), .ref ak, .ref ai, .ref ad, .ref ac, .ref aw, .int (nI mn), .ref at_, .int (nI le), .int (nI th), .int (nI sp), .ref ao, .int (nI tm)])), (an, .inl (G.2.1, 525, .inl (gn nw))), (ac, .inl (G.2.1, 256, .inl (gn pC))), (aw, .inl (G.2.1, 256, .inl (gn pW)))]) (wr := []) (isC := [0, 1, 2, 3]) (isR := []) rfl rfl (by decide) (by decide) (fun u H locs hp1 hP hD hS => ?_)
  obtain ⟨pc1, pw1⟩ := u
  try dsimp only at hp1
  have hP : va_P G.1 vwCl [(mq, .inr (4, [.ref an, .ref ap, .int (nI st), .ref ak, .ref ai, .ref ad, .ref ac, .ref aw, .int (nI (cnt nw)), .ref at_, .int (nI le), .int (nI th), .int (nI sp), .ref ao, .int (nI tm)])), (an, .inl (G.2.1, 525, .inl (gn nw))), (ac, .inl (G.2.1, 256, .inl (gn pc1))), (aw, .inl (G.2.1, 256, .inl (gn pw1)))] H := hP
  have hD : va_D A [(mq, .inr (4, [.ref an, .ref ap, .int (nI st), .ref ak, .ref ai, .ref ad, .ref ac, .ref aw, .int (nI (cnt nw)), .ref at_, .int (nI le), .int (nI th), .int (nI sp), .ref ao, .int (nI tm)])), (an, .inl (G.2.1, 525, .inl (gn nw))), (ac, .inl (G.2.1, 256, .inl (gn pc1))), (aw, .inl (G.2.1, 256, .inl (gn pw1)))] := hD
  refine lv_aload_n hx hb dX4_allPlots_4 rfl (lv_at hl 0 rfl) ?_
  refine va_get (D := G.1) (ci := 4) (v := .int (nI (cnt nw))) (C := RX4) (T := TX4) (N := 15) hx hb hts hi4 hown hK hP 0 rfl rfl 8 (by decide) (hts (.fieldLink RX4 52 "LandQuartersModel" "many" "I") (by decide +kernel)) (fun _ h9 => h9) rfl dX4_allPlots_5 ?_
  exact gRi F dX4_allPlots_8 (rfl) (pc1, pw1) (⟨rfl, hp1⟩) hP hD hS (Nat.le_refl _) (Nat.le_refl _)

set_option maxHeartbeats 4000000 in
set_option maxRecDepth 100000 in
theorem c_X4_isPlot (l : Launch) (G : gG) (mq : Nat) (an : Nat) (ap : Nat) (st : Nat) (ak : Nat) (ai : Nat) (ad : Nat) (ac : Nat) (aw : Nat) (mn : Nat) (at_ : Nat) (le : Nat) (th : Nat) (sp : Nat) (ao : Nat) (tm : Nat) (nw : Nat → Nat) (pC : Nat → Nat) (pW : Nat → Nat) (rr : Int) (how : ∀ k, k < 256 → nw k < 8) (hrr : -2147483648 ≤ rr ∧ rr < 2147483648) : gMi (S := (Nat → Nat) × (Nat → Nat)) l yX4_isPlot wsX4_isPlot { frames := 3, cells := 0, slots := 0, locals := 66 } G [.ref mq, .int (zI rr)] [(mq, .inr (4, [.ref an, .ref ap, .int (nI st), .ref ak, .ref ai, .ref ad, .ref ac, .ref aw, .int (nI mn), .ref at_, .int (nI le), .int (nI th), .int (nI sp), .ref ao, .int (nI tm)])), (an, .inl (G.2.1, 525, .inl (gn nw))), (ac, .inl (G.2.1, 256, .inl (gn pC))), (aw, .inl (G.2.1, 256, .inl (gn pW)))] (fun (r : Int32) (u : (Nat → Nat) × (Nat → Nat)) => (r = nI (if (0 ≤ rr ∧ rr < (cnt nw : Int)) then 1 else 0)) ∧ (fnd nw u.1 u.2 (cnt nw))) (fun u => [(mq, .inr (4, [.ref an, .ref ap, .int (nI st), .ref ak, .ref ai, .ref ad, .ref ac, .ref aw, .int (nI (cnt nw)), .ref at_, .int (nI le), .int (nI th), .int (nI sp), .ref ao, .int (nI tm)])), (an, .inl (G.2.1, 525, .inl (gn nw))), (ac, .inl (G.2.1, 256, .inl (gn u.1))), (aw, .inl (G.2.1, 256, .inl (gn u.2)))]) 0 0 := by
  refine gMet_mk (cc := cX4_isPlot) (nL := 2) (ret := (some .boolean)) (Qc := fun A => va_Qi (S := (Nat → Nat) × (Nat → Nat)) (fun (r : Int32) (u : (Nat → Nat) × (Nat → Nat)) => (r = nI (if (0 ≤ rr ∧ rr < (cnt nw : Int)) then 1 else 0)) ∧ (fnd nw u.1 u.2 (cnt nw))) (gB G A (fun (u : (Nat → Nat) × (Nat → Nat)) => [(mq, .inr (4, [.ref an, .ref ap, .int (nI st), .ref ak, .ref ai, .ref ad, .ref ac, .ref aw, .int (nI (cnt nw)), .ref at_, .int (nI le), .int (nI th), .int (nI sp), .ref ao, .int (nI tm)])), (an, .inl (G.2.1, 525, .inl (gn nw))), (ac, .inl (G.2.1, 256, .inl (gn u.1))), (aw, .inl (G.2.1, 256, .inl (gn u.2)))])) A) (by decide) rfl (Nat.le_of_ble_eq_true rfl) ?_
  intro p e s m args below meth c A F ls hl hP hD hS
  have hx := F.1
  have hb := F.2.1
  have hts := F.2.2.2.2.2.2.1
  have hown : s.vm.findClass RX4 = some m.cls := F.2.2.2.2.2.1
  have hKK := F.2.2.2.2.2.2.2.2.1
  have hK := hKK.1
  have hin0 := F.2.2.2.2.2.2.2.1
  have hl : lv_has ls 2 [(0, .ref mq), (1, .int (zI rr))] := hl
  have hcl := cnt_le nw
  generalize hH : s.heap = H at hP ⊢
  have hS : va_S A s.heap H [] := by rw [← hH]; exact va_S.rf
  generalize hLo : ([] : List Loc) = locs at hS ⊢
  refine lv_iload_n hx hb dX4_isPlot_0 rfl (lv_at hl 1 rfl) ?_
  refine lv_iconst (v := nI 0) hx hb dX4_isPlot_1 (by decide) ?_
  refine lv_aload_n hx hb dX4_isPlot_2 rfl (lv_at hl 0 rfl) ?_
  refine gCi F (gRunV (own := RX4) (C := RX4) (ci := 4) (bytes := cX4_allPlots) (n := 0) (As := []) (rest := [.int (nI 0), .int (zI rr)]) F (c_X4_allPlots l G mq an ap st ak ai ad ac aw mn at_ le th sp ao tm nw pC pW (by first | assumption | omega) H.size) gX4_isPlot_X4_allPlots rfl rfl rfl rfl (by decide +kernel) rfl ⟨Nat.le_of_ble_eq_true rfl, Nat.le_of_ble_eq_true rfl⟩ hP hD (lit := [(mq, .inr (4, [.ref an, .ref ap, .int (nI st), .ref ak, .ref ai, .ref ad, .ref ac, .ref aw, .int (nI mn), .ref at_, .int (nI le), .int (nI th), .int (nI sp), .ref ao, .int (nI tm)])), (an, .inl (G.2.1, 525, .inl (gn nw))), (ac, .inl (G.2.1, 256, .inl (gn pC))), (aw, .inl (G.2.1, 256, .inl (gn pW)))]) (wt := []) (wc := [(mq, .inr (4, [.ref an, .ref ap, .int (nI st), .ref ak, .ref ai, .ref ad, .ref ac, .ref aw, .int (nI mn), .ref at_, .int (nI le), .int (nI th), .int (nI sp), .ref ao, .int (nI tm)])), (an, .inl (G.2.1, 525, .inl (gn nw))), (ac, .inl (G.2.1, 256, .inl (gn pC))), (aw, .inl (G.2.1, 256, .inl (gn pW)))]) (isC := [0, 1, 2, 3]) rfl (by decide) rfl rfl rfl hl.1 (Nat.le_of_ble_eq_true rfl) dX4_isPlot_3 ⟨Nat.le_of_ble_eq_true rfl, Nat.le_of_ble_eq_true rfl⟩) hP hD hS (lit := [(mq, .inr (4, [.ref an, .ref ap, .int (nI st), .ref ak, .ref ai, .ref ad, .ref ac, .ref aw, .int (nI mn), .ref at_, .int (nI le), .int (nI th), .int (nI sp), .ref ao, .int (nI tm)])), (an, .inl (G.2.1, 525, .inl (gn nw))), (ac, .inl (G.2.1, 256, .inl (gn pC))), (aw, .inl (G.2.1, 256, .inl (gn pW)))]) (wt := []) (wc := [(mq, .inr (4, [.ref an, .ref ap, .int (nI st), .ref ak, .ref ai, .ref ad, .ref ac, .ref aw, .int (nI mn), .ref at_, .int (nI le), .int (nI th), .int (nI sp), .ref ao, .int (nI tm)])), (an, .inl (G.2.1, 525, .inl (gn nw))), (ac, .inl (G.2.1, 256, .inl (gn pC))), (aw, .inl (G.2.1, 256, .inl (gn pW)))]) (wr := []) (isC := [0, 1, 2, 3]) (isR := []) rfl rfl (by decide) (by decide) (fun r3 u H locs hp3 hP hD hS => ?_)
  obtain ⟨pc1, pw1⟩ := u
  try dsimp only at hp3
  obtain ⟨rfl, hp3_0⟩ := hp3
  have hP : va_P G.1 vwCl [(mq, .inr (4, [.ref an, .ref ap, .int (nI st), .ref ak, .ref ai, .ref ad, .ref ac, .ref aw, .int (nI (cnt nw)), .ref at_, .int (nI le), .int (nI th), .int (nI sp), .ref ao, .int (nI tm)])), (an, .inl (G.2.1, 525, .inl (gn nw))), (ac, .inl (G.2.1, 256, .inl (gn pc1))), (aw, .inl (G.2.1, 256, .inl (gn pw1)))] H := hP
  have hD : va_D A [(mq, .inr (4, [.ref an, .ref ap, .int (nI st), .ref ak, .ref ai, .ref ad, .ref ac, .ref aw, .int (nI (cnt nw)), .ref at_, .int (nI le), .int (nI th), .int (nI sp), .ref ao, .int (nI tm)])), (an, .inl (G.2.1, 525, .inl (gn nw))), (ac, .inl (G.2.1, 256, .inl (gn pc1))), (aw, .inl (G.2.1, 256, .inl (gn pw1)))] := hD
  refine lv_iconst (v := nI 1) hx hb dX4_isPlot_6 (by decide) ?_
  refine gIsub (a := cnt nw) (b := 1) hx hb dX4_isPlot_7 (by omega) ?_
  refine W.eq (g2 := F0 m 8 ls [.int (zI (((cnt nw) - 1 : Nat) : Int)), .int (zI ((0 : Nat) : Int)), .int (zI rr)]) (by simp only [zI_nat, zI_neg1]) ?_
  refine gCi F (gRunS (own := RX4) (bytes := cX4_in) (n := 3) (As := [.int (zI rr), .int (zI ((0 : Nat) : Int)), .int (zI (((cnt nw) - 1 : Nat) : Int))]) (rest := []) F (c_X4_in l G rr ((0 : Nat) : Int) (((cnt nw) - 1 : Nat) : Int) (by first | assumption | omega) (by first | assumption | omega) (by first | assumption | omega) H.size) gX4_isPlot_X4_in rfl rfl rfl rfl (by decide +kernel) rfl ⟨Nat.le_of_ble_eq_true rfl, Nat.le_of_ble_eq_true rfl⟩ hP hD (lit := [(mq, .inr (4, [.ref an, .ref ap, .int (nI st), .ref ak, .ref ai, .ref ad, .ref ac, .ref aw, .int (nI (cnt nw)), .ref at_, .int (nI le), .int (nI th), .int (nI sp), .ref ao, .int (nI tm)])), (an, .inl (G.2.1, 525, .inl (gn nw))), (ac, .inl (G.2.1, 256, .inl (gn pc1))), (aw, .inl (G.2.1, 256, .inl (gn pw1)))]) (wt := []) (wc := []) (isC := []) rfl (by decide) rfl hl.1 (Nat.le_of_ble_eq_true rfl) dX4_isPlot_8 ⟨Nat.le_of_ble_eq_true rfl, Nat.le_of_ble_eq_true rfl⟩) hP hD hS (lit := [(mq, .inr (4, [.ref an, .ref ap, .int (nI st), .ref ak, .ref ai, .ref ad, .ref ac, .ref aw, .int (nI (cnt nw)), .ref at_, .int (nI le), .int (nI th), .int (nI sp), .ref ao, .int (nI tm)])), (an, .inl (G.2.1, 525, .inl (gn nw))), (ac, .inl (G.2.1, 256, .inl (gn pc1))), (aw, .inl (G.2.1, 256, .inl (gn pw1)))]) (wt := []) (wc := []) (wr := [(mq, .inr (4, [.ref an, .ref ap, .int (nI st), .ref ak, .ref ai, .ref ad, .ref ac, .ref aw, .int (nI (cnt nw)), .ref at_, .int (nI le), .int (nI th), .int (nI sp), .ref ao, .int (nI tm)])), (an, .inl (G.2.1, 525, .inl (gn nw))), (ac, .inl (G.2.1, 256, .inl (gn pc1))), (aw, .inl (G.2.1, 256, .inl (gn pw1)))]) (isC := []) (isR := [0, 1, 2, 3]) rfl rfl (by decide) (by decide) (fun r8 u H locs hp8 hP hD hS => ?_)
  subst hp8
  have hP : va_P G.1 vwCl [(mq, .inr (4, [.ref an, .ref ap, .int (nI st), .ref ak, .ref ai, .ref ad, .ref ac, .ref aw, .int (nI (cnt nw)), .ref at_, .int (nI le), .int (nI th), .int (nI sp), .ref ao, .int (nI tm)])), (an, .inl (G.2.1, 525, .inl (gn nw))), (ac, .inl (G.2.1, 256, .inl (gn pc1))), (aw, .inl (G.2.1, 256, .inl (gn pw1)))] H := hP
  have hD : va_D A [(mq, .inr (4, [.ref an, .ref ap, .int (nI st), .ref ak, .ref ai, .ref ad, .ref ac, .ref aw, .int (nI (cnt nw)), .ref at_, .int (nI le), .int (nI th), .int (nI sp), .ref ao, .int (nI tm)])), (an, .inl (G.2.1, 525, .inl (gn nw))), (ac, .inl (G.2.1, 256, .inl (gn pc1))), (aw, .inl (G.2.1, 256, .inl (gn pw1)))] := hD
  exact gRi F dX4_isPlot_11 (gNarZb _) (pc1, pw1) (⟨by congr 1; exact ite01 (by omega), hp3_0⟩) hP hD hS (Nat.le_refl _) (Nat.le_refl _)
