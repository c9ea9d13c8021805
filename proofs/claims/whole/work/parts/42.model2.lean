theorem iszB {z : Nat} (h : isz z) : 0 < z ∧ z ≤ 16 ∧ 0 < z * z ∧ z * z ≤ 256 := by
  obtain rfl | rfl | rfl | rfl | rfl := h <;> decide
theorem okc_iff {nw : Nat → Nat} {q z : Nat} (hq : q < 256) (hz : isz z) : okc nw q z ↔ (q % (z * z) = 0 ∧ uK nw (mc q) z (z * z)) :=
  ⟨fun h => ⟨((sq_al hq).mp h.1).2, h.2⟩, fun h => ⟨(sq_al hq).mpr ⟨hz, h.1⟩, h.2⟩⟩
theorem sqC {q z : Nat} (hq : q < 256) (hz : isz z) (h : q % (z * z) = 0) : mc q + 17 * z ≤ 272 := by
  have := sq_le ((sq_al hq).mpr ⟨hz, h⟩)
  unfold mc; omega
theorem uni_iff {ow : Nat → Nat} {c0 z : Nat} (hz : 0 < z) : uni ow c0 z ↔ ∀ i j, i < z → j < z → ow (c0 + 16 * i + j) = ow c0 := by
  constructor
  · intro h i j hi hj
    have := h (i * z + j) (ij_lt hi hj)
    rwa [(divmod_ij hj).1, (divmod_ij hj).2] at this
  · intro h k hk
    have := cellQ hz hk
    exact h _ _ this.1 this.2
theorem okc_down {ow : Nat → Nat} {q z w : Nat} (h : okc ow q z) (hw : isz w) (hwz : w ≤ z) : okc ow q w := by
  obtain ⟨h1, h2⟩ := h
  have hz : isz z := h1.1
  refine ⟨?_, ?_⟩
  · obtain ⟨_, a, b, c0, d⟩ := h1
    refine ⟨hw, a, b, ?_, ?_⟩
    · obtain rfl | rfl | rfl | rfl | rfl := hz <;> obtain rfl | rfl | rfl | rfl | rfl := hw <;> omega
    · obtain rfl | rfl | rfl | rfl | rfl := hz <;> obtain rfl | rfl | rfl | rfl | rfl := hw <;> omega
  · rw [uni_iff (iszB hw).1]
    rw [uni_iff (iszB hz).1] at h2
    exact fun i j hi hj => h2 i j (by omega) (by omega)
theorem half_max {nw : Nat → Nat} {q z : Nat} (hz : isz z) (hm : ∀ w, isz w → z < w → ¬ okc nw q w) (hn : ¬ okc nw q z) : isz (z / 2) ∧ ∀ w, isz w → z / 2 < w → ¬ okc nw q w := by
  have h1 : z ≠ 1 := fun h => hn (by rw [h]; exact okc_1 nw q)
  refine ⟨by unfold isz at hz ⊢; omega, fun w hw hlt => ?_⟩
  by_cases e : w = z
  · rw [e]; exact hn
  · exact hm w hw (by unfold isz at hz hw; omega)
theorem psz_max {nw : Nat → Nat} {q z : Nat} (hz : isz z) (hm : ∀ w, isz w → z < w → ¬ okc nw q w) (ho : okc nw q z) : z = psz nw q := by
  have d : ∀ w, isz w → w ≤ z → okc nw q w := fun w hw h => okc_down ho hw h
  unfold psz
  obtain rfl | rfl | rfl | rfl | rfl := hz
  · rw [if_neg (hm 2 (by decide) (by decide))]
  · rw [if_pos (d 2 (by decide) (by decide)), if_neg (hm 4 (by decide) (by decide))]
  · rw [if_pos (d 2 (by decide) (by decide)), if_pos (d 4 (by decide) (by decide)), if_neg (hm 8 (by decide) (by decide))]
  · rw [if_pos (d 2 (by decide) (by decide)), if_pos (d 4 (by decide) (by decide)), if_pos (d 8 (by decide) (by decide)), if_neg (hm 16 (by decide) (by decide))]
  · rw [if_pos (d 2 (by decide) (by decide)), if_pos (d 4 (by decide) (by decide)), if_pos (d 8 (by decide) (by decide)), if_pos (d 16 (by decide) (by decide))]
theorem cnt_of {nw : Nat → Nat} {k : Nat} (h : gP nw k = 256) : k = cnt nw := by
  have h2 := gP_cnt nw
  rcases Nat.lt_trichotomy k (cnt nw) with q | q | q
  · have := gP_mono nw q; omega
  · exact q
  · have := gP_mono nw q; omega
/-- the rows of the plots, as they are found -/
def fnd (nw pC pW : Nat → Nat) (n : Nat) : Prop := ∀ k, k < n → pC k = mc (gP nw k) ∧ pW k = psz nw (gP nw k)
theorem fnd_s {nw pC pW : Nat → Nat} {n z : Nat} (h : fnd nw pC pW n) (hz : z = psz nw (gP nw n)) : fnd nw (va_up pC n (mc (gP nw n))) (va_up pW n z) (n + 1) := by
  intro k hk
  rw [gu_if, gu_if]
  by_cases e : k = n
  · subst e; rw [if_pos rfl, if_pos rfl]; exact ⟨rfl, hz⟩
  · rw [if_neg e, if_neg e]; exact h k (by omega)
theorem plIn {nw : Nat → Nat} {x y k : Nat} (hk : k < cnt nw) (hx : x < 16) (hy : y < 16) : (mx (gP nw k) ≤ x ∧ x < mx (gP nw k) + psz nw (gP nw k) ∧ my (gP nw k) ≤ y ∧ y < my (gP nw k) + psz nw (gP nw k)) ↔ rkA nw x y = k := by
  have hg := (lt_cnt nw).mp hk
  have h := sq_place (c := y * 16 + x) hg (psz_sq nw (gP nw k)) (by omega)
  have e1 : (y * 16 + x) % 16 = x := by omega
  have e2 : (y * 16 + x) / 16 = y := by omega
  unfold inSq at h
  rw [e1, e2] at h
  rw [h]
  have hle := (cnt_le nw).2
  constructor
  · rintro ⟨a, b⟩
    exact rk_eq nw a (by rw [gP]; exact b) (by omega)
  · intro e
    have hs := rk_spec nw (q := mp (y * 16 + x)) (by have := mp_lt (y * 16 + x); omega)
    have e' : rk nw (mp (y * 16 + x)) = k := e
    rw [e'] at hs
    rw [gP] at hs
    exact hs
theorem costM {a z : Nat} (ha : a ≤ 9) (hz : z ≤ 16) : a * z * z ≤ 2304 := by
  have h1 : a * z ≤ 9 * 16 := Nat.mul_le_mul ha hz
  have h2 : a * z * z ≤ 9 * 16 * 16 := Nat.mul_le_mul h1 hz
  omega
theorem fSm_w (so zs : Nat → Nat) (o : Nat) : ∀ k, (fSm so zs o k = (-1, 16)) ∨ (0 ≤ (fSm so zs o k).1 ∧ (fSm so zs o k).1 < (k : Int) ∧ (fSm so zs o k).2 = zs (fSm so zs o k).1.toNat)
  | 0 => Or.inl rfl
  | k + 1 => by
    have ih := fSm_w so zs o k
    by_cases e : so k = o ∧ zs k ≤ (fSm so zs o k).2
    · refine Or.inr ?_
      simp only [fSm]; rw [if_pos e]
      exact ⟨Int.natCast_nonneg k, by omega, by rw [Int.toNat_natCast]⟩
    · simp only [fSm]; rw [if_neg e]
      rcases ih with h | ⟨h1, h2, h3⟩
      · exact Or.inl h
      · exact Or.inr ⟨h1, by omega, h3⟩
theorem fLg_w (so zs : Nat → Nat) (o : Nat) : ∀ k, (fLg so zs o k = (-1, 0)) ∨ (0 ≤ (fLg so zs o k).1 ∧ (fLg so zs o k).1 < (k : Int) ∧ (fLg so zs o k).2 = zs (fLg so zs o k).1.toNat)
  | 0 => Or.inl rfl
  | k + 1 => by
    have ih := fLg_w so zs o k
    by_cases e : so k = o ∧ (fLg so zs o k).2 < zs k
    · refine Or.inr ?_
      simp only [fLg]; rw [if_pos e]
      exact ⟨Int.natCast_nonneg k, by omega, by rw [Int.toNat_natCast]⟩
    · simp only [fLg]; rw [if_neg e]
      rcases ih with h | ⟨h1, h2, h3⟩
      · exact Or.inl h
      · exact Or.inr ⟨h1, by omega, h3⟩

set_option maxHeartbeats 4000000 in
set_option maxRecDepth 100000 in
theorem c_X4_isOne (l : Launch) (G : gG) (mq : Nat) (an : Nat) (ap : Nat) (st : Nat) (ak : Nat) (ai : Nat) (ad : Nat) (ac : Nat) (aw : Nat) (mn : Nat) (at_ : Nat) (le : Nat) (th : Nat) (sp : Nat) (ao : Nat) (tm : Nat) (nw : Nat → Nat) (cz : Nat) (z : Nat) (hz : 0 < z) (hcz : cz + 17 * z ≤ 272) (how : ∀ k, k < 256 → nw k < 8) : gMi (S := Unit) l yX4_isOne wsX4_isOne { frames := 0, cells := 0, slots := 0, locals := 0 } G [.ref mq, .int (nI cz), .int (nI z)] [(mq, .inr (4, [.ref an, .ref ap, .int (nI st), .ref ak, .ref ai, .ref ad, .ref ac, .ref aw, .int (nI mn), .ref at_, .int (nI le), .int (nI th), .int (nI sp), .ref ao, .int (nI tm)])), (an, .inl (G.2.1, 525, .inl (gn nw)))] (fun (r : Int32) (u : Unit) => (r = nI (if (uK nw cz z (z * z)) then 1 else 0))) (fun u => [(mq, .inr (4, [.ref an, .ref ap, .int (nI st), .ref ak, .ref ai, .ref ad, .ref ac, .ref aw, .int (nI mn), .ref at_, .int (nI le), .int (nI th), .int (nI sp), .ref ao, .int (nI tm)])), (an, .inl (G.2.1, 525, .inl (gn nw)))]) 0 0 := by
  refine gMet_mk (cc := cX4_isOne) (nL := 5) (ret := (some .boolean)) (Qc := fun A => va_Qi (S := Unit) (fun (r : Int32) (u : Unit) => (r = nI (if (uK nw cz z (z * z)) then 1 else 0))) (gB G A (fun (u : Unit) => [(mq, .inr (4, [.ref an, .ref ap, .int (nI st), .ref ak, .ref ai, .ref ad, .ref ac, .ref aw, .int (nI mn), .ref at_, .int (nI le), .int (nI th), .int (nI sp), .ref ao, .int (nI tm)])), (an, .inl (G.2.1, 525, .inl (gn nw)))])) A) (by decide) rfl (Nat.le_of_ble_eq_true rfl) ?_
  intro p e s m args below meth c A F ls hl hP hD hS
  have hx := F.1
  have hb := F.2.1
  have hts := F.2.2.2.2.2.2.1
  have hown : s.vm.findClass RX4 = some m.cls := F.2.2.2.2.2.1
  have hKK := F.2.2.2.2.2.2.2.2.1
  have hK := hKK.1
  have hin0 := F.2.2.2.2.2.2.2.1
  have hi4 : ∀ w ∈ u_ws RX4 TX4 15, w ∈ wsX4_isOne := by decide +kernel
  have hl : lv_has ls 5 [(0, .ref mq), (1, .int (nI cz)), (2, .int (nI z))] := hl
  have hzz : z * z ≤ 256 := Nat.mul_le_mul (show z ≤ 16 by omega) (show z ≤ 16 by omega)
  generalize hH : s.heap = H at hP ⊢
  have hS : va_S A s.heap H [] := by rw [← hH]; exact va_S.rf
  generalize hLo : ([] : List Loc) = locs at hS ⊢
  refine lv_iconst (v := nI 1) hx hb dX4_isOne_0 (by decide) ?_
  refine lv_istore_n (lv' := [(3, .int (nI 1)), (0, .ref mq), (1, .int (nI cz)), (2, .int (nI z))]) hx hb dX4_isOne_1 rfl hl (by decide) rfl (fun ls hl => ?_)
  refine lv_iconst (v := nI 0) hx hb dX4_isOne_2 (by decide) ?_
  refine lv_istore (lv' := [(4, .int (nI 0)), (3, .int (nI 1)), (0, .ref mq), (1, .int (nI cz)), (2, .int (nI z))]) hx hb dX4_isOne_3 hl (by decide) rfl (fun ls hl => ?_)
  have L5 : ∀ (fuel : Nat) (k : Nat), z * z - k < fuel → (k ≤ z * z) → ∀ (H : Heap) (locs : List Loc), va_P G.1 vwCl [(mq, .inr (4, [.ref an, .ref ap, .int (nI st), .ref ak, .ref ai, .ref ad, .ref ac, .ref aw, .int (nI mn), .ref at_, .int (nI le), .int (nI th), .int (nI sp), .ref ao, .int (nI tm)])), (an, .inl (G.2.1, 525, .inl (gn nw)))] H → va_D A [(mq, .inr (4, [.ref an, .ref ap, .int (nI st), .ref ak, .ref ai, .ref ad, .ref ac, .ref aw, .int (nI mn), .ref at_, .int (nI le), .int (nI th), .int (nI sp), .ref ao, .int (nI tm)])), (an, .inl (G.2.1, 525, .inl (gn nw)))] → va_S A s.heap H locs → ∀ (ls : Array Slot), lv_has ls 5 [(4, .int (nI k)), (3, .int (nI (if (uK nw cz z k) then 1 else 0))), (0, .ref mq), (1, .int (nI cz)), (2, .int (nI z))] → W p l e ({ frames := 0, cells := 0, slots := 0, locals := 0 } : Room) s m args below meth c H locs 0 0 (MQ below (va_Qi (S := Unit) (fun (r : Int32) (u : Unit) => (r = nI (if (uK nw cz z (z * z)) then 1 else 0))) (gB G A (fun (u : Unit) => [(mq, .inr (4, [.ref an, .ref ap, .int (nI st), .ref ak, .ref ai, .ref ad, .ref ac, .ref aw, .int (nI mn), .ref at_, .int (nI le), .int (nI th), .int (nI sp), .ref ao, .int (nI tm)])), (an, .inl (G.2.1, 525, .inl (gn nw)))])) A) args s 0 0 A) (F0 m 5 ls []) := by
    intro fuel
    induction fuel with
    | zero => intro k hme; exact absurd hme (Nat.not_lt_zero _)
    | succ fuel ih5 =>
      intro k hme hk H locs hP hD hS ls hl
      refine lv_iload hx hb dX4_isOne_5 (lv_at hl 0 rfl) ?_
      refine lv_iload_n hx hb dX4_isOne_7 rfl (lv_at hl 4 rfl) ?_
      refine lv_iload_n hx hb dX4_isOne_8 rfl (lv_at hl 4 rfl) ?_
      refine gImul (a := z) (b := z) hx hb dX4_isOne_9 ?_
      refine gIcmp_ge (a := k) (b := z * z) (tgt := 57) hx hb dX4_isOne_10 (by decide) (by omega) (by omega) (fun c10 => ?_) (fun c10 => ?_)
      · skip
        refine lv_iload_n hx hb dX4_isOne_57 rfl (lv_at hl 1 rfl) ?_
        exact gRi F dX4_isOne_58 (gNarZb _) () (by rw [show k = z * z by omega]) hP hD hS (Nat.le_refl _) (Nat.le_refl _)
      have hdm := cellQ hz (show k < z * z by omega)
      have J50 : ∀  (H : Heap) (locs : List Loc), va_P G.1 vwCl [(mq, .inr (4, [.ref an, .ref ap, .int (nI st), .ref ak, .ref ai, .ref ad, .ref ac, .ref aw, .int (nI mn), .ref at_, .int (nI le), .int (nI th), .int (nI sp), .ref ao, .int (nI tm)])), (an, .inl (G.2.1, 525, .inl (gn nw)))] H → va_D A [(mq, .inr (4, [.ref an, .ref ap, .int (nI st), .ref ak, .ref ai, .ref ad, .ref ac, .ref aw, .int (nI mn), .ref at_, .int (nI le), .int (nI th), .int (nI sp), .ref ao, .int (nI tm)])), (an, .inl (G.2.1, 525, .inl (gn nw)))] → va_S A s.heap H locs → ∀ (ls : Array Slot), lv_has ls 5 [(4, .int (nI k)), (3, .int (nI (if (uK nw cz z k) then 1 else 0))), (0, .ref mq), (1, .int (nI cz)), (2, .int (nI z))] → W p l e ({ frames := 0, cells := 0, slots := 0, locals := 0 } : Room) s m args below meth c H locs 0 0 (MQ below (va_Qi (S := Unit) (fun (r : Int32) (u : Unit) => (r = nI (if (uK nw cz z (z * z)) then 1 else 0))) (gB G A (fun (u : Unit) => [(mq, .inr (4, [.ref an, .ref ap, .int (nI st), .ref ak, .ref ai, .ref ad, .ref ac, .ref aw, .int (nI mn), .ref at_, .int (nI le), .int (nI th), .int (nI sp), .ref ao, .int (nI tm)])), (an, .inl (G.2.1, 525, .inl (gn nw)))])) A) args s 0 0 A) (F0 m 50 ls [.int (nI (if (uK nw cz z (k + 1)) then 1 else 0))]) := by
        intro  H locs hP hD hS ls hl
        refine lv_istore_n (lv' := [(3, .int (nI (if (uK nw cz z (k + 1)) then 1 else 0))), (4, .int (nI k)), (0, .ref mq), (1, .int (nI cz)), (2, .int (nI z))]) hx hb dX4_isOne_50 rfl hl (by decide) rfl (fun ls hl => ?_)
        refine lv_iinc (v := nI (k + 1)) (lv' := [(4, .int (nI (k + 1))), (3, .int (nI (if (uK nw cz z (k + 1)) then 1 else 0))), (0, .ref mq), (1, .int (nI cz)), (2, .int (nI z))]) hx hb dX4_isOne_51 hl (k := 1) rfl (gInc_p _ rfl) (by decide) rfl (fun ls hl => ?_)
        refine lv_goto (tgt := 5) hx hb dX4_isOne_54 (by decide) ?_
        have hl : lv_has ls 5 [(4, .int (nI (k + 1))), (3, .int (nI (if (uK nw cz z (k + 1)) then 1 else 0))), (0, .ref mq), (1, .int (nI cz)), (2, .int (nI z))] := lv_sub hl [0, 1, 2, 3, 4] rfl
        have hy_1 : (k + 1) ≤ z * z := by omega
        exact ih5 (k + 1) (by omega) hy_1 H locs hP hD hS ls hl
      refine lv_iload_n hx hb dX4_isOne_13 rfl (lv_at hl 1 rfl) ?_
      refine gIfB_eq (P := (uK nw cz z k)) (tgt := 49) hx hb dX4_isOne_14 (by decide) (fun c14 => ?_) (fun c14 => ?_)
      · skip
        refine lv_iconst (v := nI 0) hx hb dX4_isOne_49 (by decide) ?_
        have hl : lv_has ls 5 [(4, .int (nI k)), (3, .int (nI (if (uK nw cz z k) then 1 else 0))), (0, .ref mq), (1, .int (nI cz)), (2, .int (nI z))] := lv_sub hl [0, 1, 2, 3, 4] rfl
        have hse : (.int (nI 0) : Value) = .int (nI (if (uK nw cz z (k + 1)) then 1 else 0)) := by first | rw [if_neg (fun h => c14 (uK_s.mp h).1)] | rw [if_pos (uK_s.mpr ⟨c14, c42⟩)] | rw [if_neg (fun h => c42 (uK_s.mp h).2)]
        refine W.eq (g2 := F0 m 50 ls [.int (nI (if (uK nw cz z (k + 1)) then 1 else 0))]) (congrArg (fun v_ => F0 m 50 ls [v_]) hse) ?_
        exact J50  H locs hP hD hS ls hl
      refine lv_aload_n hx hb dX4_isOne_17 rfl (lv_at hl 2 rfl) ?_
      refine va_get (D := G.1) (ci := 4) (v := .ref an) (C := RX4) (T := TX4) (N := 15) hx hb hts hi4 hown hK hP 0 rfl rfl 0 (by decide) (hts (.fieldLink RX4 7 "LandQuartersModel" "now" "[I") (by decide +kernel)) (fun _ h9 => h9) rfl dX4_isOne_18 ?_
      refine lv_iload_n hx hb dX4_isOne_21 rfl (lv_at hl 3 rfl) ?_
      refine lv_bipush (v := nI 16) hx hb dX4_isOne_22 (by decide) ?_
      refine lv_iload hx hb dX4_isOne_24 (lv_at hl 0 rfl) ?_
      refine lv_iload_n hx hb dX4_isOne_26 rfl (lv_at hl 4 rfl) ?_
      refine gIdiv (a := k) (b := z) hx hb dX4_isOne_27 (by omega) (by omega) (by omega) ?_
      refine gImul (a := 16) (b := k / z) hx hb dX4_isOne_28 ?_
      refine gIadd (a := cz) (b := 16 * (k / z)) hx hb dX4_isOne_29 ?_
      refine lv_iload hx hb dX4_isOne_30 (lv_at hl 0 rfl) ?_
      refine lv_iload_n hx hb dX4_isOne_32 rfl (lv_at hl 4 rfl) ?_
      refine gIrem (a := k) (b := z) hx hb dX4_isOne_33 (by omega) (by omega) (by omega) ?_
      refine gIadd (a := cz + (16 * (k / z))) (b := k % z) hx hb dX4_isOne_34 ?_
      refine gNald (k := cz + (16 * (k / z)) + (k % z)) hx hb hK hP 1 0 rfl rfl (by omega) (by first | decide | omega) dX4_isOne_35 ?_
      refine lv_aload_n hx hb dX4_isOne_36 rfl (lv_at hl 2 rfl) ?_
      refine va_get (D := G.1) (ci := 4) (v := .ref an) (C := RX4) (T := TX4) (N := 15) hx hb hts hi4 hown hK hP 0 rfl rfl 0 (by decide) (hts (.fieldLink RX4 7 "LandQuartersModel" "now" "[I") (by decide +kernel)) (fun _ h9 => h9) rfl dX4_isOne_37 ?_
      refine lv_iload_n hx hb dX4_isOne_40 rfl (lv_at hl 3 rfl) ?_
      refine gNald (k := cz) hx hb hK hP 1 0 rfl rfl (by omega) (by first | decide | omega) dX4_isOne_41 ?_
      refine gIcmp_ne (a := nw (cz + (16 * (k / z)) + (k % z))) (b := nw cz) (tgt := 49) hx hb dX4_isOne_42 (by decide) (by have := how (cz + (16 * (k / z)) + (k % z)) (by omega); omega) (by have := how cz (by omega); omega) (fun c42 => ?_) (fun c42 => ?_)
      · skip
        refine lv_iconst (v := nI 0) hx hb dX4_isOne_49 (by decide) ?_
        have hl : lv_has ls 5 [(4, .int (nI k)), (3, .int (nI (if (uK nw cz z k) then 1 else 0))), (0, .ref mq), (1, .int (nI cz)), (2, .int (nI z))] := lv_sub hl [0, 1, 2, 3, 4] rfl
        have hse : (.int (nI 0) : Value) = .int (nI (if (uK nw cz z (k + 1)) then 1 else 0)) := by first | rw [if_neg (fun h => c14 (uK_s.mp h).1)] | rw [if_pos (uK_s.mpr ⟨c14, c42⟩)] | rw [if_neg (fun h => c42 (uK_s.mp h).2)]
        refine W.eq (g2 := F0 m 50 ls [.int (nI (if (uK nw cz z (k + 1)) then 1 else 0))]) (congrArg (fun v_ => F0 m 50 ls [v_]) hse) ?_
        exact J50  H locs hP hD hS ls hl
      refine lv_iconst (v := nI 1) hx hb dX4_isOne_45 (by decide) ?_
      refine lv_goto (tgt := 50) hx hb dX4_isOne_46 (by decide) ?_
      have hl : lv_has ls 5 [(4, .int (nI k)), (3, .int (nI (if (uK nw cz z k) then 1 else 0))), (0, .ref mq), (1, .int (nI cz)), (2, .int (nI z))] := lv_sub hl [0, 1, 2, 3, 4] rfl
      have hse : (.int (nI 1) : Value) = .int (nI (if (uK nw cz z (k + 1)) then 1 else 0)) := by first | rw [if_neg (fun h => c14 (uK_s.mp h).1)] | rw [if_pos (uK_s.mpr ⟨c14, c42⟩)] | rw [if_neg (fun h => c42 (uK_s.mp h).2)]
      refine W.eq (g2 := F0 m 50 ls [.int (nI (if (uK nw cz z (k + 1)) then 1 else 0))]) (congrArg (fun v_ => F0 m 50 ls [v_]) hse) ?_
      exact J50  H locs hP hD hS ls hl
  have hl : lv_has ls 5 [(4, .int (nI 0)), (3, .int (nI 1)), (0, .ref mq), (1, .int (nI cz)), (2, .int (nI z))] := lv_sub hl [0, 1, 2, 3, 4] rfl
  have hle : (.int (nI 1) : Value) = .int (nI (if (uK nw cz z 0) then 1 else 0)) := by first | rfl | rw [if_pos (fun j hj => absurd hj (Nat.not_lt_zero j))]
  rw [hle] at hl
  have hy_2 : 0 ≤ z * z := by omega
  exact L5 _ 0 (Nat.lt_succ_self _) hy_2 H locs hP hD hS ls hl

set_option maxHeartbeats 4000000 in
set_option maxRecDepth 100000 in
theorem c_X4_finds (l : Launch) (G : gG) (mq : Nat) (an : Nat) (ap : Nat) (st : Nat) (ak : Nat) (ai : Nat) (ad : Nat) (ac : Nat) (aw : Nat) (mn : Nat) (at_ : Nat) (le : Nat) (th : Nat) (sp : Nat) (ao : Nat) (tm : Nat) (nw : Nat → Nat) (pC : Nat → Nat) (pW : Nat → Nat) (how : ∀ k, k < 256 → nw k < 8) : gMv (S := (Nat → Nat) × (Nat → Nat)) l yX4_finds wsX4_finds { frames := 1, cells := 0, slots := 0, locals := 24 } G [.ref mq] [(mq, .inr (4, [.ref an, .ref ap, .int (nI st), .ref ak, .ref ai, .ref ad, .ref ac, .ref aw, .int (nI mn), .ref at_, .int (nI le), .int (nI th), .int (nI sp), .ref ao, .int (nI tm)])), (an, .inl (G.2.1, 525, .inl (gn nw))), (ac, .inl (G.2.1, 256, .inl (gn pC))), (aw, .inl (G.2.1, 256, .inl (gn pW)))] (fun (u : (Nat → Nat) × (Nat → Nat)) => (fnd nw u.1 u.2 (cnt nw))) (fun u => [(mq, .inr (4, [.ref an, .ref ap, .int (nI st), .ref ak, .ref ai, .ref ad, .ref ac, .ref aw, .int (nI (cnt nw)), .ref at_, .int (nI le), .int (nI th), .int (nI sp), .ref ao, .int (nI tm)])), (an, .inl (G.2.1, 525, .inl (gn nw))), (ac, .inl (G.2.1, 256, .inl (gn u.1))), (aw, .inl (G.2.1, 256, .inl (gn u.2)))]) 0 0 := by
  refine gMet_mk (cc := cX4_finds) (nL := 3) (ret := none) (Qc := fun A => va_Qv (S := (Nat → Nat) × (Nat → Nat)) (fun (u : (Nat → Nat) × (Nat → Nat)) => (fnd nw u.1 u.2 (cnt nw))) (gB G A (fun (u : (Nat → Nat) × (Nat → Nat)) => [(mq, .inr (4, [.ref an, .ref ap, .int (nI st), .ref ak, .ref ai, .ref ad, .ref ac, .ref aw, .int (nI (cnt nw)), .ref at_, .int (nI le), .int (nI th), .int (nI sp), .ref ao, .int (nI tm)])), (an, .inl (G.2.1, 525, .inl (gn nw))), (ac, .inl (G.2.1, 256, .inl (gn u.1))), (aw, .inl (G.2.1, 256, .inl (gn u.2)))])) A) (by decide) rfl (Nat.le_of_ble_eq_true rfl) ?_
  intro p e s m args below meth c A F ls hl hP hD hS
  have hx := F.1
  have hb := F.2.1
  have hts := F.2.2.2.2.2.2.1
  have hown : s.vm.findClass RX4 = some m.cls := F.2.2.2.2.2.1
  have hKK := F.2.2.2.2.2.2.2.2.1
  have hK := hKK.1
  have hin0 := F.2.2.2.2.2.2.2.1
  have hi4 : ∀ w ∈ u_ws RX4 TX4 15, w ∈ wsX4_finds := by decide +kernel
  have hl : lv_has ls 3 [(0, .ref mq)] := hl
  generalize hH : s.heap = H at hP ⊢
  have hS : va_S A s.heap H [] := by rw [← hH]; exact va_S.rf
  generalize hLo : ([] : List Loc) = locs at hS ⊢
  refine lv_aload_n hx hb dX4_finds_0 rfl (lv_at hl 0 rfl) ?_
  refine lv_iconst (v := nI 0) hx hb dX4_finds_1 (by decide) ?_
  refine va_put (D := G.1) (ci := 4) (v := .int (nI 0)) (ty := .int) (C := RX4) (T := TX4) (N := 15) hx hb hts hi4 tyX4 tyX4_ok nmX4 hown hK hP hD hS 0 rfl rfl 8 (by decide) (hts (.fieldLink RX4 52 "LandQuartersModel" "many" "I") (by decide +kernel)) (fun _ h9 => h9) rfl (by decide +kernel) (rfl) (rfl) (Nat.le_of_ble_eq_true rfl) dX4_finds_2 (fun H locs hP hD hS => ?_)
  have hP : va_P G.1 vwCl [(mq, .inr (4, [.ref an, .ref ap, .int (nI st), .ref ak, .ref ai, .ref ad, .ref ac, .ref aw, .int (nI 0), .ref at_, .int (nI le), .int (nI th), .int (nI sp), .ref ao, .int (nI tm)])), (an, .inl (G.2.1, 525, .inl (gn nw))), (ac, .inl (G.2.1, 256, .inl (gn pC))), (aw, .inl (G.2.1, 256, .inl (gn pW)))] H := hP
  have hD : va_D A [(mq, .inr (4, [.ref an, .ref ap, .int (nI st), .ref ak, .ref ai, .ref ad, .ref ac, .ref aw, .int (nI 0), .ref at_, .int (nI le), .int (nI th), .int (nI sp), .ref ao, .int (nI tm)])), (an, .inl (G.2.1, 525, .inl (gn nw))), (ac, .inl (G.2.1, 256, .inl (gn pC))), (aw, .inl (G.2.1, 256, .inl (gn pW)))] := hD
  refine lv_iconst (v := nI 0) hx hb dX4_finds_5 (by decide) ?_
  refine lv_istore_n (lv' := [(1, .int (nI 0)), (0, .ref mq)]) hx hb dX4_finds_6 rfl hl (by decide) rfl (fun ls hl => ?_)
  have L7 : ∀ (fuel : Nat) (k : Nat) (pc9 : Nat → Nat) (pw9 : Nat → Nat), 256 - gP nw k < fuel → (gP nw k ≤ 256) → (fnd nw pc9 pw9 k) → ∀ (H : Heap) (locs : List Loc), va_P G.1 vwCl [(mq, .inr (4, [.ref an, .ref ap, .int (nI st), .ref ak, .ref ai, .ref ad, .ref ac, .ref aw, .int (nI k), .ref at_, .int (nI le), .int (nI th), .int (nI sp), .ref ao, .int (nI tm)])), (an, .inl (G.2.1, 525, .inl (gn nw))), (ac, .inl (G.2.1, 256, .inl (gn pc9))), (aw, .inl (G.2.1, 256, .inl (gn pw9)))] H → va_D A [(mq, .inr (4, [.ref an, .ref ap, .int (nI st), .ref ak, .ref ai, .ref ad, .ref ac, .ref aw, .int (nI k), .ref at_, .int (nI le), .int (nI th), .int (nI sp), .ref ao, .int (nI tm)])), (an, .inl (G.2.1, 525, .inl (gn nw))), (ac, .inl (G.2.1, 256, .inl (gn pc9))), (aw, .inl (G.2.1, 256, .inl (gn pw9)))] → va_S A s.heap H locs → ∀ (ls : Array Slot), lv_has ls 3 [(1, .int (nI (gP nw k))), (0, .ref mq)] → W p l e ({ frames := 1, cells := 0, slots := 0, locals := 24 } : Room) s m args below meth c H locs 0 0 (MQ below (va_Qv (S := (Nat → Nat) × (Nat → Nat)) (fun (u : (Nat → Nat) × (Nat → Nat)) => (fnd nw u.1 u.2 (cnt nw))) (gB G A (fun (u : (Nat → Nat) × (Nat → Nat)) => [(mq, .inr (4, [.ref an, .ref ap, .int (nI st), .ref ak, .ref ai, .ref ad, .ref ac, .ref aw, .int (nI (cnt nw)), .ref at_, .int (nI le), .int (nI th), .int (nI sp), .ref ao, .int (nI tm)])), (an, .inl (G.2.1, 525, .inl (gn nw))), (ac, .inl (G.2.1, 256, .inl (gn u.1))), (aw, .inl (G.2.1, 256, .inl (gn u.2)))])) A) args s 0 0 A) (F0 m 7 ls []) := by
    intro fuel
    induction fuel with
    | zero => intro k pc9 pw9 hme; exact absurd hme (Nat.not_lt_zero _)
    | succ fuel ih7 =>
      intro k pc9 pw9 hme hk hf H locs hP hD hS ls hl
      refine lv_iload_n hx hb dX4_finds_7 rfl (lv_at hl 0 rfl) ?_
      refine lv_sipush (v := nI 256) hx hb dX4_finds_8 (by decide) ?_
      refine gIcmp_ge (a := gP nw k) (b := 256) (tgt := 86) hx hb dX4_finds_11 (by decide) (by omega) (by omega) (fun c11 => ?_) (fun c11 => ?_)
      · skip
        have hkc : k = cnt nw := cnt_of (by omega)
        have hfe : (.int (nI k) : Value) = .int (nI (cnt nw)) := by rw [hkc]
        have hP : va_P G.1 vwCl [(mq, .inr (4, [.ref an, .ref ap, .int (nI st), .ref ak, .ref ai, .ref ad, .ref ac, .ref aw, .int (nI (cnt nw)), .ref at_, .int (nI le), .int (nI th), .int (nI sp), .ref ao, .int (nI tm)])), (an, .inl (G.2.1, 525, .inl (gn nw))), (ac, .inl (G.2.1, 256, .inl (gn pc9))), (aw, .inl (G.2.1, 256, .inl (gn pw9)))] H := Eq.mp (congrArg (fun v_ : Value => va_P G.1 vwCl [(mq, .inr (4, [.ref an, .ref ap, .int (nI st), .ref ak, .ref ai, .ref ad, .ref ac, .ref aw, v_, .ref at_, .int (nI le), .int (nI th), .int (nI sp), .ref ao, .int (nI tm)])), (an, .inl (G.2.1, 525, .inl (gn nw))), (ac, .inl (G.2.1, 256, .inl (gn pc9))), (aw, .inl (G.2.1, 256, .inl (gn pw9)))] H) hfe) hP
        have hD : va_D A [(mq, .inr (4, [.ref an, .ref ap, .int (nI st), .ref ak, .ref ai, .ref ad, .ref ac, .ref aw, .int (nI (cnt nw)), .ref at_, .int (nI le), .int (nI th), .int (nI sp), .ref ao, .int (nI tm)])), (an, .inl (G.2.1, 525, .inl (gn nw))), (ac, .inl (G.2.1, 256, .inl (gn pc9))), (aw, .inl (G.2.1, 256, .inl (gn pw9)))] := Eq.mp (congrArg (fun v_ : Value => va_D A [(mq, .inr (4, [.ref an, .ref ap, .int (nI st), .ref ak, .ref ai, .ref ad, .ref ac, .ref aw, v_, .ref at_, .int (nI le), .int (nI th), .int (nI sp), .ref ao, .int (nI tm)])), (an, .inl (G.2.1, 525, .inl (gn nw))), (ac, .inl (G.2.1, 256, .inl (gn pc9))), (aw, .inl (G.2.1, 256, .inl (gn pw9)))]) hfe) hD
        exact gRv F dX4_finds_86 (pc9, pw9) (by rw [← hkc]; exact hf) hP hD hS (Nat.le_refl _) (Nat.le_refl _)
      have hp256 : gP nw k < 256 := (by omega); have hk256 := gP_ge nw k
      refine lv_bipush (v := nI 16) hx hb dX4_finds_14 (by decide) ?_
      refine lv_istore_n (lv' := [(2, .int (nI 16)), (1, .int (nI (gP nw k))), (0, .ref mq)]) hx hb dX4_finds_16 rfl hl (by decide) rfl (fun ls hl => ?_)
      have L17 : ∀ (fuel : Nat) (z : Nat), z < fuel → (isz z) → (∀ w, isz w → z < w → ¬ okc nw (gP nw k) w) → ∀ (H : Heap) (locs : List Loc), va_P G.1 vwCl [(mq, .inr (4, [.ref an, .ref ap, .int (nI st), .ref ak, .ref ai, .ref ad, .ref ac, .ref aw, .int (nI k), .ref at_, .int (nI le), .int (nI th), .int (nI sp), .ref ao, .int (nI tm)])), (an, .inl (G.2.1, 525, .inl (gn nw))), (ac, .inl (G.2.1, 256, .inl (gn pc9))), (aw, .inl (G.2.1, 256, .inl (gn pw9)))] H → va_D A [(mq, .inr (4, [.ref an, .ref ap, .int (nI st), .ref ak, .ref ai, .ref ad, .ref ac, .ref aw, .int (nI k), .ref at_, .int (nI le), .int (nI th), .int (nI sp), .ref ao, .int (nI tm)])), (an, .inl (G.2.1, 525, .inl (gn nw))), (ac, .inl (G.2.1, 256, .inl (gn pc9))), (aw, .inl (G.2.1, 256, .inl (gn pw9)))] → va_S A s.heap H locs → ∀ (ls : Array Slot), lv_has ls 3 [(2, .int (nI z)), (1, .int (nI (gP nw k))), (0, .ref mq)] → W p l e ({ frames := 1, cells := 0, slots := 0, locals := 24 } : Room) s m args below meth c H locs 0 0 (MQ below (va_Qv (S := (Nat → Nat) × (Nat → Nat)) (fun (u : (Nat → Nat) × (Nat → Nat)) => (fnd nw u.1 u.2 (cnt nw))) (gB G A (fun (u : (Nat → Nat) × (Nat → Nat)) => [(mq, .inr (4, [.ref an, .ref ap, .int (nI st), .ref ak, .ref ai, .ref ad, .ref ac, .ref aw, .int (nI (cnt nw)), .ref at_, .int (nI le), .int (nI th), .int (nI sp), .ref ao, .int (nI tm)])), (an, .inl (G.2.1, 525, .inl (gn nw))), (ac, .inl (G.2.1, 256, .inl (gn u.1))), (aw, .inl (G.2.1, 256, .inl (gn u.2)))])) A) args s 0 0 A) (F0 m 17 ls []) := by
        intro fuel
        induction fuel with
        | zero => intro z hme; exact absurd hme (Nat.not_lt_zero _)
        | succ fuel ih17 =>
          intro z hme hz hmax H locs hP hD hS ls hl
          refine lv_iload_n hx hb dX4_finds_17 rfl (lv_at hl 1 rfl) ?_
          refine lv_iload_n hx hb dX4_finds_18 rfl (lv_at hl 0 rfl) ?_
          refine lv_iload_n hx hb dX4_finds_19 rfl (lv_at hl 0 rfl) ?_
          refine gImul (a := z) (b := z) hx hb dX4_finds_20 ?_
          refine gIrem (a := gP nw k) (b := z * z) hx hb dX4_finds_21 (by omega) (by have := iszB hz; omega) (by have := iszB hz; omega) ?_
          refine gIf_ne (a := (gP nw k) % (z * z)) (tgt := 37) hx hb dX4_finds_22 (by decide) (by have h9 := iszB hz; have := Nat.mod_lt (gP nw k) h9.2.2.1; omega) (fun c22 => ?_) (fun c22 => ?_)
          · skip
            have hno : ¬ okc nw (gP nw k) z := (fun h => c22 ((okc_iff hp256 hz).mp h).1)
            refine lv_iload_n hx hb dX4_finds_37 rfl (lv_at hl 0 rfl) ?_
            refine lv_iconst (v := nI 2) hx hb dX4_finds_38 (by decide) ?_
            refine gIdiv (a := z) (b := 2) hx hb dX4_finds_39 (by omega) (by have := iszB hz; omega) (by have := iszB hz; omega) ?_
            refine lv_istore_n (lv' := [(2, .int (nI (z / 2))), (1, .int (nI (gP nw k))), (0, .ref mq)]) hx hb dX4_finds_40 rfl hl (by decide) rfl (fun ls hl => ?_)
            refine lv_goto (tgt := 17) hx hb dX4_finds_41 (by decide) ?_
            have hl : lv_has ls 3 [(2, .int (nI (z / 2))), (1, .int (nI (gP nw k))), (0, .ref mq)] := lv_sub hl [0, 1, 2] rfl
            have hy_1 : isz (z / 2) := by exact (half_max hz hmax hno).1
            have hy_2 : ∀ w, isz w → (z / 2) < w → ¬ okc nw (gP nw k) w := by exact (half_max hz hmax hno).2
            exact ih17 (z / 2) (by have := iszB hz; omega) hy_1 hy_2 H locs hP hD hS ls hl
          refine lv_aload_n hx hb dX4_finds_25 rfl (lv_at hl 2 rfl) ?_
          refine lv_iload_n hx hb dX4_finds_26 rfl (lv_at hl 1 rfl) ?_
          refine gCi F (gRunS (own := RX4) (bytes := cX4_cellOf) (n := 1) (As := [.int (nI (gP nw k))]) (rest := [.ref mq]) F (c_X4_cellOf l G (gP nw k) (by omega) H.size) gX4_finds_X4_cellOf rfl rfl rfl rfl (by decide +kernel) rfl ⟨Nat.le_of_ble_eq_true rfl, Nat.le_of_ble_eq_true rfl⟩ hP hD (lit := [(mq, .inr (4, [.ref an, .ref ap, .int (nI st), .ref ak, .ref ai, .ref ad, .ref ac, .ref aw, .int (nI k), .ref at_, .int (nI le), .int (nI th), .int (nI sp), .ref ao, .int (nI tm)])), (an, .inl (G.2.1, 525, .inl (gn nw))), (ac, .inl (G.2.1, 256, .inl (gn pc9))), (aw, .inl (G.2.1, 256, .inl (gn pw9)))]) (wt := []) (wc := []) (isC := []) rfl (by decide) rfl hl.1 (Nat.le_of_ble_eq_true rfl) dX4_finds_27 ⟨Nat.le_of_ble_eq_true rfl, Nat.le_of_ble_eq_true rfl⟩) hP hD hS (lit := [(mq, .inr (4, [.ref an, .ref ap, .int (nI st), .ref ak, .ref ai, .ref ad, .ref ac, .ref aw, .int (nI k), .ref at_, .int (nI le), .int (nI th), .int (nI sp), .ref ao, .int (nI tm)])), (an, .inl (G.2.1, 525, .inl (gn nw))), (ac, .inl (G.2.1, 256, .inl (gn pc9))), (aw, .inl (G.2.1, 256, .inl (gn pw9)))]) (wt := []) (wc := []) (wr := [(mq, .inr (4, [.ref an, .ref ap, .int (nI st), .ref ak, .ref ai, .ref ad, .ref ac, .ref aw, .int (nI k), .ref at_, .int (nI le), .int (nI th), .int (nI sp), .ref ao, .int (nI tm)])), (an, .inl (G.2.1, 525, .inl (gn nw))), (ac, .inl (G.2.1, 256, .inl (gn pc9))), (aw, .inl (G.2.1, 256, .inl (gn pw9)))]) (isC := []) (isR := [0, 1, 2, 3]) rfl rfl (by decide) (by decide) (fun r27 u H locs hp27 hP hD hS => ?_)
          subst hp27
          have hP : va_P G.1 vwCl [(mq, .inr (4, [.ref an, .ref ap, .int (nI st), .ref ak, .ref ai, .ref ad, .ref ac, .ref aw, .int (nI k), .ref at_, .int (nI le), .int (nI th), .int (nI sp), .ref ao, .int (nI tm)])), (an, .inl (G.2.1, 525, .inl (gn nw))), (ac, .inl (G.2.1, 256, .inl (gn pc9))), (aw, .inl (G.2.1, 256, .inl (gn pw9)))] H := hP
          have hD : va_D A [(mq, .inr (4, [.ref an, .ref ap, .int (nI st), .ref ak, .ref ai, .ref ad, .ref ac, .ref aw, .int (nI k), .ref at_, .int (nI le), .int (nI th), .int (nI sp), .ref ao, .int (nI tm)])), (an, .inl (G.2.1, 525, .inl (gn nw))), (ac, .inl (G.2.1, 256, .inl (gn pc9))), (aw, .inl (G.2.1, 256, .inl (gn pw9)))] := hD
          refine lv_iload_n hx hb dX4_finds_30 rfl (lv_at hl 0 rfl) ?_
          refine gCi F (gRunV (own := RX4) (C := RX4) (ci := 4) (bytes := cX4_isOne) (n := 2) (As := [.int (nI (mc (gP nw k))), .int (nI z)]) (rest := []) F (c_X4_isOne l G mq an ap st ak ai ad ac aw k at_ le th sp ao tm nw (mc (gP nw k)) z ((iszB hz).1) (sqC hp256 hz c22) (by first | assumption | omega) H.size) gX4_finds_X4_isOne rfl rfl rfl rfl (by decide +kernel) rfl ⟨Nat.le_of_ble_eq_true rfl, Nat.le_of_ble_eq_true rfl⟩ hP hD (lit := [(mq, .inr (4, [.ref an, .ref ap, .int (nI st), .ref ak, .ref ai, .ref ad, .ref ac, .ref aw, .int (nI k), .ref at_, .int (nI le), .int (nI th), .int (nI sp), .ref ao, .int (nI tm)])), (an, .inl (G.2.1, 525, .inl (gn nw))), (ac, .inl (G.2.1, 256, .inl (gn pc9))), (aw, .inl (G.2.1, 256, .inl (gn pw9)))]) (wt := []) (wc := [(mq, .inr (4, [.ref an, .ref ap, .int (nI st), .ref ak, .ref ai, .ref ad, .ref ac, .ref aw, .int (nI k), .ref at_, .int (nI le), .int (nI th), .int (nI sp), .ref ao, .int (nI tm)])), (an, .inl (G.2.1, 525, .inl (gn nw)))]) (isC := [0, 1]) rfl (by decide) rfl rfl rfl hl.1 (Nat.le_of_ble_eq_true rfl) dX4_finds_31 ⟨Nat.le_of_ble_eq_true rfl, Nat.le_of_ble_eq_true rfl⟩) hP hD hS (lit := [(mq, .inr (4, [.ref an, .ref ap, .int (nI st), .ref ak, .ref ai, .ref ad, .ref ac, .ref aw, .int (nI k), .ref at_, .int (nI le), .int (nI th), .int (nI sp), .ref ao, .int (nI tm)])), (an, .inl (G.2.1, 525, .inl (gn nw))), (ac, .inl (G.2.1, 256, .inl (gn pc9))), (aw, .inl (G.2.1, 256, .inl (gn pw9)))]) (wt := []) (wc := [(mq, .inr (4, [.ref an, .ref ap, .int (nI st), .ref ak, .ref ai, .ref ad, .ref ac, .ref aw, .int (nI k), .ref at_, .int (nI le), .int (nI th), .int (nI sp), .ref ao, .int (nI tm)])), (an, .inl (G.2.1, 525, .inl (gn nw)))]) (wr := [(ac, .inl (G.2.1, 256, .inl (gn pc9))), (aw, .inl (G.2.1, 256, .inl (gn pw9)))]) (isC := [0, 1]) (isR := [2, 3]) rfl rfl (by decide) (by decide) (fun r31 u H locs hp31 hP hD hS => ?_)
          subst hp31
          have hP : va_P G.1 vwCl [(ac, .inl (G.2.1, 256, .inl (gn pc9))), (aw, .inl (G.2.1, 256, .inl (gn pw9))), (mq, .inr (4, [.ref an, .ref ap, .int (nI st), .ref ak, .ref ai, .ref ad, .ref ac, .ref aw, .int (nI k), .ref at_, .int (nI le), .int (nI th), .int (nI sp), .ref ao, .int (nI tm)])), (an, .inl (G.2.1, 525, .inl (gn nw)))] H := hP
          have hD : va_D A [(ac, .inl (G.2.1, 256, .inl (gn pc9))), (aw, .inl (G.2.1, 256, .inl (gn pw9))), (mq, .inr (4, [.ref an, .ref ap, .int (nI st), .ref ak, .ref ai, .ref ad, .ref ac, .ref aw, .int (nI k), .ref at_, .int (nI le), .int (nI th), .int (nI sp), .ref ao, .int (nI tm)])), (an, .inl (G.2.1, 525, .inl (gn nw)))] := hD
          refine gIfB_ne (P := (uK nw (mc (gP nw k)) z (z * z))) (tgt := 44) hx hb dX4_finds_34 (by decide) (fun c34 => ?_) (fun c34 => ?_)
          · skip
            have hzp : z = psz nw (gP nw k) := psz_max hz hmax ((okc_iff hp256 hz).mpr ⟨c22, c34⟩)
            refine lv_aload_n hx hb dX4_finds_44 rfl (lv_at hl 2 rfl) ?_
            refine va_get (D := G.1) (ci := 4) (v := .ref ac) (C := RX4) (T := TX4) (N := 15) hx hb hts hi4 hown hK hP 2 rfl rfl 6 (by decide) (hts (.fieldLink RX4 25 "LandQuartersModel" "plotCell" "[I") (by decide +kernel)) (fun _ h9 => h9) rfl dX4_finds_45 ?_
            refine lv_aload_n hx hb dX4_finds_48 rfl (lv_at hl 2 rfl) ?_
            refine va_get (D := G.1) (ci := 4) (v := .int (nI k)) (C := RX4) (T := TX4) (N := 15) hx hb hts hi4 hown hK hP 2 rfl rfl 8 (by decide) (hts (.fieldLink RX4 52 "LandQuartersModel" "many" "I") (by decide +kernel)) (fun _ h9 => h9) rfl dX4_finds_49 ?_
            refine lv_iload_n hx hb dX4_finds_52 rfl (lv_at hl 1 rfl) ?_
            refine gCi F (gRunS (own := RX4) (bytes := cX4_cellOf) (n := 1) (As := [.int (nI (gP nw k))]) (rest := [.int (nI k), .ref ac]) F (c_X4_cellOf l G (gP nw k) (by omega) H.size) gX4_finds_X4_cellOf rfl rfl rfl rfl (by decide +kernel) rfl ⟨Nat.le_of_ble_eq_true rfl, Nat.le_of_ble_eq_true rfl⟩ hP hD (lit := [(ac, .inl (G.2.1, 256, .inl (gn pc9))), (aw, .inl (G.2.1, 256, .inl (gn pw9))), (mq, .inr (4, [.ref an, .ref ap, .int (nI st), .ref ak, .ref ai, .ref ad, .ref ac, .ref aw, .int (nI k), .ref at_, .int (nI le), .int (nI th), .int (nI sp), .ref ao, .int (nI tm)])), (an, .inl (G.2.1, 525, .inl (gn nw)))]) (wt := []) (wc := []) (isC := []) rfl (by decide) rfl hl.1 (Nat.le_of_ble_eq_true rfl) dX4_finds_53 ⟨Nat.le_of_ble_eq_true rfl, Nat.le_of_ble_eq_true rfl⟩) hP hD hS (lit := [(ac, .inl (G.2.1, 256, .inl (gn pc9))), (aw, .inl (G.2.1, 256, .inl (gn pw9))), (mq, .inr (4, [.ref an, .ref ap, .int (nI st), .ref ak, .ref ai, .ref ad, .ref ac, .ref aw, .int (nI k), .ref at_, .int (nI le), .int (nI th), .int (nI sp), .ref ao, .int (nI tm)])), (an, .inl (G.2.1, 525, .inl (gn nw)))]) (wt := []) (wc := []) (wr := [(ac, .inl (G.2.1, 256, .inl (gn pc9))), (aw, .inl (G.2.1, 256, .inl (gn pw9))), (mq, .inr (4, [.ref an, .ref ap, .int (nI st), .ref ak, .ref ai, .ref ad, .ref ac, .ref aw, .int (nI k), .ref at_, .int (nI le), .int (nI th), .int (nI sp), .ref ao, .int (nI tm)])), (an, .inl (G.2.1, 525, .inl (gn nw)))]) (isC := []) (isR := [0, 1, 2, 3]) rfl rfl (by decide) (by decide) (fun r53 u H locs hp53 hP hD hS => ?_)
            subst hp53
            have hP : va_P G.1 vwCl [(ac, .inl (G.2.1, 256, .inl (gn pc9))), (aw, .inl (G.2.1, 256, .inl (gn pw9))), (mq, .inr (4, [.ref an, .ref ap, .int (nI st), .ref ak, .ref ai, .ref ad, .ref ac, .ref aw, .int (nI k), .ref at_, .int (nI le), .int (nI th), .int (nI sp), .ref ao, .int (nI tm)])), (an, .inl (G.2.1, 525, .inl (gn nw)))] H := hP
            have hD : va_D A [(ac, .inl (G.2.1, 256, .inl (gn pc9))), (aw, .inl (G.2.1, 256, .inl (gn pw9))), (mq, .inr (4, [.ref an, .ref ap, .int (nI st), .ref ak, .ref ai, .ref ad, .ref ac, .ref aw, .int (nI k), .ref at_, .int (nI le), .int (nI th), .int (nI sp), .ref ao, .int (nI tm)])), (an, .inl (G.2.1, 525, .inl (gn nw)))] := hD
            refine gNast (k := k) (v := mc (gP nw k)) hx hb hK hP hD hS 0 0 rfl rfl (by omega) (by first | decide | omega) dX4_finds_56 (fun H locs hP hD hS => ?_)
            have hP : va_P G.1 vwCl [(ac, .inl (G.2.1, 256, .inl (gn (va_up pc9 k (mc (gP nw k)))))), (aw, .inl (G.2.1, 256, .inl (gn pw9))), (mq, .inr (4, [.ref an, .ref ap, .int (nI st), .ref ak, .ref ai, .ref ad, .ref ac, .ref aw, .int (nI k), .ref at_, .int (nI le), .int (nI th), .int (nI sp), .ref ao, .int (nI tm)])), (an, .inl (G.2.1, 525, .inl (gn nw)))] H := hP
            have hD : va_D A [(ac, .inl (G.2.1, 256, .inl (gn (va_up pc9 k (mc (gP nw k)))))), (aw, .inl (G.2.1, 256, .inl (gn pw9))), (mq, .inr (4, [.ref an, .ref ap, .int (nI st), .ref ak, .ref ai, .ref ad, .ref ac, .ref aw, .int (nI k), .ref at_, .int (nI le), .int (nI th), .int (nI sp), .ref ao, .int (nI tm)])), (an, .inl (G.2.1, 525, .inl (gn nw)))] := hD
            refine lv_aload_n hx hb dX4_finds_57 rfl (lv_at hl 2 rfl) ?_
            refine va_get (D := G.1) (ci := 4) (v := .ref aw) (C := RX4) (T := TX4) (N := 15) hx hb hts hi4 hown hK hP 2 rfl rfl 7 (by decide) (hts (.fieldLink RX4 28 "LandQuartersModel" "plotWide" "[I") (by decide +kernel)) (fun _ h9 => h9) rfl dX4_finds_58 ?_
            refine lv_aload_n hx hb dX4_finds_61 rfl (lv_at hl 2 rfl) ?_
            refine va_get (D := G.1) (ci := 4) (v := .int (nI k)) (C := RX4) (T := TX4) (N := 15) hx hb hts hi4 hown hK hP 2 rfl rfl 8 (by decide) (hts (.fieldLink RX4 52 "LandQuartersModel" "many" "I") (by decide +kernel)) (fun _ h9 => h9) rfl dX4_finds_62 ?_
            refine lv_iload_n hx hb dX4_finds_65 rfl (lv_at hl 0 rfl) ?_
            refine gNast (k := k) (v := z) hx hb hK hP hD hS 1 0 rfl rfl (by omega) (by first | decide | omega) dX4_finds_66 (fun H locs hP hD hS => ?_)
            have hP : va_P G.1 vwCl [(ac, .inl (G.2.1, 256, .inl (gn (va_up pc9 k (mc (gP nw k)))))), (aw, .inl (G.2.1, 256, .inl (gn (va_up pw9 k z)))), (mq, .inr (4, [.ref an, .ref ap, .int (nI st), .ref ak, .ref ai, .ref ad, .ref ac, .ref aw, .int (nI k), .ref at_, .int (nI le), .int (nI th), .int (nI sp), .ref ao, .int (nI tm)])), (an, .inl (G.2.1, 525, .inl (gn nw)))] H := hP
            have hD : va_D A [(ac, .inl (G.2.1, 256, .inl (gn (va_up pc9 k (mc (gP nw k)))))), (aw, .inl (G.2.1, 256, .inl (gn (va_up pw9 k z)))), (mq, .inr (4, [.ref an, .ref ap, .int (nI st), .ref ak, .ref ai, .ref ad, .ref ac, .ref aw, .int (nI k), .ref at_, .int (nI le), .int (nI th), .int (nI sp), .ref ao, .int (nI tm)])), (an, .inl (G.2.1, 525, .inl (gn nw)))] := hD
            refine lv_aload_n hx hb dX4_finds_67 rfl (lv_at hl 2 rfl) ?_
            refine lv_dup hx hb dX4_finds_68 rfl ?_
            refine va_get (D := G.1) (ci := 4) (v := .int (nI k)) (C := RX4) (T := TX4) (N := 15) hx hb hts hi4 hown hK hP 2 rfl rfl 8 (by decide) (hts (.fieldLink RX4 52 "LandQuartersModel" "many" "I") (by decide +kernel)) (fun _ h9 => h9) rfl dX4_finds_69 ?_
            refine lv_iconst (v := nI 1) hx hb dX4_finds_72 (by decide) ?_
            refine gIadd (a := k) (b := 1) hx hb dX4_finds_73 ?_
            refine va_put (D := G.1) (ci := 4) (v := .int (nI (k + 1))) (ty := .int) (C := RX4) (T := TX4) (N := 15) hx hb hts hi4 tyX4 tyX4_ok nmX4 hown hK hP hD hS 2 rfl rfl 8 (by decide) (hts (.fieldLink RX4 52 "LandQuartersModel" "many" "I") (by decide +kernel)) (fun _ h9 => h9) rfl (by decide +kernel) (rfl) (rfl) (Nat.le_of_ble_eq_true rfl) dX4_finds_74 (fun H locs hP hD hS => ?_)
            have hP : va_P G.1 vwCl [(ac, .inl (G.2.1, 256, .inl (gn (va_up pc9 k (mc (gP nw k)))))), (aw, .inl (G.2.1, 256, .inl (gn (va_up pw9 k z)))), (mq, .inr (4, [.ref an, .ref ap, .int (nI st), .ref ak, .ref ai, .ref ad, .ref ac, .ref aw, .int (nI (k + 1)), .ref at_, .int (nI le), .int (nI th), .int (nI sp), .ref ao, .int (nI tm)])), (an, .inl (G.2.1, 525, .inl (gn nw)))] H := hP
            have hD : va_D A [(ac, .inl (G.2.1, 256, .inl (gn (va_up pc9 k (mc (gP nw k)))))), (aw, .inl (G.2.1, 256, .inl (gn (va_up pw9 k z)))), (mq, .inr (4, [.ref an, .ref ap, .int (nI st), .ref ak, .ref ai, .ref ad, .ref ac, .ref aw, .int (nI (k + 1)), .ref at_, .int (nI le), .int (nI th), .int (nI sp), .ref ao, .int (nI tm)])), (an, .inl (G.2.1, 525, .inl (gn nw)))] := hD
            refine lv_iload_n hx hb dX4_finds_77 rfl (lv_at hl 1 rfl) ?_
            refine lv_iload_n hx hb dX4_finds_78 rfl (lv_at hl 0 rfl) ?_
            refine lv_iload_n hx hb dX4_finds_79 rfl (lv_at hl 0 rfl) ?_
            refine gImul (a := z) (b := z) hx hb dX4_finds_80 ?_
            refine gIadd (a := gP nw k) (b := z * z) hx hb dX4_finds_81 ?_
            refine lv_istore_n (lv' := [(1, .int (nI (gP nw k + (z * z)))), (2, .int (nI z)), (0, .ref mq)]) hx hb dX4_finds_82 rfl hl (by decide) rfl (fun ls hl => ?_)
            refine lv_goto (tgt := 7) hx hb dX4_finds_83 (by decide) ?_
            have hP : va_P G.1 vwCl [(mq, .inr (4, [.ref an, .ref ap, .int (nI st), .ref ak, .ref ai, .ref ad, .ref ac, .ref aw, .int (nI (k + 1)), .ref at_, .int (nI le), .int (nI th), .int (nI sp), .ref ao, .int (nI tm)])), (an, .inl (G.2.1, 525, .inl (gn nw))), (ac, .inl (G.2.1, 256, .inl (gn (va_up pc9 k (mc (gP nw k)))))), (aw, .inl (G.2.1, 256, .inl (gn (va_up pw9 k z))))] H := hP.sub (ws' := [(mq, .inr (4, [.ref an, .ref ap, .int (nI st), .ref ak, .ref ai, .ref ad, .ref ac, .ref aw, .int (nI (k + 1)), .ref at_, .int (nI le), .int (nI th), .int (nI sp), .ref ao, .int (nI tm)])), (an, .inl (G.2.1, 525, .inl (gn nw))), (ac, .inl (G.2.1, 256, .inl (gn (va_up pc9 k (mc (gP nw k)))))), (aw, .inl (G.2.1, 256, .inl (gn (va_up pw9 k z))))]) [2, 3, 0, 1] rfl
            have hD : va_D A [(mq, .inr (4, [.ref an, .ref ap, .int (nI st), .ref ak, .ref ai, .ref ad, .ref ac, .ref aw, .int (nI (k + 1)), .ref at_, .int (nI le), .int (nI th), .int (nI sp), .ref ao, .int (nI tm)])), (an, .inl (G.2.1, 525, .inl (gn nw))), (ac, .inl (G.2.1, 256, .inl (gn (va_up pc9 k (mc (gP nw k)))))), (aw, .inl (G.2.1, 256, .inl (gn (va_up pw9 k z))))] := hD.sub (ws' := [(mq, .inr (4, [.ref an, .ref ap, .int (nI st), .ref ak, .ref ai, .ref ad, .ref ac, .ref aw, .int (nI (k + 1)), .ref at_, .int (nI le), .int (nI th), .int (nI sp), .ref ao, .int (nI tm)])), (an, .inl (G.2.1, 525, .inl (gn nw))), (ac, .inl (G.2.1, 256, .inl (gn (va_up pc9 k (mc (gP nw k)))))), (aw, .inl (G.2.1, 256, .inl (gn (va_up pw9 k z))))]) [2, 3, 0, 1] (by decide) rfl
            have hl : lv_has ls 3 [(1, .int (nI (gP nw k + (z * z)))), (0, .ref mq)] := lv_sub hl [0, 2] rfl
            have hle : (.int (nI (gP nw k + (z * z))) : Value) = .int (nI (gP nw (k + 1))) := by rw [gP, ← hzp]
            rw [hle] at hl
            have hy_3 : gP nw (k + 1) ≤ 256 := by exact gP_top nw hp256
            have hy_4 : fnd nw (va_up pc9 k (mc (gP nw k))) (va_up pw9 k z) (k + 1) := by exact fnd_s hf hzp
            exact ih7 (k + 1) (va_up pc9 k (mc (gP nw k))) (va_up pw9 k z) (by have := gP_s nw k; omega) hy_3 hy_4 H locs hP hD hS ls hl
          have hno : ¬ okc nw (gP nw k) z := (fun h => c34 ((okc_iff hp256 hz).mp h).2)
          refine lv_iload_n hx hb dX4_finds_37 rfl (lv_at hl 0 rfl) ?_
          refine lv_iconst (v := nI 2) hx hb dX4_finds_38 (by decide) ?_
          refine gIdiv (a := z) (b := 2) hx hb dX4_finds_39 (by omega) (by have := iszB hz; omega) (by have := iszB hz; omega) ?_
          refine lv_istore_n (lv' := [(2, .int (nI (z / 2))), (1, .int (nI (gP nw k))), (0, .ref mq)]) hx hb dX4_finds_40 rfl hl (by decide) rfl (fun ls hl => ?_)
          refine lv_goto (tgt := 17) hx hb dX4_finds_41 (by decide) ?_
          have hP : va_P G.1 vwCl [(mq, .inr (4, [.ref an, .ref ap, .int (nI st), .ref ak, .ref ai, .ref ad, .ref ac, .ref aw, .int (nI k), .ref at_, .int (nI le), .int (nI th), .int (nI sp), .ref ao, .int (nI tm)])), (an, .inl (G.2.1, 525, .inl (gn nw))), (ac, .inl (G.2.1, 256, .inl (gn pc9))), (aw, .inl (G.2.1, 256, .inl (gn pw9)))] H := hP.sub (ws' := [(mq, .inr (4, [.ref an, .ref ap, .int (nI st), .ref ak, .ref ai, .ref ad, .ref ac, .ref aw, .int (nI k), .ref at_, .int (nI le), .int (nI th), .int (nI sp), .ref ao, .int (nI tm)])), (an, .inl (G.2.1, 525, .inl (gn nw))), (ac, .inl (G.2.1, 256, .inl (gn pc9))), (aw, .inl (G.2.1, 256, .inl (gn pw9)))]) [2, 3, 0, 1] rfl
          have hD : va_D A [(mq, .inr (4, [.ref an, .ref ap, .int (nI st), .ref ak, .ref ai, .ref ad, .ref ac, .ref aw, .int (nI k), .ref at_, .int (nI le), .int (nI th), .int (nI sp), .ref ao, .int (nI tm)])), (an, .inl (G.2.1, 525, .inl (gn nw))), (ac, .inl (G.2.1, 256, .inl (gn pc9))), (aw, .inl (G.2.1, 256, .inl (gn pw9)))] := hD.sub (ws' := [(mq, .inr (4, [.ref an, .ref ap, .int (nI st), .ref ak, .ref ai, .ref ad, .ref ac, .ref aw, .int (nI k), .ref at_, .int (nI le), .int (nI th), .int (nI sp), .ref ao, .int (nI tm)])), (an, .inl (G.2.1, 525, .inl (gn nw))), (ac, .inl (G.2.1, 256, .inl (gn pc9))), (aw, .inl (G.2.1, 256, .inl (gn pw9)))]) [2, 3, 0, 1] (by decide) rfl
          have hl : lv_has ls 3 [(2, .int (nI (z / 2))), (1, .int (nI (gP nw k))), (0, .ref mq)] := lv_sub hl [0, 1, 2] rfl
          have hy_5 : isz (z / 2) := by exact (half_max hz hmax hno).1
          have hy_6 : ∀ w, isz w → (z / 2) < w → ¬ okc nw (gP nw k) w := by exact (half_max hz hmax hno).2
          exact ih17 (z / 2) (by have := iszB hz; omega) hy_5 hy_6 H locs hP hD hS ls hl
      have hl : lv_has ls 3 [(2, .int (nI 16)), (1, .int (nI (gP nw k))), (0, .ref mq)] := lv_sub hl [0, 1, 2] rfl
      have hy_7 : isz 16 := by decide
      have hy_8 : ∀ w, isz w → 16 < w → ¬ okc nw (gP nw k) w := by intro w hw h9; have := iszB hw; omega
      exact L17 _ 16 (Nat.lt_succ_self _) hy_7 hy_8 H locs hP hD hS ls hl
  have hl : lv_has ls 3 [(1, .int (nI 0)), (0, .ref mq)] := lv_sub hl [0, 1] rfl
  have hle : (.int (nI 0) : Value) = .int (nI (gP nw 0)) := by rfl
  rw [hle] at hl
  have hy_9 : gP nw 0 ≤ 256 := by exact Nat.zero_le _
  have hy_10 : fnd nw pC pW 0 := by intro j hj; omega
  exact L7 _ 0 pC pW (Nat.lt_succ_self _) hy_9 hy_10 H locs hP hD hS ls hl

set_option maxHeartbeats 4000000 in
set_option maxRecDepth 100000 in
theorem c_X4_ownerOf (l : Launch) (G : gG) (mq : Nat) (an : Nat) (ap : Nat) (st : Nat) (ak : Nat) (ai : Nat) (ad : Nat) (ac : Nat) (aw : Nat) (mn : Nat) (at_ : Nat) (le : Nat) (th : Nat) (sp : Nat) (ao : Nat) (tm : Nat) (nw : Nat → Nat) (pC : Nat → Nat) (k : Nat) (hk : k < 256) (hpc : pC k < 525) : gMi (S := Unit) l yX4_ownerOf wsX4_ownerOf { frames := 0, cells := 0, slots := 0, locals := 0 } G [.ref mq, .int (nI k)] [(mq, .inr (4, [.ref an, .ref ap, .int (nI st), .ref ak, .ref ai, .ref ad, .ref ac, .ref aw, .int (nI mn), .ref at_, .int (nI le), .int (nI th), .int (nI sp), .ref ao, .int (nI tm)])), (an, .inl (G.2.1, 525, .inl (gn nw))), (ac, .inl (G.2.1, 256, .inl (gn pC)))] (fun (r : Int32) (u : Unit) => (r = nI (nw (pC k)))) (fun u => [(mq, .inr (4, [.ref an, .ref ap, .int (nI st), .ref ak, .ref ai, .ref ad, .ref ac, .ref aw, .int (nI mn), .ref at_, .int (nI le), .int (nI th), .int (nI sp), .ref ao, .int (nI tm)])), (an, .inl (G.2.1, 525, .inl (gn nw))), (ac, .inl (G.2.1, 256, .inl (gn pC)))]) 0 0 := by
  refine gMet_mk (cc := cX4_ownerOf) (nL := 2) (ret := (some .int)) (Qc := fun A => va_Qi (S := Unit) (fun (r : Int32) (u : Unit) => (r = nI (nw (pC k)))) (gB G A (fun (u : Unit) => [(mq, .inr (4, [.ref an, .ref ap, .int (nI st), .ref ak, .ref ai, .ref ad, .ref ac, .ref aw, .int (nI mn), .ref at_, .int (nI le), .int (nI th), .int (nI sp), .ref ao, .int (nI tm)])), (an, .inl (G.2.1, 525, .inl (gn nw))), (ac, .inl (G.2.1, 256, .inl (gn pC)))])) A) (by decide) rfl (Nat.le_of_ble_eq_true rfl) ?_
  intro p e s m args below meth c A F ls hl hP hD hS
  have hx := F.1
  have hb := F.2.1
  have hts := F.2.2.2.2.2.2.1
  have hown : s.vm.findClass RX4 = some m.cls := F.2.2.2.2.2.1
  have hKK := F.2.2.2.2.2.2.2.2.1
  have hK := hKK.1
  have hin0 := F.2.2.2.2.2.2.2.1
  have hi4 : ∀ w ∈ u_ws RX4 TX4 15, w ∈ wsX4_ownerOf := by decide +kernel
  have hl : lv_has ls 2 [(0, .ref mq), (1, .int (nI k))] := hl
  generalize hH : s.heap = H at hP ⊢
  have hS : va_S A s.heap H [] := by rw [← hH]; exact va_S.rf
  generalize hLo : ([] : List Loc) = locs at hS ⊢
  refine lv_aload_n hx hb dX4_ownerOf_0 rfl (lv_at hl 0 rfl) ?_
  refine va_get (D := G.1) (ci := 4) (v := .ref an) (C := RX4) (T := TX4) (N := 15) hx hb hts hi4 hown hK hP 0 rfl rfl 0 (by decide) (hts (.fieldLink RX4 7 "LandQuartersModel" "now" "[I") (by decide +kernel)) (fun _ h9 => h9) rfl dX4_ownerOf_1 ?_
  refine lv_aload_n hx hb dX4_ownerOf_4 rfl (lv_at hl 0 rfl) ?_
  refine va_get (D := G.1) (ci := 4) (v := .ref ac) (C := RX4) (T := TX4) (N := 15) hx hb hts hi4 hown hK hP 0 rfl rfl 6 (by decide) (hts (.fieldLink RX4 25 "LandQuartersModel" "plotCell" "[I") (by decide +kernel)) (fun _ h9 => h9) rfl dX4_ownerOf_5 ?_
  refine lv_iload_n hx hb dX4_ownerOf_8 rfl (lv_at hl 1 rfl) ?_
  refine gNald (k := k) hx hb hK hP 2 0 rfl rfl (by omega) (by first | decide | omega) dX4_ownerOf_9 ?_
  refine gNald (k := pC k) hx hb hK hP 1 0 rfl rfl (by omega) (by first | decide | omega) dX4_ownerOf_10 ?_
  exact gRi F dX4_ownerOf_11 (rfl) () (rfl) hP hD hS (Nat.le_refl _) (Nat.le_refl _)

set_option maxHeartbeats 4000000 in
set_option maxRecDepth 100000 in
theorem c_X4_plotsFor (l : Launch) (G : gG) (mq : Nat) (an : Nat) (ap : Nat) (st : Nat) (ak : Nat) (ai : Nat) (ad : Nat) (ac : Nat) (aw : Nat) (mn : Nat) (at_ : Nat) (le : Nat) (th : Nat) (sp : Nat) (ao : Nat) (tm : Nat) (nw : Nat → Nat) (pC : Nat → Nat) (pW : Nat → Nat) (o : Nat) (how : ∀ k, k < 256 → nw k < 8) (ho : o < 8) : gMi (S := (Nat → Nat) × (Nat → Nat)) l yX4_plotsFor wsX4_plotsFor { frames := 2, cells := 0, slots := 0, locals := 46 } G [.ref mq, .int (nI o)] [(mq, .inr (4, [.ref an, .ref ap, .int (nI st), .ref ak, .ref ai, .ref ad, .ref ac, .ref aw, .int (nI mn), .ref at_, .int (nI le), .int (nI th), .int (nI sp), .ref ao, .int (nI tm)])), (an, .inl (G.2.1, 525, .inl (gn nw))), (ac, .inl (G.2.1, 256, .inl (gn pC))), (aw, .inl (G.2.1, 256, .inl (gn pW)))] (fun (r : Int32) (u : (Nat → Nat) × (Nat → Nat)) => (r = nI (sCnt (svO nw) o (cnt nw))) ∧ (fnd nw u.1 u.2 (cnt nw))) (fun u => [(mq, .inr (4, [.ref an, .ref ap, .int (nI st), .ref ak, .ref ai, .ref ad, .ref ac, .ref aw, .int (nI (cnt nw)), .ref at_, .int (nI le), .int (nI th), .int (nI sp), .ref ao, .int (nI tm)])), (an, .inl (G.2.1, 525, .inl (gn nw))), (ac, .inl (G.2.1, 256, .inl (gn u.1))), (aw, .inl (G.2.1, 256, .inl (gn u.2)))]) 0 0 := by
  refine gMet_mk (cc := cX4_plotsFor) (nL := 4) (ret := (some .int)) (Qc := fun A => va_Qi (S := (Nat → Nat) × (Nat → Nat)) (fun (r : Int32) (u : (Nat → Nat) × (Nat → Nat)) => (r = nI (sCnt (svO nw) o (cnt nw))) ∧ (fnd nw u.1 u.2 (cnt nw))) (gB G A (fun (u : (Nat → Nat) × (Nat → Nat)) => [(mq, .inr (4, [.ref an, .ref ap, .int (nI st), .ref ak, .ref ai, .ref ad, .ref ac, .ref aw, .int (nI (cnt nw)), .ref at_, .int (nI le), .int (nI th), .int (nI sp), .ref ao, .int (nI tm)])), (an, .inl (G.2.1, 525, .inl (gn nw))), (ac, .inl (G.2.1, 256, .inl (gn u.1))), (aw, .inl (G.2.1, 256, .inl (gn u.2)))])) A) (by decide) rfl (Nat.le_of_ble_eq_true rfl) ?_
  intro p e s m args below meth c A F ls hl hP hD hS
  have hx := F.1
  have hb := F.2.1
  have hts := F.2.2.2.2.2.2.1
  have hown : s.vm.findClass RX4 = some m.cls := F.2.2.2.2.2.1
  have hKK := F.2.2.2.2.2.2.2.2.1
  have hK := hKK.1
  have hin0 := F.2.2.2.2.2.2.2.1
  have hi4 : ∀ w ∈ u_ws RX4 TX4 15, w ∈ wsX4_plotsFor := by decide +kernel
  have hl : lv_has ls 4 [(0, .ref mq), (1, .int (nI o))] := hl
  have hcl := cnt_le nw
  generalize hH : s.heap = H at hP ⊢
  have hS : va_S A s.heap H [] := by rw [← hH]; exact va_S.rf
  generalize hLo : ([] : List Loc) = locs at hS ⊢
  refine lv_aload_n hx hb dX4_plotsFor_0 rfl (lv_at hl 0 rfl) ?_
  refine gCv F (gRunV (own := RX4) (C := RX4) (ci := 4) (bytes := cX4_finds) (n := 0) (As := []) (rest := []) F (c_X4_finds l G mq an ap st ak ai ad ac aw mn at_ le th sp ao tm nw pC pW (by first | assumption | omega) H.size) gX4_plotsFor_X4_finds rfl rfl rfl rfl (by decide +kernel) rfl ⟨Nat.le_of_ble_eq_true rfl, Nat.le_of_ble_eq_true rfl⟩ hP hD (lit := [(mq, .inr (4, [.ref an, .ref ap, .int (nI st), .ref ak, .ref ai, .ref ad, .ref ac, .ref aw, .int (nI mn), .ref at_, .int (nI le), .int (nI th), .int (nI sp), .ref ao, .int (nI tm)])), (an, .inl (G.2.1, 525, .inl (gn nw))), (ac, .inl (G.2.1, 256, .inl (gn pC))), (aw, .inl (G.2.1, 256, .inl (gn pW)))]) (wt := []) (wc := [(mq, .inr (4, [.ref an, .ref ap, .int (nI st), .ref ak, .ref ai, .ref ad, .ref ac, .ref aw, .int (nI mn), .ref at_, .int (nI le), .int (nI th), .int (nI sp), .ref ao, .int (nI tm)])), (an, .inl (G.2.1, 525, .inl (gn nw))), (ac, .inl (G.2.1, 256, .inl (gn pC))), (aw, .inl (G.2.1, 256, .inl (gn pW)))]) (isC := [0, 1, 2, 3]) rfl (by decide) rfl rfl rfl hl.1 (Nat.le_of_ble_eq_true rfl) dX4_plotsFor_1 ⟨Nat.le_of_ble_eq_true rfl, Nat.le_of_ble_eq_true rfl⟩) hP hD hS (lit := [(mq, .inr (4, [.ref an, .ref ap, .int (nI st), .ref ak, .ref ai, .ref ad, .ref ac, .ref aw, .int (nI mn), .ref at_, .int (nI le), .int (nI th), .int (nI sp), .ref ao, .int (nI tm)])), (an, .inl (G.2.1, 525, .inl (gn nw))), (ac, .inl (G.2.1, 256, .inl (gn pC))), (aw, .inl (G.2.1, 256, .inl (gn pW)))]) (wt := []) (wc := [(mq, .inr (4, [.ref an, .ref ap, .int (nI st), .ref ak, .ref ai, .ref ad, .ref ac, .ref aw, .int (nI mn), .ref at_, .int (nI le), .int (nI th), .int (nI sp), .ref ao, .int (nI tm)])), (an, .inl (G.2.1, 525, .inl (gn nw))), (ac, .inl (G.2.1, 256, .inl (gn pC))), (aw, .inl (G.2.1, 256, .inl (gn pW)))]) (wr := []) (isC := [0, 1, 2, 3]) (isR := []) rfl rfl (by decide) (by decide) (fun u H locs hp1 hP hD hS => ?_)
  obtain ⟨pc1, pw1⟩ := u
  try dsimp only at hp1
  have hP : va_P G.1 vwCl [(mq, .inr (4, [.ref an, .ref ap, .int (nI st), .ref ak, .ref ai, .ref ad, .ref ac, .ref aw, .int (nI (cnt nw)), .ref at_, .int (nI le), .int (nI th), .int (nI sp), .ref ao, .int (nI tm)])), (an, .inl (G.2.1, 525, .inl (gn nw))), (ac, .inl (G.2.1, 256, .inl (gn pc1))), (aw, .inl (G.2.1, 256, .inl (gn pw1)))] H := hP
  have hD : va_D A [(mq, .inr (4, [.ref an, .ref ap, .int (nI st), .ref ak, .ref ai, .ref ad, .ref ac, .ref aw, .int (nI (cnt nw)), .ref at_, .int (nI le), .int (nI th), .int (nI sp), .ref ao, .int (nI tm)])), (an, .inl (G.2.1, 525, .inl (gn nw))), (ac, .inl (G.2.1, 256, .inl (gn pc1))), (aw, .inl (G.2.1, 256, .inl (gn pw1)))] := hD
  refine lv_iconst (v := nI 0) hx hb dX4_plotsFor_4 (by decide) ?_
  refine lv_istore_n (lv' := [(2, .int (nI 0)), (0, .ref mq), (1, .int (nI o))]) hx hb dX4_plotsFor_5 rfl hl (by decide) rfl (fun ls hl => ?_)
  refine lv_iconst (v := nI 0) hx hb dX4_plotsFor_6 (by decide) ?_
  refine lv_istore_n (lv' := [(3, .int (nI 0)), (2, .int (nI 0)), (0, .ref mq), (1, .int (nI o))]) hx hb dX4_plotsFor_7 rfl hl (by decide) rfl (fun ls hl => ?_)
  have L8 : ∀ (fuel : Nat) (k : Nat), cnt nw - k < fuel → (k ≤ cnt nw) → ∀ (H : Heap) (locs : List Loc), va_P G.1 vwCl [(mq, .inr (4, [.ref an, .ref ap, .int (nI st), .ref ak, .ref ai, .ref ad, .ref ac, .ref aw, .int (nI (cnt nw)), .ref at_, .int (nI le), .int (nI th), .int (nI sp), .ref ao, .int (nI tm)])), (an, .inl (G.2.1, 525, .inl (gn nw))), (ac, .inl (G.2.1, 256, .inl (gn pc1))), (aw, .inl (G.2.1, 256, .inl (gn pw1)))] H → va_D A [(mq, .inr (4, [.ref an, .ref ap, .int (nI st), .ref ak, .ref ai, .ref ad, .ref ac, .ref aw, .int (nI (cnt nw)), .ref at_, .int (nI le), .int (nI th), .int (nI sp), .ref ao, .int (nI tm)])), (an, .inl (G.2.1, 525, .inl (gn nw))), (ac, .inl (G.2.1, 256, .inl (gn pc1))), (aw, .inl (G.2.1, 256, .inl (gn pw1)))] → va_S A s.heap H locs → ∀ (ls : Array Slot), lv_has ls 4 [(3, .int (nI k)), (2, .int (nI (sCnt (svO nw) o k))), (0, .ref mq), (1, .int (nI o))] → W p l e ({ frames := 2, cells := 0, slots := 0, locals := 46 } : Room) s m args below meth c H locs 0 0 (MQ below (va_Qi (S := (Nat → Nat) × (Nat → Nat)) (fun (r : Int32) (u : (Nat → Nat) × (Nat → Nat)) => (r = nI (sCnt (svO nw) o (cnt nw))) ∧ (fnd nw u.1 u.2 (cnt nw))) (gB G A (fun (u : (Nat → Nat) × (Nat → Nat)) => [(mq, .inr (4, [.ref an, .ref ap, .int (nI st), .ref ak, .ref ai, .ref ad, .ref ac, .ref aw, .int (nI (cnt nw)), .ref at_, .int (nI le), .int (nI th), .int (nI sp), .ref ao, .int (nI tm)])), (an, .inl (G.2.1, 525, .inl (gn nw))), (ac, .inl (G.2.1, 256, .inl (gn u.1))), (aw, .inl (G.2.1, 256, .inl (gn u.2)))])) A) args s 0 0 A) (F0 m 8 ls []) := by
    intro fuel
    induction fuel with
    | zero => intro k hme; exact absurd hme (Nat.not_lt_zero _)
    | succ fuel ih8 =>
      intro k hme hk H locs hP hD hS ls hl
      refine lv_iload_n hx hb dX4_plotsFor_8 rfl (lv_at hl 0 rfl) ?_
      refine lv_aload_n hx hb dX4_plotsFor_9 rfl (lv_at hl 2 rfl) ?_
      refine va_get (D := G.1) (ci := 4) (v := .int (nI (cnt nw))) (C := RX4) (T := TX4) (N := 15) hx hb hts hi4 hown hK hP 0 rfl rfl 8 (by decide) (hts (.fieldLink RX4 52 "LandQuartersModel" "many" "I") (by decide +kernel)) (fun _ h9 => h9) rfl dX4_plotsFor_10 ?_
      refine gIcmp_ge (a := k) (b := cnt nw) (tgt := 39) hx hb dX4_plotsFor_13 (by decide) (by omega) (by omega) (fun c13 => ?_) (fun c13 => ?_)
      · skip
        refine lv_iload_n hx hb dX4_plotsFor_39 rfl (lv_at hl 1 rfl) ?_
        exact gRi F dX4_plotsFor_40 (rfl) (pc1, pw1) (⟨by rw [show k = cnt nw by omega], hp1⟩) hP hD hS (Nat.le_refl _) (Nat.le_refl _)
      have J31 : ∀  (H : Heap) (locs : List Loc), va_P G.1 vwCl [(mq, .inr (4, [.ref an, .ref ap, .int (nI st), .ref ak, .ref ai, .ref ad, .ref ac, .ref aw, .int (nI (cnt nw)), .ref at_, .int (nI le), .int (nI th), .int (nI sp), .ref ao, .int (nI tm)])), (an, .inl (G.2.1, 525, .inl (gn nw))), (ac, .inl (G.2.1, 256, .inl (gn pc1))), (aw, .inl (G.2.1, 256, .inl (gn pw1)))] H → va_D A [(mq, .inr (4, [.ref an, .ref ap, .int (nI st), .ref ak, .ref ai, .ref ad, .ref ac, .ref aw, .int (nI (cnt nw)), .ref at_, .int (nI le), .int (nI th), .int (nI sp), .ref ao, .int (nI tm)])), (an, .inl (G.2.1, 525, .inl (gn nw))), (ac, .inl (G.2.1, 256, .inl (gn pc1))), (aw, .inl (G.2.1, 256, .inl (gn pw1)))] → va_S A s.heap H locs → ∀ (ls : Array Slot), lv_has ls 4 [(3, .int (nI k)), (2, .int (nI (sCnt (svO nw) o k))), (0, .ref mq), (1, .int (nI o))] → W p l e ({ frames := 2, cells := 0, slots := 0, locals := 46 } : Room) s m args below meth c H locs 0 0 (MQ below (va_Qi (S := (Nat → Nat) × (Nat → Nat)) (fun (r : Int32) (u : (Nat → Nat) × (Nat → Nat)) => (r = nI (sCnt (svO nw) o (cnt nw))) ∧ (fnd nw u.1 u.2 (cnt nw))) (gB G A (fun (u : (Nat → Nat) × (Nat → Nat)) => [(mq, .inr (4, [.ref an, .ref ap, .int (nI st), .ref ak, .ref ai, .ref ad, .ref ac, .ref aw, .int (nI (cnt nw)), .ref at_, .int (nI le), .int (nI th), .int (nI sp), .ref ao, .int (nI tm)])), (an, .inl (G.2.1, 525, .inl (gn nw))), (ac, .inl (G.2.1, 256, .inl (gn u.1))), (aw, .inl (G.2.1, 256, .inl (gn u.2)))])) A) args s 0 0 A) (F0 m 31 ls [.int (nI (if (svO nw k = o) then 1 else 0)), .int (nI (sCnt (svO nw) o k))]) := by
        intro  H locs hP hD hS ls hl
        refine gIadd (a := sCnt (svO nw) o k) (b := (if (svO nw k = o) then 1 else 0)) hx hb dX4_plotsFor_31 ?_
        refine lv_istore_n (lv' := [(2, .int (nI (sCnt (svO nw) o k + (if (svO nw k = o) then 1 else 0)))), (3, .int (nI k)), (0, .ref mq), (1, .int (nI o))]) hx hb dX4_plotsFor_32 rfl hl (by decide) rfl (fun ls hl => ?_)
        refine lv_iinc (v := nI (k + 1)) (lv' := [(3, .int (nI (k + 1))), (2, .int (nI (sCnt (svO nw) o k + (if (svO nw k = o) then 1 else 0)))), (0, .ref mq), (1, .int (nI o))]) hx hb dX4_plotsFor_33 hl (k := 1) rfl (gInc_p _ rfl) (by decide) rfl (fun ls hl => ?_)
        refine lv_goto (tgt := 8) hx hb dX4_plotsFor_36 (by decide) ?_
        have hl : lv_has ls 4 [(3, .int (nI (k + 1))), (2, .int (nI (sCnt (svO nw) o k + (if (svO nw k = o) then 1 else 0)))), (0, .ref mq), (1, .int (nI o))] := lv_sub hl [0, 1, 2, 3] rfl
        have hle : (.int (nI (sCnt (svO nw) o k + (if (svO nw k = o) then 1 else 0))) : Value) = .int (nI (sCnt (svO nw) o (k + 1))) := by rfl
        rw [hle] at hl
        have hy_1 : (k + 1) ≤ cnt nw := by omega
        exact ih8 (k + 1) (by omega) hy_1 H locs hP hD hS ls hl
      refine lv_iload_n hx hb dX4_plotsFor_16 rfl (lv_at hl 1 rfl) ?_
      refine lv_aload_n hx hb dX4_plotsFor_17 rfl (lv_at hl 2 rfl) ?_
      refine lv_iload_n hx hb dX4_plotsFor_18 rfl (lv_at hl 0 rfl) ?_
      refine gCi F (gRunV (own := RX4) (C := RX4) (ci := 4) (bytes := cX4_ownerOf) (n := 1) (As := [.int (nI k)]) (rest := [.int (nI (sCnt (svO nw) o k))]) F (c_X4_ownerOf l G mq an ap st ak ai ad ac aw (cnt nw) at_ le th sp ao tm nw pc1 k (by omega) (by rw [(hp1 k (by omega)).1]; have := mc_lt (gP nw k); omega) H.size) gX4_plotsFor_X4_ownerOf rfl rfl rfl rfl (by decide +kernel) rfl ⟨Nat.le_of_ble_eq_true rfl, Nat.le_of_ble_eq_true rfl⟩ hP hD (lit := [(mq, .inr (4, [.ref an, .ref ap, .int (nI st), .ref ak, .ref ai, .ref ad, .ref ac, .ref aw, .int (nI (cnt nw)), .ref at_, .int (nI le), .int (nI th), .int (nI sp), .ref ao, .int (nI tm)])), (an, .inl (G.2.1, 525, .inl (gn nw))), (ac, .inl (G.2.1, 256, .inl (gn pc1))), (aw, .inl (G.2.1, 256, .inl (gn pw1)))]) (wt := []) (wc := [(mq, .inr (4, [.ref an, .ref ap, .int (nI st), .ref ak, .ref ai, .ref ad, .ref ac, .ref aw, .int (nI (cnt nw)), .ref at_, .int (nI le), .int (nI th), .int (nI sp), .ref ao, .int (nI tm)])), (an, .inl (G.2.1, 525, .inl (gn nw))), (ac, .inl (G.2.1, 256, .inl (gn pc1)))]) (isC := [0, 1, 2]) rfl (by decide) rfl rfl rfl hl.1 (Nat.le_of_ble_eq_true rfl) dX4_plotsFor_19 ⟨Nat.le_of_ble_eq_true rfl, Nat.le_of_ble_eq_true rfl⟩) hP hD hS (lit := [(mq, .inr (4, [.ref an, .ref ap, .int (nI st), .ref ak, .ref ai, .ref ad, .ref ac, .ref aw, .int (nI (cnt nw)), .ref at_, .int (nI le), .int (nI th), .int (nI sp), .ref ao, .int (nI tm)])), (an, .inl (G.2.1, 525, .inl (gn nw))), (ac, .inl (G.2.1, 256, .inl (gn pc1))), (aw, .inl (G.2.1, 256, .inl (gn pw1)))]) (wt := []) (wc := [(mq, .inr (4, [.ref an, .ref ap, .int (nI st), .ref ak, .ref ai, .ref ad, .ref ac, .ref aw, .int (nI (cnt nw)), .ref at_, .int (nI le), .int (nI th), .int (nI sp), .ref ao, .int (nI tm)])), (an, .inl (G.2.1, 525, .inl (gn nw))), (ac, .inl (G.2.1, 256, .inl (gn pc1)))]) (wr := [(aw, .inl (G.2.1, 256, .inl (gn pw1)))]) (isC := [0, 1, 2]) (isR := [3]) rfl rfl (by decide) (by decide) (fun r19 u H locs hp19 hP hD hS => ?_)
      subst hp19
      have hP : va_P G.1 vwCl [(aw, .inl (G.2.1, 256, .inl (gn pw1))), (mq, .inr (4, [.ref an, .ref ap, .int (nI st), .ref ak, .ref ai, .ref ad, .ref ac, .ref aw, .int (nI (cnt nw)), .ref at_, .int (nI le), .int (nI th), .int (nI sp), .ref ao, .int (nI tm)])), (an, .inl (G.2.1, 525, .inl (gn nw))), (ac, .inl (G.2.1, 256, .inl (gn pc1)))] H := hP
      have hD : va_D A [(aw, .inl (G.2.1, 256, .inl (gn pw1))), (mq, .inr (4, [.ref an, .ref ap, .int (nI st), .ref ak, .ref ai, .ref ad, .ref ac, .ref aw, .int (nI (cnt nw)), .ref at_, .int (nI le), .int (nI th), .int (nI sp), .ref ao, .int (nI tm)])), (an, .inl (G.2.1, 525, .inl (gn nw))), (ac, .inl (G.2.1, 256, .inl (gn pc1)))] := hD
      refine W.eq (g2 := F0 m 22 ls [.int (nI (svO nw k)), .int (nI (sCnt (svO nw) o k))]) (by rw [show (nI (nw (pc1 k)) : Int32) = nI (svO nw k) from by rw [svO, (hp1 k (by omega)).1]]) ?_
      refine lv_iload_n hx hb dX4_plotsFor_22 rfl (lv_at hl 3 rfl) ?_
      refine gIcmp_ne (a := svO nw k) (b := o) (tgt := 30) hx hb dX4_plotsFor_23 (by decide) (by have := how (mc (gP nw k)) (mc_lt _); show svO nw k < _; unfold svO; omega) (by omega) (fun c23 => ?_) (fun c23 => ?_)
      · skip
        refine lv_iconst (v := nI 0) hx hb dX4_plotsFor_30 (by decide) ?_
        have hP : va_P G.1 vwCl [(mq, .inr (4, [.ref an, .ref ap, .int (nI st), .ref ak, .ref ai, .ref ad, .ref ac, .ref aw, .int (nI (cnt nw)), .ref at_, .int (nI le), .int (nI th), .int (nI sp), .ref ao, .int (nI tm)])), (an, .inl (G.2.1, 525, .inl (gn nw))), (ac, .inl (G.2.1, 256, .inl (gn pc1))), (aw, .inl (G.2.1, 256, .inl (gn pw1)))] H := hP.sub (ws' := [(mq, .inr (4, [.ref an, .ref ap, .int (nI st), .ref ak, .ref ai, .ref ad, .ref ac, .ref aw, .int (nI (cnt nw)), .ref at_, .int (nI le), .int (nI th), .int (nI sp), .ref ao, .int (nI tm)])), (an, .inl (G.2.1, 525, .inl (gn nw))), (ac, .inl (G.2.1, 256, .inl (gn pc1))), (aw, .inl (G.2.1, 256, .inl (gn pw1)))]) [1, 2, 3, 0] rfl
        have hD : va_D A [(mq, .inr (4, [.ref an, .ref ap, .int (nI st), .ref ak, .ref ai, .ref ad, .ref ac, .ref aw, .int (nI (cnt nw)), .ref at_, .int (nI le), .int (nI th), .int (nI sp), .ref ao, .int (nI tm)])), (an, .inl (G.2.1, 525, .inl (gn nw))), (ac, .inl (G.2.1, 256, .inl (gn pc1))), (aw, .inl (G.2.1, 256, .inl (gn pw1)))] := hD.sub (ws' := [(mq, .inr (4, [.ref an, .ref ap, .int (nI st), .ref ak, .ref ai, .ref ad, .ref ac, .ref aw, .int (nI (cnt nw)), .ref at_, .int (nI le), .int (nI th), .int (nI sp), .ref ao, .int (nI tm)])), (an, .inl (G.2.1, 525, .inl (gn nw))), (ac, .inl (G.2.1, 256, .inl (gn pc1))), (aw, .inl (G.2.1, 256, .inl (gn pw1)))]) [1, 2, 3, 0] (by decide) rfl
        have hl : lv_has ls 4 [(3, .int (nI k)), (2, .int (nI (sCnt (svO nw) o k))), (0, .ref mq), (1, .int (nI o))] := lv_sub hl [0, 1, 2, 3] rfl
        have hse : (.int (nI 0) : Value) = .int (nI (if (svO nw k = o) then 1 else 0)) := by first | rw [if_pos c23] | rw [if_neg c23]
        refine W.eq (g2 := F0 m 31 ls [.int (nI (if (svO nw k = o) then 1 else 0)), .int (nI (sCnt (svO nw) o k))]) (congrArg (fun v_ => F0 m 31 ls [v_, .int (nI (sCnt (svO nw) o k))]) hse) ?_
        exact J31  H locs hP hD hS ls hl
      refine lv_iconst (v := nI 1) hx hb dX4_plotsFor_26 (by decide) ?_
      refine lv_goto (tgt := 31) hx hb dX4_plotsFor_27 (by decide) ?_
      have hP : va_P G.1 vwCl [(mq, .inr (4, [.ref an, .ref ap, .int (nI st), .ref ak, .ref ai, .ref ad, .ref ac, .ref aw, .int (nI (cnt nw)), .ref at_, .int (nI le), .int (nI th), .int (nI sp), .ref ao, .int (nI tm)])), (an, .inl (G.2.1, 525, .inl (gn nw))), (ac, .inl (G.2.1, 256, .inl (gn pc1))), (aw, .inl (G.2.1, 256, .inl (gn pw1)))] H := hP.sub (ws' := [(mq, .inr (4, [.ref an, .ref ap, .int (nI st), .ref ak, .ref ai, .ref ad, .ref ac, .ref aw, .int (nI (cnt nw)), .ref at_, .int (nI le), .int (nI th), .int (nI sp), .ref ao, .int (nI tm)])), (an, .inl (G.2.1, 525, .inl (gn nw))), (ac, .inl (G.2.1, 256, .inl (gn pc1))), (aw, .inl (G.2.1, 256, .inl (gn pw1)))]) [1, 2, 3, 0] rfl
      have hD : va_D A [(mq, .inr (4, [.ref an, .ref ap, .int (nI st), .ref ak, .ref ai, .ref ad, .ref ac, .ref aw, .int (nI (cnt nw)), .ref at_, .int (nI le), .int (nI th), .int (nI sp), .ref ao, .int (nI tm)])), (an, .inl (G.2.1, 525, .inl (gn nw))), (ac, .inl (G.2.1, 256, .inl (gn pc1))), (aw, .inl (G.2.1, 256, .inl (gn pw1)))] := hD.sub (ws' := [(mq, .inr (4, [.ref an, .ref ap, .int (nI st), .ref ak, .ref ai, .ref ad, .ref ac, .ref aw, .int (nI (cnt nw)), .ref at_, .int (nI le), .int (nI th), .int (nI sp), .ref ao, .int (nI tm)])), (an, .inl (G.2.1, 525, .inl (gn nw))), (ac, .inl (G.2.1, 256, .inl (gn pc1))), (aw, .inl (G.2.1, 256, .inl (gn pw1)))]) [1, 2, 3, 0] (by decide) rfl
      have hl : lv_has ls 4 [(3, .int (nI k)), (2, .int (nI (sCnt (svO nw) o k))), (0, .ref mq), (1, .int (nI o))] := lv_sub hl [0, 1, 2, 3] rfl
      have hse : (.int (nI 1) : Value) = .int (nI (if (svO nw k = o) then 1 else 0)) := by first | rw [if_pos c23] | rw [if_neg c23]
      refine W.eq (g2 := F0 m 31 ls [.int (nI (if (svO nw k = o) then 1 else 0)), .int (nI (sCnt (svO nw) o k))]) (congrArg (fun v_ => F0 m 31 ls [v_, .int (nI (sCnt (svO nw) o k))]) hse) ?_
      exact J31  H locs hP hD hS ls hl
  have hl : lv_has ls 4 [(3, .int (nI 0)), (2, .int (nI 0)), (0, .ref mq), (1, .int (nI o))] := lv_sub hl [0, 1, 2, 3] rfl
  have hle : (.int (nI 0) : Value) = .int (nI (sCnt (svO nw) o 0)) := by rfl
  rw [hle] at hl
  have hy_2 : 0 ≤ cnt nw := by omega
  exact L8 _ 0 (Nat.lt_succ_self _) hy_2 H locs hP hD hS ls hl

set_option maxHeartbeats 4000000 in
set_option maxRecDepth 100000 in
theorem c_X4_plotAt (l : Launch) (G : gG) (mq : Nat) (an : Nat) (ap : Nat) (st : Nat) (ak : Nat) (ai : Nat) (ad : Nat) (ac : Nat) (aw : Nat) (mn : Nat) (at_ : Nat) (le : Nat) (th : Nat) (sp : Nat) (ao : Nat) (tm : Nat) (nw : Nat → Nat) (pC : Nat → Nat) (pW : Nat → Nat) (x : Nat) (y : Nat) (how : ∀ k, k < 256 → nw k < 8) (hx16 : x < 16) (hy16 : y < 16) : gMi (S := (Nat → Nat) × (Nat → Nat)) l yX4_plotAt wsX4_plotAt { frames := 2, cells := 0, slots := 0, locals := 46 } G [.ref mq, .int (nI x), .int (nI y)] [(mq, .inr (4, [.ref an, .ref ap, .int (nI st), .ref ak, .ref ai, .ref ad, .ref ac, .ref aw, .int (nI mn), .ref at_, .int (nI le), .int (nI th), .int (nI sp), .ref ao, .int (nI tm)])), (an, .inl (G.2.1, 525, .inl (gn nw))), (ac, .inl (G.2.1, 256, .inl (gn pC))), (aw, .inl (G.2.1, 256, .inl (gn pW)))] (fun (r : Int32) (u : (Nat → Nat) × (Nat → Nat)) => (r = nI (rkA nw x y)) ∧ (fnd nw u.1 u.2 (cnt nw))) (fun u => [(mq, .inr (4, [.ref an, .ref ap, .int (nI st), .ref ak, .ref ai, .ref ad, .ref ac, .ref aw, .int (nI (cnt nw)), .ref at_, .int (nI le), .int (nI th), .int (nI sp), .ref ao, .int (nI tm)])), (an, .inl (G.2.1, 525, .inl (gn nw))), (ac, .inl (G.2.1, 256, .inl (gn u.1))), (aw, .inl (G.2.1, 256, .inl (gn u.2)))]) 0 0 := by
  refine gMet_mk (cc := cX4_plotAt) (nL := 7) (ret := (some .int)) (Qc := fun A => va_Qi (S := (Nat → Nat) × (Nat → Nat)) (fun (r : Int32) (u : (Nat → Nat) × (Nat → Nat)) => (r = nI (rkA nw x y)) ∧ (fnd nw u.1 u.2 (cnt nw))) (gB G A (fun (u : (Nat → Nat) × (Nat → Nat)) => [(mq, .inr (4, [.ref an, .ref ap, .int (nI st), .ref ak, .ref ai, .ref ad, .ref ac, .ref aw, .int (nI (cnt nw)), .ref at_, .int (nI le), .int (nI th), .int (nI sp), .ref ao, .int (nI tm)])), (an, .inl (G.2.1, 525, .inl (gn nw))), (ac, .inl (G.2.1, 256, .inl (gn u.1))), (aw, .inl (G.2.1, 256, .inl (gn u.2)))])) A) (by decide) rfl (Nat.le_of_ble_eq_true rfl) ?_
  intro p e s m args below meth c A F ls hl hP hD hS
  have hx := F.1
  have hb := F.2.1
  have hts := F.2.2.2.2.2.2.1
  have hown : s.vm.findClass RX4 = some m.cls := F.2.2.2.2.2.1
  have hKK := F.2.2.2.2.2.2.2.2.1
  have hK := hKK.1
  have hin0 := F.2.2.2.2.2.2.2.1
  have hi4 : ∀ w ∈ u_ws RX4 TX4 15, w ∈ wsX4_plotAt := by decide +kernel
  have hl : lv_has ls 7 [(0, .ref mq), (1, .int (nI x)), (2, .int (nI y))] := hl
  have hcl := cnt_le nw
  generalize hH : s.heap = H at hP ⊢
  have hS : va_S A s.heap H [] := by rw [← hH]; exact va_S.rf
  generalize hLo : ([] : List Loc) = locs at hS ⊢
  refine lv_aload_n hx hb dX4_plotAt_0 rfl (lv_at hl 0 rfl) ?_
  refine gCv F (gRunV (own := RX4) (C := RX4) (ci := 4) (bytes := cX4_finds) (n := 0) (As := []) (rest := []) F (c_X4_finds l G mq an ap st ak ai ad ac aw mn at_ le th sp ao tm nw pC pW (by first | assumption | omega) H.size) gX4_plotAt_X4_finds rfl rfl rfl rfl (by decide +kernel) rfl ⟨Nat.le_of_ble_eq_true rfl, Nat.le_of_ble_eq_true rfl⟩ hP hD (lit := [(mq, .inr (4, [.ref an, .ref ap, .int (nI st), .ref ak, .ref ai, .ref ad, .ref ac, .ref aw, .int (nI mn), .ref at_, .int (nI le), .int (nI th), .int (nI sp), .ref ao, .int (nI tm)])), (an, .inl (G.2.1, 525, .inl (gn nw))), (ac, .inl (G.2.1, 256, .inl (gn pC))), (aw, .inl (G.2.1, 256, .inl (gn pW)))]) (wt := []) (wc := [(mq, .inr (4, [.ref an, .ref ap, .int (nI st), .ref ak, .ref ai, .ref ad, .ref ac, .ref aw, .int (nI mn), .ref at_, .int (nI le), .int (nI th), .int (nI sp), .ref ao, .int (nI tm)])), (an, .inl (G.2.1, 525, .inl (gn nw))), (ac, .inl (G.2.1, 256, .inl (gn pC))), (aw, .inl (G.2.1, 256, .inl (gn pW)))]) (isC := [0, 1, 2, 3]) rfl (by decide) rfl rfl rfl hl.1 (Nat.le_of_ble_eq_true rfl) dX4_plotAt_1 ⟨Nat.le_of_ble_eq_true rfl, Nat.le_of_ble_eq_true rfl⟩) hP hD hS (lit := [(mq, .inr (4, [.ref an, .ref ap, .int (nI st), .ref ak, .ref ai, .ref ad, .ref ac, .ref aw, .int (nI mn), .ref at_, .int (nI le), .int (nI th), .int (nI sp), .ref ao, .int (nI tm)])), (an, .inl (G.2.1, 525, .inl (gn nw))), (ac, .inl (G.2.1, 256, .inl (gn pC))), (aw, .inl (G.2.1, 256, .inl (gn pW)))]) (wt := []) (wc := [(mq, .inr (4, [.ref an, .ref ap, .int (nI st), .ref ak, .ref ai, .ref ad, .ref ac, .ref aw, .int (nI mn), .ref at_, .int (nI le), .int (nI th), .int (nI sp), .ref ao, .int (nI tm)])), (an, .inl (G.2.1, 525, .inl (gn nw))), (ac, .inl (G.2.1, 256, .inl (gn pC))), (aw, .inl (G.2.1, 256, .inl (gn pW)))]) (wr := []) (isC := [0, 1, 2, 3]) (isR := []) rfl rfl (by decide) (by decide) (fun u H locs hp1 hP hD hS => ?_)
  obtain ⟨pc1, pw1⟩ := u
  try dsimp only at hp1
  have hP : va_P G.1 vwCl [(mq, .inr (4, [.ref an, .ref ap, .int (nI st), .ref ak, .ref ai, .ref ad, .ref ac, .ref aw, .int (nI (cnt nw)), .ref at_, .int (nI le), .int (nI th), .int (nI sp), .ref ao, .int (nI tm)])), (an, .inl (G.2.1, 525, .inl (gn nw))), (ac, .inl (G.2.1, 256, .inl (gn pc1))), (aw, .inl (G.2.1, 256, .inl (gn pw1)))] H := hP
  have hD : va_D A [(mq, .inr (4, [.ref an, .ref ap, .int (nI st), .ref ak, .ref ai, .ref ad, .ref ac, .ref aw, .int (nI (cnt nw)), .ref at_, .int (nI le), .int (nI th), .int (nI sp), .ref ao, .int (nI tm)])), (an, .inl (G.2.1, 525, .inl (gn nw))), (ac, .inl (G.2.1, 256, .inl (gn pc1))), (aw, .inl (G.2.1, 256, .inl (gn pw1)))] := hD
  refine lv_iconst (v := nI 0) hx hb dX4_plotAt_4 (by decide) ?_
  refine lv_istore_n (lv' := [(3, .int (nI 0)), (0, .ref mq), (1, .int (nI x)), (2, .int (nI y))]) hx hb dX4_plotAt_5 rfl hl (by decide) rfl (fun ls hl => ?_)
  refine lv_iconst (v := nI 0) hx hb dX4_plotAt_6 (by decide) ?_
  refine lv_istore (lv' := [(4, .int (nI 0)), (3, .int (nI 0)), (0, .ref mq), (1, .int (nI x)), (2, .int (nI y))]) hx hb dX4_plotAt_7 hl (by decide) rfl (fun ls hl => ?_)
  have L9 : ∀ (fuel : Nat) (k : Nat), cnt nw - k < fuel → (k ≤ cnt nw) → ∀ (H : Heap) (locs : List Loc), va_P G.1 vwCl [(mq, .inr (4, [.ref an, .ref ap, .int (nI st), .ref ak, .ref ai, .ref ad, .ref ac, .ref aw, .int (nI (cnt nw)), .ref at_, .int (nI le), .int (nI th), .int (nI sp), .ref ao, .int (nI tm)])), (an, .inl (G.2.1, 525, .inl (gn nw))), (ac, .inl (G.2.1, 256, .inl (gn pc1))), (aw, .inl (G.2.1, 256, .inl (gn pw1)))] H → va_D A [(mq, .inr (4, [.ref an, .ref ap, .int (nI st), .ref ak, .ref ai, .ref ad, .ref ac, .ref aw, .int (nI (cnt nw)), .ref at_, .int (nI le), .int (nI th), .int (nI sp), .ref ao, .int (nI tm)])), (an, .inl (G.2.1, 525, .inl (gn nw))), (ac, .inl (G.2.1, 256, .inl (gn pc1))), (aw, .inl (G.2.1, 256, .inl (gn pw1)))] → va_S A s.heap H locs → ∀ (ls : Array Slot), lv_has ls 7 [(4, .int (nI k)), (3, .int (nI (if rkA nw x y < k then rkA nw x y else 0))), (0, .ref mq), (1, .int (nI x)), (2, .int (nI y))] → W p l e ({ frames := 2, cells := 0, slots := 0, locals := 46 } : Room) s m args below meth c H locs 0 0 (MQ below (va_Qi (S := (Nat → Nat) × (Nat → Nat)) (fun (r : Int32) (u : (Nat → Nat) × (Nat → Nat)) => (r = nI (rkA nw x y)) ∧ (fnd nw u.1 u.2 (cnt nw))) (gB G A (fun (u : (Nat → Nat) × (Nat → Nat)) => [(mq, .inr (4, [.ref an, .ref ap, .int (nI st), .ref ak, .ref ai, .ref ad, .ref ac, .ref aw, .int (nI (cnt nw)), .ref at_, .int (nI le), .int (nI th), .int (nI sp), .ref ao, .int (nI tm)])), (an, .inl (G.2.1, 525, .inl (gn nw))), (ac, .inl (G.2.1, 256, .inl (gn u.1))), (aw, .inl (G.2.1, 256, .inl (gn u.2)))])) A) args s 0 0 A) (F0 m 9 ls []) := by
    intro fuel
    induction fuel with
    | zero => intro k hme; exact absurd hme (Nat.not_lt_zero _)
    | succ fuel ih9 =>
      intro k hme hk H locs hP hD hS ls hl
      refine lv_iload hx hb dX4_plotAt_9 (lv_at hl 0 rfl) ?_
      refine lv_aload_n hx hb dX4_plotAt_11 rfl (lv_at hl 2 rfl) ?_
      refine va_get (D := G.1) (ci := 4) (v := .int (nI (cnt nw))) (C := RX4) (T := TX4) (N := 15) hx hb hts hi4 hown hK hP 0 rfl rfl 8 (by decide) (hts (.fieldLink RX4 52 "LandQuartersModel" "many" "I") (by decide +kernel)) (fun _ h9 => h9) rfl dX4_plotAt_12 ?_
      refine gIcmp_ge (a := k) (b := cnt nw) (tgt := 97) hx hb dX4_plotAt_15 (by decide) (by omega) (by omega) (fun c15 => ?_) (fun c15 => ?_)
      · skip
        refine lv_iload_n hx hb dX4_plotAt_97 rfl (lv_at hl 1 rfl) ?_
        exact gRi F dX4_plotAt_98 (rfl) (pc1, pw1) (⟨by rw [show k = cnt nw by omega, if_pos (rkA_lt nw x y)], hp1⟩) hP hD hS (Nat.le_refl _) (Nat.le_refl _)
      have hlt : k < cnt nw := (by omega); obtain ⟨hf1, hf2⟩ := hp1 k hlt; have hpl := plIn hlt hx16 hy16; have hmx := mc_xy (gP nw k); have hpz := psz_pos nw (gP nw k); have hm16 := mc_lt (gP nw k); rw [← hf1] at hmx hm16; rw [← hf2] at hpl hpz; rw [← hmx.1, ← hmx.2] at hpl
      refine lv_aload_n hx hb dX4_plotAt_18 rfl (lv_at hl 2 rfl) ?_
      refine va_get (D := G.1) (ci := 4) (v := .ref ac) (C := RX4) (T := TX4) (N := 15) hx hb hts hi4 hown hK hP 0 rfl rfl 6 (by decide) (hts (.fieldLink RX4 25 "LandQuartersModel" "plotCell" "[I") (by decide +kernel)) (fun _ h9 => h9) rfl dX4_plotAt_19 ?_
      refine lv_iload hx hb dX4_plotAt_22 (lv_at hl 0 rfl) ?_
      refine gNald (k := k) hx hb hK hP 2 0 rfl rfl (by omega) (by first | decide | omega) dX4_plotAt_24 ?_
      refine lv_bipush (v := nI 16) hx hb dX4_plotAt_25 (by decide) ?_
      refine gIrem (a := pc1 k) (b := 16) hx hb dX4_plotAt_27 (by omega) (by omega) (by omega) ?_
      refine lv_istore (lv' := [(5, .int (nI ((pc1 k) % 16))), (4, .int (nI k)), (3, .int (nI (if rkA nw x y < k then rkA nw x y else 0))), (0, .ref mq), (1, .int (nI x)), (2, .int (nI y))]) hx hb dX4_plotAt_28 hl (by decide) rfl (fun ls hl => ?_)
      refine lv_aload_n hx hb dX4_plotAt_30 rfl (lv_at hl 3 rfl) ?_
      refine va_get (D := G.1) (ci := 4) (v := .ref ac) (C := RX4) (T := TX4) (N := 15) hx hb hts hi4 hown hK hP 0 rfl rfl 6 (by decide) (hts (.fieldLink RX4 25 "LandQuartersModel" "plotCell" "[I") (by decide +kernel)) (fun _ h9 => h9) rfl dX4_plotAt_31 ?_
      refine lv_iload hx hb dX4_plotAt_34 (lv_at hl 1 rfl) ?_
      refine gNald (k := k) hx hb hK hP 2 0 rfl rfl (by omega) (by first | decide | omega) dX4_plotAt_36 ?_
      refine lv_bipush (v := nI 16) hx hb dX4_plotAt_37 (by decide) ?_
      refine gIdiv (a := pc1 k) (b := 16) hx hb dX4_plotAt_39 (by omega) (by omega) (by omega) ?_
      refine lv_istore (lv' := [(6, .int (nI ((pc1 k) / 16))), (5, .int (nI ((pc1 k) % 16))), (4, .int (nI k)), (3, .int (nI (if rkA nw x y < k then rkA nw x y else 0))), (0, .ref mq), (1, .int (nI x)), (2, .int (nI y))]) hx hb dX4_plotAt_40 hl (by decide) rfl (fun ls hl => ?_)
      have J90 : ∀  (H : Heap) (locs : List Loc), va_P G.1 vwCl [(mq, .inr (4, [.ref an, .ref ap, .int (nI st), .ref ak, .ref ai, .ref ad, .ref ac, .ref aw, .int (nI (cnt nw)), .ref at_, .int (nI le), .int (nI th), .int (nI sp), .ref ao, .int (nI tm)])), (an, .inl (G.2.1, 525, .inl (gn nw))), (ac, .inl (G.2.1, 256, .inl (gn pc1))), (aw, .inl (G.2.1, 256, .inl (gn pw1)))] H → va_D A [(mq, .inr (4, [.ref an, .ref ap, .int (nI st), .ref ak, .ref ai, .ref ad, .ref ac, .ref aw, .int (nI (cnt nw)), .ref at_, .int (nI le), .int (nI th), .int (nI sp), .ref ao, .int (nI tm)])), (an, .inl (G.2.1, 525, .inl (gn nw))), (ac, .inl (G.2.1, 256, .inl (gn pc1))), (aw, .inl (G.2.1, 256, .inl (gn pw1)))] → va_S A s.heap H locs → ∀ (ls : Array Slot), lv_has ls 7 [(6, .int (nI ((pc1 k) / 16))), (5, .int (nI ((pc1 k) % 16))), (4, .int (nI k)), (3, .int (nI (if rkA nw x y < k then rkA nw x y else 0))), (0, .ref mq), (1, .int (nI x)), (2, .int (nI y))] → W p l e ({ frames := 2, cells := 0, slots := 0, locals := 46 } : Room) s m args below meth c H locs 0 0 (MQ below (va_Qi (S := (Nat → Nat) × (Nat → Nat)) (fun (r : Int32) (u : (Nat → Nat) × (Nat → Nat)) => (r = nI (rkA nw x y)) ∧ (fnd nw u.1 u.2 (cnt nw))) (gB G A (fun (u : (Nat → Nat) × (Nat → Nat)) => [(mq, .inr (4, [.ref an, .ref ap, .int (nI st), .ref ak, .ref ai, .ref ad, .ref ac, .ref aw, .int (nI (cnt nw)), .ref at_, .int (nI le), .int (nI th), .int (nI sp), .ref ao, .int (nI tm)])), (an, .inl (G.2.1, 525, .inl (gn nw))), (ac, .inl (G.2.1, 256, .inl (gn u.1))), (aw, .inl (G.2.1, 256, .inl (gn u.2)))])) A) args s 0 0 A) (F0 m 90 ls [.int (nI (if rkA nw x y < k + 1 then rkA nw x y else 0))]) := by
        intro  H locs hP hD hS ls hl
        refine lv_istore_n (lv' := [(3, .int (nI (if rkA nw x y < k + 1 then rkA nw x y else 0))), (6, .int (nI ((pc1 k) / 16))), (5, .int (nI ((pc1 k) % 16))), (4, .int (nI k)), (0, .ref mq), (1, .int (nI x)), (2, .int (nI y))]) hx hb dX4_plotAt_90 rfl hl (by decide) rfl (fun ls hl => ?_)
        refine lv_iinc (v := nI (k + 1)) (lv' := [(4, .int (nI (k + 1))), (3, .int (nI (if rkA nw x y < k + 1 then rkA nw x y else 0))), (6, .int (nI ((pc1 k) / 16))), (5, .int (nI ((pc1 k) % 16))), (0, .ref mq), (1, .int (nI x)), (2, .int (nI y))]) hx hb dX4_plotAt_91 hl (k := 3) rfl (gInc_p _ rfl) (by decide) rfl (fun ls hl => ?_)
        refine lv_goto (tgt := 9) hx hb dX4_plotAt_94 (by decide) ?_
        have hl : lv_has ls 7 [(4, .int (nI (k + 1))), (3, .int (nI (if rkA nw x y < k + 1 then rkA nw x y else 0))), (0, .ref mq), (1, .int (nI x)), (2, .int (nI y))] := lv_sub hl [0, 1, 4, 5, 6] rfl
        have hle : (.int (nI (if rkA nw x y < k + 1 then rkA nw x y else 0)) : Value) = .int (nI (if rkA nw x y < (k + 1) then rkA nw x y else 0)) := by rfl
        rw [hle] at hl
        have hy_1 : (k + 1) ≤ cnt nw := by omega
        exact ih9 (k + 1) (by omega) hy_1 H locs hP hD hS ls hl
      refine lv_iload_n hx hb dX4_plotAt_42 rfl (lv_at hl 5 rfl) ?_
      refine lv_iload hx hb dX4_plotAt_43 (lv_at hl 1 rfl) ?_
      refine lv_iload hx hb dX4_plotAt_45 (lv_at hl 1 rfl) ?_
      refine lv_aload_n hx hb dX4_plotAt_47 rfl (lv_at hl 4 rfl) ?_
      refine va_get (D := G.1) (ci := 4) (v := .ref aw) (C := RX4) (T := TX4) (N := 15) hx hb hts hi4 hown hK hP 0 rfl rfl 7 (by decide) (hts (.fieldLink RX4 28 "LandQuartersModel" "plotWide" "[I") (by decide +kernel)) (fun _ h9 => h9) rfl dX4_plotAt_48 ?_
      refine lv_iload hx hb dX4_plotAt_51 (lv_at hl 2 rfl) ?_
      refine gNald (k := k) hx hb hK hP 3 0 rfl rfl (by omega) (by first | decide | omega) dX4_plotAt_53 ?_
      refine gIadd (a := (pc1 k) % 16) (b := pw1 k) hx hb dX4_plotAt_54 ?_
      refine lv_iconst (v := nI 1) hx hb dX4_plotAt_55 (by decide) ?_
      refine gIsub (a := (pc1 k) % 16 + (pw1 k)) (b := 1) hx hb dX4_plotAt_56 (by omega) ?_
      refine W.eq (g2 := F0 m 57 ls [.int (zI ((((pc1 k) % 16 + (pw1 k)) - 1 : Nat) : Int)), .int (zI (((pc1 k) % 16 : Nat) : Int)), .int (zI ((x : Nat) : Int))]) (by simp only [zI_nat, zI_neg1]) ?_
      refine gCi F (gRunS (own := RX4) (bytes := cX4_in) (n := 3) (As := [.int (zI ((x : Nat) : Int)), .int (zI (((pc1 k) % 16 : Nat) : Int)), .int (zI ((((pc1 k) % 16 + (pw1 k)) - 1 : Nat) : Int))]) (rest := []) F (c_X4_in l G ((x : Nat) : Int) (((pc1 k) % 16 : Nat) : Int) ((((pc1 k) % 16 + (pw1 k)) - 1 : Nat) : Int) (by first | assumption | omega) (by first | assumption | omega) (by first | assumption | omega) H.size) gX4_plotAt_X4_in rfl rfl rfl rfl (by decide +kernel) rfl ⟨Nat.le_of_ble_eq_true rfl, Nat.le_of_ble_eq_true rfl⟩ hP hD (lit := [(mq, .inr (4, [.ref an, .ref ap, .int (nI st), .ref ak, .ref ai, .ref ad, .ref ac, .ref aw, .int (nI (cnt nw)), .ref at_, .int (nI le), .int (nI th), .int (nI sp), .ref ao, .int (nI tm)])), (an, .inl (G.2.1, 525, .inl (gn nw))), (ac, .inl (G.2.1, 256, .inl (gn pc1))), (aw, .inl (G.2.1, 256, .inl (gn pw1)))]) (wt := []) (wc := []) (isC := []) rfl (by decide) rfl hl.1 (Nat.le_of_ble_eq_true rfl) dX4_plotAt_57 ⟨Nat.le_of_ble_eq_true rfl, Nat.le_of_ble_eq_true rfl⟩) hP hD hS (lit := [(mq, .inr (4, [.ref an, .ref ap, .int (nI st), .ref ak, .ref ai, .ref ad, .ref ac, .ref aw, .int (nI (cnt nw)), .ref at_, .int (nI le), .int (nI th), .int (nI sp), .ref ao, .int (nI tm)])), (an, .inl (G.2.1, 525, .inl (gn nw))), (ac, .inl (G.2.1, 256, .inl (gn pc1))), (aw, .inl (G.2.1, 256, .inl (gn pw1)))]) (wt := []) (wc := []) (wr := [(mq, .inr (4, [.ref an, .ref ap, .int (nI st), .ref ak, .ref ai, .ref ad, .ref ac, .ref aw, .int (nI (cnt nw)), .ref at_, .int (nI le), .int (nI th), .int (nI sp), .ref ao, .int (nI tm)])), (an, .inl (G.2.1, 525, .inl (gn nw))), (ac, .inl (G.2.1, 256, .inl (gn pc1))), (aw, .inl (G.2.1, 256, .inl (gn pw1)))]) (isC := []) (isR := [0, 1, 2, 3]) rfl rfl (by decide) (by decide) (fun r57 u H locs hp57 hP hD hS => ?_)
      subst hp57
      have hP : va_P G.1 vwCl [(mq, .inr (4, [.ref an, .ref ap, .int (nI st), .ref ak, .ref ai, .ref ad, .ref ac, .ref aw, .int (nI (cnt nw)), .ref at_, .int (nI le), .int (nI th), .int (nI sp), .ref ao, .int (nI tm)])), (an, .inl (G.2.1, 525, .inl (gn nw))), (ac, .inl (G.2.1, 256, .inl (gn pc1))), (aw, .inl (G.2.1, 256, .inl (gn pw1)))] H := hP
      have hD : va_D A [(mq, .inr (4, [.ref an, .ref ap, .int (nI st), .ref ak, .ref ai, .ref ad, .ref ac, .ref aw, .int (nI (cnt nw)), .ref at_, .int (nI le), .int (nI th), .int (nI sp), .ref ao, .int (nI tm)])), (an, .inl (G.2.1, 525, .inl (gn nw))), (ac, .inl (G.2.1, 256, .inl (gn pc1))), (aw, .inl (G.2.1, 256, .inl (gn pw1)))] := hD
      refine gIfB_eq (P := ((((pc1 k) % 16 : Nat) : Int) ≤ ((x : Nat) : Int) ∧ ((x : Nat) : Int) ≤ ((((pc1 k) % 16 + (pw1 k)) - 1 : Nat) : Int))) (tgt := 89) hx hb dX4_plotAt_60 (by decide) (fun c60 => ?_) (fun c60 => ?_)
      · skip
        refine lv_iload_n hx hb dX4_plotAt_89 rfl (lv_at hl 3 rfl) ?_
        have hl : lv_has ls 7 [(6, .int (nI ((pc1 k) / 16))), (5, .int (nI ((pc1 k) % 16))), (4, .int (nI k)), (3, .int (nI (if rkA nw x y < k then rkA nw x y else 0))), (0, .ref mq), (1, .int (nI x)), (2, .int (nI y))] := lv_sub hl [0, 1, 2, 3, 4, 5, 6] rfl
        have hse : (.int (nI (if rkA nw x y < k then rkA nw x y else 0)) : Value) = .int (nI (if rkA nw x y < k + 1 then rkA nw x y else 0)) := by first | (have e9 := hpl.mp (by omega); rw [if_pos (by omega), e9]; done) | (have e9 : rkA nw x y ≠ k := (fun h => by have := hpl.mpr h; omega); congr 2; by_cases h9 : rkA nw x y < k; (rw [if_pos h9, if_pos (by omega)]); (rw [if_neg h9, if_neg (by omega)]))
        refine W.eq (g2 := F0 m 90 ls [.int (nI (if rkA nw x y < k + 1 then rkA nw x y else 0))]) (congrArg (fun v_ => F0 m 90 ls [v_]) hse) ?_
        exact J90  H locs hP hD hS ls hl
      refine lv_iload_n hx hb dX4_plotAt_63 rfl (lv_at hl 6 rfl) ?_
      refine lv_iload hx hb dX4_plotAt_64 (lv_at hl 0 rfl) ?_
      refine lv_iload hx hb dX4_plotAt_66 (lv_at hl 0 rfl) ?_
      refine lv_aload_n hx hb dX4_plotAt_68 rfl (lv_at hl 4 rfl) ?_
      refine va_get (D := G.1) (ci := 4) (v := .ref aw) (C := RX4) (T := TX4) (N := 15) hx hb hts hi4 hown hK hP 0 rfl rfl 7 (by decide) (hts (.fieldLink RX4 28 "LandQuartersModel" "plotWide" "[I") (by decide +kernel)) (fun _ h9 => h9) rfl dX4_plotAt_69 ?_
      refine lv_iload hx hb dX4_plotAt_72 (lv_at hl 2 rfl) ?_
      refine gNald (k := k) hx hb hK hP 3 0 rfl rfl (by omega) (by first | decide | omega) dX4_plotAt_74 ?_
      refine gIadd (a := (pc1 k) / 16) (b := pw1 k) hx hb dX4_plotAt_75 ?_
      refine lv_iconst (v := nI 1) hx hb dX4_plotAt_76 (by decide) ?_
      refine gIsub (a := (pc1 k) / 16 + (pw1 k)) (b := 1) hx hb dX4_plotAt_77 (by omega) ?_
      refine W.eq (g2 := F0 m 78 ls [.int (zI ((((pc1 k) / 16 + (pw1 k)) - 1 : Nat) : Int)), .int (zI (((pc1 k) / 16 : Nat) : Int)), .int (zI ((y : Nat) : Int))]) (by simp only [zI_nat, zI_neg1]) ?_
      refine gCi F (gRunS (own := RX4) (bytes := cX4_in) (n := 3) (As := [.int (zI ((y : Nat) : Int)), .int (zI (((pc1 k) / 16 : Nat) : Int)), .int (zI ((((pc1 k) / 16 + (pw1 k)) - 1 : Nat) : Int))]) (rest := []) F (c_X4_in l G ((y : Nat) : Int) (((pc1 k) / 16 : Nat) : Int) ((((pc1 k) / 16 + (pw1 k)) - 1 : Nat) : Int) (by first | assumption | omega) (by first | assumption | omega) (by first | assumption | omega) H.size) gX4_plotAt_X4_in rfl rfl rfl rfl (by decide +kernel) rfl ⟨Nat.le_of_ble_eq_true rfl, Nat.le_of_ble_eq_true rfl⟩ hP hD (lit := [(mq, .inr (4, [.ref an, .ref ap, .int (nI st), .ref ak, .ref ai, .ref ad, .ref ac, .ref aw, .int (nI (cnt nw)), .ref at_, .int (nI le), .int (nI th), .int (nI sp), .ref ao, .int (nI tm)])), (an, .inl (G.2.1, 525, .inl (gn nw))), (ac, .inl (G.2.1, 256, .inl (gn pc1))), (aw, .inl (G.2.1, 256, .inl (gn pw1)))]) (wt := []) (wc := []) (isC := []) rfl (by decide) rfl hl.1 (Nat.le_of_ble_eq_true rfl) dX4_plotAt_78 ⟨Nat.le_of_ble_eq_true rfl, Nat.le_of_ble_eq_true rfl⟩) hP hD hS (lit := [(mq, .inr (4, [.ref an, .ref ap, .int (nI st), .ref ak, .ref ai, .ref ad, .ref ac, .ref aw, .int (nI (cnt nw)), .ref at_, .int (nI le), .int (nI th), .int (nI sp), .ref ao, .int (nI tm)])), (an, .inl (G.2.1, 525, .inl (gn nw))), (ac, .inl (G.2.1, 256, .inl (gn pc1))), (aw, .inl (G.2.1, 256, .inl (gn pw1)))]) (wt := []) (wc := []) (wr := [(mq, .inr (4, [.ref an, .ref ap, .int (nI st), .ref ak, .ref ai, .ref ad, .ref ac, .ref aw, .int (nI (cnt nw)), .ref at_, .int (nI le), .int (nI th), .int (nI sp), .ref ao, .int (nI tm)])), (an, .inl (G.2.1, 525, .inl (gn nw))), (ac, .inl (G.2.1, 256, .inl (gn pc1))), (aw, .inl (G.2.1, 256, .inl (gn pw1)))]) (isC := []) (isR := [0, 1, 2, 3]) rfl rfl (by decide) (by decide) (fun r78 u H locs hp78 hP hD hS => ?_)
      subst hp78
      have hP : va_P G.1 vwCl [(mq, .inr (4, [.ref an, .ref ap, .int (nI st), .ref ak, .ref ai, .ref ad, .ref ac, .ref aw, .int (nI (cnt nw)), .ref at_, .int (nI le), .int (nI th), .int (nI sp), .ref ao, .int (nI tm)])), (an, .inl (G.2.1, 525, .inl (gn nw))), (ac, .inl (G.2.1, 256, .inl (gn pc1))), (aw, .inl (G.2.1, 256, .inl (gn pw1)))] H := hP
      have hD : va_D A [(mq, .inr (4, [.ref an, .ref ap, .int (nI st), .ref ak, .ref ai, .ref ad, .ref ac, .ref aw, .int (nI (cnt nw)), .ref at_, .int (nI le), .int (nI th), .int (nI sp), .ref ao, .int (nI tm)])), (an, .inl (G.2.1, 525, .inl (gn nw))), (ac, .inl (G.2.1, 256, .inl (gn pc1))), (aw, .inl (G.2.1, 256, .inl (gn pw1)))] := hD
      refine gIfB_eq (P := ((((pc1 k) / 16 : Nat) : Int) ≤ ((y : Nat) : Int) ∧ ((y : Nat) : Int) ≤ ((((pc1 k) / 16 + (pw1 k)) - 1 : Nat) : Int))) (tgt := 89) hx hb dX4_plotAt_81 (by decide) (fun c81 => ?_) (fun c81 => ?_)
      · skip
        refine lv_iload_n hx hb dX4_plotAt_89 rfl (lv_at hl 3 rfl) ?_
        have hl : lv_has ls 7 [(6, .int (nI ((pc1 k) / 16))), (5, .int (nI ((pc1 k) % 16))), (4, .int (nI k)), (3, .int (nI (if rkA nw x y < k then rkA nw x y else 0))), (0, .ref mq), (1, .int (nI x)), (2, .int (nI y))] := lv_sub hl [0, 1, 2, 3, 4, 5, 6] rfl
        have hse : (.int (nI (if rkA nw x y < k then rkA nw x y else 0)) : Value) = .int (nI (if rkA nw x y < k + 1 then rkA nw x y else 0)) := by first | (have e9 := hpl.mp (by omega); rw [if_pos (by omega), e9]; done) | (have e9 : rkA nw x y ≠ k := (fun h => by have := hpl.mpr h; omega); congr 2; by_cases h9 : rkA nw x y < k; (rw [if_pos h9, if_pos (by omega)]); (rw [if_neg h9, if_neg (by omega)]))
        refine W.eq (g2 := F0 m 90 ls [.int (nI (if rkA nw x y < k + 1 then rkA nw x y else 0))]) (congrArg (fun v_ => F0 m 90 ls [v_]) hse) ?_
        exact J90  H locs hP hD hS ls hl
      refine lv_iload hx hb dX4_plotAt_84 (lv_at hl 2 rfl) ?_
      refine lv_goto (tgt := 90) hx hb dX4_plotAt_86 (by decide) ?_
      have hl : lv_has ls 7 [(6, .int (nI ((pc1 k) / 16))), (5, .int (nI ((pc1 k) % 16))), (4, .int (nI k)), (3, .int (nI (if rkA nw x y < k then rkA nw x y else 0))), (0, .ref mq), (1, .int (nI x)), (2, .int (nI y))] := lv_sub hl [0, 1, 2, 3, 4, 5, 6] rfl
      have hse : (.int (nI k) : Value) = .int (nI (if rkA nw x y < k + 1 then rkA nw x y else 0)) := by first | (have e9 := hpl.mp (by omega); rw [if_pos (by omega), e9]; done) | (have e9 : rkA nw x y ≠ k := (fun h => by have := hpl.mpr h; omega); congr 2; by_cases h9 : rkA nw x y < k; (rw [if_pos h9, if_pos (by omega)]); (rw [if_neg h9, if_neg (by omega)]))
      refine W.eq (g2 := F0 m 90 ls [.int (nI (if rkA nw x y < k + 1 then rkA nw x y else 0))]) (congrArg (fun v_ => F0 m 90 ls [v_]) hse) ?_
      exact J90  H locs hP hD hS ls hl
  have hl : lv_has ls 7 [(4, .int (nI 0)), (3, .int (nI 0)), (0, .ref mq), (1, .int (nI x)), (2, .int (nI y))] := lv_sub hl [0, 1, 2, 3, 4] rfl
  have hle : (.int (nI 0) : Value) = .int (nI (if rkA nw x y < 0 then rkA nw x y else 0)) := by first | rfl | rw [if_neg (Nat.not_lt_zero _)]
  rw [hle] at hl
  have hy_2 : 0 ≤ cnt nw := by omega
  exact L9 _ 0 (Nat.lt_succ_self _) hy_2 H locs hP hD hS ls hl

set_option maxHeartbeats 4000000 in
set_option maxRecDepth 100000 in
theorem c_X4_canBuy (l : Launch) (G : gG) (mq : Nat) (an : Nat) (ap : Nat) (st : Nat) (ak : Nat) (ai : Nat) (ad : Nat) (ac : Nat) (aw : Nat) (mn : Nat) (at_ : Nat) (le : Nat) (th : Nat) (sp : Nat) (ao : Nat) (tm : Nat) (nw : Nat → Nat) (pn : Nat) (cz : Nat) (z : Nat) (hz : 0 < z) (hcz : cz + 17 * z ≤ 272) (hp : pn < 8) (how : ∀ k, k < 256 → nw k < 8) (hpr : nw 520 ≤ 9) (hco : ∀ k, k < 8 → nw (512 + k) ≤ 700) : gMi (S := Unit) l yX4_canBuy wsX4_canBuy { frames := 1, cells := 0, slots := 0, locals := 24 } G [.ref mq, .int (nI pn), .int (nI cz), .int (nI z)] [(mq, .inr (4, [.ref an, .ref ap, .int (nI st), .ref ak, .ref ai, .ref ad, .ref ac, .ref aw, .int (nI mn), .ref at_, .int (nI le), .int (nI th), .int (nI sp), .ref ao, .int (nI tm)])), (an, .inl (G.2.1, 525, .inl (gn nw)))] (fun (r : Int32) (u : Unit) => (r = nI (if (uK nw cz z (z * z) ∧ nw cz ≠ pn ∧ nw 520 * z * z ≤ nw (512 + pn)) then 1 else 0))) (fun u => [(mq, .inr (4, [.ref an, .ref ap, .int (nI st), .ref ak, .ref ai, .ref ad, .ref ac, .ref aw, .int (nI mn), .ref at_, .int (nI le), .int (nI th), .int (nI sp), .ref ao, .int (nI tm)])), (an, .inl (G.2.1, 525, .inl (gn nw)))]) 0 0 := by
  refine gMet_mk (cc := cX4_canBuy) (nL := 4) (ret := (some .boolean)) (Qc := fun A => va_Qi (S := Unit) (fun (r : Int32) (u : Unit) => (r = nI (if (uK nw cz z (z * z) ∧ nw cz ≠ pn ∧ nw 520 * z * z ≤ nw (512 + pn)) then 1 else 0))) (gB G A (fun (u : Unit) => [(mq, .inr (4, [.ref an, .ref ap, .int (nI st), .ref ak, .ref ai, .ref ad, .ref ac, .ref aw, .int (nI mn), .ref at_, .int (nI le), .int (nI th), .int (nI sp), .ref ao, .int (nI tm)])), (an, .inl (G.2.1, 525, .inl (gn nw)))])) A) (by decide) rfl (Nat.le_of_ble_eq_true rfl) ?_
  intro p e s m args below meth c A F ls hl hP hD hS
  have hx := F.1
  have hb := F.2.1
  have hts := F.2.2.2.2.2.2.1
  have hown : s.vm.findClass RX4 = some m.cls := F.2.2.2.2.2.1
  have hKK := F.2.2.2.2.2.2.2.2.1
  have hK := hKK.1
  have hin0 := F.2.2.2.2.2.2.2.1
  have hi4 : ∀ w ∈ u_ws RX4 TX4 15, w ∈ wsX4_canBuy := by decide +kernel
  have hl : lv_has ls 4 [(0, .ref mq), (1, .int (nI pn)), (2, .int (nI cz)), (3, .int (nI z))] := hl
  have hcost := costM (z := z) hpr (by omega)
  have hcp := hco pn hp
  have hwc := how cz (by omega)
  generalize hH : s.heap = H at hP ⊢
  have hS : va_S A s.heap H [] := by rw [← hH]; exact va_S.rf
  generalize hLo : ([] : List Loc) = locs at hS ⊢
  refine lv_aload_n hx hb dX4_canBuy_0 rfl (lv_at hl 0 rfl) ?_
  refine lv_iload_n hx hb dX4_canBuy_1 rfl (lv_at hl 2 rfl) ?_
  refine lv_iload_n hx hb dX4_canBuy_2 rfl (lv_at hl 3 rfl) ?_
  refine gCi F (gRunV (own := RX4) (C := RX4) (ci := 4) (bytes := cX4_isOne) (n := 2) (As := [.int (nI cz), .int (nI z)]) (rest := []) F (c_X4_isOne l G mq an ap st ak ai ad ac aw mn at_ le th sp ao tm nw cz z (by first | assumption | omega) (by first | assumption | omega) (by first | assumption | omega) H.size) gX4_canBuy_X4_isOne rfl rfl rfl rfl (by decide +kernel) rfl ⟨Nat.le_of_ble_eq_true rfl, Nat.le_of_ble_eq_true rfl⟩ hP hD (lit := [(mq, .inr (4, [.ref an, .ref ap, .int (nI st), .ref ak, .ref ai, .ref ad, .ref ac, .ref aw, .int (nI mn), .ref at_, .int (nI le), .int (nI th), .int (nI sp), .ref ao, .int (nI tm)])), (an, .inl (G.2.1, 525, .inl (gn nw)))]) (wt := []) (wc := [(mq, .inr (4, [.ref an, .ref ap, .int (nI st), .ref ak, .ref ai, .ref ad, .ref ac, .ref aw, .int (nI mn), .ref at_, .int (nI le), .int (nI th), .int (nI sp), .ref ao, .int (nI tm)])), (an, .inl (G.2.1, 525, .inl (gn nw)))]) (isC := [0, 1]) rfl (by decide) rfl rfl rfl hl.1 (Nat.le_of_ble_eq_true rfl) dX4_canBuy_3 ⟨Nat.le_of_ble_eq_true rfl, Nat.le_of_ble_eq_true rfl⟩) hP hD hS (lit := [(mq, .inr (4, [.ref an, .ref ap, .int (nI st), .ref ak, .ref ai, .ref ad, .ref ac, .ref aw, .int (nI mn), .ref at_, .int (nI le), .int (nI th), .int (nI sp), .ref ao, .int (nI tm)])), (an, .inl (G.2.1, 525, .inl (gn nw)))]) (wt := []) (wc := [(mq, .inr (4, [.ref an, .ref ap, .int (nI st), .ref ak, .ref ai, .ref ad, .ref ac, .ref aw, .int (nI mn), .ref at_, .int (nI le), .int (nI th), .int (nI sp), .ref ao, .int (nI tm)])), (an, .inl (G.2.1, 525, .inl (gn nw)))]) (wr := []) (isC := [0, 1]) (isR := []) rfl rfl (by decide) (by decide) (fun r3 u H locs hp3 hP hD hS => ?_)
  subst hp3
  have hP : va_P G.1 vwCl [(mq, .inr (4, [.ref an, .ref ap, .int (nI st), .ref ak, .ref ai, .ref ad, .ref ac, .ref aw, .int (nI mn), .ref at_, .int (nI le), .int (nI th), .int (nI sp), .ref ao, .int (nI tm)])), (an, .inl (G.2.1, 525, .inl (gn nw)))] H := hP
  have hD : va_D A [(mq, .inr (4, [.ref an, .ref ap, .int (nI st), .ref ak, .ref ai, .ref ad, .ref ac, .ref aw, .int (nI mn), .ref at_, .int (nI le), .int (nI th), .int (nI sp), .ref ao, .int (nI tm)])), (an, .inl (G.2.1, 525, .inl (gn nw)))] := hD
  refine gIfB_eq (P := (uK nw cz z (z * z))) (tgt := 48) hx hb dX4_canBuy_6 (by decide) (fun c6 => ?_) (fun c6 => ?_)
  · skip
    refine lv_iconst (v := nI 0) hx hb dX4_canBuy_48 (by decide) ?_
    exact gRi F dX4_canBuy_49 (gNarZ (by decide)) () (by first | exact (congrArg nI (if_pos ⟨c6, c16, (show nw 520 * z * z ≤ nw (512 + pn) by omega)⟩)).symm | (refine (congrArg nI (if_neg ?_)).symm; intro hh; exact c6 hh.1) | (refine (congrArg nI (if_neg ?_)).symm; intro hh; exact hh.2.1 c16) | (refine (congrArg nI (if_neg ?_)).symm; intro hh; have h2 := hh.2.2; omega)) hP hD hS (Nat.le_refl _) (Nat.le_refl _)
  refine lv_aload_n hx hb dX4_canBuy_9 rfl (lv_at hl 0 rfl) ?_
  refine va_get (D := G.1) (ci := 4) (v := .ref an) (C := RX4) (T := TX4) (N := 15) hx hb hts hi4 hown hK hP 0 rfl rfl 0 (by decide) (hts (.fieldLink RX4 7 "LandQuartersModel" "now" "[I") (by decide +kernel)) (fun _ h9 => h9) rfl dX4_canBuy_10 ?_
  refine lv_iload_n hx hb dX4_canBuy_13 rfl (lv_at hl 2 rfl) ?_
  refine gNald (k := cz) hx hb hK hP 1 0 rfl rfl (by omega) (by first | decide | omega) dX4_canBuy_14 ?_
  refine lv_iload_n hx hb dX4_canBuy_15 rfl (lv_at hl 1 rfl) ?_
  refine gIcmp_eq (a := nw cz) (b := pn) (tgt := 48) hx hb dX4_canBuy_16 (by decide) (by omega) (by omega) (fun c16 => ?_) (fun c16 => ?_)
  · skip
    refine lv_iconst (v := nI 0) hx hb dX4_canBuy_48 (by decide) ?_
    exact gRi F dX4_canBuy_49 (gNarZ (by decide)) () (by first | exact (congrArg nI (if_pos ⟨c6, c16, (show nw 520 * z * z ≤ nw (512 + pn) by omega)⟩)).symm | (refine (congrArg nI (if_neg ?_)).symm; intro hh; exact c6 hh.1) | (refine (congrArg nI (if_neg ?_)).symm; intro hh; exact hh.2.1 c16) | (refine (congrArg nI (if_neg ?_)).symm; intro hh; have h2 := hh.2.2; omega)) hP hD hS (Nat.le_refl _) (Nat.le_refl _)
  refine lv_aload_n hx hb dX4_canBuy_19 rfl (lv_at hl 0 rfl) ?_
  refine va_get (D := G.1) (ci := 4) (v := .ref an) (C := RX4) (T := TX4) (N := 15) hx hb hts hi4 hown hK hP 0 rfl rfl 0 (by decide) (hts (.fieldLink RX4 7 "LandQuartersModel" "now" "[I") (by decide +kernel)) (fun _ h9 => h9) rfl dX4_canBuy_20 ?_
  refine lv_sipush (v := nI 512) hx hb dX4_canBuy_23 (by decide) ?_
  refine lv_iload_n hx hb dX4_canBuy_26 rfl (lv_at hl 1 rfl) ?_
  refine gIadd (a := 512) (b := pn) hx hb dX4_canBuy_27 ?_
  refine gNald (k := 512 + pn) hx hb hK hP 1 0 rfl rfl (by omega) (by first | decide | omega) dX4_canBuy_28 ?_
  refine lv_aload_n hx hb dX4_canBuy_29 rfl (lv_at hl 0 rfl) ?_
  refine va_get (D := G.1) (ci := 4) (v := .ref an) (C := RX4) (T := TX4) (N := 15) hx hb hts hi4 hown hK hP 0 rfl rfl 0 (by decide) (hts (.fieldLink RX4 7 "LandQuartersModel" "now" "[I") (by decide +kernel)) (fun _ h9 => h9) rfl dX4_canBuy_30 ?_
  refine lv_sipush (v := nI 520) hx hb dX4_canBuy_33 (by decide) ?_
  refine gNald (k := 520) hx hb hK hP 1 0 rfl rfl (by omega) (by first | decide | omega) dX4_canBuy_36 ?_
  refine lv_iload_n hx hb dX4_canBuy_37 rfl (lv_at hl 3 rfl) ?_
  refine gImul (a := nw 520) (b := z) hx hb dX4_canBuy_38 ?_
  refine lv_iload_n hx hb dX4_canBuy_39 rfl (lv_at hl 3 rfl) ?_
  refine gImul (a := (nw 520) * z) (b := z) hx hb dX4_canBuy_40 ?_
  refine gIcmp_lt (a := nw (512 + pn)) (b := ((nw 520) * z) * z) (tgt := 48) hx hb dX4_canBuy_41 (by decide) (by omega) (by omega) (fun c41 => ?_) (fun c41 => ?_)
  · skip
    refine lv_iconst (v := nI 0) hx hb dX4_canBuy_48 (by decide) ?_
    exact gRi F dX4_canBuy_49 (gNarZ (by decide)) () (by first | exact (congrArg nI (if_pos ⟨c6, c16, (show nw 520 * z * z ≤ nw (512 + pn) by omega)⟩)).symm | (refine (congrArg nI (if_neg ?_)).symm; intro hh; exact c6 hh.1) | (refine (congrArg nI (if_neg ?_)).symm; intro hh; exact hh.2.1 c16) | (refine (congrArg nI (if_neg ?_)).symm; intro hh; have h2 := hh.2.2; omega)) hP hD hS (Nat.le_refl _) (Nat.le_refl _)
  refine lv_iconst (v := nI 1) hx hb dX4_canBuy_44 (by decide) ?_
  refine lv_goto (tgt := 49) hx hb dX4_canBuy_45 (by decide) ?_
  exact gRi F dX4_canBuy_49 (gNarZ (by decide)) () (by first | exact (congrArg nI (if_pos ⟨c6, c16, (show nw 520 * z * z ≤ nw (512 + pn) by omega)⟩)).symm | (refine (congrArg nI (if_neg ?_)).symm; intro hh; exact c6 hh.1) | (refine (congrArg nI (if_neg ?_)).symm; intro hh; exact hh.2.1 c16) | (refine (congrArg nI (if_neg ?_)).symm; intro hh; have h2 := hh.2.2; omega)) hP hD hS (Nat.le_refl _) (Nat.le_refl _)

set_option maxHeartbeats 4000000 in
set_option maxRecDepth 100000 in
theorem c_X4_leastOf (l : Launch) (G : gG) (mq : Nat) (an : Nat) (ap : Nat) (st : Nat) (ak : Nat) (ai : Nat) (ad : Nat) (ac : Nat) (aw : Nat) (mn : Nat) (at_ : Nat) (le : Nat) (th : Nat) (sp : Nat) (ao : Nat) (tm : Nat) (nw : Nat → Nat) (pC : Nat → Nat) (pW : Nat → Nat) (o : Nat) (how : ∀ k, k < 256 → nw k < 8) (ho : o < 8) : gMi (S := (Nat → Nat) × (Nat → Nat)) l yX4_leastOf wsX4_leastOf { frames := 2, cells := 0, slots := 0, locals := 46 } G [.ref mq, .int (nI o)] [(mq, .inr (4, [.ref an, .ref ap, .int (nI st), .ref ak, .ref ai, .ref ad, .ref ac, .ref aw, .int (nI mn), .ref at_, .int (nI le), .int (nI th), .int (nI sp), .ref ao, .int (nI tm)])), (an, .inl (G.2.1, 525, .inl (gn nw))), (ac, .inl (G.2.1, 256, .inl (gn pC))), (aw, .inl (G.2.1, 256, .inl (gn pW)))] (fun (r : Int32) (u : (Nat → Nat) × (Nat → Nat)) => (r = zI ((fSm (svO nw) (svZ nw) o (cnt nw)).1)) ∧ (fnd nw u.1 u.2 (cnt nw))) (fun u => [(mq, .inr (4, [.ref an, .ref ap, .int (nI st), .ref ak, .ref ai, .ref ad, .ref ac, .ref aw, .int (nI (cnt nw)), .ref at_, .int (nI le), .int (nI th), .int (nI sp), .ref ao, .int (nI tm)])), (an, .inl (G.2.1, 525, .inl (gn nw))), (ac, .inl (G.2.1, 256, .inl (gn u.1))), (aw, .inl (G.2.1, 256, .inl (gn u.2)))]) 0 0 := by
  refine gMet_mk (cc := cX4_leastOf) (nL := 4) (ret := (some .int)) (Qc := fun A => va_Qi (S := (Nat → Nat) × (Nat → Nat)) (fun (r : Int32) (u : (Nat → Nat) × (Nat → Nat)) => (r = zI ((fSm (svO nw) (svZ nw) o (cnt nw)).1)) ∧ (fnd nw u.1 u.2 (cnt nw))) (gB G A (fun (u : (Nat → Nat) × (Nat → Nat)) => [(mq, .inr (4, [.ref an, .ref ap, .int (nI st), .ref ak, .ref ai, .ref ad, .ref ac, .ref aw, .int (nI (cnt nw)), .ref at_, .int (nI le), .int (nI th), .int (nI sp), .ref ao, .int (nI tm)])), (an, .inl (G.2.1, 525, .inl (gn nw))), (ac, .inl (G.2.1, 256, .inl (gn u.1))), (aw, .inl (G.2.1, 256, .inl (gn u.2)))])) A) (by decide) rfl (Nat.le_of_ble_eq_true rfl) ?_
  intro p e s m args below meth c A F ls hl hP hD hS
  have hx := F.1
  have hb := F.2.1
  have hts := F.2.2.2.2.2.2.1
  have hown : s.vm.findClass RX4 = some m.cls := F.2.2.2.2.2.1
  have hKK := F.2.2.2.2.2.2.2.2.1
  have hK := hKK.1
  have hin0 := F.2.2.2.2.2.2.2.1
  have hi4 : ∀ w ∈ u_ws RX4 TX4 15, w ∈ wsX4_leastOf := by decide +kernel
  have hl : lv_has ls 4 [(0, .ref mq), (1, .int (nI o))] := hl
  have hcl := cnt_le nw
  generalize hH : s.heap = H at hP ⊢
  have hS : va_S A s.heap H [] := by rw [← hH]; exact va_S.rf
  generalize hLo : ([] : List Loc) = locs at hS ⊢
  refine lv_aload_n hx hb dX4_leastOf_0 rfl (lv_at hl 0 rfl) ?_
  refine gCv F (gRunV (own := RX4) (C := RX4) (ci := 4) (bytes := cX4_finds) (n := 0) (As := []) (rest := []) F (c_X4_finds l G mq an ap st ak ai ad ac aw mn at_ le th sp ao tm nw pC pW (by first | assumption | omega) H.size) gX4_leastOf_X4_finds rfl rfl rfl rfl (by decide +kernel) rfl ⟨Nat.le_of_ble_eq_true rfl, Nat.le_of_ble_eq_true rfl⟩ hP hD (lit := [(mq, .inr (4, [.ref an, .ref ap, .int (nI st), .ref ak, .ref ai, .ref ad, .ref ac, .ref aw, .int (nI mn), .ref at_, .int (nI le), .int (nI th), .int (nI sp), .ref ao, .int (nI tm)])), (an, .inl (G.2.1, 525, .inl (gn nw))), (ac, .inl (G.2.1, 256, .inl (gn pC))), (aw, .inl (G.2.1, 256, .inl (gn pW)))]) (wt := []) (wc := [(mq, .inr (4, [.ref an, .ref ap, .int (nI st), .ref ak, .ref ai, .ref ad, .ref ac, .ref aw, .int (nI mn), .ref at_, .int (nI le), .int (nI th), .int (nI sp), .ref ao, .int (nI tm)])), (an, .inl (G.2.1, 525, .inl (gn nw))), (ac, .inl (G.2.1, 256, .inl (gn pC))), (aw, .inl (G.2.1, 256, .inl (gn pW)))]) (isC := [0, 1, 2, 3]) rfl (by decide) rfl rfl rfl hl.1 (Nat.le_of_ble_eq_true rfl) dX4_leastOf_1 ⟨Nat.le_of_ble_eq_true rfl, Nat.le_of_ble_eq_true rfl⟩) hP hD hS (lit := [(mq, .inr (4, [.ref an, .ref ap, .int (nI st), .ref ak, .ref ai, .ref ad, .ref ac, .ref aw, .int (nI mn), .ref at_, .int (nI le), .int (nI th), .int (nI sp), .ref ao, .int (nI tm)])), (an, .inl (G.2.1, 525, .inl (gn nw))), (ac, .inl (G.2.1, 256, .inl (gn pC))), (aw, .inl (G.2.1, 256, .inl (gn pW)))]) (wt := []) (wc := [(mq, .inr (4, [.ref an, .ref ap, .int (nI st), .ref ak, .ref ai, .ref ad, .ref ac, .ref aw, .int (nI mn), .ref at_, .int (nI le), .int (nI th), .int (nI sp), .ref ao, .int (nI tm)])), (an, .inl (G.2.1, 525, .inl (gn nw))), (ac, .inl (G.2.1, 256, .inl (gn pC))), (aw, .inl (G.2.1, 256, .inl (gn pW)))]) (wr := []) (isC := [0, 1, 2, 3]) (isR := []) rfl rfl (by decide) (by decide) (fun u H locs hp1 hP hD hS => ?_)
  obtain ⟨pc1, pw1⟩ := u
  try dsimp only at hp1
  have hP : va_P G.1 vwCl [(mq, .inr (4, [.ref an, .ref ap, .int (nI st), .ref ak, .ref ai, .ref ad, .ref ac, .ref aw, .int (nI (cnt nw)), .ref at_, .int (nI le), .int (nI th), .int (nI sp), .ref ao, .int (nI tm)])), (an, .inl (G.2.1, 525, .inl (gn nw))), (ac, .inl (G.2.1, 256, .inl (gn pc1))), (aw, .inl (G.2.1, 256, .inl (gn pw1)))] H := hP
  have hD : va_D A [(mq, .inr (4, [.ref an, .ref ap, .int (nI st), .ref ak, .ref ai, .ref ad, .ref ac, .ref aw, .int (nI (cnt nw)), .ref at_, .int (nI le), .int (nI th), .int (nI sp), .ref ao, .int (nI tm)])), (an, .inl (G.2.1, 525, .inl (gn nw))), (ac, .inl (G.2.1, 256, .inl (gn pc1))), (aw, .inl (G.2.1, 256, .inl (gn pw1)))] := hD
  refine lv_iconst (v := zI (-1)) hx hb dX4_leastOf_4 (by decide) ?_
  refine lv_istore_n (lv' := [(2, .int (zI (-1))), (0, .ref mq), (1, .int (nI o))]) hx hb dX4_leastOf_5 rfl hl (by decide) rfl (fun ls hl => ?_)
  refine lv_iconst (v := nI 0) hx hb dX4_leastOf_6 (by decide) ?_
  refine lv_istore_n (lv' := [(3, .int (nI 0)), (2, .int (zI (-1))), (0, .ref mq), (1, .int (nI o))]) hx hb dX4_leastOf_7 rfl hl (by decide) rfl (fun ls hl => ?_)
  have L8 : ∀ (fuel : Nat) (k : Nat), cnt nw - k < fuel → (k ≤ cnt nw) → ∀ (H : Heap) (locs : List Loc), va_P G.1 vwCl [(mq, .inr (4, [.ref an, .ref ap, .int (nI st), .ref ak, .ref ai, .ref ad, .ref ac, .ref aw, .int (nI (cnt nw)), .ref at_, .int (nI le), .int (nI th), .int (nI sp), .ref ao, .int (nI tm)])), (an, .inl (G.2.1, 525, .inl (gn nw))), (ac, .inl (G.2.1, 256, .inl (gn pc1))), (aw, .inl (G.2.1, 256, .inl (gn pw1)))] H → va_D A [(mq, .inr (4, [.ref an, .ref ap, .int (nI st), .ref ak, .ref ai, .ref ad, .ref ac, .ref aw, .int (nI (cnt nw)), .ref at_, .int (nI le), .int (nI th), .int (nI sp), .ref ao, .int (nI tm)])), (an, .inl (G.2.1, 525, .inl (gn nw))), (ac, .inl (G.2.1, 256, .inl (gn pc1))), (aw, .inl (G.2.1, 256, .inl (gn pw1)))] → va_S A s.heap H locs → ∀ (ls : Array Slot), lv_has ls 4 [(3, .int (nI k)), (2, .int (zI ((fSm (svO nw) (svZ nw) o k).1))), (0, .ref mq), (1, .int (nI o))] → W p l e ({ frames := 2, cells := 0, slots := 0, locals := 46 } : Room) s m args below meth c H locs 0 0 (MQ below (va_Qi (S := (Nat → Nat) × (Nat → Nat)) (fun (r : Int32) (u : (Nat → Nat) × (Nat → Nat)) => (r = zI ((fSm (svO nw) (svZ nw) o (cnt nw)).1)) ∧ (fnd nw u.1 u.2 (cnt nw))) (gB G A (fun (u : (Nat → Nat) × (Nat → Nat)) => [(mq, .inr (4, [.ref an, .ref ap, .int (nI st), .ref ak, .ref ai, .ref ad, .ref ac, .ref aw, .int (nI (cnt nw)), .ref at_, .int (nI le), .int (nI th), .int (nI sp), .ref ao, .int (nI tm)])), (an, .inl (G.2.1, 525, .inl (gn nw))), (ac, .inl (G.2.1, 256, .inl (gn u.1))), (aw, .inl (G.2.1, 256, .inl (gn u.2)))])) A) args s 0 0 A) (F0 m 8 ls []) := by
    intro fuel
    induction fuel with
    | zero => intro k hme; exact absurd hme (Nat.not_lt_zero _)
    | succ fuel ih8 =>
      intro k hme hk H locs hP hD hS ls hl
      refine lv_iload_n hx hb dX4_leastOf_8 rfl (lv_at hl 0 rfl) ?_
      refine lv_aload_n hx hb dX4_leastOf_9 rfl (lv_at hl 2 rfl) ?_
      refine va_get (D := G.1) (ci := 4) (v := .int (nI (cnt nw))) (C := RX4) (T := TX4) (N := 15) hx hb hts hi4 hown hK hP 0 rfl rfl 8 (by decide) (hts (.fieldLink RX4 52 "LandQuartersModel" "many" "I") (by decide +kernel)) (fun _ h9 => h9) rfl dX4_leastOf_10 ?_
      refine gIcmp_ge (a := k) (b := cnt nw) (tgt := 57) hx hb dX4_leastOf_13 (by decide) (by omega) (by omega) (fun c13 => ?_) (fun c13 => ?_)
      · skip
        refine lv_iload_n hx hb dX4_leastOf_57 rfl (lv_at hl 1 rfl) ?_
        exact gRi F dX4_leastOf_58 (rfl) (pc1, pw1) (⟨by rw [show k = cnt nw by omega], hp1⟩) hP hD hS (Nat.le_refl _) (Nat.le_refl _)
      have hlt : k < cnt nw := (by omega); have hw9 := fSm_w (svO nw) (svZ nw) o k; have hzk : pw1 k = svZ nw k := (hp1 k hlt).2; have hz16 := psz_pos nw (gP nw k)
      have J50 : ∀  (H : Heap) (locs : List Loc), va_P G.1 vwCl [(mq, .inr (4, [.ref an, .ref ap, .int (nI st), .ref ak, .ref ai, .ref ad, .ref ac, .ref aw, .int (nI (cnt nw)), .ref at_, .int (nI le), .int (nI th), .int (nI sp), .ref ao, .int (nI tm)])), (an, .inl (G.2.1, 525, .inl (gn nw))), (ac, .inl (G.2.1, 256, .inl (gn pc1))), (aw, .inl (G.2.1, 256, .inl (gn pw1)))] H → va_D A [(mq, .inr (4, [.ref an, .ref ap, .int (nI st), .ref ak, .ref ai, .ref ad, .ref ac, .ref aw, .int (nI (cnt nw)), .ref at_, .int (nI le), .int (nI th), .int (nI sp), .ref ao, .int (nI tm)])), (an, .inl (G.2.1, 525, .inl (gn nw))), (ac, .inl (G.2.1, 256, .inl (gn pc1))), (aw, .inl (G.2.1, 256, .inl (gn pw1)))] → va_S A s.heap H locs → ∀ (ls : Array Slot), lv_has ls 4 [(3, .int (nI k)), (2, .int (zI ((fSm (svO nw) (svZ nw) o k).1))), (0, .ref mq), (1, .int (nI o))] → W p l e ({ frames := 2, cells := 0, slots := 0, locals := 46 } : Room) s m args below meth c H locs 0 0 (MQ below (va_Qi (S := (Nat → Nat) × (Nat → Nat)) (fun (r : Int32) (u : (Nat → Nat) × (Nat → Nat)) => (r = zI ((fSm (svO nw) (svZ nw) o (cnt nw)).1)) ∧ (fnd nw u.1 u.2 (cnt nw))) (gB G A (fun (u : (Nat → Nat) × (Nat → Nat)) => [(mq, .inr (4, [.ref an, .ref ap, .int (nI st), .ref ak, .ref ai, .ref ad, .ref ac, .ref aw, .int (nI (cnt nw)), .ref at_, .int (nI le), .int (nI th), .int (nI sp), .ref ao, .int (nI tm)])), (an, .inl (G.2.1, 525, .inl (gn nw))), (ac, .inl (G.2.1, 256, .inl (gn u.1))), (aw, .inl (G.2.1, 256, .inl (gn u.2)))])) A) args s 0 0 A) (F0 m 50 ls [.int (zI ((fSm (svO nw) (svZ nw) o (k + 1)).1))]) := by
        intro  H locs hP hD hS ls hl
        refine lv_istore_n (lv' := [(2, .int (zI ((fSm (svO nw) (svZ nw) o (k + 1)).1))), (3, .int (nI k)), (0, .ref mq), (1, .int (nI o))]) hx hb dX4_leastOf_50 rfl hl (by decide) rfl (fun ls hl => ?_)
        refine lv_iinc (v := nI (k + 1)) (lv' := [(3, .int (nI (k + 1))), (2, .int (zI ((fSm (svO nw) (svZ nw) o (k + 1)).1))), (0, .ref mq), (1, .int (nI o))]) hx hb dX4_leastOf_51 hl (k := 1) rfl (gInc_p _ rfl) (by decide) rfl (fun ls hl => ?_)
        refine lv_goto (tgt := 8) hx hb dX4_leastOf_54 (by decide) ?_
        have hl : lv_has ls 4 [(3, .int (nI (k + 1))), (2, .int (zI ((fSm (svO nw) (svZ nw) o (k + 1)).1))), (0, .ref mq), (1, .int (nI o))] := lv_sub hl [0, 1, 2, 3] rfl
        have hy_1 : (k + 1) ≤ cnt nw := by omega
        exact ih8 (k + 1) (by omega) hy_1 H locs hP hD hS ls hl
      refine lv_aload_n hx hb dX4_leastOf_16 rfl (lv_at hl 2 rfl) ?_
      refine lv_iload_n hx hb dX4_leastOf_17 rfl (lv_at hl 0 rfl) ?_
      refine gCi F (gRunV (own := RX4) (C := RX4) (ci := 4) (bytes := cX4_ownerOf) (n := 1) (As := [.int (nI k)]) (rest := []) F (c_X4_ownerOf l G mq an ap st ak ai ad ac aw (cnt nw) at_ le th sp ao tm nw pc1 k (by omega) (by rw [(hp1 k (by omega)).1]; have := mc_lt (gP nw k); omega) H.size) gX4_leastOf_X4_ownerOf rfl rfl rfl rfl (by decide +kernel) rfl ⟨Nat.le_of_ble_eq_true rfl, Nat.le_of_ble_eq_true rfl⟩ hP hD (lit := [(mq, .inr (4, [.ref an, .ref ap, .int (nI st), .ref ak, .ref ai, .ref ad, .ref ac, .ref aw, .int (nI (cnt nw)), .ref at_, .int (nI le), .int (nI th), .int (nI sp), .ref ao, .int (nI tm)])), (an, .inl (G.2.1, 525, .inl (gn nw))), (ac, .inl (G.2.1, 256, .inl (gn pc1))), (aw, .inl (G.2.1, 256, .inl (gn pw1)))]) (wt := []) (wc := [(mq, .inr (4, [.ref an, .ref ap, .int (nI st), .ref ak, .ref ai, .ref ad, .ref ac, .ref aw, .int (nI (cnt nw)), .ref at_, .int (nI le), .int (nI th), .int (nI sp), .ref ao, .int (nI tm)])), (an, .inl (G.2.1, 525, .inl (gn nw))), (ac, .inl (G.2.1, 256, .inl (gn pc1)))]) (isC := [0, 1, 2]) rfl (by decide) rfl rfl rfl hl.1 (Nat.le_of_ble_eq_true rfl) dX4_leastOf_18 ⟨Nat.le_of_ble_eq_true rfl, Nat.le_of_ble_eq_true rfl⟩) hP hD hS (lit := [(mq, .inr (4, [.ref an, .ref ap, .int (nI st), .ref ak, .ref ai, .ref ad, .ref ac, .ref aw, .int (nI (cnt nw)), .ref at_, .int (nI le), .int (nI th), .int (nI sp), .ref ao, .int (nI tm)])), (an, .inl (G.2.1, 525, .inl (gn nw))), (ac, .inl (G.2.1, 256, .inl (gn pc1))), (aw, .inl (G.2.1, 256, .inl (gn pw1)))]) (wt := []) (wc := [(mq, .inr (4, [.ref an, .ref ap, .int (nI st), .ref ak, .ref ai, .ref ad, .ref ac, .ref aw, .int (nI (cnt nw)), .ref at_, .int (nI le), .int (nI th), .int (nI sp), .ref ao, .int (nI tm)])), (an, .inl (G.2.1, 525, .inl (gn nw))), (ac, .inl (G.2.1, 256, .inl (gn pc1)))]) (wr := [(aw, .inl (G.2.1, 256, .inl (gn pw1)))]) (isC := [0, 1, 2]) (isR := [3]) rfl rfl (by decide) (by decide) (fun r18 u H locs hp18 hP hD hS => ?_)
      subst hp18
      have hP : va_P G.1 vwCl [(aw, .inl (G.2.1, 256, .inl (gn pw1))), (mq, .inr (4, [.ref an, .ref ap, .int (nI st), .ref ak, .ref ai, .ref ad, .ref ac, .ref aw, .int (nI (cnt nw)), .ref at_, .int (nI le), .int (nI th), .int (nI sp), .ref ao, .int (nI tm)])), (an, .inl (G.2.1, 525, .inl (gn nw))), (ac, .inl (G.2.1, 256, .inl (gn pc1)))] H := hP
      have hD : va_D A [(aw, .inl (G.2.1, 256, .inl (gn pw1))), (mq, .inr (4, [.ref an, .ref ap, .int (nI st), .ref ak, .ref ai, .ref ad, .ref ac, .ref aw, .int (nI (cnt nw)), .ref at_, .int (nI le), .int (nI th), .int (nI sp), .ref ao, .int (nI tm)])), (an, .inl (G.2.1, 525, .inl (gn nw))), (ac, .inl (G.2.1, 256, .inl (gn pc1)))] := hD
      refine W.eq (g2 := F0 m 21 ls [.int (nI (svO nw k))]) (by rw [show (nI (nw (pc1 k)) : Int32) = nI (svO nw k) from by rw [svO, (hp1 k (by omega)).1]]) ?_
      refine lv_iload_n hx hb dX4_leastOf_21 rfl (lv_at hl 3 rfl) ?_
      refine gIcmp_ne (a := svO nw k) (b := o) (tgt := 49) hx hb dX4_leastOf_22 (by decide) (by have := how (mc (gP nw k)) (mc_lt _); show svO nw k < _; unfold svO; omega) (by omega) (fun c22 => ?_) (fun c22 => ?_)
      · skip
        refine lv_iload_n hx hb dX4_leastOf_49 rfl (lv_at hl 1 rfl) ?_
        have hP : va_P G.1 vwCl [(mq, .inr (4, [.ref an, .ref ap, .int (nI st), .ref ak, .ref ai, .ref ad, .ref ac, .ref aw, .int (nI (cnt nw)), .ref at_, .int (nI le), .int (nI th), .int (nI sp), .ref ao, .int (nI tm)])), (an, .inl (G.2.1, 525, .inl (gn nw))), (ac, .inl (G.2.1, 256, .inl (gn pc1))), (aw, .inl (G.2.1, 256, .inl (gn pw1)))] H := hP.sub (ws' := [(mq, .inr (4, [.ref an, .ref ap, .int (nI st), .ref ak, .ref ai, .ref ad, .ref ac, .ref aw, .int (nI (cnt nw)), .ref at_, .int (nI le), .int (nI th), .int (nI sp), .ref ao, .int (nI tm)])), (an, .inl (G.2.1, 525, .inl (gn nw))), (ac, .inl (G.2.1, 256, .inl (gn pc1))), (aw, .inl (G.2.1, 256, .inl (gn pw1)))]) [1, 2, 3, 0] rfl
        have hD : va_D A [(mq, .inr (4, [.ref an, .ref ap, .int (nI st), .ref ak, .ref ai, .ref ad, .ref ac, .ref aw, .int (nI (cnt nw)), .ref at_, .int (nI le), .int (nI th), .int (nI sp), .ref ao, .int (nI tm)])), (an, .inl (G.2.1, 525, .inl (gn nw))), (ac, .inl (G.2.1, 256, .inl (gn pc1))), (aw, .inl (G.2.1, 256, .inl (gn pw1)))] := hD.sub (ws' := [(mq, .inr (4, [.ref an, .ref ap, .int (nI st), .ref ak, .ref ai, .ref ad, .ref ac, .ref aw, .int (nI (cnt nw)), .ref at_, .int (nI le), .int (nI th), .int (nI sp), .ref ao, .int (nI tm)])), (an, .inl (G.2.1, 525, .inl (gn nw))), (ac, .inl (G.2.1, 256, .inl (gn pc1))), (aw, .inl (G.2.1, 256, .inl (gn pw1)))]) [1, 2, 3, 0] (by decide) rfl
        have hl : lv_has ls 4 [(3, .int (nI k)), (2, .int (zI ((fSm (svO nw) (svZ nw) o k).1))), (0, .ref mq), (1, .int (nI o))] := lv_sub hl [0, 1, 2, 3] rfl
        have hse : (.int (zI ((fSm (svO nw) (svZ nw) o k).1)) : Value) = .int (zI ((fSm (svO nw) (svZ nw) o (k + 1)).1)) := by simp only [fSm]; first | (rw [if_neg (fun h => c22 h.1)]; done) | (rw [if_pos ⟨c22, hcb⟩, zI_nat]; done) | (rw [if_neg (fun h => hcn h.2)]; done)
        refine W.eq (g2 := F0 m 50 ls [.int (zI ((fSm (svO nw) (svZ nw) o (k + 1)).1))]) (congrArg (fun v_ => F0 m 50 ls [v_]) hse) ?_
        exact J50  H locs hP hD hS ls hl
      refine lv_iload_n hx hb dX4_leastOf_25 rfl (lv_at hl 1 rfl) ?_
      refine lv_iconst (v := zI (-1)) hx hb dX4_leastOf_26 (by decide) ?_
      refine gZcmp_eq (a := (fSm (svO nw) (svZ nw) o k).1) (b := (-1)) (tgt := 45) hx hb dX4_leastOf_27 (by decide) (by rcases fSm_w (svO nw) (svZ nw) o k with h9 | h9; (rw [h9]; decide); omega) (by decide) (fun c27 => ?_) (fun c27 => ?_)
      · skip
        have hcb : svZ nw k ≤ (fSm (svO nw) (svZ nw) o k).2 := (by rcases hw9 with h9 | h9; (rw [h9]; exact hz16.2); (exfalso; omega))
        refine lv_iload_n hx hb dX4_leastOf_45 rfl (lv_at hl 0 rfl) ?_
        refine lv_goto (tgt := 50) hx hb dX4_leastOf_46 (by decide) ?_
        have hP : va_P G.1 vwCl [(mq, .inr (4, [.ref an, .ref ap, .int (nI st), .ref ak, .ref ai, .ref ad, .ref ac, .ref aw, .int (nI (cnt nw)), .ref at_, .int (nI le), .int (nI th), .int (nI sp), .ref ao, .int (nI tm)])), (an, .inl (G.2.1, 525, .inl (gn nw))), (ac, .inl (G.2.1, 256, .inl (gn pc1))), (aw, .inl (G.2.1, 256, .inl (gn pw1)))] H := hP.sub (ws' := [(mq, .inr (4, [.ref an, .ref ap, .int (nI st), .ref ak, .ref ai, .ref ad, .ref ac, .ref aw, .int (nI (cnt nw)), .ref at_, .int (nI le), .int (nI th), .int (nI sp), .ref ao, .int (nI tm)])), (an, .inl (G.2.1, 525, .inl (gn nw))), (ac, .inl (G.2.1, 256, .inl (gn pc1))), (aw, .inl (G.2.1, 256, .inl (gn pw1)))]) [1, 2, 3, 0] rfl
        have hD : va_D A [(mq, .inr (4, [.ref an, .ref ap, .int (nI st), .ref ak, .ref ai, .ref ad, .ref ac, .ref aw, .int (nI (cnt nw)), .ref at_, .int (nI le), .int (nI th), .int (nI sp), .ref ao, .int (nI tm)])), (an, .inl (G.2.1, 525, .inl (gn nw))), (ac, .inl (G.2.1, 256, .inl (gn pc1))), (aw, .inl (G.2.1, 256, .inl (gn pw1)))] := hD.sub (ws' := [(mq, .inr (4, [.ref an, .ref ap, .int (nI st), .ref ak, .ref ai, .ref ad, .ref ac, .ref aw, .int (nI (cnt nw)), .ref at_, .int (nI le), .int (nI th), .int (nI sp), .ref ao, .int (nI tm)])), (an, .inl (G.2.1, 525, .inl (gn nw))), (ac, .inl (G.2.1, 256, .inl (gn pc1))), (aw, .inl (G.2.1, 256, .inl (gn pw1)))]) [1, 2, 3, 0] (by decide) rfl
        have hl : lv_has ls 4 [(3, .int (nI k)), (2, .int (zI ((fSm (svO nw) (svZ nw) o k).1))), (0, .ref mq), (1, .int (nI o))] := lv_sub hl [0, 1, 2, 3] rfl
        have hse : (.int (nI k) : Value) = .int (zI ((fSm (svO nw) (svZ nw) o (k + 1)).1)) := by simp only [fSm]; first | (rw [if_neg (fun h => c22 h.1)]; done) | (rw [if_pos ⟨c22, hcb⟩, zI_nat]; done) | (rw [if_neg (fun h => hcn h.2)]; done)
        refine W.eq (g2 := F0 m 50 ls [.int (zI ((fSm (svO nw) (svZ nw) o (k + 1)).1))]) (congrArg (fun v_ => F0 m 50 ls [v_]) hse) ?_
        exact J50  H locs hP hD hS ls hl
      have hb0 : 0 ≤ (fSm (svO nw) (svZ nw) o k).1 ∧ (fSm (svO nw) (svZ nw) o k).1 < (k : Int) ∧ (fSm (svO nw) (svZ nw) o k).2 = svZ nw (fSm (svO nw) (svZ nw) o k).1.toNat := (hw9.resolve_left (fun h => c27 (by rw [h]))); have hbk : (fSm (svO nw) (svZ nw) o k).1.toNat < cnt nw := (by omega); have hzb : pw1 (fSm (svO nw) (svZ nw) o k).1.toNat = svZ nw (fSm (svO nw) (svZ nw) o k).1.toNat := (hp1 _ hbk).2
      refine lv_aload_n hx hb dX4_leastOf_30 rfl (lv_at hl 2 rfl) ?_
      refine va_get (D := G.1) (ci := 4) (v := .ref aw) (C := RX4) (T := TX4) (N := 15) hx hb hts hi4 hown hK hP 1 rfl rfl 7 (by decide) (hts (.fieldLink RX4 28 "LandQuartersModel" "plotWide" "[I") (by decide +kernel)) (fun _ h9 => h9) rfl dX4_leastOf_31 ?_
      refine lv_iload_n hx hb dX4_leastOf_34 rfl (lv_at hl 0 rfl) ?_
      refine gNald (k := k) hx hb hK hP 0 0 rfl rfl (by omega) (by first | decide | omega) dX4_leastOf_35 ?_
      refine lv_aload_n hx hb dX4_leastOf_36 rfl (lv_at hl 2 rfl) ?_
      refine va_get (D := G.1) (ci := 4) (v := .ref aw) (C := RX4) (T := TX4) (N := 15) hx hb hts hi4 hown hK hP 1 rfl rfl 7 (by decide) (hts (.fieldLink RX4 28 "LandQuartersModel" "plotWide" "[I") (by decide +kernel)) (fun _ h9 => h9) rfl dX4_leastOf_37 ?_
      refine lv_iload_n hx hb dX4_leastOf_40 rfl (lv_at hl 1 rfl) ?_
      refine W.eq (g2 := F0 m 41 ls [.int (nI ((fSm (svO nw) (svZ nw) o k).1.toNat)), .ref aw, .int (nI (pw1 k))]) (by rw [show (zI ((fSm (svO nw) (svZ nw) o k).1) : Int32) = nI ((fSm (svO nw) (svZ nw) o k).1.toNat) from by exact zI_toNat hb0.1]) ?_
      refine gNald (k := (fSm (svO nw) (svZ nw) o k).1.toNat) hx hb hK hP 0 0 rfl rfl (by omega) (by first | decide | omega) dX4_leastOf_41 ?_
      refine gIcmp_gt (a := pw1 k) (b := pw1 ((fSm (svO nw) (svZ nw) o k).1.toNat)) (tgt := 49) hx hb dX4_leastOf_42 (by decide) (by rw [(hp1 k (by omega)).2]; have := psz_pos nw (gP nw k); omega) (by rw [(hp1 _ hbk).2]; have := psz_pos nw (gP nw (fSm (svO nw) (svZ nw) o k).1.toNat); omega) (fun c42 => ?_) (fun c42 => ?_)
      · skip
        have hcn : ¬ (svZ nw k ≤ (fSm (svO nw) (svZ nw) o k).2) := (by omega)
        refine lv_iload_n hx hb dX4_leastOf_49 rfl (lv_at hl 1 rfl) ?_
        have hP : va_P G.1 vwCl [(mq, .inr (4, [.ref an, .ref ap, .int (nI st), .ref ak, .ref ai, .ref ad, .ref ac, .ref aw, .int (nI (cnt nw)), .ref at_, .int (nI le), .int (nI th), .int (nI sp), .ref ao, .int (nI tm)])), (an, .inl (G.2.1, 525, .inl (gn nw))), (ac, .inl (G.2.1, 256, .inl (gn pc1))), (aw, .inl (G.2.1, 256, .inl (gn pw1)))] H := hP.sub (ws' := [(mq, .inr (4, [.ref an, .ref ap, .int (nI st), .ref ak, .ref ai, .ref ad, .ref ac, .ref aw, .int (nI (cnt nw)), .ref at_, .int (nI le), .int (nI th), .int (nI sp), .ref ao, .int (nI tm)])), (an, .inl (G.2.1, 525, .inl (gn nw))), (ac, .inl (G.2.1, 256, .inl (gn pc1))), (aw, .inl (G.2.1, 256, .inl (gn pw1)))]) [1, 2, 3, 0] rfl
        have hD : va_D A [(mq, .inr (4, [.ref an, .ref ap, .int (nI st), .ref ak, .ref ai, .ref ad, .ref ac, .ref aw, .int (nI (cnt nw)), .ref at_, .int (nI le), .int (nI th), .int (nI sp), .ref ao, .int (nI tm)])), (an, .inl (G.2.1, 525, .inl (gn nw))), (ac, .inl (G.2.1, 256, .inl (gn pc1))), (aw, .inl (G.2.1, 256, .inl (gn pw1)))] := hD.sub (ws' := [(mq, .inr (4, [.ref an, .ref ap, .int (nI st), .ref ak, .ref ai, .ref ad, .ref ac, .ref aw, .int (nI (cnt nw)), .ref at_, .int (nI le), .int (nI th), .int (nI sp), .ref ao, .int (nI tm)])), (an, .inl (G.2.1, 525, .inl (gn nw))), (ac, .inl (G.2.1, 256, .inl (gn pc1))), (aw, .inl (G.2.1, 256, .inl (gn pw1)))]) [1, 2, 3, 0] (by decide) rfl
        have hl : lv_has ls 4 [(3, .int (nI k)), (2, .int (zI ((fSm (svO nw) (svZ nw) o k).1))), (0, .ref mq), (1, .int (nI o))] := lv_sub hl [0, 1, 2, 3] rfl
        have hse : (.int (zI ((fSm (svO nw) (svZ nw) o k).1)) : Value) = .int (zI ((fSm (svO nw) (svZ nw) o (k + 1)).1)) := by simp only [fSm]; first | (rw [if_neg (fun h => c22 h.1)]; done) | (rw [if_pos ⟨c22, hcb⟩, zI_nat]; done) | (rw [if_neg (fun h => hcn h.2)]; done)
        refine W.eq (g2 := F0 m 50 ls [.int (zI ((fSm (svO nw) (svZ nw) o (k + 1)).1))]) (congrArg (fun v_ => F0 m 50 ls [v_]) hse) ?_
        exact J50  H locs hP hD hS ls hl
      have hcb : svZ nw k ≤ (fSm (svO nw) (svZ nw) o k).2 := (by omega)
      refine lv_iload_n hx hb dX4_leastOf_45 rfl (lv_at hl 0 rfl) ?_
      refine lv_goto (tgt := 50) hx hb dX4_leastOf_46 (by decide) ?_
      have hP : va_P G.1 vwCl [(mq, .inr (4, [.ref an, .ref ap, .int (nI st), .ref ak, .ref ai, .ref ad, .ref ac, .ref aw, .int (nI (cnt nw)), .ref at_, .int (nI le), .int (nI th), .int (nI sp), .ref ao, .int (nI tm)])), (an, .inl (G.2.1, 525, .inl (gn nw))), (ac, .inl (G.2.1, 256, .inl (gn pc1))), (aw, .inl (G.2.1, 256, .inl (gn pw1)))] H := hP.sub (ws' := [(mq, .inr (4, [.ref an, .ref ap, .int (nI st), .ref ak, .ref ai, .ref ad, .ref ac, .ref aw, .int (nI (cnt nw)), .ref at_, .int (nI le), .int (nI th), .int (nI sp), .ref ao, .int (nI tm)])), (an, .inl (G.2.1, 525, .inl (gn nw))), (ac, .inl (G.2.1, 256, .inl (gn pc1))), (aw, .inl (G.2.1, 256, .inl (gn pw1)))]) [1, 2, 3, 0] rfl
      have hD : va_D A [(mq, .inr (4, [.ref an, .ref ap, .int (nI st), .ref ak, .ref ai, .ref ad, .ref ac, .ref aw, .int (nI (cnt nw)), .ref at_, .int (nI le), .int (nI th), .int (nI sp), .ref ao, .int (nI tm)])), (an, .inl (G.2.1, 525, .inl (gn nw))), (ac, .inl (G.2.1, 256, .inl (gn pc1))), (aw, .inl (G.2.1, 256, .inl (gn pw1)))] := hD.sub (ws' := [(mq, .inr (4, [.ref an, .ref ap, .int (nI st), .ref ak, .ref ai, .ref ad, .ref ac, .ref aw, .int (nI (cnt nw)), .ref at_, .int (nI le), .int (nI th), .int (nI sp), .ref ao, .int (nI tm)])), (an, .inl (G.2.1, 525, .inl (gn nw))), (ac, .inl (G.2.1, 256, .inl (gn pc1))), (aw, .inl (G.2.1, 256, .inl (gn pw1)))]) [1, 2, 3, 0] (by decide) rfl
      have hl : lv_has ls 4 [(3, .int (nI k)), (2, .int (zI ((fSm (svO nw) (svZ nw) o k).1))), (0, .ref mq), (1, .int (nI o))] := lv_sub hl [0, 1, 2, 3] rfl
      have hse : (.int (nI k) : Value) = .int (zI ((fSm (svO nw) (svZ nw) o (k + 1)).1)) := by simp only [fSm]; first | (rw [if_neg (fun h => c22 h.1)]; done) | (rw [if_pos ⟨c22, hcb⟩, zI_nat]; done) | (rw [if_neg (fun h => hcn h.2)]; done)
      refine W.eq (g2 := F0 m 50 ls [.int (zI ((fSm (svO nw) (svZ nw) o (k + 1)).1))]) (congrArg (fun v_ => F0 m 50 ls [v_]) hse) ?_
      exact J50  H locs hP hD hS ls hl
  have hl : lv_has ls 4 [(3, .int (nI 0)), (2, .int (zI (-1))), (0, .ref mq), (1, .int (nI o))] := lv_sub hl [0, 1, 2, 3] rfl
  have hle : (.int (zI (-1)) : Value) = .int (zI ((fSm (svO nw) (svZ nw) o 0).1)) := by first | rfl | exact congrArg Value.int zI_neg1.symm
  rw [hle] at hl
  have hy_2 : 0 ≤ cnt nw := by omega
  exact L8 _ 0 (Nat.lt_succ_self _) hy_2 H locs hP hD hS ls hl

set_option maxHeartbeats 4000000 in
set_option maxRecDepth 100000 in
theorem c_X4_greatestOf (l : Launch) (G : gG) (mq : Nat) (an : Nat) (ap : Nat) (st : Nat) (ak : Nat) (ai : Nat) (ad : Nat) (ac : Nat) (aw : Nat) (mn : Nat) (at_ : Nat) (le : Nat) (th : Nat) (sp : Nat) (ao : Nat) (tm : Nat) (nw : Nat → Nat) (pC : Nat → Nat) (pW : Nat → Nat) (o : Nat) (how : ∀ k, k < 256 → nw k < 8) (ho : o < 8) : gMi (S := (Nat → Nat) × (Nat → Nat)) l yX4_greatestOf wsX4_greatestOf { frames := 2, cells := 0, slots := 0, locals := 46 } G [.ref mq, .int (nI o)] [(mq, .inr (4, [.ref an, .ref ap, .int (nI st), .ref ak, .ref ai, .ref ad, .ref ac, .ref aw, .int (nI mn), .ref at_, .int (nI le), .int (nI th), .int (nI sp), .ref ao, .int (nI tm)])), (an, .inl (G.2.1, 525, .inl (gn nw))), (ac, .inl (G.2.1, 256, .inl (gn pC))), (aw, .inl (G.2.1, 256, .inl (gn pW)))] (fun (r : Int32) (u : (Nat → Nat) × (Nat → Nat)) => (r = zI ((fLg (svO nw) (svZ nw) o (cnt nw)).1)) ∧ (fnd nw u.1 u.2 (cnt nw))) (fun u => [(mq, .inr (4, [.ref an, .ref ap, .int (nI st), .ref ak, .ref ai, .ref ad, .ref ac, .ref aw, .int (nI (cnt nw)), .ref at_, .int (nI le), .int (nI th), .int (nI sp), .ref ao, .int (nI tm)])), (an, .inl (G.2.1, 525, .inl (gn nw))), (ac, .inl (G.2.1, 256, .inl (gn u.1))), (aw, .inl (G.2.1, 256, .inl (gn u.2)))]) 0 0 := by
  refine gMet_mk (cc := cX4_greatestOf) (nL := 4) (ret := (some .int)) (Qc := fun A => va_Qi (S := (Nat → Nat) × (Nat → Nat)) (fun (r : Int32) (u : (Nat → Nat) × (Nat → Nat)) => (r = zI ((fLg (svO nw) (svZ nw) o (cnt nw)).1)) ∧ (fnd nw u.1 u.2 (cnt nw))) (gB G A (fun (u : (Nat → Nat) × (Nat → Nat)) => [(mq, .inr (4, [.ref an, .ref ap, .int (nI st), .ref ak, .ref ai, .ref ad, .ref ac, .ref aw, .int (nI (cnt nw)), .ref at_, .int (nI le), .int (nI th), .int (nI sp), .ref ao, .int (nI tm)])), (an, .inl (G.2.1, 525, .inl (gn nw))), (ac, .inl (G.2.1, 256, .inl (gn u.1))), (aw, .inl (G.2.1, 256, .inl (gn u.2)))])) A) (by decide) rfl (Nat.le_of_ble_eq_true rfl) ?_
  intro p e s m args below meth c A F ls hl hP hD hS
  have hx := F.1
  have hb := F.2.1
  have hts := F.2.2.2.2.2.2.1
  have hown : s.vm.findClass RX4 = some m.cls := F.2.2.2.2.2.1
  have hKK := F.2.2.2.2.2.2.2.2.1
  have hK := hKK.1
  have hin0 := F.2.2.2.2.2.2.2.1
  have hi4 : ∀ w ∈ u_ws RX4 TX4 15, w ∈ wsX4_greatestOf := by decide +kernel
  have hl : lv_has ls 4 [(0, .ref mq), (1, .int (nI o))] := hl
  have hcl := cnt_le nw
  generalize hH : s.heap = H at hP ⊢
  have hS : va_S A s.heap H [] := by rw [← hH]; exact va_S.rf
  generalize hLo : ([] : List Loc) = locs at hS ⊢
  refine lv_aload_n hx hb dX4_greatestOf_0 rfl (lv_at hl 0 rfl) ?_
  refine gCv F (gRunV (own := RX4) (C := RX4) (ci := 4) (bytes := cX4_finds) (n := 0) (As := []) (rest := []) F (c_X4_finds l G mq an ap st ak ai ad ac aw mn at_ le th sp ao tm nw pC pW (by first | assumption | omega) H.size) gX4_greatestOf_X4_finds rfl rfl rfl rfl (by decide +kernel) rfl ⟨Nat.le_of_ble_eq_true rfl, Nat.le_of_ble_eq_true rfl⟩ hP hD (lit := [(mq, .inr (4, [.ref an, .ref ap, .int (nI st), .ref ak, .ref ai, .ref ad, .ref ac, .ref aw, .int (nI mn), .ref at_, .int (nI le), .int (nI th), .int (nI sp), .ref ao, .int (nI tm)])), (an, .inl (G.2.1, 525, .inl (gn nw))), (ac, .inl (G.2.1, 256, .inl (gn pC))), (aw, .inl (G.2.1, 256, .inl (gn pW)))]) (wt := []) (wc := [(mq, .inr (4, [.ref an, .ref ap, .int (nI st), .ref ak, .ref ai, .ref ad, .ref ac, .ref aw, .int (nI mn), .ref at_, .int (nI le), .int (nI th), .int (nI sp), .ref ao, .int (nI tm)])), (an, .inl (G.2.1, 525, .inl (gn nw))), (ac, .inl (G.2.1, 256, .inl (gn pC))), (aw, .inl (G.2.1, 256, .inl (gn pW)))]) (isC := [0, 1, 2, 3]) rfl (by decide) rfl rfl rfl hl.1 (Nat.le_of_ble_eq_true rfl) dX4_greatestOf_1 ⟨Nat.le_of_ble_eq_true rfl, Nat.le_of_ble_eq_true rfl⟩) hP hD hS (lit := [(mq, .inr (4, [.ref an, .ref ap, .int (nI st), .ref ak, .ref ai, .ref ad, .ref ac, .ref aw, .int (nI mn), .ref at_, .int (nI le), .int (nI th), .int (nI sp), .ref ao, .int (nI tm)])), (an, .inl (G.2.1, 525, .inl (gn nw))), (ac, .inl (G.2.1, 256, .inl (gn pC))), (aw, .inl (G.2.1, 256, .inl (gn pW)))]) (wt := []) (wc := [(mq, .inr (4, [.ref an, .ref ap, .int (nI st), .ref ak, .ref ai, .ref ad, .ref ac, .ref aw, .int (nI mn), .ref at_, .int (nI le), .int (nI th), .int (nI sp), .ref ao, .int (nI tm)])), (an, .inl (G.2.1, 525, .inl (gn nw))), (ac, .inl (G.2.1, 256, .inl (gn pC))), (aw, .inl (G.2.1, 256, .inl (gn pW)))]) (wr := []) (isC := [0, 1, 2, 3]) (isR := []) rfl rfl (by decide) (by decide) (fun u H locs hp1 hP hD hS => ?_)
  obtain ⟨pc1, pw1⟩ := u
  try dsimp only at hp1
  have hP : va_P G.1 vwCl [(mq, .inr (4, [.ref an, .ref ap, .int (nI st), .ref ak, .ref ai, .ref ad, .ref ac, .ref aw, .int (nI (cnt nw)), .ref at_, .int (nI le), .int (nI th), .int (nI sp), .ref ao, .int (nI tm)])), (an, .inl (G.2.1, 525, .inl (gn nw))), (ac, .inl (G.2.1, 256, .inl (gn pc1))), (aw, .inl (G.2.1, 256, .inl (gn pw1)))] H := hP
  have hD : va_D A [(mq, .inr (4, [.ref an, .ref ap, .int (nI st), .ref ak, .ref ai, .ref ad, .ref ac, .ref aw, .int (nI (cnt nw)), .ref at_, .int (nI le), .int (nI th), .int (nI sp), .ref ao, .int (nI tm)])), (an, .inl (G.2.1, 525, .inl (gn nw))), (ac, .inl (G.2.1, 256, .inl (gn pc1))), (aw, .inl (G.2.1, 256, .inl (gn pw1)))] := hD
  refine lv_iconst (v := zI (-1)) hx hb dX4_greatestOf_4 (by decide) ?_
  refine lv_istore_n (lv' := [(2, .int (zI (-1))), (0, .ref mq), (1, .int (nI o))]) hx hb dX4_greatestOf_5 rfl hl (by decide) rfl (fun ls hl => ?_)
  refine lv_iconst (v := nI 0) hx hb dX4_greatestOf_6 (by decide) ?_
  refine lv_istore_n (lv' := [(3, .int (nI 0)), (2, .int (zI (-1))), (0, .ref mq), (1, .int (nI o))]) hx hb dX4_greatestOf_7 rfl hl (by decide) rfl (fun ls hl => ?_)
  have L8 : ∀ (fuel : Nat) (k : Nat), cnt nw - k < fuel → (k ≤ cnt nw) → ∀ (H : Heap) (locs : List Loc), va_P G.1 vwCl [(mq, .inr (4, [.ref an, .ref ap, .int (nI st), .ref ak, .ref ai, .ref ad, .ref ac, .ref aw, .int (nI (cnt nw)), .ref at_, .int (nI le), .int (nI th), .int (nI sp), .ref ao, .int (nI tm)])), (an, .inl (G.2.1, 525, .inl (gn nw))), (ac, .inl (G.2.1, 256, .inl (gn pc1))), (aw, .inl (G.2.1, 256, .inl (gn pw1)))] H → va_D A [(mq, .inr (4, [.ref an, .ref ap, .int (nI st), .ref ak, .ref ai, .ref ad, .ref ac, .ref aw, .int (nI (cnt nw)), .ref at_, .int (nI le), .int (nI th), .int (nI sp), .ref ao, .int (nI tm)])), (an, .inl (G.2.1, 525, .inl (gn nw))), (ac, .inl (G.2.1, 256, .inl (gn pc1))), (aw, .inl (G.2.1, 256, .inl (gn pw1)))] → va_S A s.heap H locs → ∀ (ls : Array Slot), lv_has ls 4 [(3, .int (nI k)), (2, .int (zI ((fLg (svO nw) (svZ nw) o k).1))), (0, .ref mq), (1, .int (nI o))] → W p l e ({ frames := 2, cells := 0, slots := 0, locals := 46 } : Room) s m args below meth c H locs 0 0 (MQ below (va_Qi (S := (Nat → Nat) × (Nat → Nat)) (fun (r : Int32) (u : (Nat → Nat) × (Nat → Nat)) => (r = zI ((fLg (svO nw) (svZ nw) o (cnt nw)).1)) ∧ (fnd nw u.1 u.2 (cnt nw))) (gB G A (fun (u : (Nat → Nat) × (Nat → Nat)) => [(mq, .inr (4, [.ref an, .ref ap, .int (nI st), .ref ak, .ref ai, .ref ad, .ref ac, .ref aw, .int (nI (cnt nw)), .ref at_, .int (nI le), .int (nI th), .int (nI sp), .ref ao, .int (nI tm)])), (an, .inl (G.2.1, 525, .inl (gn nw))), (ac, .inl (G.2.1, 256, .inl (gn u.1))), (aw, .inl (G.2.1, 256, .inl (gn u.2)))])) A) args s 0 0 A) (F0 m 8 ls []) := by
    intro fuel
    induction fuel with
    | zero => intro k hme; exact absurd hme (Nat.not_lt_zero _)
    | succ fuel ih8 =>
      intro k hme hk H locs hP hD hS ls hl
      refine lv_iload_n hx hb dX4_greatestOf_8 rfl (lv_at hl 0 rfl) ?_
      refine lv_aload_n hx hb dX4_greatestOf_9 rfl (lv_at hl 2 rfl) ?_
      refine va_get (D := G.1) (ci := 4) (v := .int (nI (cnt nw))) (C := RX4) (T := TX4) (N := 15) hx hb hts hi4 hown hK hP 0 rfl rfl 8 (by decide) (hts (.fieldLink RX4 52 "LandQuartersModel" "many" "I") (by decide +kernel)) (fun _ h9 => h9) rfl dX4_greatestOf_10 ?_
      refine gIcmp_ge (a := k) (b := cnt nw) (tgt := 57) hx hb dX4_greatestOf_13 (by decide) (by omega) (by omega) (fun c13 => ?_) (fun c13 => ?_)
      · skip
        refine lv_iload_n hx hb dX4_greatestOf_57 rfl (lv_at hl 1 rfl) ?_
        exact gRi F dX4_greatestOf_58 (rfl) (pc1, pw1) (⟨by rw [show k = cnt nw by omega], hp1⟩) hP hD hS (Nat.le_refl _) (Nat.le_refl _)
      have hlt : k < cnt nw := (by omega); have hw9 := fLg_w (svO nw) (svZ nw) o k; have hzk : pw1 k = svZ nw k := (hp1 k hlt).2; have hz16 := psz_pos nw (gP nw k)
      have J50 : ∀  (H : Heap) (locs : List Loc), va_P G.1 vwCl [(mq, .inr (4, [.ref an, .ref ap, .int (nI st), .ref ak, .ref ai, .ref ad, .ref ac, .ref aw, .int (nI (cnt nw)), .ref at_, .int (nI le), .int (nI th), .int (nI sp), .ref ao, .int (nI tm)])), (an, .inl (G.2.1, 525, .inl (gn nw))), (ac, .inl (G.2.1, 256, .inl (gn pc1))), (aw, .inl (G.2.1, 256, .inl (gn pw1)))] H → va_D A [(mq, .inr (4, [.ref an, .ref ap, .int (nI st), .ref ak, .ref ai, .ref ad, .ref ac, .ref aw, .int (nI (cnt nw)), .ref at_, .int (nI le), .int (nI th), .int (nI sp), .ref ao, .int (nI tm)])), (an, .inl (G.2.1, 525, .inl (gn nw))), (ac, .inl (G.2.1, 256, .inl (gn pc1))), (aw, .inl (G.2.1, 256, .inl (gn pw1)))] → va_S A s.heap H locs → ∀ (ls : Array Slot), lv_has ls 4 [(3, .int (nI k)), (2, .int (zI ((fLg (svO nw) (svZ nw) o k).1))), (0, .ref mq), (1, .int (nI o))] → W p l e ({ frames := 2, cells := 0, slots := 0, locals := 46 } : Room) s m args below meth c H locs 0 0 (MQ below (va_Qi (S := (Nat → Nat) × (Nat → Nat)) (fun (r : Int32) (u : (Nat → Nat) × (Nat → Nat)) => (r = zI ((fLg (svO nw) (svZ nw) o (cnt nw)).1)) ∧ (fnd nw u.1 u.2 (cnt nw))) (gB G A (fun (u : (Nat → Nat) × (Nat → Nat)) => [(mq, .inr (4, [.ref an, .ref ap, .int (nI st), .ref ak, .ref ai, .ref ad, .ref ac, .ref aw, .int (nI (cnt nw)), .ref at_, .int (nI le), .int (nI th), .int (nI sp), .ref ao, .int (nI tm)])), (an, .inl (G.2.1, 525, .inl (gn nw))), (ac, .inl (G.2.1, 256, .inl (gn u.1))), (aw, .inl (G.2.1, 256, .inl (gn u.2)))])) A) args s 0 0 A) (F0 m 50 ls [.int (zI ((fLg (svO nw) (svZ nw) o (k + 1)).1))]) := by
        intro  H locs hP hD hS ls hl
        refine lv_istore_n (lv' := [(2, .int (zI ((fLg (svO nw) (svZ nw) o (k + 1)).1))), (3, .int (nI k)), (0, .ref mq), (1, .int (nI o))]) hx hb dX4_greatestOf_50 rfl hl (by decide) rfl (fun ls hl => ?_)
        refine lv_iinc (v := nI (k + 1)) (lv' := [(3, .int (nI (k + 1))), (2, .int (zI ((fLg (svO nw) (svZ nw) o (k + 1)).1))), (0, .ref mq), (1, .int (nI o))]) hx hb dX4_greatestOf_51 hl (k := 1) rfl (gInc_p _ rfl) (by decide) rfl (fun ls hl => ?_)
        refine lv_goto (tgt := 8) hx hb dX4_greatestOf_54 (by decide) ?_
        have hl : lv_has ls 4 [(3, .int (nI (k + 1))), (2, .int (zI ((fLg (svO nw) (svZ nw) o (k + 1)).1))), (0, .ref mq), (1, .int (nI o))] := lv_sub hl [0, 1, 2, 3] rfl
        have hy_1 : (k + 1) ≤ cnt nw := by omega
        exact ih8 (k + 1) (by omega) hy_1 H locs hP hD hS ls hl
      refine lv_aload_n hx hb dX4_greatestOf_16 rfl (lv_at hl 2 rfl) ?_
      refine lv_iload_n hx hb dX4_greatestOf_17 rfl (lv_at hl 0 rfl) ?_
      refine gCi F (gRunV (own := RX4) (C := RX4) (ci := 4) (bytes := cX4_ownerOf) (n := 1) (As := [.int (nI k)]) (rest := []) F (c_X4_ownerOf l G mq an ap st ak ai ad ac aw (cnt nw) at_ le th sp ao tm nw pc1 k (by omega) (by rw [(hp1 k (by omega)).1]; have := mc_lt (gP nw k); omega) H.size) gX4_greatestOf_X4_ownerOf rfl rfl rfl rfl (by decide +kernel) rfl ⟨Nat.le_of_ble_eq_true rfl, Nat.le_of_ble_eq_true rfl⟩ hP hD (lit := [(mq, .inr (4, [.ref an, .ref ap, .int (nI st), .ref ak, .ref ai, .ref ad, .ref ac, .ref aw, .int (nI (cnt nw)), .ref at_, .int (nI le), .int (nI th), .int (nI sp), .ref ao, .int (nI tm)])), (an, .inl (G.2.1, 525, .inl (gn nw))), (ac, .inl (G.2.1, 256, .inl (gn pc1))), (aw, .inl (G.2.1, 256, .inl (gn pw1)))]) (wt := []) (wc := [(mq, .inr (4, [.ref an, .ref ap, .int (nI st), .ref ak, .ref ai, .ref ad, .ref ac, .ref aw, .int (nI (cnt nw)), .ref at_, .int (nI le), .int (nI th), .int (nI sp), .ref ao, .int (nI tm)])), (an, .inl (G.2.1, 525, .inl (gn nw))), (ac, .inl (G.2.1, 256, .inl (gn pc1)))]) (isC := [0, 1, 2]) rfl (by decide) rfl rfl rfl hl.1 (Nat.le_of_ble_eq_true rfl) dX4_greatestOf_18 ⟨Nat.le_of_ble_eq_true rfl, Nat.le_of_ble_eq_true rfl⟩) hP hD hS (lit := [(mq, .inr (4, [.ref an, .ref ap, .int (nI st), .ref ak, .ref ai, .ref ad, .ref ac, .ref aw, .int (nI (cnt nw)), .ref at_, .int (nI le), .int (nI th), .int (nI sp), .ref ao, .int (nI tm)])), (an, .inl (G.2.1, 525, .inl (gn nw))), (ac, .inl (G.2.1, 256, .inl (gn pc1))), (aw, .inl (G.2.1, 256, .inl (gn pw1)))]) (wt := []) (wc := [(mq, .inr (4, [.ref an, .ref ap, .int (nI st), .ref ak, .ref ai, .ref ad, .ref ac, .ref aw, .int (nI (cnt nw)), .ref at_, .int (nI le), .int (nI th), .int (nI sp), .ref ao, .int (nI tm)])), (an, .inl (G.2.1, 525, .inl (gn nw))), (ac, .inl (G.2.1, 256, .inl (gn pc1)))]) (wr := [(aw, .inl (G.2.1, 256, .inl (gn pw1)))]) (isC := [0, 1, 2]) (isR := [3]) rfl rfl (by decide) (by decide) (fun r18 u H locs hp18 hP hD hS => ?_)
      subst hp18
      have hP : va_P G.1 vwCl [(aw, .inl (G.2.1, 256, .inl (gn pw1))), (mq, .inr (4, [.ref an, .ref ap, .int (nI st), .ref ak, .ref ai, .ref ad, .ref ac, .ref aw, .int (nI (cnt nw)), .ref at_, .int (nI le), .int (nI th), .int (nI sp), .ref ao, .int (nI tm)])), (an, .inl (G.2.1, 525, .inl (gn nw))), (ac, .inl (G.2.1, 256, .inl (gn pc1)))] H := hP
      have hD : va_D A [(aw, .inl (G.2.1, 256, .inl (gn pw1))), (mq, .inr (4, [.ref an, .ref ap, .int (nI st), .ref ak, .ref ai, .ref ad, .ref ac, .ref aw, .int (nI (cnt nw)), .ref at_, .int (nI le), .int (nI th), .int (nI sp), .ref ao, .int (nI tm)])), (an, .inl (G.2.1, 525, .inl (gn nw))), (ac, .inl (G.2.1, 256, .inl (gn pc1)))] := hD
      refine W.eq (g2 := F0 m 21 ls [.int (nI (svO nw k))]) (by rw [show (nI (nw (pc1 k)) : Int32) = nI (svO nw k) from by rw [svO, (hp1 k (by omega)).1]]) ?_
      refine lv_iload_n hx hb dX4_greatestOf_21 rfl (lv_at hl 3 rfl) ?_
      refine gIcmp_ne (a := svO nw k) (b := o) (tgt := 49) hx hb dX4_greatestOf_22 (by decide) (by have := how (mc (gP nw k)) (mc_lt _); show svO nw k < _; unfold svO; omega) (by omega) (fun c22 => ?_) (fun c22 => ?_)
      · skip
        refine lv_iload_n hx hb dX4_greatestOf_49 rfl (lv_at hl 1 rfl) ?_
        have hP : va_P G.1 vwCl [(mq, .inr (4, [.ref an, .ref ap, .int (nI st), .ref ak, .ref ai, .ref ad, .ref ac, .ref aw, .int (nI (cnt nw)), .ref at_, .int (nI le), .int (nI th), .int (nI sp), .ref ao, .int (nI tm)])), (an, .inl (G.2.1, 525, .inl (gn nw))), (ac, .inl (G.2.1, 256, .inl (gn pc1))), (aw, .inl (G.2.1, 256, .inl (gn pw1)))] H := hP.sub (ws' := [(mq, .inr (4, [.ref an, .ref ap, .int (nI st), .ref ak, .ref ai, .ref ad, .ref ac, .ref aw, .int (nI (cnt nw)), .ref at_, .int (nI le), .int (nI th), .int (nI sp), .ref ao, .int (nI tm)])), (an, .inl (G.2.1, 525, .inl (gn nw))), (ac, .inl (G.2.1, 256, .inl (gn pc1))), (aw, .inl (G.2.1, 256, .inl (gn pw1)))]) [1, 2, 3, 0] rfl
        have hD : va_D A [(mq, .inr (4, [.ref an, .ref ap, .int (nI st), .ref ak, .ref ai, .ref ad, .ref ac, .ref aw, .int (nI (cnt nw)), .ref at_, .int (nI le), .int (nI th), .int (nI sp), .ref ao, .int (nI tm)])), (an, .inl (G.2.1, 525, .inl (gn nw))), (ac, .inl (G.2.1, 256, .inl (gn pc1))), (aw, .inl (G.2.1, 256, .inl (gn pw1)))] := hD.sub (ws' := [(mq, .inr (4, [.ref an, .ref ap, .int (nI st), .ref ak, .ref ai, .ref ad, .ref ac, .ref aw, .int (nI (cnt nw)), .ref at_, .int (nI le), .int (nI th), .int (nI sp), .ref ao, .int (nI tm)])), (an, .inl (G.2.1, 525, .inl (gn nw))), (ac, .inl (G.2.1, 256, .inl (gn pc1))), (aw, .inl (G.2.1, 256, .inl (gn pw1)))]) [1, 2, 3, 0] (by decide) rfl
        have hl : lv_has ls 4 [(3, .int (nI k)), (2, .int (zI ((fLg (svO nw) (svZ nw) o k).1))), (0, .ref mq), (1, .int (nI o))] := lv_sub hl [0, 1, 2, 3] rfl
        have hse : (.int (zI ((fLg (svO nw) (svZ nw) o k).1)) : Value) = .int (zI ((fLg (svO nw) (svZ nw) o (k + 1)).1)) := by simp only [fLg]; first | (rw [if_neg (fun h => c22 h.1)]; done) | (rw [if_pos ⟨c22, hcb⟩, zI_nat]; done) | (rw [if_neg (fun h => hcn h.2)]; done)
        refine W.eq (g2 := F0 m 50 ls [.int (zI ((fLg (svO nw) (svZ nw) o (k + 1)).1))]) (congrArg (fun v_ => F0 m 50 ls [v_]) hse) ?_
        exact J50  H locs hP hD hS ls hl
      refine lv_iload_n hx hb dX4_greatestOf_25 rfl (lv_at hl 1 rfl) ?_
      refine lv_iconst (v := zI (-1)) hx hb dX4_greatestOf_26 (by decide) ?_
      refine gZcmp_eq (a := (fLg (svO nw) (svZ nw) o k).1) (b := (-1)) (tgt := 45) hx hb dX4_greatestOf_27 (by decide) (by rcases fLg_w (svO nw) (svZ nw) o k with h9 | h9; (rw [h9]; decide); omega) (by decide) (fun c27 => ?_) (fun c27 => ?_)
      · skip
        have hcb : (fLg (svO nw) (svZ nw) o k).2 < svZ nw k := (by rcases hw9 with h9 | h9; (rw [h9]; exact hz16.1); (exfalso; omega))
        refine lv_iload_n hx hb dX4_greatestOf_45 rfl (lv_at hl 0 rfl) ?_
        refine lv_goto (tgt := 50) hx hb dX4_greatestOf_46 (by decide) ?_
        have hP : va_P G.1 vwCl [(mq, .inr (4, [.ref an, .ref ap, .int (nI st), .ref ak, .ref ai, .ref ad, .ref ac, .ref aw, .int (nI (cnt nw)), .ref at_, .int (nI le), .int (nI th), .int (nI sp), .ref ao, .int (nI tm)])), (an, .inl (G.2.1, 525, .inl (gn nw))), (ac, .inl (G.2.1, 256, .inl (gn pc1))), (aw, .inl (G.2.1, 256, .inl (gn pw1)))] H := hP.sub (ws' := [(mq, .inr (4, [.ref an, .ref ap, .int (nI st), .ref ak, .ref ai, .ref ad, .ref ac, .ref aw, .int (nI (cnt nw)), .ref at_, .int (nI le), .int (nI th), .int (nI sp), .ref ao, .int (nI tm)])), (an, .inl (G.2.1, 525, .inl (gn nw))), (ac, .inl (G.2.1, 256, .inl (gn pc1))), (aw, .inl (G.2.1, 256, .inl (gn pw1)))]) [1, 2, 3, 0] rfl
        have hD : va_D A [(mq, .inr (4, [.ref an, .ref ap, .int (nI st), .ref ak, .ref ai, .ref ad, .ref ac, .ref aw, .int (nI (cnt nw)), .ref at_, .int (nI le), .int (nI th), .int (nI sp), .ref ao, .int (nI tm)])), (an, .inl (G.2.1, 525, .inl (gn nw))), (ac, .inl (G.2.1, 256, .inl (gn pc1))), (aw, .inl (G.2.1, 256, .inl (gn pw1)))] := hD.sub (ws' := [(mq, .inr (4, [.ref an, .ref ap, .int (nI st), .ref ak, .ref ai, .ref ad, .ref ac, .ref aw, .int (nI (cnt nw)), .ref at_, .int (nI le), .int (nI th), .int (nI sp), .ref ao, .int (nI tm)])), (an, .inl (G.2.1, 525, .inl (gn nw))), (ac, .inl (G.2.1, 256, .inl (gn pc1))), (aw, .inl (G.2.1, 256, .inl (gn pw1)))]) [1, 2, 3, 0] (by decide) rfl
        have hl : lv_has ls 4 [(3, .int (nI k)), (2, .int (zI ((fLg (svO nw) (svZ nw) o k).1))), (0, .ref mq), (1, .int (nI o))] := lv_sub hl [0, 1, 2, 3] rfl
        have hse : (.int (nI k) : Value) = .int (zI ((fLg (svO nw) (svZ nw) o (k + 1)).1)) := by simp only [fLg]; first | (rw [if_neg (fun h => c22 h.1)]; done) | (rw [if_pos ⟨c22, hcb⟩, zI_nat]; done) | (rw [if_neg (fun h => hcn h.2)]; done)
        refine W.eq (g2 := F0 m 50 ls [.int (zI ((fLg (svO nw) (svZ nw) o (k + 1)).1))]) (congrArg (fun v_ => F0 m 50 ls [v_]) hse) ?_
        exact J50  H locs hP hD hS ls hl
      have hb0 : 0 ≤ (fLg (svO nw) (svZ nw) o k).1 ∧ (fLg (svO nw) (svZ nw) o k).1 < (k : Int) ∧ (fLg (svO nw) (svZ nw) o k).2 = svZ nw (fLg (svO nw) (svZ nw) o k).1.toNat := (hw9.resolve_left (fun h => c27 (by rw [h]))); have hbk : (fLg (svO nw) (svZ nw) o k).1.toNat < cnt nw := (by omega); have hzb : pw1 (fLg (svO nw) (svZ nw) o k).1.toNat = svZ nw (fLg (svO nw) (svZ nw) o k).1.toNat := (hp1 _ hbk).2
      refine lv_aload_n hx hb dX4_greatestOf_30 rfl (lv_at hl 2 rfl) ?_
      refine va_get (D := G.1) (ci := 4) (v := .ref aw) (C := RX4) (T := TX4) (N := 15) hx hb hts hi4 hown hK hP 1 rfl rfl 7 (by decide) (hts (.fieldLink RX4 28 "LandQuartersModel" "plotWide" "[I") (by decide +kernel)) (fun _ h9 => h9) rfl dX4_greatestOf_31 ?_
      refine lv_iload_n hx hb dX4_greatestOf_34 rfl (lv_at hl 0 rfl) ?_
      refine gNald (k := k) hx hb hK hP 0 0 rfl rfl (by omega) (by first | decide | omega) dX4_greatestOf_35 ?_
      refine lv_aload_n hx hb dX4_greatestOf_36 rfl (lv_at hl 2 rfl) ?_
      refine va_get (D := G.1) (ci := 4) (v := .ref aw) (C := RX4) (T := TX4) (N := 15) hx hb hts hi4 hown hK hP 1 rfl rfl 7 (by decide) (hts (.fieldLink RX4 28 "LandQuartersModel" "plotWide" "[I") (by decide +kernel)) (fun _ h9 => h9) rfl dX4_greatestOf_37 ?_
      refine lv_iload_n hx hb dX4_greatestOf_40 rfl (lv_at hl 1 rfl) ?_
      refine W.eq (g2 := F0 m 41 ls [.int (nI ((fLg (svO nw) (svZ nw) o k).1.toNat)), .ref aw, .int (nI (pw1 k))]) (by rw [show (zI ((fLg (svO nw) (svZ nw) o k).1) : Int32) = nI ((fLg (svO nw) (svZ nw) o k).1.toNat) from by exact zI_toNat hb0.1]) ?_
      refine gNald (k := (fLg (svO nw) (svZ nw) o k).1.toNat) hx hb hK hP 0 0 rfl rfl (by omega) (by first | decide | omega) dX4_greatestOf_41 ?_
      refine gIcmp_le (a := pw1 k) (b := pw1 ((fLg (svO nw) (svZ nw) o k).1.toNat)) (tgt := 49) hx hb dX4_greatestOf_42 (by decide) (by rw [(hp1 k (by omega)).2]; have := psz_pos nw (gP nw k); omega) (by rw [(hp1 _ hbk).2]; have := psz_pos nw (gP nw (fLg (svO nw) (svZ nw) o k).1.toNat); omega) (fun c42 => ?_) (fun c42 => ?_)
      · skip
        have hcn : ¬ ((fLg (svO nw) (svZ nw) o k).2 < svZ nw k) := (by omega)
        refine lv_iload_n hx hb dX4_greatestOf_49 rfl (lv_at hl 1 rfl) ?_
        have hP : va_P G.1 vwCl [(mq, .inr (4, [.ref an, .ref ap, .int (nI st), .ref ak, .ref ai, .ref ad, .ref ac, .ref aw, .int (nI (cnt nw)), .ref at_, .int (nI le), .int (nI th), .int (nI sp), .ref ao, .int (nI tm)])), (an, .inl (G.2.1, 525, .inl (gn nw))), (ac, .inl (G.2.1, 256, .inl (gn pc1))), (aw, .inl (G.2.1, 256, .inl (gn pw1)))] H := hP.sub (ws' := [(mq, .inr (4, [.ref an, .ref ap, .int (nI st), .ref ak, .ref ai, .ref ad, .ref ac, .ref aw, .int (nI (cnt nw)), .ref at_, .int (nI le), .int (nI th), .int (nI sp), .ref ao, .int (nI tm)])), (an, .inl (G.2.1, 525, .inl (gn nw))), (ac, .inl (G.2.1, 256, .inl (gn pc1))), (aw, .inl (G.2.1, 256, .inl (gn pw1)))]) [1, 2, 3, 0] rfl
        have hD : va_D A [(mq, .inr (4, [.ref an, .ref ap, .int (nI st), .ref ak, .ref ai, .ref ad, .ref ac, .ref aw, .int (nI (cnt nw)), .ref at_, .int (nI le), .int (nI th), .int (nI sp), .ref ao, .int (nI tm)])), (an, .inl (G.2.1, 525, .inl (gn nw))), (ac, .inl (G.2.1, 256, .inl (gn pc1))), (aw, .inl (G.2.1, 256, .inl (gn pw1)))] := hD.sub (ws' := [(mq, .inr (4, [.ref an, .ref ap, .int (nI st), .ref ak, .ref ai, .ref ad, .ref ac, .ref aw, .int (nI (cnt nw)), .ref at_, .int (nI le), .int (nI th), .int (nI sp), .ref ao, .int (nI tm)])), (an, .inl (G.2.1, 525, .inl (gn nw))), (ac, .inl (G.2.1, 256, .inl (gn pc1))), (aw, .inl (G.2.1, 256, .inl (gn pw1)))]) [1, 2, 3, 0] (by decide) rfl
        have hl : lv_has ls 4 [(3, .int (nI k)), (2, .int (zI ((fLg (svO nw) (svZ nw) o k).1))), (0, .ref mq), (1, .int (nI o))] := lv_sub hl [0, 1, 2, 3] rfl
        have hse : (.int (zI ((fLg (svO nw) (svZ nw) o k).1)) : Value) = .int (zI ((fLg (svO nw) (svZ nw) o (k + 1)).1)) := by simp only [fLg]; first | (rw [if_neg (fun h => c22 h.1)]; done) | (rw [if_pos ⟨c22, hcb⟩, zI_nat]; done) | (rw [if_neg (fun h => hcn h.2)]; done)
        refine W.eq (g2 := F0 m 50 ls [.int (zI ((fLg (svO nw) (svZ nw) o (k + 1)).1))]) (congrArg (fun v_ => F0 m 50 ls [v_]) hse) ?_
        exact J50  H locs hP hD hS ls hl
      have hcb : (fLg (svO nw) (svZ nw) o k).2 < svZ nw k := (by omega)
      refine lv_iload_n hx hb dX4_greatestOf_45 rfl (lv_at hl 0 rfl) ?_
      refine lv_goto (tgt := 50) hx hb dX4_greatestOf_46 (by decide) ?_
      have hP : va_P G.1 vwCl [(mq, .inr (4, [.ref an, .ref ap, .int (nI st), .ref ak, .ref ai, .ref ad, .ref ac, .ref aw, .int (nI (cnt nw)), .ref at_, .int (nI le), .int (nI th), .int (nI sp), .ref ao, .int (nI tm)])), (an, .inl (G.2.1, 525, .inl (gn nw))), (ac, .inl (G.2.1, 256, .inl (gn pc1))), (aw, .inl (G.2.1, 256, .inl (gn pw1)))] H := hP.sub (ws' := [(mq, .inr (4, [.ref an, .ref ap, .int (nI st), .ref ak, .ref ai, .ref ad, .ref ac, .ref aw, .int (nI (cnt nw)), .ref at_, .int (nI le), .int (nI th), .int (nI sp), .ref ao, .int (nI tm)])), (an, .inl (G.2.1, 525, .inl (gn nw))), (ac, .inl (G.2.1, 256, .inl (gn pc1))), (aw, .inl (G.2.1, 256, .inl (gn pw1)))]) [1, 2, 3, 0] rfl
      have hD : va_D A [(mq, .inr (4, [.ref an, .ref ap, .int (nI st), .ref ak, .ref ai, .ref ad, .ref ac, .ref aw, .int (nI (cnt nw)), .ref at_, .int (nI le), .int (nI th), .int (nI sp), .ref ao, .int (nI tm)])), (an, .inl (G.2.1, 525, .inl (gn nw))), (ac, .inl (G.2.1, 256, .inl (gn pc1))), (aw, .inl (G.2.1, 256, .inl (gn pw1)))] := hD.sub (ws' := [(mq, .inr (4, [.ref an, .ref ap, .int (nI st), .ref ak, .ref ai, .ref ad, .ref ac, .ref aw, .int (nI (cnt nw)), .ref at_, .int (nI le), .int (nI th), .int (nI sp), .ref ao, .int (nI tm)])), (an, .inl (G.2.1, 525, .inl (gn nw))), (ac, .inl (G.2.1, 256, .inl (gn pc1))), (aw, .inl (G.2.1, 256, .inl (gn pw1)))]) [1, 2, 3, 0] (by decide) rfl
      have hl : lv_has ls 4 [(3, .int (nI k)), (2, .int (zI ((fLg (svO nw) (svZ nw) o k).1))), (0, .ref mq), (1, .int (nI o))] := lv_sub hl [0, 1, 2, 3] rfl
      have hse : (.int (nI k) : Value) = .int (zI ((fLg (svO nw) (svZ nw) o (k + 1)).1)) := by simp only [fLg]; first | (rw [if_neg (fun h => c22 h.1)]; done) | (rw [if_pos ⟨c22, hcb⟩, zI_nat]; done) | (rw [if_neg (fun h => hcn h.2)]; done)
      refine W.eq (g2 := F0 m 50 ls [.int (zI ((fLg (svO nw) (svZ nw) o (k + 1)).1))]) (congrArg (fun v_ => F0 m 50 ls [v_]) hse) ?_
      exact J50  H locs hP hD hS ls hl
  have hl : lv_has ls 4 [(3, .int (nI 0)), (2, .int (zI (-1))), (0, .ref mq), (1, .int (nI o))] := lv_sub hl [0, 1, 2, 3] rfl
  have hle : (.int (zI (-1)) : Value) = .int (zI ((fLg (svO nw) (svZ nw) o 0).1)) := by first | rfl | exact congrArg Value.int zI_neg1.symm
  rw [hle] at hl
  have hy_2 : 0 ≤ cnt nw := by omega
  exact L8 _ 0 (Nat.lt_succ_self _) hy_2 H locs hP hD hS ls hl
