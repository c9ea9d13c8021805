section PBounds
variable {te : Nat → Nat} {le tm ch : Nat} {t : PT}
theorem pSign_b (h : t.1 ≤ le) : t.1 ≤ (pSign te le tm ch t).2.1 ∧ (pSign te le tm ch t).2.1 ≤ le := by
  have h1 := tk_le (te := te) (ch := ch) h
  by_cases e : t.1 < le ∧ te t.1 = ch
  · rw [pSign_t e]
    have h2 := pOf_le (te := te) (tm := tm) (pl := 5) (a := 48) (b := 55) (t := (tk te le ch t.1, t.2)) h1.2
    exact ⟨Nat.le_trans h1.1 h2.1, h2.2⟩
  · rw [pSign_f e]; exact h1
theorem pRise_b (h : t.1 ≤ le) : t.1 ≤ (pRise te le tm t).2.1 ∧ (pRise te le tm t).2.1 ≤ le := by
  have h1 := tk_le (te := te) (ch := 43) h
  have h2 := tk_le (te := te) (ch := 45) h1.2
  by_cases e : t.1 < le ∧ te t.1 = 43
  · rw [pRise_u e]
    have h3 := pOf_le (te := te) (tm := tm) (pl := 5) (a := 49) (b := 57) (t := (tk te le 43 t.1, va_up t.2 (6 * tm + 4) (if t.1 < le ∧ te t.1 = 43 then 1 else -1))) h1.2
    exact ⟨Nat.le_trans h1.1 h3.1, h3.2⟩
  · by_cases e2 : tk te le 43 t.1 < le ∧ te (tk te le 43 t.1) = 45
    · rw [pRise_d e e2]
      have h3 := pOf_le (te := te) (tm := tm) (pl := 5) (a := 49) (b := 57) (t := (tk te le 45 (tk te le 43 t.1), va_up t.2 (6 * tm + 4) (if t.1 < le ∧ te t.1 = 43 then 1 else -1))) h2.2
      exact ⟨Nat.le_trans h1.1 (Nat.le_trans h2.1 h3.1), h3.2⟩
    · rw [pRise_n e e2]; exact ⟨Nat.le_trans h1.1 h2.1, h2.2⟩
theorem pG_b (h : t.1 ≤ le) : t.1 ≤ (pG te le tm t).2.1 ∧ (pG te le tm t).2.1 ≤ le := by
  have h1 := pCell_le (te := te) (tm := tm) h
  have h2 := pSize_le (te := te) (tm := tm) h1.2
  have h3 := pSign_b (te := te) (tm := tm) (ch := 61) h2.2
  by_cases e : (pCell te le tm t).1 = true
  · by_cases e2 : (pSize te le tm (pCell te le tm t).2).1 = true
    · rw [pG_3 e e2]; exact ⟨Nat.le_trans h1.1 (Nat.le_trans h2.1 h3.1), h3.2⟩
    · rw [pG_2 e e2]; exact ⟨Nat.le_trans h1.1 h2.1, h2.2⟩
  · rw [pG_1 e]; exact h1
theorem pR_b (h : t.1 ≤ le) : t.1 ≤ (pR te le tm t).2.1 ∧ (pR te le tm t).2.1 ≤ le := by
  have h1 := pCell_le (te := te) (tm := tm) h
  have h2 := pSize_le (te := te) (tm := tm) h1.2
  have h3 := pRise_b (te := te) (tm := tm) h2.2
  by_cases e : (pCell te le tm t).1 = true
  · by_cases e2 : (pSize te le tm (pCell te le tm t).2).1 = true
    · rw [pR_3 e e2]; exact ⟨Nat.le_trans h1.1 (Nat.le_trans h2.1 h3.1), h3.2⟩
    · rw [pR_2 e e2]; exact ⟨Nat.le_trans h1.1 h2.1, h2.2⟩
  · rw [pR_1 e]; exact h1
theorem pB_b (h : t.1 ≤ le) : t.1 ≤ (pB te le tm t).2.1 ∧ (pB te le tm t).2.1 ≤ le := by
  have h1 := pOf_le (te := te) (tm := tm) (pl := 5) (a := 49) (b := 55) h
  have h2 := pCell_le (te := te) (tm := tm) h1.2
  by_cases e : (pOf te le tm 5 49 55 t).1 = true
  · rw [pB_2 e]; exact ⟨Nat.le_trans h1.1 h2.1, h2.2⟩
  · rw [pB_1 e]; exact h1
theorem pDeed_b (h : t.1 ≤ le) : t.1 ≤ (pDeed te le tm t).2.1 ∧ (pDeed te le tm t).2.1 ≤ le ∧ ((pDeed te le tm t).1 = true → t.1 < (pDeed te le tm t).2.1) := by
  by_cases c8 : t.1 = le
  · rw [pD_e c8]; exact ⟨Nat.le_refl _, h, fun k => by cases k⟩
  · have hl : t.1 < le := by omega
    have h1 := pT1_le (te := te) (tm := tm) hl
    have e1 : (pT1 te tm t).1 = t.1 + 1 := rfl
    by_cases k1 : te t.1 = 98
    · rw [pD_b c8 k1]; have := pB_b (te := te) (tm := tm) h1; exact ⟨by omega, this.2, fun _ => by omega⟩
    · by_cases k2 : te t.1 = 102
      · rw [pD_f c8 k2]; have := pOf_le (te := te) (tm := tm) (pl := 5) (a := 49) (b := 57) h1; exact ⟨by omega, this.2, fun _ => by omega⟩
      · by_cases k3 : te t.1 = 103
        · rw [pD_g c8 k3]; have := pG_b (te := te) (tm := tm) h1; exact ⟨by omega, this.2, fun _ => by omega⟩
        · by_cases k4 : te t.1 = 114
          · rw [pD_r c8 k4]; have := pR_b (te := te) (tm := tm) h1; exact ⟨by omega, this.2, fun _ => by omega⟩
          · by_cases k5 : te t.1 = 116
            · rw [pD_t c8 k5]; exact ⟨Nat.le_succ _, h1, fun _ => Nat.lt_succ_self _⟩
            · rw [pD_n c8 k1 k2 k3 k4 k5]; exact ⟨Nat.le_refl _, h, fun k => by cases k⟩
end PBounds
/-- where the reading stands behind n deeds, and whether a further one is announced -/
def wT (te : Nat → Nat) (le : Nat) (to : Nat → Int) : Nat → PT
  | 0 => (0, to)
  | n + 1 => (tk te le 59 (pDeed te le n (wT te le to n)).2.1, (pDeed te le n (wT te le to n)).2.2)
def wMo (te : Nat → Nat) (le : Nat) (to : Nat → Int) : Nat → Bool
  | 0 => true
  | n + 1 => decide ((pDeed te le n (wT te le to n)).2.1 < le ∧ te (pDeed te le n (wT te le to n)).2.1 = 59)
def whI (te : Nat → Nat) (le : Nat) (to : Nat → Int) (n : Nat) : Prop := (∀ i, i < n → (pDeed te le i (wT te le to i)).1 = true ∧ wMo te le to i = true) ∧ (wT te le to n).1 ≤ le ∧ (wMo te le to n = true → 2 * n ≤ (wT te le to n).1)
theorem whI_s {te : Nat → Nat} {le : Nat} {to : Nat → Int} {n : Nat} (h : whI te le to n) (hm : wMo te le to n = true) (hd : (pDeed te le n (wT te le to n)).1 = true) : whI te le to (n + 1) := by
  obtain ⟨h1, h2, h3⟩ := h
  have hb := pDeed_b (te := te) (tm := n) h2
  have h4 := tk_le (te := te) (ch := 59) hb.2.1
  refine ⟨fun i hi => ?_, h4.2, fun hq => ?_⟩
  · by_cases e : i = n
    · subst e; exact ⟨hd, hm⟩
    · exact h1 i (by omega)
  · have hq2 := of_decide_eq_true hq
    show 2 * (n + 1) ≤ tk te le 59 (pDeed te le n (wT te le to n)).2.1
    unfold tk; rw [if_pos hq2]
    have := hb.2.2 hd; have := h3 hm; omega
/-- how the reading of a whole text ends -/
def whR (te : Nat → Nat) (le : Nat) (to : Nat → Int) (b : Bool) (n : Nat) (t : PT) : Prop := whI te le to n ∧
  ((wMo te le to n = true ∧ b = false ∧ (pDeed te le n (wT te le to n)).1 = false ∧ t = (pDeed te le n (wT te le to n)).2) ∨ (wMo te le to n = false ∧ t = wT te le to n ∧ b = decide (t.1 = le)))

set_option maxHeartbeats 4000000 in
set_option maxRecDepth 100000 in
theorem c_X4_isWhole (l : Launch) (G : gG) (mq : Nat) (an : Nat) (ap : Nat) (st : Nat) (ak : Nat) (ai : Nat) (ad : Nat) (ac : Nat) (aw : Nat) (mn : Nat) (at_ : Nat) (le : Nat) (th : Nat) (ao : Nat) (te : Nat → Nat) (to : Nat → Int) (sp : Nat) (tm : Nat) (hte : ∀ k, k < 60 → te k < 128) (hle : le ≤ 60) : gMi (S := (Bool) × (Nat) × (PT)) l yX4_isWhole wsX4_isWhole { frames := 5, cells := 0, slots := 0, locals := 109 } G [.ref mq] [(mq, .inr (4, [.ref an, .ref ap, .int (nI st), .ref ak, .ref ai, .ref ad, .ref ac, .ref aw, .int (nI mn), .ref at_, .int (nI le), .int (nI th), .int (nI sp), .ref ao, .int (nI tm)])), (at_, .inl (G.2.1, 60, .inl (gn te))), (ao, .inl (G.2.1, 186, .inl (fun k => zI (to k))))] (fun (r : Int32) (u : (Bool) × (Nat) × (PT)) => (r = nI (if (u.1 = true) then 1 else 0)) ∧ (whR te le to u.1 u.2.1 u.2.2)) (fun u => [(mq, .inr (4, [.ref an, .ref ap, .int (nI st), .ref ak, .ref ai, .ref ad, .ref ac, .ref aw, .int (nI mn), .ref at_, .int (nI le), .int (nI th), .int (nI ((u.2.2).1)), .ref ao, .int (nI u.2.1)])), (at_, .inl (G.2.1, 60, .inl (gn te))), (ao, .inl (G.2.1, 186, .inl (fun k => zI ((u.2.2).2 k))))]) 0 0 := by
  refine gMet_mk (cc := cX4_isWhole) (nL := 2) (ret := (some .boolean)) (Qc := fun A => va_Qi (S := (Bool) × (Nat) × (PT)) (fun (r : Int32) (u : (Bool) × (Nat) × (PT)) => (r = nI (if (u.1 = true) then 1 else 0)) ∧ (whR te le to u.1 u.2.1 u.2.2)) (gB G A (fun (u : (Bool) × (Nat) × (PT)) => [(mq, .inr (4, [.ref an, .ref ap, .int (nI st), .ref ak, .ref ai, .ref ad, .ref ac, .ref aw, .int (nI mn), .ref at_, .int (nI le), .int (nI th), .int (nI ((u.2.2).1)), .ref ao, .int (nI u.2.1)])), (at_, .inl (G.2.1, 60, .inl (gn te))), (ao, .inl (G.2.1, 186, .inl (fun k => zI ((u.2.2).2 k))))])) A) (by decide) rfl (Nat.le_of_ble_eq_true rfl) ?_
  intro p e s m args below meth c A F ls hl hP hD hS
  have hx := F.1
  have hb := F.2.1
  have hts := F.2.2.2.2.2.2.1
  have hown : s.vm.findClass RX4 = some m.cls := F.2.2.2.2.2.1
  have hKK := F.2.2.2.2.2.2.2.2.1
  have hK := hKK.1
  have hin0 := F.2.2.2.2.2.2.2.1
  have hi4 : ∀ w ∈ u_ws RX4 TX4 15, w ∈ wsX4_isWhole := by decide +kernel
  have hl : lv_has ls 2 [(0, .ref mq)] := hl
  generalize hH : s.heap = H at hP ⊢
  have hS : va_S A s.heap H [] := by rw [← hH]; exact va_S.rf
  generalize hLo : ([] : List Loc) = locs at hS ⊢
  refine lv_aload_n hx hb dX4_isWhole_0 rfl (lv_at hl 0 rfl) ?_
  refine lv_iconst (v := nI 0) hx hb dX4_isWhole_1 (by decide) ?_
  refine va_put (D := G.1) (ci := 4) (v := .int (nI 0)) (ty := .int) (C := RX4) (T := TX4) (N := 15) hx hb hts hi4 tyX4 tyX4_ok nmX4 hown hK hP hD hS 0 rfl rfl 12 (by decide) (hts (.fieldLink RX4 124 "LandQuartersModel" "spot" "I") (by decide +kernel)) (fun _ h9 => h9) rfl (by decide +kernel) (rfl) (rfl) (Nat.le_of_ble_eq_true rfl) dX4_isWhole_2 (fun H locs hP hD hS => ?_)
  have hP : va_P G.1 vwCl [(mq, .inr (4, [.ref an, .ref ap, .int (nI st), .ref ak, .ref ai, .ref ad, .ref ac, .ref aw, .int (nI mn), .ref at_, .int (nI le), .int (nI th), .int (nI 0), .ref ao, .int (nI tm)])), (at_, .inl (G.2.1, 60, .inl (gn te))), (ao, .inl (G.2.1, 186, .inl (fun k => zI (to k))))] H := hP
  have hD : va_D A [(mq, .inr (4, [.ref an, .ref ap, .int (nI st), .ref ak, .ref ai, .ref ad, .ref ac, .ref aw, .int (nI mn), .ref at_, .int (nI le), .int (nI th), .int (nI 0), .ref ao, .int (nI tm)])), (at_, .inl (G.2.1, 60, .inl (gn te))), (ao, .inl (G.2.1, 186, .inl (fun k => zI (to k))))] := hD
  refine lv_aload_n hx hb dX4_isWhole_5 rfl (lv_at hl 0 rfl) ?_
  refine lv_iconst (v := nI 0) hx hb dX4_isWhole_6 (by decide) ?_
  refine va_put (D := G.1) (ci := 4) (v := .int (nI 0)) (ty := .int) (C := RX4) (T := TX4) (N := 15) hx hb hts hi4 tyX4 tyX4_ok nmX4 hown hK hP hD hS 0 rfl rfl 14 (by decide) (hts (.fieldLink RX4 130 "LandQuartersModel" "toldMany" "I") (by decide +kernel)) (fun _ h9 => h9) rfl (by decide +kernel) (rfl) (rfl) (Nat.le_of_ble_eq_true rfl) dX4_isWhole_7 (fun H locs hP hD hS => ?_)
  have hP : va_P G.1 vwCl [(mq, .inr (4, [.ref an, .ref ap, .int (nI st), .ref ak, .ref ai, .ref ad, .ref ac, .ref aw, .int (nI mn), .ref at_, .int (nI le), .int (nI th), .int (nI 0), .ref ao, .int (nI 0)])), (at_, .inl (G.2.1, 60, .inl (gn te))), (ao, .inl (G.2.1, 186, .inl (fun k => zI (to k))))] H := hP
  have hD : va_D A [(mq, .inr (4, [.ref an, .ref ap, .int (nI st), .ref ak, .ref ai, .ref ad, .ref ac, .ref aw, .int (nI mn), .ref at_, .int (nI le), .int (nI th), .int (nI 0), .ref ao, .int (nI 0)])), (at_, .inl (G.2.1, 60, .inl (gn te))), (ao, .inl (G.2.1, 186, .inl (fun k => zI (to k))))] := hD
  refine lv_iconst (v := nI 1) hx hb dX4_isWhole_10 (by decide) ?_
  refine lv_istore_n (lv' := [(1, .int (nI 1)), (0, .ref mq)]) hx hb dX4_isWhole_11 rfl hl (by decide) rfl (fun ls hl => ?_)
  have L12 : ∀ (fuel : Nat) (n : Nat), 61 - n < fuel → (whI te le to n) → ∀ (H : Heap) (locs : List Loc), va_P G.1 vwCl [(mq, .inr (4, [.ref an, .ref ap, .int (nI st), .ref ak, .ref ai, .ref ad, .ref ac, .ref aw, .int (nI mn), .ref at_, .int (nI le), .int (nI th), .int (nI ((wT te le to n).1)), .ref ao, .int (nI n)])), (at_, .inl (G.2.1, 60, .inl (gn te))), (ao, .inl (G.2.1, 186, .inl (fun k => zI ((wT te le to n).2 k))))] H → va_D A [(mq, .inr (4, [.ref an, .ref ap, .int (nI st), .ref ak, .ref ai, .ref ad, .ref ac, .ref aw, .int (nI mn), .ref at_, .int (nI le), .int (nI th), .int (nI ((wT te le to n).1)), .ref ao, .int (nI n)])), (at_, .inl (G.2.1, 60, .inl (gn te))), (ao, .inl (G.2.1, 186, .inl (fun k => zI ((wT te le to n).2 k))))] → va_S A s.heap H locs → ∀ (ls : Array Slot), lv_has ls 2 [(1, .int (nI (if (wMo te le to n = true) then 1 else 0))), (0, .ref mq)] → W p l e ({ frames := 5, cells := 0, slots := 0, locals := 109 } : Room) s m args below meth c H locs 0 0 (MQ below (va_Qi (S := (Bool) × (Nat) × (PT)) (fun (r : Int32) (u : (Bool) × (Nat) × (PT)) => (r = nI (if (u.1 = true) then 1 else 0)) ∧ (whR te le to u.1 u.2.1 u.2.2)) (gB G A (fun (u : (Bool) × (Nat) × (PT)) => [(mq, .inr (4, [.ref an, .ref ap, .int (nI st), .ref ak, .ref ai, .ref ad, .ref ac, .ref aw, .int (nI mn), .ref at_, .int (nI le), .int (nI th), .int (nI ((u.2.2).1)), .ref ao, .int (nI u.2.1)])), (at_, .inl (G.2.1, 60, .inl (gn te))), (ao, .inl (G.2.1, 186, .inl (fun k => zI ((u.2.2).2 k))))])) A) args s 0 0 A) (F0 m 12 ls []) := by
    intro fuel
    induction fuel with
    | zero => intro n hme; exact absurd hme (Nat.not_lt_zero _)
    | succ fuel ih12 =>
      intro n hme hn H locs hP hD hS ls hl
      refine lv_iload_n hx hb dX4_isWhole_12 rfl (lv_at hl 0 rfl) ?_
      refine gIfB_eq (P := (wMo te le to n = true)) (tgt := 45) hx hb dX4_isWhole_13 (by decide) (fun c13 => ?_) (fun c13 => ?_)
      · skip
        refine lv_aload_n hx hb dX4_isWhole_45 rfl (lv_at hl 1 rfl) ?_
        refine va_get (D := G.1) (ci := 4) (v := .int (nI ((wT te le to n).1))) (C := RX4) (T := TX4) (N := 15) hx hb hts hi4 hown hK hP 0 rfl rfl 12 (by decide) (hts (.fieldLink RX4 124 "LandQuartersModel" "spot" "I") (by decide +kernel)) (fun _ h9 => h9) rfl dX4_isWhole_46 ?_
        refine lv_aload_n hx hb dX4_isWhole_49 rfl (lv_at hl 1 rfl) ?_
        refine va_get (D := G.1) (ci := 4) (v := .int (nI le)) (C := RX4) (T := TX4) (N := 15) hx hb hts hi4 hown hK hP 0 rfl rfl 10 (by decide) (hts (.fieldLink RX4 121 "LandQuartersModel" "length" "I") (by decide +kernel)) (fun _ h9 => h9) rfl dX4_isWhole_50 ?_
        refine gIcmp_ne (a := (wT te le to n).1) (b := le) (tgt := 60) hx hb dX4_isWhole_53 (by decide) (by have := hn.2.1; omega) (by omega) (fun c53 => ?_) (fun c53 => ?_)
        · skip
          refine lv_iconst (v := nI 0) hx hb dX4_isWhole_60 (by decide) ?_
          exact gRi F dX4_isWhole_61 (gNarZ (by decide)) ((decide ((wT te le to n).1 = le)), n, (wT te le to n)) (⟨by first | exact bT (decide_eq_true c53) | exact bF (decide_eq_false c53), ⟨hn, Or.inr ⟨bN c13, rfl, rfl⟩⟩⟩) hP hD hS (Nat.le_refl _) (Nat.le_refl _)
        refine lv_iconst (v := nI 1) hx hb dX4_isWhole_56 (by decide) ?_
        refine lv_goto (tgt := 61) hx hb dX4_isWhole_57 (by decide) ?_
        exact gRi F dX4_isWhole_61 (gNarZ (by decide)) ((decide ((wT te le to n).1 = le)), n, (wT te le to n)) (⟨by first | exact bT (decide_eq_true c53) | exact bF (decide_eq_false c53), ⟨hn, Or.inr ⟨bN c13, rfl, rfl⟩⟩⟩) hP hD hS (Nat.le_refl _) (Nat.le_refl _)
      refine lv_aload_n hx hb dX4_isWhole_16 rfl (lv_at hl 1 rfl) ?_
      refine gCi F (gRunV (own := RX4) (C := RX4) (ci := 4) (bytes := cX4_isDeed) (n := 0) (As := []) (rest := []) F (c_X4_isDeed l G mq an ap st ak ai ad ac aw mn at_ le th ao n te (wT te le to n) (by first | assumption | omega) (by first | assumption | omega) (by have := hn.2.1; have := hn.2.2 c13; omega) (hn.2.1) (by intro h9; have := hn.2.2 c13; omega) H.size) gX4_isWhole_X4_isDeed rfl rfl rfl rfl (by decide +kernel) rfl ⟨Nat.le_of_ble_eq_true rfl, Nat.le_of_ble_eq_true rfl⟩ hP hD (lit := [(mq, .inr (4, [.ref an, .ref ap, .int (nI st), .ref ak, .ref ai, .ref ad, .ref ac, .ref aw, .int (nI mn), .ref at_, .int (nI le), .int (nI th), .int (nI ((wT te le to n).1)), .ref ao, .int (nI n)])), (at_, .inl (G.2.1, 60, .inl (gn te))), (ao, .inl (G.2.1, 186, .inl (fun k => zI ((wT te le to n).2 k))))]) (wt := []) (wc := [(mq, .inr (4, [.ref an, .ref ap, .int (nI st), .ref ak, .ref ai, .ref ad, .ref ac, .ref aw, .int (nI mn), .ref at_, .int (nI le), .int (nI th), .int (nI ((wT te le to n).1)), .ref ao, .int (nI n)])), (at_, .inl (G.2.1, 60, .inl (gn te))), (ao, .inl (G.2.1, 186, .inl (fun k => zI ((wT te le to n).2 k))))]) (isC := [0, 1, 2]) rfl (by decide) rfl rfl rfl hl.1 (Nat.le_of_ble_eq_true rfl) dX4_isWhole_17 ⟨Nat.le_of_ble_eq_true rfl, Nat.le_of_ble_eq_true rfl⟩) hP hD hS (lit := [(mq, .inr (4, [.ref an, .ref ap, .int (nI st), .ref ak, .ref ai, .ref ad, .ref ac, .ref aw, .int (nI mn), .ref at_, .int (nI le), .int (nI th), .int (nI ((wT te le to n).1)), .ref ao, .int (nI n)])), (at_, .inl (G.2.1, 60, .inl (gn te))), (ao, .inl (G.2.1, 186, .inl (fun k => zI ((wT te le to n).2 k))))]) (wt := []) (wc := [(mq, .inr (4, [.ref an, .ref ap, .int (nI st), .ref ak, .ref ai, .ref ad, .ref ac, .ref aw, .int (nI mn), .ref at_, .int (nI le), .int (nI th), .int (nI ((wT te le to n).1)), .ref ao, .int (nI n)])), (at_, .inl (G.2.1, 60, .inl (gn te))), (ao, .inl (G.2.1, 186, .inl (fun k => zI ((wT te le to n).2 k))))]) (wr := []) (isC := [0, 1, 2]) (isR := []) rfl rfl (by decide) (by decide) (fun r17 u H locs hp17 hP hD hS => ?_)
      subst hp17
      have hP : va_P G.1 vwCl [(mq, .inr (4, [.ref an, .ref ap, .int (nI st), .ref ak, .ref ai, .ref ad, .ref ac, .ref aw, .int (nI mn), .ref at_, .int (nI le), .int (nI th), .int (nI (((pDeed te le n (wT te le to n)).2).1)), .ref ao, .int (nI n)])), (at_, .inl (G.2.1, 60, .inl (gn te))), (ao, .inl (G.2.1, 186, .inl (fun k => zI (((pDeed te le n (wT te le to n)).2).2 k))))] H := hP
      have hD : va_D A [(mq, .inr (4, [.ref an, .ref ap, .int (nI st), .ref ak, .ref ai, .ref ad, .ref ac, .ref aw, .int (nI mn), .ref at_, .int (nI le), .int (nI th), .int (nI (((pDeed te le n (wT te le to n)).2).1)), .ref ao, .int (nI n)])), (at_, .inl (G.2.1, 60, .inl (gn te))), (ao, .inl (G.2.1, 186, .inl (fun k => zI (((pDeed te le n (wT te le to n)).2).2 k))))] := hD
      refine gIfB_ne (P := ((pDeed te le n (wT te le to n)).1 = true)) (tgt := 25) hx hb dX4_isWhole_20 (by decide) (fun c20 => ?_) (fun c20 => ?_)
      · skip
        refine lv_aload_n hx hb dX4_isWhole_25 rfl (lv_at hl 1 rfl) ?_
        refine lv_dup hx hb dX4_isWhole_26 rfl ?_
        refine va_get (D := G.1) (ci := 4) (v := .int (nI n)) (C := RX4) (T := TX4) (N := 15) hx hb hts hi4 hown hK hP 0 rfl rfl 14 (by decide) (hts (.fieldLink RX4 130 "LandQuartersModel" "toldMany" "I") (by decide +kernel)) (fun _ h9 => h9) rfl dX4_isWhole_27 ?_
        refine lv_iconst (v := nI 1) hx hb dX4_isWhole_30 (by decide) ?_
        refine gIadd (a := n) (b := 1) hx hb dX4_isWhole_31 ?_
        refine va_put (D := G.1) (ci := 4) (v := .int (nI (n + 1))) (ty := .int) (C := RX4) (T := TX4) (N := 15) hx hb hts hi4 tyX4 tyX4_ok nmX4 hown hK hP hD hS 0 rfl rfl 14 (by decide) (hts (.fieldLink RX4 130 "LandQuartersModel" "toldMany" "I") (by decide +kernel)) (fun _ h9 => h9) rfl (by decide +kernel) (rfl) (rfl) (Nat.le_of_ble_eq_true rfl) dX4_isWhole_32 (fun H locs hP hD hS => ?_)
        have hP : va_P G.1 vwCl [(mq, .inr (4, [.ref an, .ref ap, .int (nI st), .ref ak, .ref ai, .ref ad, .ref ac, .ref aw, .int (nI mn), .ref at_, .int (nI le), .int (nI th), .int (nI (((pDeed te le n (wT te le to n)).2).1)), .ref ao, .int (nI (n + 1))])), (at_, .inl (G.2.1, 60, .inl (gn te))), (ao, .inl (G.2.1, 186, .inl (fun k => zI (((pDeed te le n (wT te le to n)).2).2 k))))] H := hP
        have hD : va_D A [(mq, .inr (4, [.ref an, .ref ap, .int (nI st), .ref ak, .ref ai, .ref ad, .ref ac, .ref aw, .int (nI mn), .ref at_, .int (nI le), .int (nI th), .int (nI (((pDeed te le n (wT te le to n)).2).1)), .ref ao, .int (nI (n + 1))])), (at_, .inl (G.2.1, 60, .inl (gn te))), (ao, .inl (G.2.1, 186, .inl (fun k => zI (((pDeed te le n (wT te le to n)).2).2 k))))] := hD
        refine lv_aload_n hx hb dX4_isWhole_35 rfl (lv_at hl 1 rfl) ?_
        refine lv_bipush (v := nI 59) hx hb dX4_isWhole_36 (by decide) ?_
        refine gCi F (gRunV (own := RX4) (C := RX4) (ci := 4) (bytes := cX4_takes) (n := 1) (As := [.int (nI 59)]) (rest := []) F (c_X4_takes l G mq an ap st ak ai ad ac aw mn at_ le th (((pDeed te le n (wT te le to n)).2).1) ao (n + 1) te 59 (by first | assumption | omega) (by first | assumption | omega) ((pDeed_b hn.2.1).2.1) (by first | assumption | omega) H.size) gX4_isWhole_X4_takes rfl rfl rfl rfl (by decide +kernel) rfl ⟨Nat.le_of_ble_eq_true rfl, Nat.le_of_ble_eq_true rfl⟩ hP hD (lit := [(mq, .inr (4, [.ref an, .ref ap, .int (nI st), .ref ak, .ref ai, .ref ad, .ref ac, .ref aw, .int (nI mn), .ref at_, .int (nI le), .int (nI th), .int (nI (((pDeed te le n (wT te le to n)).2).1)), .ref ao, .int (nI (n + 1))])), (at_, .inl (G.2.1, 60, .inl (gn te))), (ao, .inl (G.2.1, 186, .inl (fun k => zI (((pDeed te le n (wT te le to n)).2).2 k))))]) (wt := []) (wc := [(mq, .inr (4, [.ref an, .ref ap, .int (nI st), .ref ak, .ref ai, .ref ad, .ref ac, .ref aw, .int (nI mn), .ref at_, .int (nI le), .int (nI th), .int (nI (((pDeed te le n (wT te le to n)).2).1)), .ref ao, .int (nI (n + 1))])), (at_, .inl (G.2.1, 60, .inl (gn te)))]) (isC := [0, 1]) rfl (by decide) rfl rfl rfl hl.1 (Nat.le_of_ble_eq_true rfl) dX4_isWhole_38 ⟨Nat.le_of_ble_eq_true rfl, Nat.le_of_ble_eq_true rfl⟩) hP hD hS (lit := [(mq, .inr (4, [.ref an, .ref ap, .int (nI st), .ref ak, .ref ai, .ref ad, .ref ac, .ref aw, .int (nI mn), .ref at_, .int (nI le), .int (nI th), .int (nI (((pDeed te le n (wT te le to n)).2).1)), .ref ao, .int (nI (n + 1))])), (at_, .inl (G.2.1, 60, .inl (gn te))), (ao, .inl (G.2.1, 186, .inl (fun k => zI (((pDeed te le n (wT te le to n)).2).2 k))))]) (wt := []) (wc := [(mq, .inr (4, [.ref an, .ref ap, .int (nI st), .ref ak, .ref ai, .ref ad, .ref ac, .ref aw, .int (nI mn), .ref at_, .int (nI le), .int (nI th), .int (nI (((pDeed te le n (wT te le to n)).2).1)), .ref ao, .int (nI (n + 1))])), (at_, .inl (G.2.1, 60, .inl (gn te)))]) (wr := [(ao, .inl (G.2.1, 186, .inl (fun k => zI (((pDeed te le n (wT te le to n)).2).2 k))))]) (isC := [0, 1]) (isR := [2]) rfl rfl (by decide) (by decide) (fun r38 u H locs hp38 hP hD hS => ?_)
        subst hp38
        have hP : va_P G.1 vwCl [(ao, .inl (G.2.1, 186, .inl (fun k => zI (((pDeed te le n (wT te le to n)).2).2 k)))), (mq, .inr (4, [.ref an, .ref ap, .int (nI st), .ref ak, .ref ai, .ref ad, .ref ac, .ref aw, .int (nI mn), .ref at_, .int (nI le), .int (nI th), .int (nI (tk te le 59 (((pDeed te le n (wT te le to n)).2).1))), .ref ao, .int (nI (n + 1))])), (at_, .inl (G.2.1, 60, .inl (gn te)))] H := hP
        have hD : va_D A [(ao, .inl (G.2.1, 186, .inl (fun k => zI (((pDeed te le n (wT te le to n)).2).2 k)))), (mq, .inr (4, [.ref an, .ref ap, .int (nI st), .ref ak, .ref ai, .ref ad, .ref ac, .ref aw, .int (nI mn), .ref at_, .int (nI le), .int (nI th), .int (nI (tk te le 59 (((pDeed te le n (wT te le to n)).2).1))), .ref ao, .int (nI (n + 1))])), (at_, .inl (G.2.1, 60, .inl (gn te)))] := hD
        refine lv_istore_n (lv' := [(1, .int (nI (if ((((pDeed te le n (wT te le to n)).2).1) < le ∧ te (((pDeed te le n (wT te le to n)).2).1) = 59) then 1 else 0))), (0, .ref mq)]) hx hb dX4_isWhole_41 rfl hl (by decide) rfl (fun ls hl => ?_)
        refine lv_goto (tgt := 12) hx hb dX4_isWhole_42 (by decide) ?_
        have hP : va_P G.1 vwCl [(mq, .inr (4, [.ref an, .ref ap, .int (nI st), .ref ak, .ref ai, .ref ad, .ref ac, .ref aw, .int (nI mn), .ref at_, .int (nI le), .int (nI th), .int (nI (tk te le 59 (((pDeed te le n (wT te le to n)).2).1))), .ref ao, .int (nI (n + 1))])), (at_, .inl (G.2.1, 60, .inl (gn te))), (ao, .inl (G.2.1, 186, .inl (fun k => zI (((pDeed te le n (wT te le to n)).2).2 k))))] H := hP.sub (ws' := [(mq, .inr (4, [.ref an, .ref ap, .int (nI st), .ref ak, .ref ai, .ref ad, .ref ac, .ref aw, .int (nI mn), .ref at_, .int (nI le), .int (nI th), .int (nI (tk te le 59 (((pDeed te le n (wT te le to n)).2).1))), .ref ao, .int (nI (n + 1))])), (at_, .inl (G.2.1, 60, .inl (gn te))), (ao, .inl (G.2.1, 186, .inl (fun k => zI (((pDeed te le n (wT te le to n)).2).2 k))))]) [1, 2, 0] rfl
        have hD : va_D A [(mq, .inr (4, [.ref an, .ref ap, .int (nI st), .ref ak, .ref ai, .ref ad, .ref ac, .ref aw, .int (nI mn), .ref at_, .int (nI le), .int (nI th), .int (nI (tk te le 59 (((pDeed te le n (wT te le to n)).2).1))), .ref ao, .int (nI (n + 1))])), (at_, .inl (G.2.1, 60, .inl (gn te))), (ao, .inl (G.2.1, 186, .inl (fun k => zI (((pDeed te le n (wT te le to n)).2).2 k))))] := hD.sub (ws' := [(mq, .inr (4, [.ref an, .ref ap, .int (nI st), .ref ak, .ref ai, .ref ad, .ref ac, .ref aw, .int (nI mn), .ref at_, .int (nI le), .int (nI th), .int (nI (tk te le 59 (((pDeed te le n (wT te le to n)).2).1))), .ref ao, .int (nI (n + 1))])), (at_, .inl (G.2.1, 60, .inl (gn te))), (ao, .inl (G.2.1, 186, .inl (fun k => zI (((pDeed te le n (wT te le to n)).2).2 k))))]) [1, 2, 0] (by decide) rfl
        have hP := gEqP (q0 := 2) (f := fun k => zI (((pDeed te le n (wT te le to n)).2).2 k)) (g := fun k => zI ((wT te le to (n + 1)).2 k)) rfl (by intro j hj; rfl) hP
        have hD := va_D.set (p := 2) (e := .inl (G.2.1, 186, .inl (fun k => zI ((wT te le to (n + 1)).2 k)))) hD rfl
        have hP : va_P G.1 vwCl [(mq, .inr (4, [.ref an, .ref ap, .int (nI st), .ref ak, .ref ai, .ref ad, .ref ac, .ref aw, .int (nI mn), .ref at_, .int (nI le), .int (nI th), .int (nI (tk te le 59 (((pDeed te le n (wT te le to n)).2).1))), .ref ao, .int (nI (n + 1))])), (at_, .inl (G.2.1, 60, .inl (gn te))), (ao, .inl (G.2.1, 186, .inl (fun k => zI ((wT te le to (n + 1)).2 k))))] H := hP
        have hD : va_D A [(mq, .inr (4, [.ref an, .ref ap, .int (nI st), .ref ak, .ref ai, .ref ad, .ref ac, .ref aw, .int (nI mn), .ref at_, .int (nI le), .int (nI th), .int (nI (tk te le 59 (((pDeed te le n (wT te le to n)).2).1))), .ref ao, .int (nI (n + 1))])), (at_, .inl (G.2.1, 60, .inl (gn te))), (ao, .inl (G.2.1, 186, .inl (fun k => zI ((wT te le to (n + 1)).2 k))))] := hD
        have hfe : (.int (nI (tk te le 59 (((pDeed te le n (wT te le to n)).2).1))) : Value) = .int (nI ((wT te le to (n + 1)).1)) := by rfl
        have hP : va_P G.1 vwCl [(mq, .inr (4, [.ref an, .ref ap, .int (nI st), .ref ak, .ref ai, .ref ad, .ref ac, .ref aw, .int (nI mn), .ref at_, .int (nI le), .int (nI th), .int (nI ((wT te le to (n + 1)).1)), .ref ao, .int (nI (n + 1))])), (at_, .inl (G.2.1, 60, .inl (gn te))), (ao, .inl (G.2.1, 186, .inl (fun k => zI ((wT te le to (n + 1)).2 k))))] H := Eq.mp (congrArg (fun v_ : Value => va_P G.1 vwCl [(mq, .inr (4, [.ref an, .ref ap, .int (nI st), .ref ak, .ref ai, .ref ad, .ref ac, .ref aw, .int (nI mn), .ref at_, .int (nI le), .int (nI th), v_, .ref ao, .int (nI (n + 1))])), (at_, .inl (G.2.1, 60, .inl (gn te))), (ao, .inl (G.2.1, 186, .inl (fun k => zI ((wT te le to (n + 1)).2 k))))] H) hfe) hP
        have hD : va_D A [(mq, .inr (4, [.ref an, .ref ap, .int (nI st), .ref ak, .ref ai, .ref ad, .ref ac, .ref aw, .int (nI mn), .ref at_, .int (nI le), .int (nI th), .int (nI ((wT te le to (n + 1)).1)), .ref ao, .int (nI (n + 1))])), (at_, .inl (G.2.1, 60, .inl (gn te))), (ao, .inl (G.2.1, 186, .inl (fun k => zI ((wT te le to (n + 1)).2 k))))] := Eq.mp (congrArg (fun v_ : Value => va_D A [(mq, .inr (4, [.ref an, .ref ap, .int (nI st), .ref ak, .ref ai, .ref ad, .ref ac, .ref aw, .int (nI mn), .ref at_, .int (nI le), .int (nI th), v_, .ref ao, .int (nI (n + 1))])), (at_, .inl (G.2.1, 60, .inl (gn te))), (ao, .inl (G.2.1, 186, .inl (fun k => zI ((wT te le to (n + 1)).2 k))))]) hfe) hD
        have hl : lv_has ls 2 [(1, .int (nI (if ((((pDeed te le n (wT te le to n)).2).1) < le ∧ te (((pDeed te le n (wT te le to n)).2).1) = 59) then 1 else 0))), (0, .ref mq)] := lv_sub hl [0, 1] rfl
        have hle : (.int (nI (if ((((pDeed te le n (wT te le to n)).2).1) < le ∧ te (((pDeed te le n (wT te le to n)).2).1) = 59) then 1 else 0)) : Value) = .int (nI (if (wMo te le to (n + 1) = true) then 1 else 0)) := by exact congrArg (fun n_ : Nat => Value.int (nI n_)) (ite01 decide_eq_true_iff.symm)
        rw [hle] at hl
        have hy_1 : whI te le to (n + 1) := by exact whI_s hn c13 c20
        exact ih12 (n + 1) (by have := hn.2.1; have := hn.2.2 c13; omega) hy_1 H locs hP hD hS ls hl
      refine lv_iconst (v := nI 0) hx hb dX4_isWhole_23 (by decide) ?_
      exact gRi F dX4_isWhole_24 (gNarZ (by decide)) (false, n, (pDeed te le n (wT te le to n)).2) (⟨by exact bF rfl, ⟨hn, Or.inl ⟨c13, rfl, bN c20, rfl⟩⟩⟩) hP hD hS (Nat.le_refl _) (Nat.le_refl _)
  have hP := gEqP (q0 := 2) (f := fun k => zI (to k)) (g := fun k => zI ((wT te le to 0).2 k)) rfl (by intro j hj; rfl) hP
  have hD := va_D.set (p := 2) (e := .inl (G.2.1, 186, .inl (fun k => zI ((wT te le to 0).2 k)))) hD rfl
  have hP : va_P G.1 vwCl [(mq, .inr (4, [.ref an, .ref ap, .int (nI st), .ref ak, .ref ai, .ref ad, .ref ac, .ref aw, .int (nI mn), .ref at_, .int (nI le), .int (nI th), .int (nI 0), .ref ao, .int (nI 0)])), (at_, .inl (G.2.1, 60, .inl (gn te))), (ao, .inl (G.2.1, 186, .inl (fun k => zI ((wT te le to 0).2 k))))] H := hP
  have hD : va_D A [(mq, .inr (4, [.ref an, .ref ap, .int (nI st), .ref ak, .ref ai, .ref ad, .ref ac, .ref aw, .int (nI mn), .ref at_, .int (nI le), .int (nI th), .int (nI 0), .ref ao, .int (nI 0)])), (at_, .inl (G.2.1, 60, .inl (gn te))), (ao, .inl (G.2.1, 186, .inl (fun k => zI ((wT te le to 0).2 k))))] := hD
  have hfe : (.int (nI 0) : Value) = .int (nI ((wT te le to 0).1)) := by rfl
  have hP : va_P G.1 vwCl [(mq, .inr (4, [.ref an, .ref ap, .int (nI st), .ref ak, .ref ai, .ref ad, .ref ac, .ref aw, .int (nI mn), .ref at_, .int (nI le), .int (nI th), .int (nI ((wT te le to 0).1)), .ref ao, .int (nI 0)])), (at_, .inl (G.2.1, 60, .inl (gn te))), (ao, .inl (G.2.1, 186, .inl (fun k => zI ((wT te le to 0).2 k))))] H := Eq.mp (congrArg (fun v_ : Value => va_P G.1 vwCl [(mq, .inr (4, [.ref an, .ref ap, .int (nI st), .ref ak, .ref ai, .ref ad, .ref ac, .ref aw, .int (nI mn), .ref at_, .int (nI le), .int (nI th), v_, .ref ao, .int (nI 0)])), (at_, .inl (G.2.1, 60, .inl (gn te))), (ao, .inl (G.2.1, 186, .inl (fun k => zI ((wT te le to 0).2 k))))] H) hfe) hP
  have hD : va_D A [(mq, .inr (4, [.ref an, .ref ap, .int (nI st), .ref ak, .ref ai, .ref ad, .ref ac, .ref aw, .int (nI mn), .ref at_, .int (nI le), .int (nI th), .int (nI ((wT te le to 0).1)), .ref ao, .int (nI 0)])), (at_, .inl (G.2.1, 60, .inl (gn te))), (ao, .inl (G.2.1, 186, .inl (fun k => zI ((wT te le to 0).2 k))))] := Eq.mp (congrArg (fun v_ : Value => va_D A [(mq, .inr (4, [.ref an, .ref ap, .int (nI st), .ref ak, .ref ai, .ref ad, .ref ac, .ref aw, .int (nI mn), .ref at_, .int (nI le), .int (nI th), v_, .ref ao, .int (nI 0)])), (at_, .inl (G.2.1, 60, .inl (gn te))), (ao, .inl (G.2.1, 186, .inl (fun k => zI ((wT te le to 0).2 k))))]) hfe) hD
  have hl : lv_has ls 2 [(1, .int (nI 1)), (0, .ref mq)] := lv_sub hl [0, 1] rfl
  have hle : (.int (nI 1) : Value) = .int (nI (if (wMo te le to 0 = true) then 1 else 0)) := by first | rfl | exact congrArg Value.int (bT rfl)
  rw [hle] at hl
  have hy_2 : whI te le to 0 := by exact ⟨fun i hi => absurd hi (Nat.not_lt_zero i), Nat.zero_le _, fun _ => Nat.zero_le _⟩
  exact L12 _ 0 (Nat.lt_succ_self _) hy_2 H locs hP hD hS ls hl

set_option maxHeartbeats 4000000 in
set_option maxRecDepth 100000 in
theorem c_X4_firstError (l : Launch) (G : gG) (mq : Nat) (an : Nat) (ap : Nat) (st : Nat) (ak : Nat) (ai : Nat) (ad : Nat) (ac : Nat) (aw : Nat) (mn : Nat) (at_ : Nat) (le : Nat) (th : Nat) (ao : Nat) (te : Nat → Nat) (to : Nat → Int) (sp : Nat) (tm : Nat) (hte : ∀ k, k < 60 → te k < 128) (hle : le ≤ 60) : gMi (S := (Bool) × (Nat) × (PT)) l yX4_firstError wsX4_firstError { frames := 6, cells := 0, slots := 0, locals := 130 } G [.ref mq] [(mq, .inr (4, [.ref an, .ref ap, .int (nI st), .ref ak, .ref ai, .ref ad, .ref ac, .ref aw, .int (nI mn), .ref at_, .int (nI le), .int (nI th), .int (nI sp), .ref ao, .int (nI tm)])), (at_, .inl (G.2.1, 60, .inl (gn te))), (ao, .inl (G.2.1, 186, .inl (fun k => zI (to k))))] (fun (r : Int32) (u : (Bool) × (Nat) × (PT)) => (r = nI (if u.1 = true then le else u.2.2.1)) ∧ (whR te le to u.1 u.2.1 u.2.2)) (fun u => [(mq, .inr (4, [.ref an, .ref ap, .int (nI st), .ref ak, .ref ai, .ref ad, .ref ac, .ref aw, .int (nI mn), .ref at_, .int (nI le), .int (nI 0), .int (nI ((u.2.2).1)), .ref ao, .int (nI u.2.1)])), (at_, .inl (G.2.1, 60, .inl (gn te))), (ao, .inl (G.2.1, 186, .inl (fun k => zI ((u.2.2).2 k))))]) 0 0 := by
  refine gMet_mk (cc := cX4_firstError) (nL := 1) (ret := (some .int)) (Qc := fun A => va_Qi (S := (Bool) × (Nat) × (PT)) (fun (r : Int32) (u : (Bool) × (Nat) × (PT)) => (r = nI (if u.1 = true then le else u.2.2.1)) ∧ (whR te le to u.1 u.2.1 u.2.2)) (gB G A (fun (u : (Bool) × (Nat) × (PT)) => [(mq, .inr (4, [.ref an, .ref ap, .int (nI st), .ref ak, .ref ai, .ref ad, .ref ac, .ref aw, .int (nI mn), .ref at_, .int (nI le), .int (nI 0), .int (nI ((u.2.2).1)), .ref ao, .int (nI u.2.1)])), (at_, .inl (G.2.1, 60, .inl (gn te))), (ao, .inl (G.2.1, 186, .inl (fun k => zI ((u.2.2).2 k))))])) A) (by decide) rfl (Nat.le_of_ble_eq_true rfl) ?_
  intro p e s m args below meth c A F ls hl hP hD hS
  have hx := F.1
  have hb := F.2.1
  have hts := F.2.2.2.2.2.2.1
  have hown : s.vm.findClass RX4 = some m.cls := F.2.2.2.2.2.1
  have hKK := F.2.2.2.2.2.2.2.2.1
  have hK := hKK.1
  have hin0 := F.2.2.2.2.2.2.2.1
  have hi4 : ∀ w ∈ u_ws RX4 TX4 15, w ∈ wsX4_firstError := by decide +kernel
  have hl : lv_has ls 1 [(0, .ref mq)] := hl
  generalize hH : s.heap = H at hP ⊢
  have hS : va_S A s.heap H [] := by rw [← hH]; exact va_S.rf
  generalize hLo : ([] : List Loc) = locs at hS ⊢
  refine lv_aload_n hx hb dX4_firstError_0 rfl (lv_at hl 0 rfl) ?_
  refine lv_iconst (v := nI 0) hx hb dX4_firstError_1 (by decide) ?_
  refine va_put (D := G.1) (ci := 4) (v := .int (nI 0)) (ty := .int) (C := RX4) (T := TX4) (N := 15) hx hb hts hi4 tyX4 tyX4_ok nmX4 hown hK hP hD hS 0 rfl rfl 11 (by decide) (hts (.fieldLink RX4 37 "LandQuartersModel" "thrown" "I") (by decide +kernel)) (fun _ h9 => h9) rfl (by decide +kernel) (rfl) (rfl) (Nat.le_of_ble_eq_true rfl) dX4_firstError_2 (fun H locs hP hD hS => ?_)
  have hP : va_P G.1 vwCl [(mq, .inr (4, [.ref an, .ref ap, .int (nI st), .ref ak, .ref ai, .ref ad, .ref ac, .ref aw, .int (nI mn), .ref at_, .int (nI le), .int (nI 0), .int (nI sp), .ref ao, .int (nI tm)])), (at_, .inl (G.2.1, 60, .inl (gn te))), (ao, .inl (G.2.1, 186, .inl (fun k => zI (to k))))] H := hP
  have hD : va_D A [(mq, .inr (4, [.ref an, .ref ap, .int (nI st), .ref ak, .ref ai, .ref ad, .ref ac, .ref aw, .int (nI mn), .ref at_, .int (nI le), .int (nI 0), .int (nI sp), .ref ao, .int (nI tm)])), (at_, .inl (G.2.1, 60, .inl (gn te))), (ao, .inl (G.2.1, 186, .inl (fun k => zI (to k))))] := hD
  refine lv_aload_n hx hb dX4_firstError_5 rfl (lv_at hl 0 rfl) ?_
  refine gCi F (gRunV (own := RX4) (C := RX4) (ci := 4) (bytes := cX4_isWhole) (n := 0) (As := []) (rest := []) F (c_X4_isWhole l G mq an ap st ak ai ad ac aw mn at_ le 0 ao te to sp tm (by first | assumption | omega) (by first | assumption | omega) H.size) gX4_firstError_X4_isWhole rfl rfl rfl rfl (by decide +kernel) rfl ⟨Nat.le_of_ble_eq_true rfl, Nat.le_of_ble_eq_true rfl⟩ hP hD (lit := [(mq, .inr (4, [.ref an, .ref ap, .int (nI st), .ref ak, .ref ai, .ref ad, .ref ac, .ref aw, .int (nI mn), .ref at_, .int (nI le), .int (nI 0), .int (nI sp), .ref ao, .int (nI tm)])), (at_, .inl (G.2.1, 60, .inl (gn te))), (ao, .inl (G.2.1, 186, .inl (fun k => zI (to k))))]) (wt := []) (wc := [(mq, .inr (4, [.ref an, .ref ap, .int (nI st), .ref ak, .ref ai, .ref ad, .ref ac, .ref aw, .int (nI mn), .ref at_, .int (nI le), .int (nI 0), .int (nI sp), .ref ao, .int (nI tm)])), (at_, .inl (G.2.1, 60, .inl (gn te))), (ao, .inl (G.2.1, 186, .inl (fun k => zI (to k))))]) (isC := [0, 1, 2]) rfl (by decide) rfl rfl rfl hl.1 (Nat.le_of_ble_eq_true rfl) dX4_firstError_6 ⟨Nat.le_of_ble_eq_true rfl, Nat.le_of_ble_eq_true rfl⟩) hP hD hS (lit := [(mq, .inr (4, [.ref an, .ref ap, .int (nI st), .ref ak, .ref ai, .ref ad, .ref ac, .ref aw, .int (nI mn), .ref at_, .int (nI le), .int (nI 0), .int (nI sp), .ref ao, .int (nI tm)])), (at_, .inl (G.2.1, 60, .inl (gn te))), (ao, .inl (G.2.1, 186, .inl (fun k => zI (to k))))]) (wt := []) (wc := [(mq, .inr (4, [.ref an, .ref ap, .int (nI st), .ref ak, .ref ai, .ref ad, .ref ac, .ref aw, .int (nI mn), .ref at_, .int (nI le), .int (nI 0), .int (nI sp), .ref ao, .int (nI tm)])), (at_, .inl (G.2.1, 60, .inl (gn te))), (ao, .inl (G.2.1, 186, .inl (fun k => zI (to k))))]) (wr := []) (isC := [0, 1, 2]) (isR := []) rfl rfl (by decide) (by decide) (fun r6 u H locs hp6 hP hD hS => ?_)
  obtain ⟨bb9, n9, t9⟩ := u
  try dsimp only at hp6
  obtain ⟨rfl, hp6_0⟩ := hp6
  have hP : va_P G.1 vwCl [(mq, .inr (4, [.ref an, .ref ap, .int (nI st), .ref ak, .ref ai, .ref ad, .ref ac, .ref aw, .int (nI mn), .ref at_, .int (nI le), .int (nI 0), .int (nI ((t9).1)), .ref ao, .int (nI n9)])), (at_, .inl (G.2.1, 60, .inl (gn te))), (ao, .inl (G.2.1, 186, .inl (fun k => zI ((t9).2 k))))] H := hP
  have hD : va_D A [(mq, .inr (4, [.ref an, .ref ap, .int (nI st), .ref ak, .ref ai, .ref ad, .ref ac, .ref aw, .int (nI mn), .ref at_, .int (nI le), .int (nI 0), .int (nI ((t9).1)), .ref ao, .int (nI n9)])), (at_, .inl (G.2.1, 60, .inl (gn te))), (ao, .inl (G.2.1, 186, .inl (fun k => zI ((t9).2 k))))] := hD
  refine gIfB_eq (P := (bb9 = true)) (tgt := 19) hx hb dX4_firstError_9 (by decide) (fun c9 => ?_) (fun c9 => ?_)
  · skip
    refine lv_aload_n hx hb dX4_firstError_19 rfl (lv_at hl 0 rfl) ?_
    refine va_get (D := G.1) (ci := 4) (v := .int (nI ((t9).1))) (C := RX4) (T := TX4) (N := 15) hx hb hts hi4 hown hK hP 0 rfl rfl 12 (by decide) (hts (.fieldLink RX4 124 "LandQuartersModel" "spot" "I") (by decide +kernel)) (fun _ h9 => h9) rfl dX4_firstError_20 ?_
    exact gRi F dX4_firstError_23 (rfl) (bb9, n9, t9) (⟨by first | rw [if_pos c9] | rw [if_neg c9], hp6_0⟩) hP hD hS (Nat.le_refl _) (Nat.le_refl _)
  refine lv_aload_n hx hb dX4_firstError_12 rfl (lv_at hl 0 rfl) ?_
  refine va_get (D := G.1) (ci := 4) (v := .int (nI le)) (C := RX4) (T := TX4) (N := 15) hx hb hts hi4 hown hK hP 0 rfl rfl 10 (by decide) (hts (.fieldLink RX4 121 "LandQuartersModel" "length" "I") (by decide +kernel)) (fun _ h9 => h9) rfl dX4_firstError_13 ?_
  refine lv_goto (tgt := 23) hx hb dX4_firstError_16 (by decide) ?_
  exact gRi F dX4_firstError_23 (rfl) (bb9, n9, t9) (⟨by first | rw [if_pos c9] | rw [if_neg c9], hp6_0⟩) hP hD hS (Nat.le_refl _) (Nat.le_refl _)
