theorem drLost_le (ow he : Nat → Nat) (lv : Nat) : ∀ k, drLost ow he lv k ≤ k
  | 0 => Nat.le_refl _
  | k + 1 => by have := drLost_le ow he lv k; simp only [drLost]; split <;> omega
theorem sSumM_le {nw : Nat → Nat} (h : ∀ k, k < 256 → nw (256 + k) < 10) : ∀ k, k ≤ 256 → sSumH (hM nw) k ≤ 9 * k
  | 0 => fun _ => Nat.le_refl _
  | k + 1 => fun hk => by have h1 := sSumM_le h k (by omega); have h2 := h k (by omega); show sSumH (hM nw) k + nw (256 + k) ≤ 9 * (k + 1); omega

set_option maxHeartbeats 4000000 in
set_option maxRecDepth 100000 in
theorem c_X4_undo (l : Launch) (G : gG) (mq : Nat) (an : Nat) (ap : Nat) (st : Nat) (ak : Nat) (ai : Nat) (ad : Nat) (ac : Nat) (aw : Nat) (mn : Nat) (at_ : Nat) (le : Nat) (th : Nat) (sp : Nat) (ao : Nat) (tm : Nat) (nw : Nat → Nat) (pa : Nat → Nat) (hst : 1 ≤ st ∧ st ≤ 6) : gMi (S := Unit) l yX4_undo wsX4_undo { frames := 1, cells := 0, slots := 0, locals := 24 } G [.ref mq] [(mq, .inr (4, [.ref an, .ref ap, .int (nI st), .ref ak, .ref ai, .ref ad, .ref ac, .ref aw, .int (nI mn), .ref at_, .int (nI le), .int (nI th), .int (nI sp), .ref ao, .int (nI tm)])), (an, .inl (G.2.1, 525, .inl (gn nw))), (ap, .inl (G.2.1, 3150, .inl (gn pa)))] (fun (r : Int32) (u : Unit) => (r = nI (st - 1))) (fun u => [(mq, .inr (4, [.ref an, .ref ap, .int (nI (st - 1)), .ref ak, .ref ai, .ref ad, .ref ac, .ref aw, .int (nI mn), .ref at_, .int (nI le), .int (nI 0), .int (nI sp), .ref ao, .int (nI tm)])), (an, .inl (G.2.1, 525, .inl (gn (layF pa (525 * (st - 1)) nw 0)))), (ap, .inl (G.2.1, 3150, .inl (gn pa)))]) 0 0 := by
  refine gMet_mk (cc := cX4_undo) (nL := 1) (ret := (some .int)) (Qc := fun A => va_Qi (S := Unit) (fun (r : Int32) (u : Unit) => (r = nI (st - 1))) (gB G A (fun (u : Unit) => [(mq, .inr (4, [.ref an, .ref ap, .int (nI (st - 1)), .ref ak, .ref ai, .ref ad, .ref ac, .ref aw, .int (nI mn), .ref at_, .int (nI le), .int (nI 0), .int (nI sp), .ref ao, .int (nI tm)])), (an, .inl (G.2.1, 525, .inl (gn (layF pa (525 * (st - 1)) nw 0)))), (ap, .inl (G.2.1, 3150, .inl (gn pa)))])) A) (by decide) rfl (Nat.le_of_ble_eq_true rfl) ?_
  intro p e s m args below meth c A F ls hl hP hD hS
  have hx := F.1
  have hb := F.2.1
  have hts := F.2.2.2.2.2.2.1
  have hown : s.vm.findClass RX4 = some m.cls := F.2.2.2.2.2.1
  have hKK := F.2.2.2.2.2.2.2.2.1
  have hK := hKK.1
  have hin0 := F.2.2.2.2.2.2.2.1
  have hi4 : ∀ w ∈ u_ws RX4 TX4 15, w ∈ wsX4_undo := by decide +kernel
  have hl : lv_has ls 1 [(0, .ref mq)] := hl
  generalize hH : s.heap = H at hP ⊢
  have hS : va_S A s.heap H [] := by rw [← hH]; exact va_S.rf
  generalize hLo : ([] : List Loc) = locs at hS ⊢
  refine lv_aload_n hx hb dX4_undo_0 rfl (lv_at hl 0 rfl) ?_
  refine lv_iconst (v := nI 0) hx hb dX4_undo_1 (by decide) ?_
  refine va_put (D := G.1) (ci := 4) (v := .int (nI 0)) (ty := .int) (C := RX4) (T := TX4) (N := 15) hx hb hts hi4 tyX4 tyX4_ok nmX4 hown hK hP hD hS 0 rfl rfl 11 (by decide) (hts (.fieldLink RX4 37 "LandQuartersModel" "thrown" "I") (by decide +kernel)) (fun _ h9 => h9) rfl (by decide +kernel) (rfl) (rfl) (Nat.le_of_ble_eq_true rfl) dX4_undo_2 (fun H locs hP hD hS => ?_)
  have hP : va_P G.1 vwCl [(mq, .inr (4, [.ref an, .ref ap, .int (nI st), .ref ak, .ref ai, .ref ad, .ref ac, .ref aw, .int (nI mn), .ref at_, .int (nI le), .int (nI 0), .int (nI sp), .ref ao, .int (nI tm)])), (an, .inl (G.2.1, 525, .inl (gn nw))), (ap, .inl (G.2.1, 3150, .inl (gn pa)))] H := hP
  have hD : va_D A [(mq, .inr (4, [.ref an, .ref ap, .int (nI st), .ref ak, .ref ai, .ref ad, .ref ac, .ref aw, .int (nI mn), .ref at_, .int (nI le), .int (nI 0), .int (nI sp), .ref ao, .int (nI tm)])), (an, .inl (G.2.1, 525, .inl (gn nw))), (ap, .inl (G.2.1, 3150, .inl (gn pa)))] := hD
  refine lv_aload_n hx hb dX4_undo_5 rfl (lv_at hl 0 rfl) ?_
  refine va_get (D := G.1) (ci := 4) (v := .int (nI st)) (C := RX4) (T := TX4) (N := 15) hx hb hts hi4 hown hK hP 0 rfl rfl 2 (by decide) (hts (.fieldLink RX4 41 "LandQuartersModel" "states" "I") (by decide +kernel)) (fun _ h9 => h9) rfl dX4_undo_6 ?_
  refine gIf_ne (a := st) (tgt := 18) hx hb dX4_undo_9 (by decide) (by omega) (fun c9 => ?_) (fun c9 => ?_)
  · skip
    refine lv_aload_n hx hb dX4_undo_18 rfl (lv_at hl 0 rfl) ?_
    refine lv_dup hx hb dX4_undo_19 rfl ?_
    refine va_get (D := G.1) (ci := 4) (v := .int (nI st)) (C := RX4) (T := TX4) (N := 15) hx hb hts hi4 hown hK hP 0 rfl rfl 2 (by decide) (hts (.fieldLink RX4 41 "LandQuartersModel" "states" "I") (by decide +kernel)) (fun _ h9 => h9) rfl dX4_undo_20 ?_
    refine lv_iconst (v := nI 1) hx hb dX4_undo_23 (by decide) ?_
    refine gIsub (a := st) (b := 1) hx hb dX4_undo_24 (by omega) ?_
    refine va_put (D := G.1) (ci := 4) (v := .int (nI (st - 1))) (ty := .int) (C := RX4) (T := TX4) (N := 15) hx hb hts hi4 tyX4 tyX4_ok nmX4 hown hK hP hD hS 0 rfl rfl 2 (by decide) (hts (.fieldLink RX4 41 "LandQuartersModel" "states" "I") (by decide +kernel)) (fun _ h9 => h9) rfl (by decide +kernel) (rfl) (rfl) (Nat.le_of_ble_eq_true rfl) dX4_undo_25 (fun H locs hP hD hS => ?_)
    have hP : va_P G.1 vwCl [(mq, .inr (4, [.ref an, .ref ap, .int (nI (st - 1)), .ref ak, .ref ai, .ref ad, .ref ac, .ref aw, .int (nI mn), .ref at_, .int (nI le), .int (nI 0), .int (nI sp), .ref ao, .int (nI tm)])), (an, .inl (G.2.1, 525, .inl (gn nw))), (ap, .inl (G.2.1, 3150, .inl (gn pa)))] H := hP
    have hD : va_D A [(mq, .inr (4, [.ref an, .ref ap, .int (nI (st - 1)), .ref ak, .ref ai, .ref ad, .ref ac, .ref aw, .int (nI mn), .ref at_, .int (nI le), .int (nI 0), .int (nI sp), .ref ao, .int (nI tm)])), (an, .inl (G.2.1, 525, .inl (gn nw))), (ap, .inl (G.2.1, 3150, .inl (gn pa)))] := hD
    refine lv_aload_n hx hb dX4_undo_28 rfl (lv_at hl 0 rfl) ?_
    refine va_get (D := G.1) (ci := 4) (v := .ref ap) (C := RX4) (T := TX4) (N := 15) hx hb hts hi4 hown hK hP 0 rfl rfl 1 (by decide) (hts (.fieldLink RX4 13 "LandQuartersModel" "past" "[I") (by decide +kernel)) (fun _ h9 => h9) rfl dX4_undo_29 ?_
    refine lv_sipush (v := nI 525) hx hb dX4_undo_32 (by decide) ?_
    refine lv_aload_n hx hb dX4_undo_35 rfl (lv_at hl 0 rfl) ?_
    refine va_get (D := G.1) (ci := 4) (v := .int (nI (st - 1))) (C := RX4) (T := TX4) (N := 15) hx hb hts hi4 hown hK hP 0 rfl rfl 2 (by decide) (hts (.fieldLink RX4 41 "LandQuartersModel" "states" "I") (by decide +kernel)) (fun _ h9 => h9) rfl dX4_undo_36 ?_
    refine gImul (a := 525) (b := st - 1) hx hb dX4_undo_39 ?_
    refine lv_aload_n hx hb dX4_undo_40 rfl (lv_at hl 0 rfl) ?_
    refine va_get (D := G.1) (ci := 4) (v := .ref an) (C := RX4) (T := TX4) (N := 15) hx hb hts hi4 hown hK hP 0 rfl rfl 0 (by decide) (hts (.fieldLink RX4 7 "LandQuartersModel" "now" "[I") (by decide +kernel)) (fun _ h9 => h9) rfl dX4_undo_41 ?_
    refine lv_iconst (v := nI 0) hx hb dX4_undo_44 (by decide) ?_
    refine gCv F (gRunS (own := RX4) (bytes := cX4_lays) (n := 4) (As := [.ref ap, .int (nI (525 * (st - 1))), .ref an, .int (nI 0)]) (rest := []) F (c_X4_lays l G ap 3150 pa (525 * (st - 1)) an 525 nw 0 (by first | assumption | omega) (by first | assumption | omega) (by first | assumption | omega) (by first | assumption | omega) H.size) gX4_undo_X4_lays rfl rfl rfl rfl (by decide +kernel) rfl ⟨Nat.le_of_ble_eq_true rfl, Nat.le_of_ble_eq_true rfl⟩ hP hD (lit := [(mq, .inr (4, [.ref an, .ref ap, .int (nI (st - 1)), .ref ak, .ref ai, .ref ad, .ref ac, .ref aw, .int (nI mn), .ref at_, .int (nI le), .int (nI 0), .int (nI sp), .ref ao, .int (nI tm)])), (an, .inl (G.2.1, 525, .inl (gn nw))), (ap, .inl (G.2.1, 3150, .inl (gn pa)))]) (wt := []) (wc := [(ap, .inl (G.2.1, 3150, .inl (gn pa))), (an, .inl (G.2.1, 525, .inl (gn nw)))]) (isC := [2, 1]) rfl (by decide) rfl hl.1 (Nat.le_of_ble_eq_true rfl) dX4_undo_45 ⟨Nat.le_of_ble_eq_true rfl, Nat.le_of_ble_eq_true rfl⟩) hP hD hS (lit := [(mq, .inr (4, [.ref an, .ref ap, .int (nI (st - 1)), .ref ak, .ref ai, .ref ad, .ref ac, .ref aw, .int (nI mn), .ref at_, .int (nI le), .int (nI 0), .int (nI sp), .ref ao, .int (nI tm)])), (an, .inl (G.2.1, 525, .inl (gn nw))), (ap, .inl (G.2.1, 3150, .inl (gn pa)))]) (wt := []) (wc := [(ap, .inl (G.2.1, 3150, .inl (gn pa))), (an, .inl (G.2.1, 525, .inl (gn nw)))]) (wr := [(mq, .inr (4, [.ref an, .ref ap, .int (nI (st - 1)), .ref ak, .ref ai, .ref ad, .ref ac, .ref aw, .int (nI mn), .ref at_, .int (nI le), .int (nI 0), .int (nI sp), .ref ao, .int (nI tm)]))]) (isC := [2, 1]) (isR := [0]) rfl rfl (by decide) (by decide) (fun u H locs hp45 hP hD hS => ?_)
    have hP : va_P G.1 vwCl [(mq, .inr (4, [.ref an, .ref ap, .int (nI (st - 1)), .ref ak, .ref ai, .ref ad, .ref ac, .ref aw, .int (nI mn), .ref at_, .int (nI le), .int (nI 0), .int (nI sp), .ref ao, .int (nI tm)])), (ap, .inl (G.2.1, 3150, .inl (gn pa))), (an, .inl (G.2.1, 525, .inl (gn (layF pa (525 * (st - 1)) nw 0))))] H := hP
    have hD : va_D A [(mq, .inr (4, [.ref an, .ref ap, .int (nI (st - 1)), .ref ak, .ref ai, .ref ad, .ref ac, .ref aw, .int (nI mn), .ref at_, .int (nI le), .int (nI 0), .int (nI sp), .ref ao, .int (nI tm)])), (ap, .inl (G.2.1, 3150, .inl (gn pa))), (an, .inl (G.2.1, 525, .inl (gn (layF pa (525 * (st - 1)) nw 0))))] := hD
    refine lv_aload_n hx hb dX4_undo_48 rfl (lv_at hl 0 rfl) ?_
    refine va_get (D := G.1) (ci := 4) (v := .int (nI (st - 1))) (C := RX4) (T := TX4) (N := 15) hx hb hts hi4 hown hK hP 0 rfl rfl 2 (by decide) (hts (.fieldLink RX4 41 "LandQuartersModel" "states" "I") (by decide +kernel)) (fun _ h9 => h9) rfl dX4_undo_49 ?_
    have hP : va_P G.1 vwCl [(mq, .inr (4, [.ref an, .ref ap, .int (nI (st - 1)), .ref ak, .ref ai, .ref ad, .ref ac, .ref aw, .int (nI mn), .ref at_, .int (nI le), .int (nI 0), .int (nI sp), .ref ao, .int (nI tm)])), (an, .inl (G.2.1, 525, .inl (gn (layF pa (525 * (st - 1)) nw 0)))), (ap, .inl (G.2.1, 3150, .inl (gn pa)))] H := hP.sub (ws' := [(mq, .inr (4, [.ref an, .ref ap, .int (nI (st - 1)), .ref ak, .ref ai, .ref ad, .ref ac, .ref aw, .int (nI mn), .ref at_, .int (nI le), .int (nI 0), .int (nI sp), .ref ao, .int (nI tm)])), (an, .inl (G.2.1, 525, .inl (gn (layF pa (525 * (st - 1)) nw 0)))), (ap, .inl (G.2.1, 3150, .inl (gn pa)))]) [0, 2, 1] rfl
    have hD : va_D A [(mq, .inr (4, [.ref an, .ref ap, .int (nI (st - 1)), .ref ak, .ref ai, .ref ad, .ref ac, .ref aw, .int (nI mn), .ref at_, .int (nI le), .int (nI 0), .int (nI sp), .ref ao, .int (nI tm)])), (an, .inl (G.2.1, 525, .inl (gn (layF pa (525 * (st - 1)) nw 0)))), (ap, .inl (G.2.1, 3150, .inl (gn pa)))] := hD.sub (ws' := [(mq, .inr (4, [.ref an, .ref ap, .int (nI (st - 1)), .ref ak, .ref ai, .ref ad, .ref ac, .ref aw, .int (nI mn), .ref at_, .int (nI le), .int (nI 0), .int (nI sp), .ref ao, .int (nI tm)])), (an, .inl (G.2.1, 525, .inl (gn (layF pa (525 * (st - 1)) nw 0)))), (ap, .inl (G.2.1, 3150, .inl (gn pa)))]) [0, 2, 1] (by decide) rfl
    exact gRi F dX4_undo_52 (rfl) () (rfl) hP hD hS (Nat.le_refl _) (Nat.le_refl _)
  refine lv_aload_n hx hb dX4_undo_12 rfl (lv_at hl 0 rfl) ?_
  refine lv_iconst (v := nI 1) hx hb dX4_undo_13 (by decide) ?_
  exfalso; omega

set_option maxHeartbeats 4000000 in
set_option maxRecDepth 100000 in
theorem f1_X4_undo (l : Launch) (G : gG) (mq : Nat) (an : Nat) (ap : Nat) (ak : Nat) (ai : Nat) (ad : Nat) (ac : Nat) (aw : Nat) (mn : Nat) (at_ : Nat) (le : Nat) (th : Nat) (sp : Nat) (ao : Nat) (tm : Nat) : gMi (S := Unit) l yX4_undo wsX4_undo { frames := 1, cells := 0, slots := 0, locals := 21 } G [.ref mq] [(mq, .inr (4, [.ref an, .ref ap, .int (nI 0), .ref ak, .ref ai, .ref ad, .ref ac, .ref aw, .int (nI mn), .ref at_, .int (nI le), .int (nI th), .int (nI sp), .ref ao, .int (nI tm)]))] (fun (r : Int32) (u : Unit) => (r = nI 0)) (fun u => [(mq, .inr (4, [.ref an, .ref ap, .int (nI 0), .ref ak, .ref ai, .ref ad, .ref ac, .ref aw, .int (nI mn), .ref at_, .int (nI le), .int (nI 1), .int (nI sp), .ref ao, .int (nI tm)]))]) 0 0 := by
  refine gMet_mk (cc := cX4_undo) (nL := 1) (ret := (some .int)) (Qc := fun A => va_Qi (S := Unit) (fun (r : Int32) (u : Unit) => (r = nI 0)) (gB G A (fun (u : Unit) => [(mq, .inr (4, [.ref an, .ref ap, .int (nI 0), .ref ak, .ref ai, .ref ad, .ref ac, .ref aw, .int (nI mn), .ref at_, .int (nI le), .int (nI 1), .int (nI sp), .ref ao, .int (nI tm)]))])) A) (by decide) rfl (Nat.le_of_ble_eq_true rfl) ?_
  intro p e s m args below meth c A F ls hl hP hD hS
  have hx := F.1
  have hb := F.2.1
  have hts := F.2.2.2.2.2.2.1
  have hown : s.vm.findClass RX4 = some m.cls := F.2.2.2.2.2.1
  have hKK := F.2.2.2.2.2.2.2.2.1
  have hK := hKK.1
  have hin0 := F.2.2.2.2.2.2.2.1
  have hi4 : ∀ w ∈ u_ws RX4 TX4 15, w ∈ wsX4_undo := by decide +kernel
  have hl : lv_has ls 1 [(0, .ref mq)] := hl
  generalize hH : s.heap = H at hP ⊢
  have hS : va_S A s.heap H [] := by rw [← hH]; exact va_S.rf
  generalize hLo : ([] : List Loc) = locs at hS ⊢
  refine lv_aload_n hx hb dX4_undo_0 rfl (lv_at hl 0 rfl) ?_
  refine lv_iconst (v := nI 0) hx hb dX4_undo_1 (by decide) ?_
  refine va_put (D := G.1) (ci := 4) (v := .int (nI 0)) (ty := .int) (C := RX4) (T := TX4) (N := 15) hx hb hts hi4 tyX4 tyX4_ok nmX4 hown hK hP hD hS 0 rfl rfl 11 (by decide) (hts (.fieldLink RX4 37 "LandQuartersModel" "thrown" "I") (by decide +kernel)) (fun _ h9 => h9) rfl (by decide +kernel) (rfl) (rfl) (Nat.le_of_ble_eq_true rfl) dX4_undo_2 (fun H locs hP hD hS => ?_)
  have hP : va_P G.1 vwCl [(mq, .inr (4, [.ref an, .ref ap, .int (nI 0), .ref ak, .ref ai, .ref ad, .ref ac, .ref aw, .int (nI mn), .ref at_, .int (nI le), .int (nI 0), .int (nI sp), .ref ao, .int (nI tm)]))] H := hP
  have hD : va_D A [(mq, .inr (4, [.ref an, .ref ap, .int (nI 0), .ref ak, .ref ai, .ref ad, .ref ac, .ref aw, .int (nI mn), .ref at_, .int (nI le), .int (nI 0), .int (nI sp), .ref ao, .int (nI tm)]))] := hD
  refine lv_aload_n hx hb dX4_undo_5 rfl (lv_at hl 0 rfl) ?_
  refine va_get (D := G.1) (ci := 4) (v := .int (nI 0)) (C := RX4) (T := TX4) (N := 15) hx hb hts hi4 hown hK hP 0 rfl rfl 2 (by decide) (hts (.fieldLink RX4 41 "LandQuartersModel" "states" "I") (by decide +kernel)) (fun _ h9 => h9) rfl dX4_undo_6 ?_
  refine gIf_ne (a := 0) (tgt := 18) hx hb dX4_undo_9 (by decide) (by omega) (fun c9 => ?_) (fun c9 => ?_)
  · skip
    exfalso; omega
  refine lv_aload_n hx hb dX4_undo_12 rfl (lv_at hl 0 rfl) ?_
  refine lv_iconst (v := nI 1) hx hb dX4_undo_13 (by decide) ?_
  refine gCi F (gRunV (own := RX4) (C := RX4) (ci := 4) (bytes := cX4_refuses) (n := 1) (As := [.int (nI 1)]) (rest := []) F (c_X4_refuses l G mq an ap 0 ak ai ad ac aw mn at_ le 0 sp ao tm 1  H.size) gX4_undo_X4_refuses rfl rfl rfl rfl (by decide +kernel) rfl ⟨Nat.le_of_ble_eq_true rfl, Nat.le_of_ble_eq_true rfl⟩ hP hD (lit := [(mq, .inr (4, [.ref an, .ref ap, .int (nI 0), .ref ak, .ref ai, .ref ad, .ref ac, .ref aw, .int (nI mn), .ref at_, .int (nI le), .int (nI 0), .int (nI sp), .ref ao, .int (nI tm)]))]) (wt := []) (wc := [(mq, .inr (4, [.ref an, .ref ap, .int (nI 0), .ref ak, .ref ai, .ref ad, .ref ac, .ref aw, .int (nI mn), .ref at_, .int (nI le), .int (nI 0), .int (nI sp), .ref ao, .int (nI tm)]))]) (isC := [0]) rfl (by decide) rfl rfl rfl hl.1 (Nat.le_of_ble_eq_true rfl) dX4_undo_14 ⟨Nat.le_of_ble_eq_true rfl, Nat.le_of_ble_eq_true rfl⟩) hP hD hS (lit := [(mq, .inr (4, [.ref an, .ref ap, .int (nI 0), .ref ak, .ref ai, .ref ad, .ref ac, .ref aw, .int (nI mn), .ref at_, .int (nI le), .int (nI 0), .int (nI sp), .ref ao, .int (nI tm)]))]) (wt := []) (wc := [(mq, .inr (4, [.ref an, .ref ap, .int (nI 0), .ref ak, .ref ai, .ref ad, .ref ac, .ref aw, .int (nI mn), .ref at_, .int (nI le), .int (nI 0), .int (nI sp), .ref ao, .int (nI tm)]))]) (wr := []) (isC := [0]) (isR := []) rfl rfl (by decide) (by decide) (fun r14 u H locs hp14 hP hD hS => ?_)
  subst hp14
  have hP : va_P G.1 vwCl [(mq, .inr (4, [.ref an, .ref ap, .int (nI 0), .ref ak, .ref ai, .ref ad, .ref ac, .ref aw, .int (nI mn), .ref at_, .int (nI le), .int (nI 1), .int (nI sp), .ref ao, .int (nI tm)]))] H := hP
  have hD : va_D A [(mq, .inr (4, [.ref an, .ref ap, .int (nI 0), .ref ak, .ref ai, .ref ad, .ref ac, .ref aw, .int (nI mn), .ref at_, .int (nI le), .int (nI 1), .int (nI sp), .ref ao, .int (nI tm)]))] := hD
  exact gRi F dX4_undo_17 (rfl) () (rfl) hP hD hS (Nat.le_refl _) (Nat.le_refl _)

set_option maxHeartbeats 4000000 in
set_option maxRecDepth 100000 in
theorem c_X4_savedStates (l : Launch) (G : gG) (mq : Nat) (an : Nat) (ap : Nat) (st : Nat) (ak : Nat) (ai : Nat) (ad : Nat) (ac : Nat) (aw : Nat) (mn : Nat) (at_ : Nat) (le : Nat) (th : Nat) (sp : Nat) (ao : Nat) (tm : Nat) : gMi (S := Unit) l yX4_savedStates wsX4_savedStates { frames := 0, cells := 0, slots := 0, locals := 0 } G [.ref mq] [(mq, .inr (4, [.ref an, .ref ap, .int (nI st), .ref ak, .ref ai, .ref ad, .ref ac, .ref aw, .int (nI mn), .ref at_, .int (nI le), .int (nI th), .int (nI sp), .ref ao, .int (nI tm)]))] (fun (r : Int32) (u : Unit) => (r = nI st)) (fun u => [(mq, .inr (4, [.ref an, .ref ap, .int (nI st), .ref ak, .ref ai, .ref ad, .ref ac, .ref aw, .int (nI mn), .ref at_, .int (nI le), .int (nI 0), .int (nI sp), .ref ao, .int (nI tm)]))]) 0 0 := by
  refine gMet_mk (cc := cX4_savedStates) (nL := 1) (ret := (some .int)) (Qc := fun A => va_Qi (S := Unit) (fun (r : Int32) (u : Unit) => (r = nI st)) (gB G A (fun (u : Unit) => [(mq, .inr (4, [.ref an, .ref ap, .int (nI st), .ref ak, .ref ai, .ref ad, .ref ac, .ref aw, .int (nI mn), .ref at_, .int (nI le), .int (nI 0), .int (nI sp), .ref ao, .int (nI tm)]))])) A) (by decide) rfl (Nat.le_of_ble_eq_true rfl) ?_
  intro p e s m args below meth c A F ls hl hP hD hS
  have hx := F.1
  have hb := F.2.1
  have hts := F.2.2.2.2.2.2.1
  have hown : s.vm.findClass RX4 = some m.cls := F.2.2.2.2.2.1
  have hKK := F.2.2.2.2.2.2.2.2.1
  have hK := hKK.1
  have hin0 := F.2.2.2.2.2.2.2.1
  have hi4 : ∀ w ∈ u_ws RX4 TX4 15, w ∈ wsX4_savedStates := by decide +kernel
  have hl : lv_has ls 1 [(0, .ref mq)] := hl
  generalize hH : s.heap = H at hP ⊢
  have hS : va_S A s.heap H [] := by rw [← hH]; exact va_S.rf
  generalize hLo : ([] : List Loc) = locs at hS ⊢
  refine lv_aload_n hx hb dX4_savedStates_0 rfl (lv_at hl 0 rfl) ?_
  refine lv_iconst (v := nI 0) hx hb dX4_savedStates_1 (by decide) ?_
  refine va_put (D := G.1) (ci := 4) (v := .int (nI 0)) (ty := .int) (C := RX4) (T := TX4) (N := 15) hx hb hts hi4 tyX4 tyX4_ok nmX4 hown hK hP hD hS 0 rfl rfl 11 (by decide) (hts (.fieldLink RX4 37 "LandQuartersModel" "thrown" "I") (by decide +kernel)) (fun _ h9 => h9) rfl (by decide +kernel) (rfl) (rfl) (Nat.le_of_ble_eq_true rfl) dX4_savedStates_2 (fun H locs hP hD hS => ?_)
  have hP : va_P G.1 vwCl [(mq, .inr (4, [.ref an, .ref ap, .int (nI st), .ref ak, .ref ai, .ref ad, .ref ac, .ref aw, .int (nI mn), .ref at_, .int (nI le), .int (nI 0), .int (nI sp), .ref ao, .int (nI tm)]))] H := hP
  have hD : va_D A [(mq, .inr (4, [.ref an, .ref ap, .int (nI st), .ref ak, .ref ai, .ref ad, .ref ac, .ref aw, .int (nI mn), .ref at_, .int (nI le), .int (nI 0), .int (nI sp), .ref ao, .int (nI tm)]))] := hD
  refine lv_aload_n hx hb dX4_savedStates_5 rfl (lv_at hl 0 rfl) ?_
  refine va_get (D := G.1) (ci := 4) (v := .int (nI st)) (C := RX4) (T := TX4) (N := 15) hx hb hts hi4 hown hK hP 0 rfl rfl 2 (by decide) (hts (.fieldLink RX4 41 "LandQuartersModel" "states" "I") (by decide +kernel)) (fun _ h9 => h9) rfl dX4_savedStates_6 ?_
  exact gRi F dX4_savedStates_9 (rfl) () (rfl) hP hD hS (Nat.le_refl _) (Nat.le_refl _)

set_option maxHeartbeats 4000000 in
set_option maxRecDepth 100000 in
theorem c_X4_keep (l : Launch) (G : gG) (mq : Nat) (an : Nat) (ap : Nat) (st : Nat) (ak : Nat) (ai : Nat) (ad : Nat) (ac : Nat) (aw : Nat) (mn : Nat) (at_ : Nat) (le : Nat) (th : Nat) (sp : Nat) (ao : Nat) (tm : Nat) (nw : Nat → Nat) (ke : Nat → Nat) (ik : Nat → Nat) (pC : Nat → Nat) (pW : Nat → Nat) (k : Nat) (hk : k < 2) (how : ∀ k, k < 256 → nw k < 8) : gMi (S := (Nat → Nat) × (Nat → Nat)) l yX4_keep wsX4_keep { frames := 3, cells := 0, slots := 0, locals := 66 } G [.ref mq, .int (nI k)] [(mq, .inr (4, [.ref an, .ref ap, .int (nI st), .ref ak, .ref ai, .ref ad, .ref ac, .ref aw, .int (nI mn), .ref at_, .int (nI le), .int (nI th), .int (nI sp), .ref ao, .int (nI tm)])), (an, .inl (G.2.1, 525, .inl (gn nw))), (ak, .inl (G.2.1, 1050, .inl (gn ke))), (ai, .inl (G.2.1, 2, .inl (gn ik))), (ac, .inl (G.2.1, 256, .inl (gn pC))), (aw, .inl (G.2.1, 256, .inl (gn pW)))] (fun (r : Int32) (u : (Nat → Nat) × (Nat → Nat)) => (r = nI (cnt nw))) (fun u => [(mq, .inr (4, [.ref an, .ref ap, .int (nI st), .ref ak, .ref ai, .ref ad, .ref ac, .ref aw, .int (nI (cnt nw)), .ref at_, .int (nI le), .int (nI 0), .int (nI sp), .ref ao, .int (nI tm)])), (an, .inl (G.2.1, 525, .inl (gn nw))), (ak, .inl (G.2.1, 1050, .inl (gn (layF nw 0 ke (525 * k))))), (ai, .inl (G.2.1, 2, .inl (gn (va_up ik k 1)))), (ac, .inl (G.2.1, 256, .inl (gn u.1))), (aw, .inl (G.2.1, 256, .inl (gn u.2)))]) 0 0 := by
  refine gMet_mk (cc := cX4_keep) (nL := 2) (ret := (some .int)) (Qc := fun A => va_Qi (S := (Nat → Nat) × (Nat → Nat)) (fun (r : Int32) (u : (Nat → Nat) × (Nat → Nat)) => (r = nI (cnt nw))) (gB G A (fun (u : (Nat → Nat) × (Nat → Nat)) => [(mq, .inr (4, [.ref an, .ref ap, .int (nI st), .ref ak, .ref ai, .ref ad, .ref ac, .ref aw, .int (nI (cnt nw)), .ref at_, .int (nI le), .int (nI 0), .int (nI sp), .ref ao, .int (nI tm)])), (an, .inl (G.2.1, 525, .inl (gn nw))), (ak, .inl (G.2.1, 1050, .inl (gn (layF nw 0 ke (525 * k))))), (ai, .inl (G.2.1, 2, .inl (gn (va_up ik k 1)))), (ac, .inl (G.2.1, 256, .inl (gn u.1))), (aw, .inl (G.2.1, 256, .inl (gn u.2)))])) A) (by decide) rfl (Nat.le_of_ble_eq_true rfl) ?_
  intro p e s m args below meth c A F ls hl hP hD hS
  have hx := F.1
  have hb := F.2.1
  have hts := F.2.2.2.2.2.2.1
  have hown : s.vm.findClass RX4 = some m.cls := F.2.2.2.2.2.1
  have hKK := F.2.2.2.2.2.2.2.2.1
  have hK := hKK.1
  have hin0 := F.2.2.2.2.2.2.2.1
  have hi4 : ∀ w ∈ u_ws RX4 TX4 15, w ∈ wsX4_keep := by decide +kernel
  have hl : lv_has ls 2 [(0, .ref mq), (1, .int (nI k))] := hl
  generalize hH : s.heap = H at hP ⊢
  have hS : va_S A s.heap H [] := by rw [← hH]; exact va_S.rf
  generalize hLo : ([] : List Loc) = locs at hS ⊢
  refine lv_aload_n hx hb dX4_keep_0 rfl (lv_at hl 0 rfl) ?_
  refine lv_iconst (v := nI 0) hx hb dX4_keep_1 (by decide) ?_
  refine va_put (D := G.1) (ci := 4) (v := .int (nI 0)) (ty := .int) (C := RX4) (T := TX4) (N := 15) hx hb hts hi4 tyX4 tyX4_ok nmX4 hown hK hP hD hS 0 rfl rfl 11 (by decide) (hts (.fieldLink RX4 37 "LandQuartersModel" "thrown" "I") (by decide +kernel)) (fun _ h9 => h9) rfl (by decide +kernel) (rfl) (rfl) (Nat.le_of_ble_eq_true rfl) dX4_keep_2 (fun H locs hP hD hS => ?_)
  have hP : va_P G.1 vwCl [(mq, .inr (4, [.ref an, .ref ap, .int (nI st), .ref ak, .ref ai, .ref ad, .ref ac, .ref aw, .int (nI mn), .ref at_, .int (nI le), .int (nI 0), .int (nI sp), .ref ao, .int (nI tm)])), (an, .inl (G.2.1, 525, .inl (gn nw))), (ak, .inl (G.2.1, 1050, .inl (gn ke))), (ai, .inl (G.2.1, 2, .inl (gn ik))), (ac, .inl (G.2.1, 256, .inl (gn pC))), (aw, .inl (G.2.1, 256, .inl (gn pW)))] H := hP
  have hD : va_D A [(mq, .inr (4, [.ref an, .ref ap, .int (nI st), .ref ak, .ref ai, .ref ad, .ref ac, .ref aw, .int (nI mn), .ref at_, .int (nI le), .int (nI 0), .int (nI sp), .ref ao, .int (nI tm)])), (an, .inl (G.2.1, 525, .inl (gn nw))), (ak, .inl (G.2.1, 1050, .inl (gn ke))), (ai, .inl (G.2.1, 2, .inl (gn ik))), (ac, .inl (G.2.1, 256, .inl (gn pC))), (aw, .inl (G.2.1, 256, .inl (gn pW)))] := hD
  refine lv_iload_n hx hb dX4_keep_5 rfl (lv_at hl 1 rfl) ?_
  refine lv_iconst (v := nI 0) hx hb dX4_keep_6 (by decide) ?_
  refine lv_iconst (v := nI 1) hx hb dX4_keep_7 (by decide) ?_
  refine W.eq (g2 := F0 m 8 ls [.int (zI ((1 : Nat) : Int)), .int (zI ((0 : Nat) : Int)), .int (zI ((k : Nat) : Int))]) (by simp only [zI_nat, zI_neg1]) ?_
  refine gCi F (gRunS (own := RX4) (bytes := cX4_in) (n := 3) (As := [.int (zI ((k : Nat) : Int)), .int (zI ((0 : Nat) : Int)), .int (zI ((1 : Nat) : Int))]) (rest := []) F (c_X4_in l G ((k : Nat) : Int) ((0 : Nat) : Int) ((1 : Nat) : Int) (by first | assumption | omega) (by first | assumption | omega) (by first | assumption | omega) H.size) gX4_keep_X4_in rfl rfl rfl rfl (by decide +kernel) rfl ⟨Nat.le_of_ble_eq_true rfl, Nat.le_of_ble_eq_true rfl⟩ hP hD (lit := [(mq, .inr (4, [.ref an, .ref ap, .int (nI st), .ref ak, .ref ai, .ref ad, .ref ac, .ref aw, .int (nI mn), .ref at_, .int (nI le), .int (nI 0), .int (nI sp), .ref ao, .int (nI tm)])), (an, .inl (G.2.1, 525, .inl (gn nw))), (ak, .inl (G.2.1, 1050, .inl (gn ke))), (ai, .inl (G.2.1, 2, .inl (gn ik))), (ac, .inl (G.2.1, 256, .inl (gn pC))), (aw, .inl (G.2.1, 256, .inl (gn pW)))]) (wt := []) (wc := []) (isC := []) rfl (by decide) rfl hl.1 (Nat.le_of_ble_eq_true rfl) dX4_keep_8 ⟨Nat.le_of_ble_eq_true rfl, Nat.le_of_ble_eq_true rfl⟩) hP hD hS (lit := [(mq, .inr (4, [.ref an, .ref ap, .int (nI st), .ref ak, .ref ai, .ref ad, .ref ac, .ref aw, .int (nI mn), .ref at_, .int (nI le), .int (nI 0), .int (nI sp), .ref ao, .int (nI tm)])), (an, .inl (G.2.1, 525, .inl (gn nw))), (ak, .inl (G.2.1, 1050, .inl (gn ke))), (ai, .inl (G.2.1, 2, .inl (gn ik))), (ac, .inl (G.2.1, 256, .inl (gn pC))), (aw, .inl (G.2.1, 256, .inl (gn pW)))]) (wt := []) (wc := []) (wr := [(mq, .inr (4, [.ref an, .ref ap, .int (nI st), .ref ak, .ref ai, .ref ad, .ref ac, .ref aw, .int (nI mn), .ref at_, .int (nI le), .int (nI 0), .int (nI sp), .ref ao, .int (nI tm)])), (an, .inl (G.2.1, 525, .inl (gn nw))), (ak, .inl (G.2.1, 1050, .inl (gn ke))), (ai, .inl (G.2.1, 2, .inl (gn ik))), (ac, .inl (G.2.1, 256, .inl (gn pC))), (aw, .inl (G.2.1, 256, .inl (gn pW)))]) (isC := []) (isR := [0, 1, 2, 3, 4, 5]) rfl rfl (by decide) (by decide) (fun r8 u H locs hp8 hP hD hS => ?_)
  subst hp8
  have hP : va_P G.1 vwCl [(mq, .inr (4, [.ref an, .ref ap, .int (nI st), .ref ak, .ref ai, .ref ad, .ref ac, .ref aw, .int (nI mn), .ref at_, .int (nI le), .int (nI 0), .int (nI sp), .ref ao, .int (nI tm)])), (an, .inl (G.2.1, 525, .inl (gn nw))), (ak, .inl (G.2.1, 1050, .inl (gn ke))), (ai, .inl (G.2.1, 2, .inl (gn ik))), (ac, .inl (G.2.1, 256, .inl (gn pC))), (aw, .inl (G.2.1, 256, .inl (gn pW)))] H := hP
  have hD : va_D A [(mq, .inr (4, [.ref an, .ref ap, .int (nI st), .ref ak, .ref ai, .ref ad, .ref ac, .ref aw, .int (nI mn), .ref at_, .int (nI le), .int (nI 0), .int (nI sp), .ref ao, .int (nI tm)])), (an, .inl (G.2.1, 525, .inl (gn nw))), (ak, .inl (G.2.1, 1050, .inl (gn ke))), (ai, .inl (G.2.1, 2, .inl (gn ik))), (ac, .inl (G.2.1, 256, .inl (gn pC))), (aw, .inl (G.2.1, 256, .inl (gn pW)))] := hD
  refine gIfB_ne (P := (((0 : Nat) : Int) ≤ ((k : Nat) : Int) ∧ ((k : Nat) : Int) ≤ ((1 : Nat) : Int))) (tgt := 20) hx hb dX4_keep_11 (by decide) (fun c11 => ?_) (fun c11 => ?_)
  · skip
    refine lv_aload_n hx hb dX4_keep_20 rfl (lv_at hl 0 rfl) ?_
    refine va_get (D := G.1) (ci := 4) (v := .ref an) (C := RX4) (T := TX4) (N := 15) hx hb hts hi4 hown hK hP 0 rfl rfl 0 (by decide) (hts (.fieldLink RX4 7 "LandQuartersModel" "now" "[I") (by decide +kernel)) (fun _ h9 => h9) rfl dX4_keep_21 ?_
    refine lv_iconst (v := nI 0) hx hb dX4_keep_24 (by decide) ?_
    refine lv_aload_n hx hb dX4_keep_25 rfl (lv_at hl 0 rfl) ?_
    refine va_get (D := G.1) (ci := 4) (v := .ref ak) (C := RX4) (T := TX4) (N := 15) hx hb hts hi4 hown hK hP 0 rfl rfl 3 (by decide) (hts (.fieldLink RX4 16 "LandQuartersModel" "kept" "[I") (by decide +kernel)) (fun _ h9 => h9) rfl dX4_keep_26 ?_
    refine lv_sipush (v := nI 525) hx hb dX4_keep_29 (by decide) ?_
    refine lv_iload_n hx hb dX4_keep_32 rfl (lv_at hl 1 rfl) ?_
    refine gImul (a := 525) (b := k) hx hb dX4_keep_33 ?_
    refine gCv F (gRunS (own := RX4) (bytes := cX4_lays) (n := 4) (As := [.ref an, .int (nI 0), .ref ak, .int (nI (525 * k))]) (rest := []) F (c_X4_lays l G an 525 nw 0 ak 1050 ke (525 * k) (by first | assumption | omega) (by first | assumption | omega) (by first | assumption | omega) (by first | assumption | omega) H.size) gX4_keep_X4_lays rfl rfl rfl rfl (by decide +kernel) rfl ⟨Nat.le_of_ble_eq_true rfl, Nat.le_of_ble_eq_true rfl⟩ hP hD (lit := [(mq, .inr (4, [.ref an, .ref ap, .int (nI st), .ref ak, .ref ai, .ref ad, .ref ac, .ref aw, .int (nI mn), .ref at_, .int (nI le), .int (nI 0), .int (nI sp), .ref ao, .int (nI tm)])), (an, .inl (G.2.1, 525, .inl (gn nw))), (ak, .inl (G.2.1, 1050, .inl (gn ke))), (ai, .inl (G.2.1, 2, .inl (gn ik))), (ac, .inl (G.2.1, 256, .inl (gn pC))), (aw, .inl (G.2.1, 256, .inl (gn pW)))]) (wt := []) (wc := [(an, .inl (G.2.1, 525, .inl (gn nw))), (ak, .inl (G.2.1, 1050, .inl (gn ke)))]) (isC := [1, 2]) rfl (by decide) rfl hl.1 (Nat.le_of_ble_eq_true rfl) dX4_keep_34 ⟨Nat.le_of_ble_eq_true rfl, Nat.le_of_ble_eq_true rfl⟩) hP hD hS (lit := [(mq, .inr (4, [.ref an, .ref ap, .int (nI st), .ref ak, .ref ai, .ref ad, .ref ac, .ref aw, .int (nI mn), .ref at_, .int (nI le), .int (nI 0), .int (nI sp), .ref ao, .int (nI tm)])), (an, .inl (G.2.1, 525, .inl (gn nw))), (ak, .inl (G.2.1, 1050, .inl (gn ke))), (ai, .inl (G.2.1, 2, .inl (gn ik))), (ac, .inl (G.2.1, 256, .inl (gn pC))), (aw, .inl (G.2.1, 256, .inl (gn pW)))]) (wt := []) (wc := [(an, .inl (G.2.1, 525, .inl (gn nw))), (ak, .inl (G.2.1, 1050, .inl (gn ke)))]) (wr := [(mq, .inr (4, [.ref an, .ref ap, .int (nI st), .ref ak, .ref ai, .ref ad, .ref ac, .ref aw, .int (nI mn), .ref at_, .int (nI le), .int (nI 0), .int (nI sp), .ref ao, .int (nI tm)])), (ai, .inl (G.2.1, 2, .inl (gn ik))), (ac, .inl (G.2.1, 256, .inl (gn pC))), (aw, .inl (G.2.1, 256, .inl (gn pW)))]) (isC := [1, 2]) (isR := [0, 3, 4, 5]) rfl rfl (by decide) (by decide) (fun u H locs hp34 hP hD hS => ?_)
    have hP : va_P G.1 vwCl [(mq, .inr (4, [.ref an, .ref ap, .int (nI st), .ref ak, .ref ai, .ref ad, .ref ac, .ref aw, .int (nI mn), .ref at_, .int (nI le), .int (nI 0), .int (nI sp), .ref ao, .int (nI tm)])), (ai, .inl (G.2.1, 2, .inl (gn ik))), (ac, .inl (G.2.1, 256, .inl (gn pC))), (aw, .inl (G.2.1, 256, .inl (gn pW))), (an, .inl (G.2.1, 525, .inl (gn nw))), (ak, .inl (G.2.1, 1050, .inl (gn (layF nw 0 ke (525 * k)))))] H := hP
    have hD : va_D A [(mq, .inr (4, [.ref an, .ref ap, .int (nI st), .ref ak, .ref ai, .ref ad, .ref ac, .ref aw, .int (nI mn), .ref at_, .int (nI le), .int (nI 0), .int (nI sp), .ref ao, .int (nI tm)])), (ai, .inl (G.2.1, 2, .inl (gn ik))), (ac, .inl (G.2.1, 256, .inl (gn pC))), (aw, .inl (G.2.1, 256, .inl (gn pW))), (an, .inl (G.2.1, 525, .inl (gn nw))), (ak, .inl (G.2.1, 1050, .inl (gn (layF nw 0 ke (525 * k)))))] := hD
    refine lv_aload_n hx hb dX4_keep_37 rfl (lv_at hl 0 rfl) ?_
    refine va_get (D := G.1) (ci := 4) (v := .ref ai) (C := RX4) (T := TX4) (N := 15) hx hb hts hi4 hown hK hP 0 rfl rfl 4 (by decide) (hts (.fieldLink RX4 19 "LandQuartersModel" "isKept" "[I") (by decide +kernel)) (fun _ h9 => h9) rfl dX4_keep_38 ?_
    refine lv_iload_n hx hb dX4_keep_41 rfl (lv_at hl 1 rfl) ?_
    refine lv_iconst (v := nI 1) hx hb dX4_keep_42 (by decide) ?_
    refine gNast (k := k) (v := 1) hx hb hK hP hD hS 1 0 rfl rfl (by omega) (by first | decide | omega) dX4_keep_43 (fun H locs hP hD hS => ?_)
    have hP : va_P G.1 vwCl [(mq, .inr (4, [.ref an, .ref ap, .int (nI st), .ref ak, .ref ai, .ref ad, .ref ac, .ref aw, .int (nI mn), .ref at_, .int (nI le), .int (nI 0), .int (nI sp), .ref ao, .int (nI tm)])), (ai, .inl (G.2.1, 2, .inl (gn (va_up ik k 1)))), (ac, .inl (G.2.1, 256, .inl (gn pC))), (aw, .inl (G.2.1, 256, .inl (gn pW))), (an, .inl (G.2.1, 525, .inl (gn nw))), (ak, .inl (G.2.1, 1050, .inl (gn (layF nw 0 ke (525 * k)))))] H := hP
    have hD : va_D A [(mq, .inr (4, [.ref an, .ref ap, .int (nI st), .ref ak, .ref ai, .ref ad, .ref ac, .ref aw, .int (nI mn), .ref at_, .int (nI le), .int (nI 0), .int (nI sp), .ref ao, .int (nI tm)])), (ai, .inl (G.2.1, 2, .inl (gn (va_up ik k 1)))), (ac, .inl (G.2.1, 256, .inl (gn pC))), (aw, .inl (G.2.1, 256, .inl (gn pW))), (an, .inl (G.2.1, 525, .inl (gn nw))), (ak, .inl (G.2.1, 1050, .inl (gn (layF nw 0 ke (525 * k)))))] := hD
    refine lv_aload_n hx hb dX4_keep_44 rfl (lv_at hl 0 rfl) ?_
    refine gCi F (gRunV (own := RX4) (C := RX4) (ci := 4) (bytes := cX4_allPlots) (n := 0) (As := []) (rest := []) F (c_X4_allPlots l G mq an ap st ak ai ad ac aw mn at_ le 0 sp ao tm nw pC pW (by first | assumption | omega) H.size) gX4_keep_X4_allPlots rfl rfl rfl rfl (by decide +kernel) rfl ⟨Nat.le_of_ble_eq_true rfl, Nat.le_of_ble_eq_true rfl⟩ hP hD (lit := [(mq, .inr (4, [.ref an, .ref ap, .int (nI st), .ref ak, .ref ai, .ref ad, .ref ac, .ref aw, .int (nI mn), .ref at_, .int (nI le), .int (nI 0), .int (nI sp), .ref ao, .int (nI tm)])), (ai, .inl (G.2.1, 2, .inl (gn (va_up ik k 1)))), (ac, .inl (G.2.1, 256, .inl (gn pC))), (aw, .inl (G.2.1, 256, .inl (gn pW))), (an, .inl (G.2.1, 525, .inl (gn nw))), (ak, .inl (G.2.1, 1050, .inl (gn (layF nw 0 ke (525 * k)))))]) (wt := []) (wc := [(mq, .inr (4, [.ref an, .ref ap, .int (nI st), .ref ak, .ref ai, .ref ad, .ref ac, .ref aw, .int (nI mn), .ref at_, .int (nI le), .int (nI 0), .int (nI sp), .ref ao, .int (nI tm)])), (an, .inl (G.2.1, 525, .inl (gn nw))), (ac, .inl (G.2.1, 256, .inl (gn pC))), (aw, .inl (G.2.1, 256, .inl (gn pW)))]) (isC := [0, 4, 2, 3]) rfl (by decide) rfl rfl rfl hl.1 (Nat.le_of_ble_eq_true rfl) dX4_keep_45 ⟨Nat.le_of_ble_eq_true rfl, Nat.le_of_ble_eq_true rfl⟩) hP hD hS (lit := [(mq, .inr (4, [.ref an, .ref ap, .int (nI st), .ref ak, .ref ai, .ref ad, .ref ac, .ref aw, .int (nI mn), .ref at_, .int (nI le), .int (nI 0), .int (nI sp), .ref ao, .int (nI tm)])), (ai, .inl (G.2.1, 2, .inl (gn (va_up ik k 1)))), (ac, .inl (G.2.1, 256, .inl (gn pC))), (aw, .inl (G.2.1, 256, .inl (gn pW))), (an, .inl (G.2.1, 525, .inl (gn nw))), (ak, .inl (G.2.1, 1050, .inl (gn (layF nw 0 ke (525 * k)))))]) (wt := []) (wc := [(mq, .inr (4, [.ref an, .ref ap, .int (nI st), .ref ak, .ref ai, .ref ad, .ref ac, .ref aw, .int (nI mn), .ref at_, .int (nI le), .int (nI 0), .int (nI sp), .ref ao, .int (nI tm)])), (an, .inl (G.2.1, 525, .inl (gn nw))), (ac, .inl (G.2.1, 256, .inl (gn pC))), (aw, .inl (G.2.1, 256, .inl (gn pW)))]) (wr := [(ai, .inl (G.2.1, 2, .inl (gn (va_up ik k 1)))), (ak, .inl (G.2.1, 1050, .inl (gn (layF nw 0 ke (525 * k)))))]) (isC := [0, 4, 2, 3]) (isR := [1, 5]) rfl rfl (by decide) (by decide) (fun r45 u H locs hp45 hP hD hS => ?_)
    obtain ⟨pc1, pw1⟩ := u
    try dsimp only at hp45
    obtain ⟨rfl, hp45_0⟩ := hp45
    have hP : va_P G.1 vwCl [(ai, .inl (G.2.1, 2, .inl (gn (va_up ik k 1)))), (ak, .inl (G.2.1, 1050, .inl (gn (layF nw 0 ke (525 * k))))), (mq, .inr (4, [.ref an, .ref ap, .int (nI st), .ref ak, .ref ai, .ref ad, .ref ac, .ref aw, .int (nI (cnt nw)), .ref at_, .int (nI le), .int (nI 0), .int (nI sp), .ref ao, .int (nI tm)])), (an, .inl (G.2.1, 525, .inl (gn nw))), (ac, .inl (G.2.1, 256, .inl (gn pc1))), (aw, .inl (G.2.1, 256, .inl (gn pw1)))] H := hP
    have hD : va_D A [(ai, .inl (G.2.1, 2, .inl (gn (va_up ik k 1)))), (ak, .inl (G.2.1, 1050, .inl (gn (layF nw 0 ke (525 * k))))), (mq, .inr (4, [.ref an, .ref ap, .int (nI st), .ref ak, .ref ai, .ref ad, .ref ac, .ref aw, .int (nI (cnt nw)), .ref at_, .int (nI le), .int (nI 0), .int (nI sp), .ref ao, .int (nI tm)])), (an, .inl (G.2.1, 525, .inl (gn nw))), (ac, .inl (G.2.1, 256, .inl (gn pc1))), (aw, .inl (G.2.1, 256, .inl (gn pw1)))] := hD
    have hP : va_P G.1 vwCl [(mq, .inr (4, [.ref an, .ref ap, .int (nI st), .ref ak, .ref ai, .ref ad, .ref ac, .ref aw, .int (nI (cnt nw)), .ref at_, .int (nI le), .int (nI 0), .int (nI sp), .ref ao, .int (nI tm)])), (an, .inl (G.2.1, 525, .inl (gn nw))), (ak, .inl (G.2.1, 1050, .inl (gn (layF nw 0 ke (525 * k))))), (ai, .inl (G.2.1, 2, .inl (gn (va_up ik k 1)))), (ac, .inl (G.2.1, 256, .inl (gn pc1))), (aw, .inl (G.2.1, 256, .inl (gn pw1)))] H := hP.sub (ws' := [(mq, .inr (4, [.ref an, .ref ap, .int (nI st), .ref ak, .ref ai, .ref ad, .ref ac, .ref aw, .int (nI (cnt nw)), .ref at_, .int (nI le), .int (nI 0), .int (nI sp), .ref ao, .int (nI tm)])), (an, .inl (G.2.1, 525, .inl (gn nw))), (ak, .inl (G.2.1, 1050, .inl (gn (layF nw 0 ke (525 * k))))), (ai, .inl (G.2.1, 2, .inl (gn (va_up ik k 1)))), (ac, .inl (G.2.1, 256, .inl (gn pc1))), (aw, .inl (G.2.1, 256, .inl (gn pw1)))]) [2, 3, 1, 0, 4, 5] rfl
    have hD : va_D A [(mq, .inr (4, [.ref an, .ref ap, .int (nI st), .ref ak, .ref ai, .ref ad, .ref ac, .ref aw, .int (nI (cnt nw)), .ref at_, .int (nI le), .int (nI 0), .int (nI sp), .ref ao, .int (nI tm)])), (an, .inl (G.2.1, 525, .inl (gn nw))), (ak, .inl (G.2.1, 1050, .inl (gn (layF nw 0 ke (525 * k))))), (ai, .inl (G.2.1, 2, .inl (gn (va_up ik k 1)))), (ac, .inl (G.2.1, 256, .inl (gn pc1))), (aw, .inl (G.2.1, 256, .inl (gn pw1)))] := hD.sub (ws' := [(mq, .inr (4, [.ref an, .ref ap, .int (nI st), .ref ak, .ref ai, .ref ad, .ref ac, .ref aw, .int (nI (cnt nw)), .ref at_, .int (nI le), .int (nI 0), .int (nI sp), .ref ao, .int (nI tm)])), (an, .inl (G.2.1, 525, .inl (gn nw))), (ak, .inl (G.2.1, 1050, .inl (gn (layF nw 0 ke (525 * k))))), (ai, .inl (G.2.1, 2, .inl (gn (va_up ik k 1)))), (ac, .inl (G.2.1, 256, .inl (gn pc1))), (aw, .inl (G.2.1, 256, .inl (gn pw1)))]) [2, 3, 1, 0, 4, 5] (by decide) rfl
    exact gRi F dX4_keep_48 (rfl) (pc1, pw1) (rfl) hP hD hS (Nat.le_refl _) (Nat.le_refl _)
  refine lv_aload_n hx hb dX4_keep_14 rfl (lv_at hl 0 rfl) ?_
  refine lv_iconst (v := nI 1) hx hb dX4_keep_15 (by decide) ?_
  exfalso; omega

set_option maxHeartbeats 4000000 in
set_option maxRecDepth 100000 in
theorem f1_X4_keep (l : Launch) (G : gG) (mq : Nat) (an : Nat) (ap : Nat) (st : Nat) (ak : Nat) (ai : Nat) (ad : Nat) (ac : Nat) (aw : Nat) (mn : Nat) (at_ : Nat) (le : Nat) (th : Nat) (sp : Nat) (ao : Nat) (tm : Nat) (o : Int) (ho : -2147483648 ≤ o ∧ o < 2147483648) (hcond0 : ¬(0 ≤ o ∧ o < 2)) : gMi (S := Unit) l yX4_keep wsX4_keep { frames := 1, cells := 0, slots := 0, locals := 22 } G [.ref mq, .int (zI o)] [(mq, .inr (4, [.ref an, .ref ap, .int (nI st), .ref ak, .ref ai, .ref ad, .ref ac, .ref aw, .int (nI mn), .ref at_, .int (nI le), .int (nI th), .int (nI sp), .ref ao, .int (nI tm)]))] (fun (r : Int32) (u : Unit) => (r = nI 0)) (fun u => [(mq, .inr (4, [.ref an, .ref ap, .int (nI st), .ref ak, .ref ai, .ref ad, .ref ac, .ref aw, .int (nI mn), .ref at_, .int (nI le), .int (nI 1), .int (nI sp), .ref ao, .int (nI tm)]))]) 0 0 := by
  refine gMet_mk (cc := cX4_keep) (nL := 2) (ret := (some .int)) (Qc := fun A => va_Qi (S := Unit) (fun (r : Int32) (u : Unit) => (r = nI 0)) (gB G A (fun (u : Unit) => [(mq, .inr (4, [.ref an, .ref ap, .int (nI st), .ref ak, .ref ai, .ref ad, .ref ac, .ref aw, .int (nI mn), .ref at_, .int (nI le), .int (nI 1), .int (nI sp), .ref ao, .int (nI tm)]))])) A) (by decide) rfl (Nat.le_of_ble_eq_true rfl) ?_
  intro p e s m args below meth c A F ls hl hP hD hS
  have hx := F.1
  have hb := F.2.1
  have hts := F.2.2.2.2.2.2.1
  have hown : s.vm.findClass RX4 = some m.cls := F.2.2.2.2.2.1
  have hKK := F.2.2.2.2.2.2.2.2.1
  have hK := hKK.1
  have hin0 := F.2.2.2.2.2.2.2.1
  have hi4 : ∀ w ∈ u_ws RX4 TX4 15, w ∈ wsX4_keep := by decide +kernel
  have hl : lv_has ls 2 [(0, .ref mq), (1, .int (zI o))] := hl
  generalize hH : s.heap = H at hP ⊢
  have hS : va_S A s.heap H [] := by rw [← hH]; exact va_S.rf
  generalize hLo : ([] : List Loc) = locs at hS ⊢
  refine lv_aload_n hx hb dX4_keep_0 rfl (lv_at hl 0 rfl) ?_
  refine lv_iconst (v := nI 0) hx hb dX4_keep_1 (by decide) ?_
  refine va_put (D := G.1) (ci := 4) (v := .int (nI 0)) (ty := .int) (C := RX4) (T := TX4) (N := 15) hx hb hts hi4 tyX4 tyX4_ok nmX4 hown hK hP hD hS 0 rfl rfl 11 (by decide) (hts (.fieldLink RX4 37 "LandQuartersModel" "thrown" "I") (by decide +kernel)) (fun _ h9 => h9) rfl (by decide +kernel) (rfl) (rfl) (Nat.le_of_ble_eq_true rfl) dX4_keep_2 (fun H locs hP hD hS => ?_)
  have hP : va_P G.1 vwCl [(mq, .inr (4, [.ref an, .ref ap, .int (nI st), .ref ak, .ref ai, .ref ad, .ref ac, .ref aw, .int (nI mn), .ref at_, .int (nI le), .int (nI 0), .int (nI sp), .ref ao, .int (nI tm)]))] H := hP
  have hD : va_D A [(mq, .inr (4, [.ref an, .ref ap, .int (nI st), .ref ak, .ref ai, .ref ad, .ref ac, .ref aw, .int (nI mn), .ref at_, .int (nI le), .int (nI 0), .int (nI sp), .ref ao, .int (nI tm)]))] := hD
  refine lv_iload_n hx hb dX4_keep_5 rfl (lv_at hl 1 rfl) ?_
  refine lv_iconst (v := nI 0) hx hb dX4_keep_6 (by decide) ?_
  refine lv_iconst (v := nI 1) hx hb dX4_keep_7 (by decide) ?_
  refine W.eq (g2 := F0 m 8 ls [.int (zI ((1 : Nat) : Int)), .int (zI ((0 : Nat) : Int)), .int (zI o)]) (by simp only [zI_nat, zI_neg1]) ?_
  refine gCi F (gRunS (own := RX4) (bytes := cX4_in) (n := 3) (As := [.int (zI o), .int (zI ((0 : Nat) : Int)), .int (zI ((1 : Nat) : Int))]) (rest := []) F (c_X4_in l G o ((0 : Nat) : Int) ((1 : Nat) : Int) (by first | assumption | omega) (by first | assumption | omega) (by first | assumption | omega) H.size) gX4_keep_X4_in rfl rfl rfl rfl (by decide +kernel) rfl ⟨Nat.le_of_ble_eq_true rfl, Nat.le_of_ble_eq_true rfl⟩ hP hD (lit := [(mq, .inr (4, [.ref an, .ref ap, .int (nI st), .ref ak, .ref ai, .ref ad, .ref ac, .ref aw, .int (nI mn), .ref at_, .int (nI le), .int (nI 0), .int (nI sp), .ref ao, .int (nI tm)]))]) (wt := []) (wc := []) (isC := []) rfl (by decide) rfl hl.1 (Nat.le_of_ble_eq_true rfl) dX4_keep_8 ⟨Nat.le_of_ble_eq_true rfl, Nat.le_of_ble_eq_true rfl⟩) hP hD hS (lit := [(mq, .inr (4, [.ref an, .ref ap, .int (nI st), .ref ak, .ref ai, .ref ad, .ref ac, .ref aw, .int (nI mn), .ref at_, .int (nI le), .int (nI 0), .int (nI sp), .ref ao, .int (nI tm)]))]) (wt := []) (wc := []) (wr := [(mq, .inr (4, [.ref an, .ref ap, .int (nI st), .ref ak, .ref ai, .ref ad, .ref ac, .ref aw, .int (nI mn), .ref at_, .int (nI le), .int (nI 0), .int (nI sp), .ref ao, .int (nI tm)]))]) (isC := []) (isR := [0]) rfl rfl (by decide) (by decide) (fun r8 u H locs hp8 hP hD hS => ?_)
  subst hp8
  have hP : va_P G.1 vwCl [(mq, .inr (4, [.ref an, .ref ap, .int (nI st), .ref ak, .ref ai, .ref ad, .ref ac, .ref aw, .int (nI mn), .ref at_, .int (nI le), .int (nI 0), .int (nI sp), .ref ao, .int (nI tm)]))] H := hP
  have hD : va_D A [(mq, .inr (4, [.ref an, .ref ap, .int (nI st), .ref ak, .ref ai, .ref ad, .ref ac, .ref aw, .int (nI mn), .ref at_, .int (nI le), .int (nI 0), .int (nI sp), .ref ao, .int (nI tm)]))] := hD
  refine gIfB_ne (P := (((0 : Nat) : Int) ≤ o ∧ o ≤ ((1 : Nat) : Int))) (tgt := 20) hx hb dX4_keep_11 (by decide) (fun c11 => ?_) (fun c11 => ?_)
  · skip
    refine lv_aload_n hx hb dX4_keep_20 rfl (lv_at hl 0 rfl) ?_
    refine va_get (D := G.1) (ci := 4) (v := .ref an) (C := RX4) (T := TX4) (N := 15) hx hb hts hi4 hown hK hP 0 rfl rfl 0 (by decide) (hts (.fieldLink RX4 7 "LandQuartersModel" "now" "[I") (by decide +kernel)) (fun _ h9 => h9) rfl dX4_keep_21 ?_
    refine lv_iconst (v := nI 0) hx hb dX4_keep_24 (by decide) ?_
    refine lv_aload_n hx hb dX4_keep_25 rfl (lv_at hl 0 rfl) ?_
    refine va_get (D := G.1) (ci := 4) (v := .ref ak) (C := RX4) (T := TX4) (N := 15) hx hb hts hi4 hown hK hP 0 rfl rfl 3 (by decide) (hts (.fieldLink RX4 16 "LandQuartersModel" "kept" "[I") (by decide +kernel)) (fun _ h9 => h9) rfl dX4_keep_26 ?_
    refine lv_sipush (v := nI 525) hx hb dX4_keep_29 (by decide) ?_
    refine lv_iload_n hx hb dX4_keep_32 rfl (lv_at hl 1 rfl) ?_
    refine W.eq (g2 := F0 m 33 ls [.int (zI o), .int (zI ((525 : Nat) : Int)), .ref ak, .int (nI 0), .ref an]) (by simp only [zI_nat]) ?_
    refine gZmul (a := ((525 : Nat) : Int)) (b := o) hx hb dX4_keep_33 ?_
    exfalso; omega
  refine lv_aload_n hx hb dX4_keep_14 rfl (lv_at hl 0 rfl) ?_
  refine lv_iconst (v := nI 1) hx hb dX4_keep_15 (by decide) ?_
  refine gCi F (gRunV (own := RX4) (C := RX4) (ci := 4) (bytes := cX4_refuses) (n := 1) (As := [.int (nI 1)]) (rest := []) F (c_X4_refuses l G mq an ap st ak ai ad ac aw mn at_ le 0 sp ao tm 1  H.size) gX4_keep_X4_refuses rfl rfl rfl rfl (by decide +kernel) rfl ⟨Nat.le_of_ble_eq_true rfl, Nat.le_of_ble_eq_true rfl⟩ hP hD (lit := [(mq, .inr (4, [.ref an, .ref ap, .int (nI st), .ref ak, .ref ai, .ref ad, .ref ac, .ref aw, .int (nI mn), .ref at_, .int (nI le), .int (nI 0), .int (nI sp), .ref ao, .int (nI tm)]))]) (wt := []) (wc := [(mq, .inr (4, [.ref an, .ref ap, .int (nI st), .ref ak, .ref ai, .ref ad, .ref ac, .ref aw, .int (nI mn), .ref at_, .int (nI le), .int (nI 0), .int (nI sp), .ref ao, .int (nI tm)]))]) (isC := [0]) rfl (by decide) rfl rfl rfl hl.1 (Nat.le_of_ble_eq_true rfl) dX4_keep_16 ⟨Nat.le_of_ble_eq_true rfl, Nat.le_of_ble_eq_true rfl⟩) hP hD hS (lit := [(mq, .inr (4, [.ref an, .ref ap, .int (nI st), .ref ak, .ref ai, .ref ad, .ref ac, .ref aw, .int (nI mn), .ref at_, .int (nI le), .int (nI 0), .int (nI sp), .ref ao, .int (nI tm)]))]) (wt := []) (wc := [(mq, .inr (4, [.ref an, .ref ap, .int (nI st), .ref ak, .ref ai, .ref ad, .ref ac, .ref aw, .int (nI mn), .ref at_, .int (nI le), .int (nI 0), .int (nI sp), .ref ao, .int (nI tm)]))]) (wr := []) (isC := [0]) (isR := []) rfl rfl (by decide) (by decide) (fun r16 u H locs hp16 hP hD hS => ?_)
  subst hp16
  have hP : va_P G.1 vwCl [(mq, .inr (4, [.ref an, .ref ap, .int (nI st), .ref ak, .ref ai, .ref ad, .ref ac, .ref aw, .int (nI mn), .ref at_, .int (nI le), .int (nI 1), .int (nI sp), .ref ao, .int (nI tm)]))] H := hP
  have hD : va_D A [(mq, .inr (4, [.ref an, .ref ap, .int (nI st), .ref ak, .ref ai, .ref ad, .ref ac, .ref aw, .int (nI mn), .ref at_, .int (nI le), .int (nI 1), .int (nI sp), .ref ao, .int (nI tm)]))] := hD
  exact gRi F dX4_keep_19 (rfl) () (rfl) hP hD hS (Nat.le_refl _) (Nat.le_refl _)

set_option maxHeartbeats 4000000 in
set_option maxRecDepth 100000 in
theorem c_X4_goBack (l : Launch) (G : gG) (mq : Nat) (an : Nat) (ap : Nat) (st : Nat) (ak : Nat) (ai : Nat) (ad : Nat) (ac : Nat) (aw : Nat) (mn : Nat) (at_ : Nat) (le : Nat) (th : Nat) (sp : Nat) (ao : Nat) (tm : Nat) (nw : Nat → Nat) (pa : Nat → Nat) (ke : Nat → Nat) (ik : Nat → Nat) (pC : Nat → Nat) (pW : Nat → Nat) (k : Nat) (hk : k < 2) (hst : st ≤ 6) (hik : ik k = 1) (how : ∀ j, j < 256 → (layF ke (525 * k) nw 0) j < 8) : gMi (S := (Nat → Nat) × (Nat → Nat)) l yX4_goBack wsX4_goBack { frames := 3, cells := 0, slots := 0, locals := 81 } G [.ref mq, .int (nI k)] [(mq, .inr (4, [.ref an, .ref ap, .int (nI st), .ref ak, .ref ai, .ref ad, .ref ac, .ref aw, .int (nI mn), .ref at_, .int (nI le), .int (nI th), .int (nI sp), .ref ao, .int (nI tm)])), (an, .inl (G.2.1, 525, .inl (gn nw))), (ap, .inl (G.2.1, 3150, .inl (gn pa))), (ak, .inl (G.2.1, 1050, .inl (gn ke))), (ai, .inl (G.2.1, 2, .inl (gn ik))), (ac, .inl (G.2.1, 256, .inl (gn pC))), (aw, .inl (G.2.1, 256, .inl (gn pW)))] (fun (r : Int32) (u : (Nat → Nat) × (Nat → Nat)) => (r = nI (cnt (layF ke (525 * k) nw 0)))) (fun u => [(mq, .inr (4, [.ref an, .ref ap, .int (nI (svN st)), .ref ak, .ref ai, .ref ad, .ref ac, .ref aw, .int (nI (cnt (layF ke (525 * k) nw 0))), .ref at_, .int (nI le), .int (nI 0), .int (nI sp), .ref ao, .int (nI tm)])), (an, .inl (G.2.1, 525, .inl (gn (layF ke (525 * k) nw 0)))), (ap, .inl (G.2.1, 3150, .inl (gn (savP nw pa st)))), (ak, .inl (G.2.1, 1050, .inl (gn ke))), (ai, .inl (G.2.1, 2, .inl (gn ik))), (ac, .inl (G.2.1, 256, .inl (gn u.1))), (aw, .inl (G.2.1, 256, .inl (gn u.2)))]) 0 0 := by
  refine gMet_mk (cc := cX4_goBack) (nL := 2) (ret := (some .int)) (Qc := fun A => va_Qi (S := (Nat → Nat) × (Nat → Nat)) (fun (r : Int32) (u : (Nat → Nat) × (Nat → Nat)) => (r = nI (cnt (layF ke (525 * k) nw 0)))) (gB G A (fun (u : (Nat → Nat) × (Nat → Nat)) => [(mq, .inr (4, [.ref an, .ref ap, .int (nI (svN st)), .ref ak, .ref ai, .ref ad, .ref ac, .ref aw, .int (nI (cnt (layF ke (525 * k) nw 0))), .ref at_, .int (nI le), .int (nI 0), .int (nI sp), .ref ao, .int (nI tm)])), (an, .inl (G.2.1, 525, .inl (gn (layF ke (525 * k) nw 0)))), (ap, .inl (G.2.1, 3150, .inl (gn (savP nw pa st)))), (ak, .inl (G.2.1, 1050, .inl (gn ke))), (ai, .inl (G.2.1, 2, .inl (gn ik))), (ac, .inl (G.2.1, 256, .inl (gn u.1))), (aw, .inl (G.2.1, 256, .inl (gn u.2)))])) A) (by decide) rfl (Nat.le_of_ble_eq_true rfl) ?_
  intro p e s m args below meth c A F ls hl hP hD hS
  have hx := F.1
  have hb := F.2.1
  have hts := F.2.2.2.2.2.2.1
  have hown : s.vm.findClass RX4 = some m.cls := F.2.2.2.2.2.1
  have hKK := F.2.2.2.2.2.2.2.2.1
  have hK := hKK.1
  have hin0 := F.2.2.2.2.2.2.2.1
  have hi4 : ∀ w ∈ u_ws RX4 TX4 15, w ∈ wsX4_goBack := by decide +kernel
  have hl : lv_has ls 2 [(0, .ref mq), (1, .int (nI k))] := hl
  generalize hH : s.heap = H at hP ⊢
  have hS : va_S A s.heap H [] := by rw [← hH]; exact va_S.rf
  generalize hLo : ([] : List Loc) = locs at hS ⊢
  refine lv_aload_n hx hb dX4_goBack_0 rfl (lv_at hl 0 rfl) ?_
  refine lv_iconst (v := nI 0) hx hb dX4_goBack_1 (by decide) ?_
  refine va_put (D := G.1) (ci := 4) (v := .int (nI 0)) (ty := .int) (C := RX4) (T := TX4) (N := 15) hx hb hts hi4 tyX4 tyX4_ok nmX4 hown hK hP hD hS 0 rfl rfl 11 (by decide) (hts (.fieldLink RX4 37 "LandQuartersModel" "thrown" "I") (by decide +kernel)) (fun _ h9 => h9) rfl (by decide +kernel) (rfl) (rfl) (Nat.le_of_ble_eq_true rfl) dX4_goBack_2 (fun H locs hP hD hS => ?_)
  have hP : va_P G.1 vwCl [(mq, .inr (4, [.ref an, .ref ap, .int (nI st), .ref ak, .ref ai, .ref ad, .ref ac, .ref aw, .int (nI mn), .ref at_, .int (nI le), .int (nI 0), .int (nI sp), .ref ao, .int (nI tm)])), (an, .inl (G.2.1, 525, .inl (gn nw))), (ap, .inl (G.2.1, 3150, .inl (gn pa))), (ak, .inl (G.2.1, 1050, .inl (gn ke))), (ai, .inl (G.2.1, 2, .inl (gn ik))), (ac, .inl (G.2.1, 256, .inl (gn pC))), (aw, .inl (G.2.1, 256, .inl (gn pW)))] H := hP
  have hD : va_D A [(mq, .inr (4, [.ref an, .ref ap, .int (nI st), .ref ak, .ref ai, .ref ad, .ref ac, .ref aw, .int (nI mn), .ref at_, .int (nI le), .int (nI 0), .int (nI sp), .ref ao, .int (nI tm)])), (an, .inl (G.2.1, 525, .inl (gn nw))), (ap, .inl (G.2.1, 3150, .inl (gn pa))), (ak, .inl (G.2.1, 1050, .inl (gn ke))), (ai, .inl (G.2.1, 2, .inl (gn ik))), (ac, .inl (G.2.1, 256, .inl (gn pC))), (aw, .inl (G.2.1, 256, .inl (gn pW)))] := hD
  refine lv_iload_n hx hb dX4_goBack_5 rfl (lv_at hl 1 rfl) ?_
  refine lv_iconst (v := nI 0) hx hb dX4_goBack_6 (by decide) ?_
  refine lv_iconst (v := nI 1) hx hb dX4_goBack_7 (by decide) ?_
  refine W.eq (g2 := F0 m 8 ls [.int (zI ((1 : Nat) : Int)), .int (zI ((0 : Nat) : Int)), .int (zI ((k : Nat) : Int))]) (by simp only [zI_nat, zI_neg1]) ?_
  refine gCi F (gRunS (own := RX4) (bytes := cX4_in) (n := 3) (As := [.int (zI ((k : Nat) : Int)), .int (zI ((0 : Nat) : Int)), .int (zI ((1 : Nat) : Int))]) (rest := []) F (c_X4_in l G ((k : Nat) : Int) ((0 : Nat) : Int) ((1 : Nat) : Int) (by first | assumption | omega) (by first | assumption | omega) (by first | assumption | omega) H.size) gX4_goBack_X4_in rfl rfl rfl rfl (by decide +kernel) rfl ⟨Nat.le_of_ble_eq_true rfl, Nat.le_of_ble_eq_true rfl⟩ hP hD (lit := [(mq, .inr (4, [.ref an, .ref ap, .int (nI st), .ref ak, .ref ai, .ref ad, .ref ac, .ref aw, .int (nI mn), .ref at_, .int (nI le), .int (nI 0), .int (nI sp), .ref ao, .int (nI tm)])), (an, .inl (G.2.1, 525, .inl (gn nw))), (ap, .inl (G.2.1, 3150, .inl (gn pa))), (ak, .inl (G.2.1, 1050, .inl (gn ke))), (ai, .inl (G.2.1, 2, .inl (gn ik))), (ac, .inl (G.2.1, 256, .inl (gn pC))), (aw, .inl (G.2.1, 256, .inl (gn pW)))]) (wt := []) (wc := []) (isC := []) rfl (by decide) rfl hl.1 (Nat.le_of_ble_eq_true rfl) dX4_goBack_8 ⟨Nat.le_of_ble_eq_true rfl, Nat.le_of_ble_eq_true rfl⟩) hP hD hS (lit := [(mq, .inr (4, [.ref an, .ref ap, .int (nI st), .ref ak, .ref ai, .ref ad, .ref ac, .ref aw, .int (nI mn), .ref at_, .int (nI le), .int (nI 0), .int (nI sp), .ref ao, .int (nI tm)])), (an, .inl (G.2.1, 525, .inl (gn nw))), (ap, .inl (G.2.1, 3150, .inl (gn pa))), (ak, .inl (G.2.1, 1050, .inl (gn ke))), (ai, .inl (G.2.1, 2, .inl (gn ik))), (ac, .inl (G.2.1, 256, .inl (gn pC))), (aw, .inl (G.2.1, 256, .inl (gn pW)))]) (wt := []) (wc := []) (wr := [(mq, .inr (4, [.ref an, .ref ap, .int (nI st), .ref ak, .ref ai, .ref ad, .ref ac, .ref aw, .int (nI mn), .ref at_, .int (nI le), .int (nI 0), .int (nI sp), .ref ao, .int (nI tm)])), (an, .inl (G.2.1, 525, .inl (gn nw))), (ap, .inl (G.2.1, 3150, .inl (gn pa))), (ak, .inl (G.2.1, 1050, .inl (gn ke))), (ai, .inl (G.2.1, 2, .inl (gn ik))), (ac, .inl (G.2.1, 256, .inl (gn pC))), (aw, .inl (G.2.1, 256, .inl (gn pW)))]) (isC := []) (isR := [0, 1, 2, 3, 4, 5, 6]) rfl rfl (by decide) (by decide) (fun r8 u H locs hp8 hP hD hS => ?_)
  subst hp8
  have hP : va_P G.1 vwCl [(mq, .inr (4, [.ref an, .ref ap, .int (nI st), .ref ak, .ref ai, .ref ad, .ref ac, .ref aw, .int (nI mn), .ref at_, .int (nI le), .int (nI 0), .int (nI sp), .ref ao, .int (nI tm)])), (an, .inl (G.2.1, 525, .inl (gn nw))), (ap, .inl (G.2.1, 3150, .inl (gn pa))), (ak, .inl (G.2.1, 1050, .inl (gn ke))), (ai, .inl (G.2.1, 2, .inl (gn ik))), (ac, .inl (G.2.1, 256, .inl (gn pC))), (aw, .inl (G.2.1, 256, .inl (gn pW)))] H := hP
  have hD : va_D A [(mq, .inr (4, [.ref an, .ref ap, .int (nI st), .ref ak, .ref ai, .ref ad, .ref ac, .ref aw, .int (nI mn), .ref at_, .int (nI le), .int (nI 0), .int (nI sp), .ref ao, .int (nI tm)])), (an, .inl (G.2.1, 525, .inl (gn nw))), (ap, .inl (G.2.1, 3150, .inl (gn pa))), (ak, .inl (G.2.1, 1050, .inl (gn ke))), (ai, .inl (G.2.1, 2, .inl (gn ik))), (ac, .inl (G.2.1, 256, .inl (gn pC))), (aw, .inl (G.2.1, 256, .inl (gn pW)))] := hD
  refine gIfB_ne (P := (((0 : Nat) : Int) ≤ ((k : Nat) : Int) ∧ ((k : Nat) : Int) ≤ ((1 : Nat) : Int))) (tgt := 20) hx hb dX4_goBack_11 (by decide) (fun c11 => ?_) (fun c11 => ?_)
  · skip
    refine lv_aload_n hx hb dX4_goBack_20 rfl (lv_at hl 0 rfl) ?_
    refine va_get (D := G.1) (ci := 4) (v := .ref ai) (C := RX4) (T := TX4) (N := 15) hx hb hts hi4 hown hK hP 0 rfl rfl 4 (by decide) (hts (.fieldLink RX4 19 "LandQuartersModel" "isKept" "[I") (by decide +kernel)) (fun _ h9 => h9) rfl dX4_goBack_21 ?_
    refine lv_iload_n hx hb dX4_goBack_24 rfl (lv_at hl 1 rfl) ?_
    refine gNald (k := k) hx hb hK hP 4 0 rfl rfl (by omega) (by first | decide | omega) dX4_goBack_25 ?_
    refine gIf_ne (a := ik k) (tgt := 35) hx hb dX4_goBack_26 (by decide) (by omega) (fun c26 => ?_) (fun c26 => ?_)
    · skip
      refine lv_aload_n hx hb dX4_goBack_35 rfl (lv_at hl 0 rfl) ?_
      refine gCv F (gRunV (own := RX4) (C := RX4) (ci := 4) (bytes := cX4_saves) (n := 0) (As := []) (rest := []) F (c_X4_saves l G mq an ap st ak ai ad ac aw mn at_ le 0 sp ao tm nw pa (by first | assumption | omega) H.size) gX4_goBack_X4_saves rfl rfl rfl rfl (by decide +kernel) rfl ⟨Nat.le_of_ble_eq_true rfl, Nat.le_of_ble_eq_true rfl⟩ hP hD (lit := [(mq, .inr (4, [.ref an, .ref ap, .int (nI st), .ref ak, .ref ai, .ref ad, .ref ac, .ref aw, .int (nI mn), .ref at_, .int (nI le), .int (nI 0), .int (nI sp), .ref ao, .int (nI tm)])), (an, .inl (G.2.1, 525, .inl (gn nw))), (ap, .inl (G.2.1, 3150, .inl (gn pa))), (ak, .inl (G.2.1, 1050, .inl (gn ke))), (ai, .inl (G.2.1, 2, .inl (gn ik))), (ac, .inl (G.2.1, 256, .inl (gn pC))), (aw, .inl (G.2.1, 256, .inl (gn pW)))]) (wt := []) (wc := [(mq, .inr (4, [.ref an, .ref ap, .int (nI st), .ref ak, .ref ai, .ref ad, .ref ac, .ref aw, .int (nI mn), .ref at_, .int (nI le), .int (nI 0), .int (nI sp), .ref ao, .int (nI tm)])), (an, .inl (G.2.1, 525, .inl (gn nw))), (ap, .inl (G.2.1, 3150, .inl (gn pa)))]) (isC := [0, 1, 2]) rfl (by decide) rfl rfl rfl hl.1 (Nat.le_of_ble_eq_true rfl) dX4_goBack_36 ⟨Nat.le_of_ble_eq_true rfl, Nat.le_of_ble_eq_true rfl⟩) hP hD hS (lit := [(mq, .inr (4, [.ref an, .ref ap, .int (nI st), .ref ak, .ref ai, .ref ad, .ref ac, .ref aw, .int (nI mn), .ref at_, .int (nI le), .int (nI 0), .int (nI sp), .ref ao, .int (nI tm)])), (an, .inl (G.2.1, 525, .inl (gn nw))), (ap, .inl (G.2.1, 3150, .inl (gn pa))), (ak, .inl (G.2.1, 1050, .inl (gn ke))), (ai, .inl (G.2.1, 2, .inl (gn ik))), (ac, .inl (G.2.1, 256, .inl (gn pC))), (aw, .inl (G.2.1, 256, .inl (gn pW)))]) (wt := []) (wc := [(mq, .inr (4, [.ref an, .ref ap, .int (nI st), .ref ak, .ref ai, .ref ad, .ref ac, .ref aw, .int (nI mn), .ref at_, .int (nI le), .int (nI 0), .int (nI sp), .ref ao, .int (nI tm)])), (an, .inl (G.2.1, 525, .inl (gn nw))), (ap, .inl (G.2.1, 3150, .inl (gn pa)))]) (wr := [(ak, .inl (G.2.1, 1050, .inl (gn ke))), (ai, .inl (G.2.1, 2, .inl (gn ik))), (ac, .inl (G.2.1, 256, .inl (gn pC))), (aw, .inl (G.2.1, 256, .inl (gn pW)))]) (isC := [0, 1, 2]) (isR := [3, 4, 5, 6]) rfl rfl (by decide) (by decide) (fun u H locs hp36 hP hD hS => ?_)
      have hP : va_P G.1 vwCl [(ak, .inl (G.2.1, 1050, .inl (gn ke))), (ai, .inl (G.2.1, 2, .inl (gn ik))), (ac, .inl (G.2.1, 256, .inl (gn pC))), (aw, .inl (G.2.1, 256, .inl (gn pW))), (mq, .inr (4, [.ref an, .ref ap, .int (nI (svN st)), .ref ak, .ref ai, .ref ad, .ref ac, .ref aw, .int (nI mn), .ref at_, .int (nI le), .int (nI 0), .int (nI sp), .ref ao, .int (nI tm)])), (an, .inl (G.2.1, 525, .inl (gn nw))), (ap, .inl (G.2.1, 3150, .inl (gn (savP nw pa st))))] H := hP
      have hD : va_D A [(ak, .inl (G.2.1, 1050, .inl (gn ke))), (ai, .inl (G.2.1, 2, .inl (gn ik))), (ac, .inl (G.2.1, 256, .inl (gn pC))), (aw, .inl (G.2.1, 256, .inl (gn pW))), (mq, .inr (4, [.ref an, .ref ap, .int (nI (svN st)), .ref ak, .ref ai, .ref ad, .ref ac, .ref aw, .int (nI mn), .ref at_, .int (nI le), .int (nI 0), .int (nI sp), .ref ao, .int (nI tm)])), (an, .inl (G.2.1, 525, .inl (gn nw))), (ap, .inl (G.2.1, 3150, .inl (gn (savP nw pa st))))] := hD
      refine lv_aload_n hx hb dX4_goBack_39 rfl (lv_at hl 0 rfl) ?_
      refine va_get (D := G.1) (ci := 4) (v := .ref ak) (C := RX4) (T := TX4) (N := 15) hx hb hts hi4 hown hK hP 4 rfl rfl 3 (by decide) (hts (.fieldLink RX4 16 "LandQuartersModel" "kept" "[I") (by decide +kernel)) (fun _ h9 => h9) rfl dX4_goBack_40 ?_
      refine lv_sipush (v := nI 525) hx hb dX4_goBack_43 (by decide) ?_
      refine lv_iload_n hx hb dX4_goBack_46 rfl (lv_at hl 1 rfl) ?_
      refine gImul (a := 525) (b := k) hx hb dX4_goBack_47 ?_
      refine lv_aload_n hx hb dX4_goBack_48 rfl (lv_at hl 0 rfl) ?_
      refine va_get (D := G.1) (ci := 4) (v := .ref an) (C := RX4) (T := TX4) (N := 15) hx hb hts hi4 hown hK hP 4 rfl rfl 0 (by decide) (hts (.fieldLink RX4 7 "LandQuartersModel" "now" "[I") (by decide +kernel)) (fun _ h9 => h9) rfl dX4_goBack_49 ?_
      refine lv_iconst (v := nI 0) hx hb dX4_goBack_52 (by decide) ?_
      refine gCv F (gRunS (own := RX4) (bytes := cX4_lays) (n := 4) (As := [.ref ak, .int (nI (525 * k)), .ref an, .int (nI 0)]) (rest := []) F (c_X4_lays l G ak 1050 ke (525 * k) an 525 nw 0 (by first | assumption | omega) (by first | assumption | omega) (by first | assumption | omega) (by first | assumption | omega) H.size) gX4_goBack_X4_lays rfl rfl rfl rfl (by decide +kernel) rfl ⟨Nat.le_of_ble_eq_true rfl, Nat.le_of_ble_eq_true rfl⟩ hP hD (lit := [(ak, .inl (G.2.1, 1050, .inl (gn ke))), (ai, .inl (G.2.1, 2, .inl (gn ik))), (ac, .inl (G.2.1, 256, .inl (gn pC))), (aw, .inl (G.2.1, 256, .inl (gn pW))), (mq, .inr (4, [.ref an, .ref ap, .int (nI (svN st)), .ref ak, .ref ai, .ref ad, .ref ac, .ref aw, .int (nI mn), .ref at_, .int (nI le), .int (nI 0), .int (nI sp), .ref ao, .int (nI tm)])), (an, .inl (G.2.1, 525, .inl (gn nw))), (ap, .inl (G.2.1, 3150, .inl (gn (savP nw pa st))))]) (wt := []) (wc := [(ak, .inl (G.2.1, 1050, .inl (gn ke))), (an, .inl (G.2.1, 525, .inl (gn nw)))]) (isC := [0, 5]) rfl (by decide) rfl hl.1 (Nat.le_of_ble_eq_true rfl) dX4_goBack_53 ⟨Nat.le_of_ble_eq_true rfl, Nat.le_of_ble_eq_true rfl⟩) hP hD hS (lit := [(ak, .inl (G.2.1, 1050, .inl (gn ke))), (ai, .inl (G.2.1, 2, .inl (gn ik))), (ac, .inl (G.2.1, 256, .inl (gn pC))), (aw, .inl (G.2.1, 256, .inl (gn pW))), (mq, .inr (4, [.ref an, .ref ap, .int (nI (svN st)), .ref ak, .ref ai, .ref ad, .ref ac, .ref aw, .int (nI mn), .ref at_, .int (nI le), .int (nI 0), .int (nI sp), .ref ao, .int (nI tm)])), (an, .inl (G.2.1, 525, .inl (gn nw))), (ap, .inl (G.2.1, 3150, .inl (gn (savP nw pa st))))]) (wt := []) (wc := [(ak, .inl (G.2.1, 1050, .inl (gn ke))), (an, .inl (G.2.1, 525, .inl (gn nw)))]) (wr := [(ai, .inl (G.2.1, 2, .inl (gn ik))), (ac, .inl (G.2.1, 256, .inl (gn pC))), (aw, .inl (G.2.1, 256, .inl (gn pW))), (mq, .inr (4, [.ref an, .ref ap, .int (nI (svN st)), .ref ak, .ref ai, .ref ad, .ref ac, .ref aw, .int (nI mn), .ref at_, .int (nI le), .int (nI 0), .int (nI sp), .ref ao, .int (nI tm)])), (ap, .inl (G.2.1, 3150, .inl (gn (savP nw pa st))))]) (isC := [0, 5]) (isR := [1, 2, 3, 4, 6]) rfl rfl (by decide) (by decide) (fun u H locs hp53 hP hD hS => ?_)
      have hP : va_P G.1 vwCl [(ai, .inl (G.2.1, 2, .inl (gn ik))), (ac, .inl (G.2.1, 256, .inl (gn pC))), (aw, .inl (G.2.1, 256, .inl (gn pW))), (mq, .inr (4, [.ref an, .ref ap, .int (nI (svN st)), .ref ak, .ref ai, .ref ad, .ref ac, .ref aw, .int (nI mn), .ref at_, .int (nI le), .int (nI 0), .int (nI sp), .ref ao, .int (nI tm)])), (ap, .inl (G.2.1, 3150, .inl (gn (savP nw pa st)))), (ak, .inl (G.2.1, 1050, .inl (gn ke))), (an, .inl (G.2.1, 525, .inl (gn (layF ke (525 * k) nw 0))))] H := hP
      have hD : va_D A [(ai, .inl (G.2.1, 2, .inl (gn ik))), (ac, .inl (G.2.1, 256, .inl (gn pC))), (aw, .inl (G.2.1, 256, .inl (gn pW))), (mq, .inr (4, [.ref an, .ref ap, .int (nI (svN st)), .ref ak, .ref ai, .ref ad, .ref ac, .ref aw, .int (nI mn), .ref at_, .int (nI le), .int (nI 0), .int (nI sp), .ref ao, .int (nI tm)])), (ap, .inl (G.2.1, 3150, .inl (gn (savP nw pa st)))), (ak, .inl (G.2.1, 1050, .inl (gn ke))), (an, .inl (G.2.1, 525, .inl (gn (layF ke (525 * k) nw 0))))] := hD
      refine lv_aload_n hx hb dX4_goBack_56 rfl (lv_at hl 0 rfl) ?_
      refine gCi F (gRunV (own := RX4) (C := RX4) (ci := 4) (bytes := cX4_allPlots) (n := 0) (As := []) (rest := []) F (c_X4_allPlots l G mq an ap (svN st) ak ai ad ac aw mn at_ le 0 sp ao tm (layF ke (525 * k) nw 0) pC pW (how) H.size) gX4_goBack_X4_allPlots rfl rfl rfl rfl (by decide +kernel) rfl ⟨Nat.le_of_ble_eq_true rfl, Nat.le_of_ble_eq_true rfl⟩ hP hD (lit := [(ai, .inl (G.2.1, 2, .inl (gn ik))), (ac, .inl (G.2.1, 256, .inl (gn pC))), (aw, .inl (G.2.1, 256, .inl (gn pW))), (mq, .inr (4, [.ref an, .ref ap, .int (nI (svN st)), .ref ak, .ref ai, .ref ad, .ref ac, .ref aw, .int (nI mn), .ref at_, .int (nI le), .int (nI 0), .int (nI sp), .ref ao, .int (nI tm)])), (ap, .inl (G.2.1, 3150, .inl (gn (savP nw pa st)))), (ak, .inl (G.2.1, 1050, .inl (gn ke))), (an, .inl (G.2.1, 525, .inl (gn (layF ke (525 * k) nw 0))))]) (wt := []) (wc := [(mq, .inr (4, [.ref an, .ref ap, .int (nI (svN st)), .ref ak, .ref ai, .ref ad, .ref ac, .ref aw, .int (nI mn), .ref at_, .int (nI le), .int (nI 0), .int (nI sp), .ref ao, .int (nI tm)])), (an, .inl (G.2.1, 525, .inl (gn (layF ke (525 * k) nw 0)))), (ac, .inl (G.2.1, 256, .inl (gn pC))), (aw, .inl (G.2.1, 256, .inl (gn pW)))]) (isC := [3, 6, 1, 2]) rfl (by decide) rfl rfl rfl hl.1 (Nat.le_of_ble_eq_true rfl) dX4_goBack_57 ⟨Nat.le_of_ble_eq_true rfl, Nat.le_of_ble_eq_true rfl⟩) hP hD hS (lit := [(ai, .inl (G.2.1, 2, .inl (gn ik))), (ac, .inl (G.2.1, 256, .inl (gn pC))), (aw, .inl (G.2.1, 256, .inl (gn pW))), (mq, .inr (4, [.ref an, .ref ap, .int (nI (svN st)), .ref ak, .ref ai, .ref ad, .ref ac, .ref aw, .int (nI mn), .ref at_, .int (nI le), .int (nI 0), .int (nI sp), .ref ao, .int (nI tm)])), (ap, .inl (G.2.1, 3150, .inl (gn (savP nw pa st)))), (ak, .inl (G.2.1, 1050, .inl (gn ke))), (an, .inl (G.2.1, 525, .inl (gn (layF ke (525 * k) nw 0))))]) (wt := []) (wc := [(mq, .inr (4, [.ref an, .ref ap, .int (nI (svN st)), .ref ak, .ref ai, .ref ad, .ref ac, .ref aw, .int (nI mn), .ref at_, .int (nI le), .int (nI 0), .int (nI sp), .ref ao, .int (nI tm)])), (an, .inl (G.2.1, 525, .inl (gn (layF ke (525 * k) nw 0)))), (ac, .inl (G.2.1, 256, .inl (gn pC))), (aw, .inl (G.2.1, 256, .inl (gn pW)))]) (wr := [(ai, .inl (G.2.1, 2, .inl (gn ik))), (ap, .inl (G.2.1, 3150, .inl (gn (savP nw pa st)))), (ak, .inl (G.2.1, 1050, .inl (gn ke)))]) (isC := [3, 6, 1, 2]) (isR := [0, 4, 5]) rfl rfl (by decide) (by decide) (fun r57 u H locs hp57 hP hD hS => ?_)
      obtain ⟨pc1, pw1⟩ := u
      try dsimp only at hp57
      obtain ⟨rfl, hp57_0⟩ := hp57
      have hP : va_P G.1 vwCl [(ai, .inl (G.2.1, 2, .inl (gn ik))), (ap, .inl (G.2.1, 3150, .inl (gn (savP nw pa st)))), (ak, .inl (G.2.1, 1050, .inl (gn ke))), (mq, .inr (4, [.ref an, .ref ap, .int (nI (svN st)), .ref ak, .ref ai, .ref ad, .ref ac, .ref aw, .int (nI (cnt (layF ke (525 * k) nw 0))), .ref at_, .int (nI le), .int (nI 0), .int (nI sp), .ref ao, .int (nI tm)])), (an, .inl (G.2.1, 525, .inl (gn (layF ke (525 * k) nw 0)))), (ac, .inl (G.2.1, 256, .inl (gn pc1))), (aw, .inl (G.2.1, 256, .inl (gn pw1)))] H := hP
      have hD : va_D A [(ai, .inl (G.2.1, 2, .inl (gn ik))), (ap, .inl (G.2.1, 3150, .inl (gn (savP nw pa st)))), (ak, .inl (G.2.1, 1050, .inl (gn ke))), (mq, .inr (4, [.ref an, .ref ap, .int (nI (svN st)), .ref ak, .ref ai, .ref ad, .ref ac, .ref aw, .int (nI (cnt (layF ke (525 * k) nw 0))), .ref at_, .int (nI le), .int (nI 0), .int (nI sp), .ref ao, .int (nI tm)])), (an, .inl (G.2.1, 525, .inl (gn (layF ke (525 * k) nw 0)))), (ac, .inl (G.2.1, 256, .inl (gn pc1))), (aw, .inl (G.2.1, 256, .inl (gn pw1)))] := hD
      have hP : va_P G.1 vwCl [(mq, .inr (4, [.ref an, .ref ap, .int (nI (svN st)), .ref ak, .ref ai, .ref ad, .ref ac, .ref aw, .int (nI (cnt (layF ke (525 * k) nw 0))), .ref at_, .int (nI le), .int (nI 0), .int (nI sp), .ref ao, .int (nI tm)])), (an, .inl (G.2.1, 525, .inl (gn (layF ke (525 * k) nw 0)))), (ap, .inl (G.2.1, 3150, .inl (gn (savP nw pa st)))), (ak, .inl (G.2.1, 1050, .inl (gn ke))), (ai, .inl (G.2.1, 2, .inl (gn ik))), (ac, .inl (G.2.1, 256, .inl (gn pc1))), (aw, .inl (G.2.1, 256, .inl (gn pw1)))] H := hP.sub (ws' := [(mq, .inr (4, [.ref an, .ref ap, .int (nI (svN st)), .ref ak, .ref ai, .ref ad, .ref ac, .ref aw, .int (nI (cnt (layF ke (525 * k) nw 0))), .ref at_, .int (nI le), .int (nI 0), .int (nI sp), .ref ao, .int (nI tm)])), (an, .inl (G.2.1, 525, .inl (gn (layF ke (525 * k) nw 0)))), (ap, .inl (G.2.1, 3150, .inl (gn (savP nw pa st)))), (ak, .inl (G.2.1, 1050, .inl (gn ke))), (ai, .inl (G.2.1, 2, .inl (gn ik))), (ac, .inl (G.2.1, 256, .inl (gn pc1))), (aw, .inl (G.2.1, 256, .inl (gn pw1)))]) [3, 4, 1, 2, 0, 5, 6] rfl
      have hD : va_D A [(mq, .inr (4, [.ref an, .ref ap, .int (nI (svN st)), .ref ak, .ref ai, .ref ad, .ref ac, .ref aw, .int (nI (cnt (layF ke (525 * k) nw 0))), .ref at_, .int (nI le), .int (nI 0), .int (nI sp), .ref ao, .int (nI tm)])), (an, .inl (G.2.1, 525, .inl (gn (layF ke (525 * k) nw 0)))), (ap, .inl (G.2.1, 3150, .inl (gn (savP nw pa st)))), (ak, .inl (G.2.1, 1050, .inl (gn ke))), (ai, .inl (G.2.1, 2, .inl (gn ik))), (ac, .inl (G.2.1, 256, .inl (gn pc1))), (aw, .inl (G.2.1, 256, .inl (gn pw1)))] := hD.sub (ws' := [(mq, .inr (4, [.ref an, .ref ap, .int (nI (svN st)), .ref ak, .ref ai, .ref ad, .ref ac, .ref aw, .int (nI (cnt (layF ke (525 * k) nw 0))), .ref at_, .int (nI le), .int (nI 0), .int (nI sp), .ref ao, .int (nI tm)])), (an, .inl (G.2.1, 525, .inl (gn (layF ke (525 * k) nw 0)))), (ap, .inl (G.2.1, 3150, .inl (gn (savP nw pa st)))), (ak, .inl (G.2.1, 1050, .inl (gn ke))), (ai, .inl (G.2.1, 2, .inl (gn ik))), (ac, .inl (G.2.1, 256, .inl (gn pc1))), (aw, .inl (G.2.1, 256, .inl (gn pw1)))]) [3, 4, 1, 2, 0, 5, 6] (by decide) rfl
      exact gRi F dX4_goBack_60 (rfl) (pc1, pw1) (rfl) hP hD hS (Nat.le_refl _) (Nat.le_refl _)
    refine lv_aload_n hx hb dX4_goBack_29 rfl (lv_at hl 0 rfl) ?_
    refine lv_iconst (v := nI 2) hx hb dX4_goBack_30 (by decide) ?_
    exfalso; omega
  refine lv_aload_n hx hb dX4_goBack_14 rfl (lv_at hl 0 rfl) ?_
  refine lv_iconst (v := nI 1) hx hb dX4_goBack_15 (by decide) ?_
  exfalso; omega

set_option maxHeartbeats 4000000 in
set_option maxRecDepth 100000 in
theorem f1_X4_goBack (l : Launch) (G : gG) (mq : Nat) (an : Nat) (ap : Nat) (st : Nat) (ak : Nat) (ai : Nat) (ad : Nat) (ac : Nat) (aw : Nat) (mn : Nat) (at_ : Nat) (le : Nat) (th : Nat) (sp : Nat) (ao : Nat) (tm : Nat) (o : Int) (ho : -2147483648 ≤ o ∧ o < 2147483648) (hcond0 : ¬(0 ≤ o ∧ o < 2)) : gMi (S := Unit) l yX4_goBack wsX4_goBack { frames := 1, cells := 0, slots := 0, locals := 22 } G [.ref mq, .int (zI o)] [(mq, .inr (4, [.ref an, .ref ap, .int (nI st), .ref ak, .ref ai, .ref ad, .ref ac, .ref aw, .int (nI mn), .ref at_, .int (nI le), .int (nI th), .int (nI sp), .ref ao, .int (nI tm)]))] (fun (r : Int32) (u : Unit) => (r = nI 0)) (fun u => [(mq, .inr (4, [.ref an, .ref ap, .int (nI st), .ref ak, .ref ai, .ref ad, .ref ac, .ref aw, .int (nI mn), .ref at_, .int (nI le), .int (nI 1), .int (nI sp), .ref ao, .int (nI tm)]))]) 0 0 := by
  refine gMet_mk (cc := cX4_goBack) (nL := 2) (ret := (some .int)) (Qc := fun A => va_Qi (S := Unit) (fun (r : Int32) (u : Unit) => (r = nI 0)) (gB G A (fun (u : Unit) => [(mq, .inr (4, [.ref an, .ref ap, .int (nI st), .ref ak, .ref ai, .ref ad, .ref ac, .ref aw, .int (nI mn), .ref at_, .int (nI le), .int (nI 1), .int (nI sp), .ref ao, .int (nI tm)]))])) A) (by decide) rfl (Nat.le_of_ble_eq_true rfl) ?_
  intro p e s m args below meth c A F ls hl hP hD hS
  have hx := F.1
  have hb := F.2.1
  have hts := F.2.2.2.2.2.2.1
  have hown : s.vm.findClass RX4 = some m.cls := F.2.2.2.2.2.1
  have hKK := F.2.2.2.2.2.2.2.2.1
  have hK := hKK.1
  have hin0 := F.2.2.2.2.2.2.2.1
  have hi4 : ∀ w ∈ u_ws RX4 TX4 15, w ∈ wsX4_goBack := by decide +kernel
  have hl : lv_has ls 2 [(0, .ref mq), (1, .int (zI o))] := hl
  generalize hH : s.heap = H at hP ⊢
  have hS : va_S A s.heap H [] := by rw [← hH]; exact va_S.rf
  generalize hLo : ([] : List Loc) = locs at hS ⊢
  refine lv_aload_n hx hb dX4_goBack_0 rfl (lv_at hl 0 rfl) ?_
  refine lv_iconst (v := nI 0) hx hb dX4_goBack_1 (by decide) ?_
  refine va_put (D := G.1) (ci := 4) (v := .int (nI 0)) (ty := .int) (C := RX4) (T := TX4) (N := 15) hx hb hts hi4 tyX4 tyX4_ok nmX4 hown hK hP hD hS 0 rfl rfl 11 (by decide) (hts (.fieldLink RX4 37 "LandQuartersModel" "thrown" "I") (by decide +kernel)) (fun _ h9 => h9) rfl (by decide +kernel) (rfl) (rfl) (Nat.le_of_ble_eq_true rfl) dX4_goBack_2 (fun H locs hP hD hS => ?_)
  have hP : va_P G.1 vwCl [(mq, .inr (4, [.ref an, .ref ap, .int (nI st), .ref ak, .ref ai, .ref ad, .ref ac, .ref aw, .int (nI mn), .ref at_, .int (nI le), .int (nI 0), .int (nI sp), .ref ao, .int (nI tm)]))] H := hP
  have hD : va_D A [(mq, .inr (4, [.ref an, .ref ap, .int (nI st), .ref ak, .ref ai, .ref ad, .ref ac, .ref aw, .int (nI mn), .ref at_, .int (nI le), .int (nI 0), .int (nI sp), .ref ao, .int (nI tm)]))] := hD
  refine lv_iload_n hx hb dX4_goBack_5 rfl (lv_at hl 1 rfl) ?_
  refine lv_iconst (v := nI 0) hx hb dX4_goBack_6 (by decide) ?_
  refine lv_iconst (v := nI 1) hx hb dX4_goBack_7 (by decide) ?_
  refine W.eq (g2 := F0 m 8 ls [.int (zI ((1 : Nat) : Int)), .int (zI ((0 : Nat) : Int)), .int (zI o)]) (by simp only [zI_nat, zI_neg1]) ?_
  refine gCi F (gRunS (own := RX4) (bytes := cX4_in) (n := 3) (As := [.int (zI o), .int (zI ((0 : Nat) : Int)), .int (zI ((1 : Nat) : Int))]) (rest := []) F (c_X4_in l G o ((0 : Nat) : Int) ((1 : Nat) : Int) (by first | assumption | omega) (by first | assumption | omega) (by first | assumption | omega) H.size) gX4_goBack_X4_in rfl rfl rfl rfl (by decide +kernel) rfl ⟨Nat.le_of_ble_eq_true rfl, Nat.le_of_ble_eq_true rfl⟩ hP hD (lit := [(mq, .inr (4, [.ref an, .ref ap, .int (nI st), .ref ak, .ref ai, .ref ad, .ref ac, .ref aw, .int (nI mn), .ref at_, .int (nI le), .int (nI 0), .int (nI sp), .ref ao, .int (nI tm)]))]) (wt := []) (wc := []) (isC := []) rfl (by decide) rfl hl.1 (Nat.le_of_ble_eq_true rfl) dX4_goBack_8 ⟨Nat.le_of_ble_eq_true rfl, Nat.le_of_ble_eq_true rfl⟩) hP hD hS (lit := [(mq, .inr (4, [.ref an, .ref ap, .int (nI st), .ref ak, .ref ai, .ref ad, .ref ac, .ref aw, .int (nI mn), .ref at_, .int (nI le), .int (nI 0), .int (nI sp), .ref ao, .int (nI tm)]))]) (wt := []) (wc := []) (wr := [(mq, .inr (4, [.ref an, .ref ap, .int (nI st), .ref ak, .ref ai, .ref ad, .ref ac, .ref aw, .int (nI mn), .ref at_, .int (nI le), .int (nI 0), .int (nI sp), .ref ao, .int (nI tm)]))]) (isC := []) (isR := [0]) rfl rfl (by decide) (by decide) (fun r8 u H locs hp8 hP hD hS => ?_)
  subst hp8
  have hP : va_P G.1 vwCl [(mq, .inr (4, [.ref an, .ref ap, .int (nI st), .ref ak, .ref ai, .ref ad, .ref ac, .ref aw, .int (nI mn), .ref at_, .int (nI le), .int (nI 0), .int (nI sp), .ref ao, .int (nI tm)]))] H := hP
  have hD : va_D A [(mq, .inr (4, [.ref an, .ref ap, .int (nI st), .ref ak, .ref ai, .ref ad, .ref ac, .ref aw, .int (nI mn), .ref at_, .int (nI le), .int (nI 0), .int (nI sp), .ref ao, .int (nI tm)]))] := hD
  refine gIfB_ne (P := (((0 : Nat) : Int) ≤ o ∧ o ≤ ((1 : Nat) : Int))) (tgt := 20) hx hb dX4_goBack_11 (by decide) (fun c11 => ?_) (fun c11 => ?_)
  · skip
    exfalso; omega
  refine lv_aload_n hx hb dX4_goBack_14 rfl (lv_at hl 0 rfl) ?_
  refine lv_iconst (v := nI 1) hx hb dX4_goBack_15 (by decide) ?_
  refine gCi F (gRunV (own := RX4) (C := RX4) (ci := 4) (bytes := cX4_refuses) (n := 1) (As := [.int (nI 1)]) (rest := []) F (c_X4_refuses l G mq an ap st ak ai ad ac aw mn at_ le 0 sp ao tm 1  H.size) gX4_goBack_X4_refuses rfl rfl rfl rfl (by decide +kernel) rfl ⟨Nat.le_of_ble_eq_true rfl, Nat.le_of_ble_eq_true rfl⟩ hP hD (lit := [(mq, .inr (4, [.ref an, .ref ap, .int (nI st), .ref ak, .ref ai, .ref ad, .ref ac, .ref aw, .int (nI mn), .ref at_, .int (nI le), .int (nI 0), .int (nI sp), .ref ao, .int (nI tm)]))]) (wt := []) (wc := [(mq, .inr (4, [.ref an, .ref ap, .int (nI st), .ref ak, .ref ai, .ref ad, .ref ac, .ref aw, .int (nI mn), .ref at_, .int (nI le), .int (nI 0), .int (nI sp), .ref ao, .int (nI tm)]))]) (isC := [0]) rfl (by decide) rfl rfl rfl hl.1 (Nat.le_of_ble_eq_true rfl) dX4_goBack_16 ⟨Nat.le_of_ble_eq_true rfl, Nat.le_of_ble_eq_true rfl⟩) hP hD hS (lit := [(mq, .inr (4, [.ref an, .ref ap, .int (nI st), .ref ak, .ref ai, .ref ad, .ref ac, .ref aw, .int (nI mn), .ref at_, .int (nI le), .int (nI 0), .int (nI sp), .ref ao, .int (nI tm)]))]) (wt := []) (wc := [(mq, .inr (4, [.ref an, .ref ap, .int (nI st), .ref ak, .ref ai, .ref ad, .ref ac, .ref aw, .int (nI mn), .ref at_, .int (nI le), .int (nI 0), .int (nI sp), .ref ao, .int (nI tm)]))]) (wr := []) (isC := [0]) (isR := []) rfl rfl (by decide) (by decide) (fun r16 u H locs hp16 hP hD hS => ?_)
  subst hp16
  have hP : va_P G.1 vwCl [(mq, .inr (4, [.ref an, .ref ap, .int (nI st), .ref ak, .ref ai, .ref ad, .ref ac, .ref aw, .int (nI mn), .ref at_, .int (nI le), .int (nI 1), .int (nI sp), .ref ao, .int (nI tm)]))] H := hP
  have hD : va_D A [(mq, .inr (4, [.ref an, .ref ap, .int (nI st), .ref ak, .ref ai, .ref ad, .ref ac, .ref aw, .int (nI mn), .ref at_, .int (nI le), .int (nI 1), .int (nI sp), .ref ao, .int (nI tm)]))] := hD
  exact gRi F dX4_goBack_19 (rfl) () (rfl) hP hD hS (Nat.le_refl _) (Nat.le_refl _)

set_option maxHeartbeats 4000000 in
set_option maxRecDepth 100000 in
theorem f2_X4_goBack (l : Launch) (G : gG) (mq : Nat) (an : Nat) (ap : Nat) (st : Nat) (ak : Nat) (ai : Nat) (ad : Nat) (ac : Nat) (aw : Nat) (mn : Nat) (at_ : Nat) (le : Nat) (th : Nat) (sp : Nat) (ao : Nat) (tm : Nat) (ik : Nat → Nat) (k : Nat) (hk : k < 2) (hik : ik k = 0) : gMi (S := Unit) l yX4_goBack wsX4_goBack { frames := 1, cells := 0, slots := 0, locals := 22 } G [.ref mq, .int (nI k)] [(mq, .inr (4, [.ref an, .ref ap, .int (nI st), .ref ak, .ref ai, .ref ad, .ref ac, .ref aw, .int (nI mn), .ref at_, .int (nI le), .int (nI th), .int (nI sp), .ref ao, .int (nI tm)])), (ai, .inl (G.2.1, 2, .inl (gn ik)))] (fun (r : Int32) (u : Unit) => (r = nI 0)) (fun u => [(mq, .inr (4, [.ref an, .ref ap, .int (nI st), .ref ak, .ref ai, .ref ad, .ref ac, .ref aw, .int (nI mn), .ref at_, .int (nI le), .int (nI 2), .int (nI sp), .ref ao, .int (nI tm)])), (ai, .inl (G.2.1, 2, .inl (gn ik)))]) 0 0 := by
  refine gMet_mk (cc := cX4_goBack) (nL := 2) (ret := (some .int)) (Qc := fun A => va_Qi (S := Unit) (fun (r : Int32) (u : Unit) => (r = nI 0)) (gB G A (fun (u : Unit) => [(mq, .inr (4, [.ref an, .ref ap, .int (nI st), .ref ak, .ref ai, .ref ad, .ref ac, .ref aw, .int (nI mn), .ref at_, .int (nI le), .int (nI 2), .int (nI sp), .ref ao, .int (nI tm)])), (ai, .inl (G.2.1, 2, .inl (gn ik)))])) A) (by decide) rfl (Nat.le_of_ble_eq_true rfl) ?_
  intro p e s m args below meth c A F ls hl hP hD hS
  have hx := F.1
  have hb := F.2.1
  have hts := F.2.2.2.2.2.2.1
  have hown : s.vm.findClass RX4 = some m.cls := F.2.2.2.2.2.1
  have hKK := F.2.2.2.2.2.2.2.2.1
  have hK := hKK.1
  have hin0 := F.2.2.2.2.2.2.2.1
  have hi4 : ∀ w ∈ u_ws RX4 TX4 15, w ∈ wsX4_goBack := by decide +kernel
  have hl : lv_has ls 2 [(0, .ref mq), (1, .int (nI k))] := hl
  generalize hH : s.heap = H at hP ⊢
  have hS : va_S A s.heap H [] := by rw [← hH]; exact va_S.rf
  generalize hLo : ([] : List Loc) = locs at hS ⊢
  refine lv_aload_n hx hb dX4_goBack_0 rfl (lv_at hl 0 rfl) ?_
  refine lv_iconst (v := nI 0) hx hb dX4_goBack_1 (by decide) ?_
  refine va_put (D := G.1) (ci := 4) (v := .int (nI 0)) (ty := .int) (C := RX4) (T := TX4) (N := 15) hx hb hts hi4 tyX4 tyX4_ok nmX4 hown hK hP hD hS 0 rfl rfl 11 (by decide) (hts (.fieldLink RX4 37 "LandQuartersModel" "thrown" "I") (by decide +kernel)) (fun _ h9 => h9) rfl (by decide +kernel) (rfl) (rfl) (Nat.le_of_ble_eq_true rfl) dX4_goBack_2 (fun H locs hP hD hS => ?_)
  have hP : va_P G.1 vwCl [(mq, .inr (4, [.ref an, .ref ap, .int (nI st), .ref ak, .ref ai, .ref ad, .ref ac, .ref aw, .int (nI mn), .ref at_, .int (nI le), .int (nI 0), .int (nI sp), .ref ao, .int (nI tm)])), (ai, .inl (G.2.1, 2, .inl (gn ik)))] H := hP
  have hD : va_D A [(mq, .inr (4, [.ref an, .ref ap, .int (nI st), .ref ak, .ref ai, .ref ad, .ref ac, .ref aw, .int (nI mn), .ref at_, .int (nI le), .int (nI 0), .int (nI sp), .ref ao, .int (nI tm)])), (ai, .inl (G.2.1, 2, .inl (gn ik)))] := hD
  refine lv_iload_n hx hb dX4_goBack_5 rfl (lv_at hl 1 rfl) ?_
  refine lv_iconst (v := nI 0) hx hb dX4_goBack_6 (by decide) ?_
  refine lv_iconst (v := nI 1) hx hb dX4_goBack_7 (by decide) ?_
  refine W.eq (g2 := F0 m 8 ls [.int (zI ((1 : Nat) : Int)), .int (zI ((0 : Nat) : Int)), .int (zI ((k : Nat) : Int))]) (by simp only [zI_nat, zI_neg1]) ?_
  refine gCi F (gRunS (own := RX4) (bytes := cX4_in) (n := 3) (As := [.int (zI ((k : Nat) : Int)), .int (zI ((0 : Nat) : Int)), .int (zI ((1 : Nat) : Int))]) (rest := []) F (c_X4_in l G ((k : Nat) : Int) ((0 : Nat) : Int) ((1 : Nat) : Int) (by first | assumption | omega) (by first | assumption | omega) (by first | assumption | omega) H.size) gX4_goBack_X4_in rfl rfl rfl rfl (by decide +kernel) rfl ⟨Nat.le_of_ble_eq_true rfl, Nat.le_of_ble_eq_true rfl⟩ hP hD (lit := [(mq, .inr (4, [.ref an, .ref ap, .int (nI st), .ref ak, .ref ai, .ref ad, .ref ac, .ref aw, .int (nI mn), .ref at_, .int (nI le), .int (nI 0), .int (nI sp), .ref ao, .int (nI tm)])), (ai, .inl (G.2.1, 2, .inl (gn ik)))]) (wt := []) (wc := []) (isC := []) rfl (by decide) rfl hl.1 (Nat.le_of_ble_eq_true rfl) dX4_goBack_8 ⟨Nat.le_of_ble_eq_true rfl, Nat.le_of_ble_eq_true rfl⟩) hP hD hS (lit := [(mq, .inr (4, [.ref an, .ref ap, .int (nI st), .ref ak, .ref ai, .ref ad, .ref ac, .ref aw, .int (nI mn), .ref at_, .int (nI le), .int (nI 0), .int (nI sp), .ref ao, .int (nI tm)])), (ai, .inl (G.2.1, 2, .inl (gn ik)))]) (wt := []) (wc := []) (wr := [(mq, .inr (4, [.ref an, .ref ap, .int (nI st), .ref ak, .ref ai, .ref ad, .ref ac, .ref aw, .int (nI mn), .ref at_, .int (nI le), .int (nI 0), .int (nI sp), .ref ao, .int (nI tm)])), (ai, .inl (G.2.1, 2, .inl (gn ik)))]) (isC := []) (isR := [0, 1]) rfl rfl (by decide) (by decide) (fun r8 u H locs hp8 hP hD hS => ?_)
  subst hp8
  have hP : va_P G.1 vwCl [(mq, .inr (4, [.ref an, .ref ap, .int (nI st), .ref ak, .ref ai, .ref ad, .ref ac, .ref aw, .int (nI mn), .ref at_, .int (nI le), .int (nI 0), .int (nI sp), .ref ao, .int (nI tm)])), (ai, .inl (G.2.1, 2, .inl (gn ik)))] H := hP
  have hD : va_D A [(mq, .inr (4, [.ref an, .ref ap, .int (nI st), .ref ak, .ref ai, .ref ad, .ref ac, .ref aw, .int (nI mn), .ref at_, .int (nI le), .int (nI 0), .int (nI sp), .ref ao, .int (nI tm)])), (ai, .inl (G.2.1, 2, .inl (gn ik)))] := hD
  refine gIfB_ne (P := (((0 : Nat) : Int) ≤ ((k : Nat) : Int) ∧ ((k : Nat) : Int) ≤ ((1 : Nat) : Int))) (tgt := 20) hx hb dX4_goBack_11 (by decide) (fun c11 => ?_) (fun c11 => ?_)
  · skip
    refine lv_aload_n hx hb dX4_goBack_20 rfl (lv_at hl 0 rfl) ?_
    refine va_get (D := G.1) (ci := 4) (v := .ref ai) (C := RX4) (T := TX4) (N := 15) hx hb hts hi4 hown hK hP 0 rfl rfl 4 (by decide) (hts (.fieldLink RX4 19 "LandQuartersModel" "isKept" "[I") (by decide +kernel)) (fun _ h9 => h9) rfl dX4_goBack_21 ?_
    refine lv_iload_n hx hb dX4_goBack_24 rfl (lv_at hl 1 rfl) ?_
    refine gNald (k := k) hx hb hK hP 1 0 rfl rfl (by omega) (by first | decide | omega) dX4_goBack_25 ?_
    refine gIf_ne (a := ik k) (tgt := 35) hx hb dX4_goBack_26 (by decide) (by omega) (fun c26 => ?_) (fun c26 => ?_)
    · skip
      refine lv_aload_n hx hb dX4_goBack_35 rfl (lv_at hl 0 rfl) ?_
      exfalso; omega
    refine lv_aload_n hx hb dX4_goBack_29 rfl (lv_at hl 0 rfl) ?_
    refine lv_iconst (v := nI 2) hx hb dX4_goBack_30 (by decide) ?_
    refine gCi F (gRunV (own := RX4) (C := RX4) (ci := 4) (bytes := cX4_refuses) (n := 1) (As := [.int (nI 2)]) (rest := []) F (c_X4_refuses l G mq an ap st ak ai ad ac aw mn at_ le 0 sp ao tm 2  H.size) gX4_goBack_X4_refuses rfl rfl rfl rfl (by decide +kernel) rfl ⟨Nat.le_of_ble_eq_true rfl, Nat.le_of_ble_eq_true rfl⟩ hP hD (lit := [(mq, .inr (4, [.ref an, .ref ap, .int (nI st), .ref ak, .ref ai, .ref ad, .ref ac, .ref aw, .int (nI mn), .ref at_, .int (nI le), .int (nI 0), .int (nI sp), .ref ao, .int (nI tm)])), (ai, .inl (G.2.1, 2, .inl (gn ik)))]) (wt := []) (wc := [(mq, .inr (4, [.ref an, .ref ap, .int (nI st), .ref ak, .ref ai, .ref ad, .ref ac, .ref aw, .int (nI mn), .ref at_, .int (nI le), .int (nI 0), .int (nI sp), .ref ao, .int (nI tm)]))]) (isC := [0]) rfl (by decide) rfl rfl rfl hl.1 (Nat.le_of_ble_eq_true rfl) dX4_goBack_31 ⟨Nat.le_of_ble_eq_true rfl, Nat.le_of_ble_eq_true rfl⟩) hP hD hS (lit := [(mq, .inr (4, [.ref an, .ref ap, .int (nI st), .ref ak, .ref ai, .ref ad, .ref ac, .ref aw, .int (nI mn), .ref at_, .int (nI le), .int (nI 0), .int (nI sp), .ref ao, .int (nI tm)])), (ai, .inl (G.2.1, 2, .inl (gn ik)))]) (wt := []) (wc := [(mq, .inr (4, [.ref an, .ref ap, .int (nI st), .ref ak, .ref ai, .ref ad, .ref ac, .ref aw, .int (nI mn), .ref at_, .int (nI le), .int (nI 0), .int (nI sp), .ref ao, .int (nI tm)]))]) (wr := [(ai, .inl (G.2.1, 2, .inl (gn ik)))]) (isC := [0]) (isR := [1]) rfl rfl (by decide) (by decide) (fun r31 u H locs hp31 hP hD hS => ?_)
    subst hp31
    have hP : va_P G.1 vwCl [(ai, .inl (G.2.1, 2, .inl (gn ik))), (mq, .inr (4, [.ref an, .ref ap, .int (nI st), .ref ak, .ref ai, .ref ad, .ref ac, .ref aw, .int (nI mn), .ref at_, .int (nI le), .int (nI 2), .int (nI sp), .ref ao, .int (nI tm)]))] H := hP
    have hD : va_D A [(ai, .inl (G.2.1, 2, .inl (gn ik))), (mq, .inr (4, [.ref an, .ref ap, .int (nI st), .ref ak, .ref ai, .ref ad, .ref ac, .ref aw, .int (nI mn), .ref at_, .int (nI le), .int (nI 2), .int (nI sp), .ref ao, .int (nI tm)]))] := hD
    have hP : va_P G.1 vwCl [(mq, .inr (4, [.ref an, .ref ap, .int (nI st), .ref ak, .ref ai, .ref ad, .ref ac, .ref aw, .int (nI mn), .ref at_, .int (nI le), .int (nI 2), .int (nI sp), .ref ao, .int (nI tm)])), (ai, .inl (G.2.1, 2, .inl (gn ik)))] H := hP.sub (ws' := [(mq, .inr (4, [.ref an, .ref ap, .int (nI st), .ref ak, .ref ai, .ref ad, .ref ac, .ref aw, .int (nI mn), .ref at_, .int (nI le), .int (nI 2), .int (nI sp), .ref ao, .int (nI tm)])), (ai, .inl (G.2.1, 2, .inl (gn ik)))]) [1, 0] rfl
    have hD : va_D A [(mq, .inr (4, [.ref an, .ref ap, .int (nI st), .ref ak, .ref ai, .ref ad, .ref ac, .ref aw, .int (nI mn), .ref at_, .int (nI le), .int (nI 2), .int (nI sp), .ref ao, .int (nI tm)])), (ai, .inl (G.2.1, 2, .inl (gn ik)))] := hD.sub (ws' := [(mq, .inr (4, [.ref an, .ref ap, .int (nI st), .ref ak, .ref ai, .ref ad, .ref ac, .ref aw, .int (nI mn), .ref at_, .int (nI le), .int (nI 2), .int (nI sp), .ref ao, .int (nI tm)])), (ai, .inl (G.2.1, 2, .inl (gn ik)))]) [1, 0] (by decide) rfl
    exact gRi F dX4_goBack_34 (rfl) () (rfl) hP hD hS (Nat.le_refl _) (Nat.le_refl _)
  refine lv_aload_n hx hb dX4_goBack_14 rfl (lv_at hl 0 rfl) ?_
  refine lv_iconst (v := nI 1) hx hb dX4_goBack_15 (by decide) ?_
  exfalso; omega

set_option maxHeartbeats 4000000 in
set_option maxRecDepth 100000 in
theorem c_X4_ownerAt (l : Launch) (G : gG) (mq : Nat) (an : Nat) (ap : Nat) (st : Nat) (ak : Nat) (ai : Nat) (ad : Nat) (ac : Nat) (aw : Nat) (mn : Nat) (at_ : Nat) (le : Nat) (th : Nat) (sp : Nat) (ao : Nat) (tm : Nat) (nw : Nat → Nat) (x : Nat) (y : Nat) (hx16 : x < 16) (hy16 : y < 16) : gMi (S := Unit) l yX4_ownerAt wsX4_ownerAt { frames := 2, cells := 0, slots := 0, locals := 43 } G [.ref mq, .int (nI x), .int (nI y)] [(mq, .inr (4, [.ref an, .ref ap, .int (nI st), .ref ak, .ref ai, .ref ad, .ref ac, .ref aw, .int (nI mn), .ref at_, .int (nI le), .int (nI th), .int (nI sp), .ref ao, .int (nI tm)])), (an, .inl (G.2.1, 525, .inl (gn nw)))] (fun (r : Int32) (u : Unit) => (r = nI (nw (16 * y + x)))) (fun u => [(mq, .inr (4, [.ref an, .ref ap, .int (nI st), .ref ak, .ref ai, .ref ad, .ref ac, .ref aw, .int (nI mn), .ref at_, .int (nI le), .int (nI 0), .int (nI sp), .ref ao, .int (nI tm)])), (an, .inl (G.2.1, 525, .inl (gn nw)))]) 0 0 := by
  refine gMet_mk (cc := cX4_ownerAt) (nL := 3) (ret := (some .int)) (Qc := fun A => va_Qi (S := Unit) (fun (r : Int32) (u : Unit) => (r = nI (nw (16 * y + x)))) (gB G A (fun (u : Unit) => [(mq, .inr (4, [.ref an, .ref ap, .int (nI st), .ref ak, .ref ai, .ref ad, .ref ac, .ref aw, .int (nI mn), .ref at_, .int (nI le), .int (nI 0), .int (nI sp), .ref ao, .int (nI tm)])), (an, .inl (G.2.1, 525, .inl (gn nw)))])) A) (by decide) rfl (Nat.le_of_ble_eq_true rfl) ?_
  intro p e s m args below meth c A F ls hl hP hD hS
  have hx := F.1
  have hb := F.2.1
  have hts := F.2.2.2.2.2.2.1
  have hown : s.vm.findClass RX4 = some m.cls := F.2.2.2.2.2.1
  have hKK := F.2.2.2.2.2.2.2.2.1
  have hK := hKK.1
  have hin0 := F.2.2.2.2.2.2.2.1
  have hi4 : ∀ w ∈ u_ws RX4 TX4 15, w ∈ wsX4_ownerAt := by decide +kernel
  have hl : lv_has ls 3 [(0, .ref mq), (1, .int (nI x)), (2, .int (nI y))] := hl
  generalize hH : s.heap = H at hP ⊢
  have hS : va_S A s.heap H [] := by rw [← hH]; exact va_S.rf
  generalize hLo : ([] : List Loc) = locs at hS ⊢
  refine lv_aload_n hx hb dX4_ownerAt_0 rfl (lv_at hl 0 rfl) ?_
  refine lv_iconst (v := nI 0) hx hb dX4_ownerAt_1 (by decide) ?_
  refine va_put (D := G.1) (ci := 4) (v := .int (nI 0)) (ty := .int) (C := RX4) (T := TX4) (N := 15) hx hb hts hi4 tyX4 tyX4_ok nmX4 hown hK hP hD hS 0 rfl rfl 11 (by decide) (hts (.fieldLink RX4 37 "LandQuartersModel" "thrown" "I") (by decide +kernel)) (fun _ h9 => h9) rfl (by decide +kernel) (rfl) (rfl) (Nat.le_of_ble_eq_true rfl) dX4_ownerAt_2 (fun H locs hP hD hS => ?_)
  have hP : va_P G.1 vwCl [(mq, .inr (4, [.ref an, .ref ap, .int (nI st), .ref ak, .ref ai, .ref ad, .ref ac, .ref aw, .int (nI mn), .ref at_, .int (nI le), .int (nI 0), .int (nI sp), .ref ao, .int (nI tm)])), (an, .inl (G.2.1, 525, .inl (gn nw)))] H := hP
  have hD : va_D A [(mq, .inr (4, [.ref an, .ref ap, .int (nI st), .ref ak, .ref ai, .ref ad, .ref ac, .ref aw, .int (nI mn), .ref at_, .int (nI le), .int (nI 0), .int (nI sp), .ref ao, .int (nI tm)])), (an, .inl (G.2.1, 525, .inl (gn nw)))] := hD
  refine lv_iload_n hx hb dX4_ownerAt_5 rfl (lv_at hl 1 rfl) ?_
  refine lv_iload_n hx hb dX4_ownerAt_6 rfl (lv_at hl 2 rfl) ?_
  refine W.eq (g2 := F0 m 7 ls [.int (zI ((y : Nat) : Int)), .int (zI ((x : Nat) : Int))]) (by simp only [zI_nat, zI_neg1]) ?_
  refine gCi F (gRunS (own := RX4) (bytes := cX4_isCell) (n := 2) (As := [.int (zI ((x : Nat) : Int)), .int (zI ((y : Nat) : Int))]) (rest := []) F (c_X4_isCell l G ((x : Nat) : Int) ((y : Nat) : Int) (by first | assumption | omega) (by first | assumption | omega) H.size) gX4_ownerAt_X4_isCell rfl rfl rfl rfl (by decide +kernel) rfl ⟨Nat.le_of_ble_eq_true rfl, Nat.le_of_ble_eq_true rfl⟩ hP hD (lit := [(mq, .inr (4, [.ref an, .ref ap, .int (nI st), .ref ak, .ref ai, .ref ad, .ref ac, .ref aw, .int (nI mn), .ref at_, .int (nI le), .int (nI 0), .int (nI sp), .ref ao, .int (nI tm)])), (an, .inl (G.2.1, 525, .inl (gn nw)))]) (wt := []) (wc := []) (isC := []) rfl (by decide) rfl hl.1 (Nat.le_of_ble_eq_true rfl) dX4_ownerAt_7 ⟨Nat.le_of_ble_eq_true rfl, Nat.le_of_ble_eq_true rfl⟩) hP hD hS (lit := [(mq, .inr (4, [.ref an, .ref ap, .int (nI st), .ref ak, .ref ai, .ref ad, .ref ac, .ref aw, .int (nI mn), .ref at_, .int (nI le), .int (nI 0), .int (nI sp), .ref ao, .int (nI tm)])), (an, .inl (G.2.1, 525, .inl (gn nw)))]) (wt := []) (wc := []) (wr := [(mq, .inr (4, [.ref an, .ref ap, .int (nI st), .ref ak, .ref ai, .ref ad, .ref ac, .ref aw, .int (nI mn), .ref at_, .int (nI le), .int (nI 0), .int (nI sp), .ref ao, .int (nI tm)])), (an, .inl (G.2.1, 525, .inl (gn nw)))]) (isC := []) (isR := [0, 1]) rfl rfl (by decide) (by decide) (fun r7 u H locs hp7 hP hD hS => ?_)
  subst hp7
  have hP : va_P G.1 vwCl [(mq, .inr (4, [.ref an, .ref ap, .int (nI st), .ref ak, .ref ai, .ref ad, .ref ac, .ref aw, .int (nI mn), .ref at_, .int (nI le), .int (nI 0), .int (nI sp), .ref ao, .int (nI tm)])), (an, .inl (G.2.1, 525, .inl (gn nw)))] H := hP
  have hD : va_D A [(mq, .inr (4, [.ref an, .ref ap, .int (nI st), .ref ak, .ref ai, .ref ad, .ref ac, .ref aw, .int (nI mn), .ref at_, .int (nI le), .int (nI 0), .int (nI sp), .ref ao, .int (nI tm)])), (an, .inl (G.2.1, 525, .inl (gn nw)))] := hD
  refine gIfB_eq (P := (0 ≤ ((x : Nat) : Int) ∧ ((x : Nat) : Int) < 16 ∧ 0 ≤ ((y : Nat) : Int) ∧ ((y : Nat) : Int) < 16)) (tgt := 27) hx hb dX4_ownerAt_10 (by decide) (fun c10 => ?_) (fun c10 => ?_)
  · skip
    refine lv_aload_n hx hb dX4_ownerAt_27 rfl (lv_at hl 0 rfl) ?_
    refine lv_iconst (v := nI 1) hx hb dX4_ownerAt_28 (by decide) ?_
    exfalso; omega
  refine lv_aload_n hx hb dX4_ownerAt_13 rfl (lv_at hl 0 rfl) ?_
  refine va_get (D := G.1) (ci := 4) (v := .ref an) (C := RX4) (T := TX4) (N := 15) hx hb hts hi4 hown hK hP 0 rfl rfl 0 (by decide) (hts (.fieldLink RX4 7 "LandQuartersModel" "now" "[I") (by decide +kernel)) (fun _ h9 => h9) rfl dX4_ownerAt_14 ?_
  refine lv_bipush (v := nI 16) hx hb dX4_ownerAt_17 (by decide) ?_
  refine lv_iload_n hx hb dX4_ownerAt_19 rfl (lv_at hl 2 rfl) ?_
  refine gImul (a := 16) (b := y) hx hb dX4_ownerAt_20 ?_
  refine lv_iload_n hx hb dX4_ownerAt_21 rfl (lv_at hl 1 rfl) ?_
  refine gIadd (a := 16 * y) (b := x) hx hb dX4_ownerAt_22 ?_
  refine gNald (k := 16 * y + x) hx hb hK hP 1 0 rfl rfl (by omega) (by first | decide | omega) dX4_ownerAt_23 ?_
  refine lv_goto (tgt := 32) hx hb dX4_ownerAt_24 (by decide) ?_
  exact gRi F dX4_ownerAt_32 (rfl) () (rfl) hP hD hS (Nat.le_refl _) (Nat.le_refl _)

set_option maxHeartbeats 4000000 in
set_option maxRecDepth 100000 in
theorem f1_X4_ownerAt (l : Launch) (G : gG) (mq : Nat) (an : Nat) (ap : Nat) (st : Nat) (ak : Nat) (ai : Nat) (ad : Nat) (ac : Nat) (aw : Nat) (mn : Nat) (at_ : Nat) (le : Nat) (th : Nat) (sp : Nat) (ao : Nat) (tm : Nat) (x : Int) (y : Int) (hx : -2147483648 ≤ x ∧ x < 2147483648) (hy : -2147483648 ≤ y ∧ y < 2147483648) (hcond0 : ¬(0 ≤ x ∧ x < 16 ∧ 0 ≤ y ∧ y < 16)) : gMi (S := Unit) l yX4_ownerAt wsX4_ownerAt { frames := 2, cells := 0, slots := 0, locals := 43 } G [.ref mq, .int (zI x), .int (zI y)] [(mq, .inr (4, [.ref an, .ref ap, .int (nI st), .ref ak, .ref ai, .ref ad, .ref ac, .ref aw, .int (nI mn), .ref at_, .int (nI le), .int (nI th), .int (nI sp), .ref ao, .int (nI tm)]))] (fun (r : Int32) (u : Unit) => (r = nI 0)) (fun u => [(mq, .inr (4, [.ref an, .ref ap, .int (nI st), .ref ak, .ref ai, .ref ad, .ref ac, .ref aw, .int (nI mn), .ref at_, .int (nI le), .int (nI 1), .int (nI sp), .ref ao, .int (nI tm)]))]) 0 0 := by
  refine gMet_mk (cc := cX4_ownerAt) (nL := 3) (ret := (some .int)) (Qc := fun A => va_Qi (S := Unit) (fun (r : Int32) (u : Unit) => (r = nI 0)) (gB G A (fun (u : Unit) => [(mq, .inr (4, [.ref an, .ref ap, .int (nI st), .ref ak, .ref ai, .ref ad, .ref ac, .ref aw, .int (nI mn), .ref at_, .int (nI le), .int (nI 1), .int (nI sp), .ref ao, .int (nI tm)]))])) A) (by decide) rfl (Nat.le_of_ble_eq_true rfl) ?_
  intro p e s m args below meth c A F ls hl hP hD hS
  have hx := F.1
  have hb := F.2.1
  have hts := F.2.2.2.2.2.2.1
  have hown : s.vm.findClass RX4 = some m.cls := F.2.2.2.2.2.1
  have hKK := F.2.2.2.2.2.2.2.2.1
  have hK := hKK.1
  have hin0 := F.2.2.2.2.2.2.2.1
  have hi4 : ∀ w ∈ u_ws RX4 TX4 15, w ∈ wsX4_ownerAt := by decide +kernel
  have hl : lv_has ls 3 [(0, .ref mq), (1, .int (zI x)), (2, .int (zI y))] := hl
  generalize hH : s.heap = H at hP ⊢
  have hS : va_S A s.heap H [] := by rw [← hH]; exact va_S.rf
  generalize hLo : ([] : List Loc) = locs at hS ⊢
  refine lv_aload_n hx hb dX4_ownerAt_0 rfl (lv_at hl 0 rfl) ?_
  refine lv_iconst (v := nI 0) hx hb dX4_ownerAt_1 (by decide) ?_
  refine va_put (D := G.1) (ci := 4) (v := .int (nI 0)) (ty := .int) (C := RX4) (T := TX4) (N := 15) hx hb hts hi4 tyX4 tyX4_ok nmX4 hown hK hP hD hS 0 rfl rfl 11 (by decide) (hts (.fieldLink RX4 37 "LandQuartersModel" "thrown" "I") (by decide +kernel)) (fun _ h9 => h9) rfl (by decide +kernel) (rfl) (rfl) (Nat.le_of_ble_eq_true rfl) dX4_ownerAt_2 (fun H locs hP hD hS => ?_)
  have hP : va_P G.1 vwCl [(mq, .inr (4, [.ref an, .ref ap, .int (nI st), .ref ak, .ref ai, .ref ad, .ref ac, .ref aw, .int (nI mn), .ref at_, .int (nI le), .int (nI 0), .int (nI sp), .ref ao, .int (nI tm)]))] H := hP
  have hD : va_D A [(mq, .inr (4, [.ref an, .ref ap, .int (nI st), .ref ak, .ref ai, .ref ad, .ref ac, .ref aw, .int (nI mn), .ref at_, .int (nI le), .int (nI 0), .int (nI sp), .ref ao, .int (nI tm)]))] := hD
  refine lv_iload_n hx hb dX4_ownerAt_5 rfl (lv_at hl 1 rfl) ?_
  refine lv_iload_n hx hb dX4_ownerAt_6 rfl (lv_at hl 2 rfl) ?_
  refine gCi F (gRunS (own := RX4) (bytes := cX4_isCell) (n := 2) (As := [.int (zI x), .int (zI y)]) (rest := []) F (c_X4_isCell l G x y (by first | assumption | omega) (by first | assumption | omega) H.size) gX4_ownerAt_X4_isCell rfl rfl rfl rfl (by decide +kernel) rfl ⟨Nat.le_of_ble_eq_true rfl, Nat.le_of_ble_eq_true rfl⟩ hP hD (lit := [(mq, .inr (4, [.ref an, .ref ap, .int (nI st), .ref ak, .ref ai, .ref ad, .ref ac, .ref aw, .int (nI mn), .ref at_, .int (nI le), .int (nI 0), .int (nI sp), .ref ao, .int (nI tm)]))]) (wt := []) (wc := []) (isC := []) rfl (by decide) rfl hl.1 (Nat.le_of_ble_eq_true rfl) dX4_ownerAt_7 ⟨Nat.le_of_ble_eq_true rfl, Nat.le_of_ble_eq_true rfl⟩) hP hD hS (lit := [(mq, .inr (4, [.ref an, .ref ap, .int (nI st), .ref ak, .ref ai, .ref ad, .ref ac, .ref aw, .int (nI mn), .ref at_, .int (nI le), .int (nI 0), .int (nI sp), .ref ao, .int (nI tm)]))]) (wt := []) (wc := []) (wr := [(mq, .inr (4, [.ref an, .ref ap, .int (nI st), .ref ak, .ref ai, .ref ad, .ref ac, .ref aw, .int (nI mn), .ref at_, .int (nI le), .int (nI 0), .int (nI sp), .ref ao, .int (nI tm)]))]) (isC := []) (isR := [0]) rfl rfl (by decide) (by decide) (fun r7 u H locs hp7 hP hD hS => ?_)
  subst hp7
  have hP : va_P G.1 vwCl [(mq, .inr (4, [.ref an, .ref ap, .int (nI st), .ref ak, .ref ai, .ref ad, .ref ac, .ref aw, .int (nI mn), .ref at_, .int (nI le), .int (nI 0), .int (nI sp), .ref ao, .int (nI tm)]))] H := hP
  have hD : va_D A [(mq, .inr (4, [.ref an, .ref ap, .int (nI st), .ref ak, .ref ai, .ref ad, .ref ac, .ref aw, .int (nI mn), .ref at_, .int (nI le), .int (nI 0), .int (nI sp), .ref ao, .int (nI tm)]))] := hD
  refine gIfB_eq (P := (0 ≤ x ∧ x < 16 ∧ 0 ≤ y ∧ y < 16)) (tgt := 27) hx hb dX4_ownerAt_10 (by decide) (fun c10 => ?_) (fun c10 => ?_)
  · skip
    refine lv_aload_n hx hb dX4_ownerAt_27 rfl (lv_at hl 0 rfl) ?_
    refine lv_iconst (v := nI 1) hx hb dX4_ownerAt_28 (by decide) ?_
    refine gCi F (gRunV (own := RX4) (C := RX4) (ci := 4) (bytes := cX4_refuses) (n := 1) (As := [.int (nI 1)]) (rest := []) F (c_X4_refuses l G mq an ap st ak ai ad ac aw mn at_ le 0 sp ao tm 1  H.size) gX4_ownerAt_X4_refuses rfl rfl rfl rfl (by decide +kernel) rfl ⟨Nat.le_of_ble_eq_true rfl, Nat.le_of_ble_eq_true rfl⟩ hP hD (lit := [(mq, .inr (4, [.ref an, .ref ap, .int (nI st), .ref ak, .ref ai, .ref ad, .ref ac, .ref aw, .int (nI mn), .ref at_, .int (nI le), .int (nI 0), .int (nI sp), .ref ao, .int (nI tm)]))]) (wt := []) (wc := [(mq, .inr (4, [.ref an, .ref ap, .int (nI st), .ref ak, .ref ai, .ref ad, .ref ac, .ref aw, .int (nI mn), .ref at_, .int (nI le), .int (nI 0), .int (nI sp), .ref ao, .int (nI tm)]))]) (isC := [0]) rfl (by decide) rfl rfl rfl hl.1 (Nat.le_of_ble_eq_true rfl) dX4_ownerAt_29 ⟨Nat.le_of_ble_eq_true rfl, Nat.le_of_ble_eq_true rfl⟩) hP hD hS (lit := [(mq, .inr (4, [.ref an, .ref ap, .int (nI st), .ref ak, .ref ai, .ref ad, .ref ac, .ref aw, .int (nI mn), .ref at_, .int (nI le), .int (nI 0), .int (nI sp), .ref ao, .int (nI tm)]))]) (wt := []) (wc := [(mq, .inr (4, [.ref an, .ref ap, .int (nI st), .ref ak, .ref ai, .ref ad, .ref ac, .ref aw, .int (nI mn), .ref at_, .int (nI le), .int (nI 0), .int (nI sp), .ref ao, .int (nI tm)]))]) (wr := []) (isC := [0]) (isR := []) rfl rfl (by decide) (by decide) (fun r29 u H locs hp29 hP hD hS => ?_)
    subst hp29
    have hP : va_P G.1 vwCl [(mq, .inr (4, [.ref an, .ref ap, .int (nI st), .ref ak, .ref ai, .ref ad, .ref ac, .ref aw, .int (nI mn), .ref at_, .int (nI le), .int (nI 1), .int (nI sp), .ref ao, .int (nI tm)]))] H := hP
    have hD : va_D A [(mq, .inr (4, [.ref an, .ref ap, .int (nI st), .ref ak, .ref ai, .ref ad, .ref ac, .ref aw, .int (nI mn), .ref at_, .int (nI le), .int (nI 1), .int (nI sp), .ref ao, .int (nI tm)]))] := hD
    exact gRi F dX4_ownerAt_32 (rfl) () (rfl) hP hD hS (Nat.le_refl _) (Nat.le_refl _)
  exfalso; omega

set_option maxHeartbeats 4000000 in
set_option maxRecDepth 100000 in
theorem c_X4_heightAt (l : Launch) (G : gG) (mq : Nat) (an : Nat) (ap : Nat) (st : Nat) (ak : Nat) (ai : Nat) (ad : Nat) (ac : Nat) (aw : Nat) (mn : Nat) (at_ : Nat) (le : Nat) (th : Nat) (sp : Nat) (ao : Nat) (tm : Nat) (nw : Nat → Nat) (x : Nat) (y : Nat) (hx16 : x < 16) (hy16 : y < 16) : gMi (S := Unit) l yX4_heightAt wsX4_heightAt { frames := 2, cells := 0, slots := 0, locals := 43 } G [.ref mq, .int (nI x), .int (nI y)] [(mq, .inr (4, [.ref an, .ref ap, .int (nI st), .ref ak, .ref ai, .ref ad, .ref ac, .ref aw, .int (nI mn), .ref at_, .int (nI le), .int (nI th), .int (nI sp), .ref ao, .int (nI tm)])), (an, .inl (G.2.1, 525, .inl (gn nw)))] (fun (r : Int32) (u : Unit) => (r = nI (nw (256 + 16 * y + x)))) (fun u => [(mq, .inr (4, [.ref an, .ref ap, .int (nI st), .ref ak, .ref ai, .ref ad, .ref ac, .ref aw, .int (nI mn), .ref at_, .int (nI le), .int (nI 0), .int (nI sp), .ref ao, .int (nI tm)])), (an, .inl (G.2.1, 525, .inl (gn nw)))]) 0 0 := by
  refine gMet_mk (cc := cX4_heightAt) (nL := 3) (ret := (some .int)) (Qc := fun A => va_Qi (S := Unit) (fun (r : Int32) (u : Unit) => (r = nI (nw (256 + 16 * y + x)))) (gB G A (fun (u : Unit) => [(mq, .inr (4, [.ref an, .ref ap, .int (nI st), .ref ak, .ref ai, .ref ad, .ref ac, .ref aw, .int (nI mn), .ref at_, .int (nI le), .int (nI 0), .int (nI sp), .ref ao, .int (nI tm)])), (an, .inl (G.2.1, 525, .inl (gn nw)))])) A) (by decide) rfl (Nat.le_of_ble_eq_true rfl) ?_
  intro p e s m args below meth c A F ls hl hP hD hS
  have hx := F.1
  have hb := F.2.1
  have hts := F.2.2.2.2.2.2.1
  have hown : s.vm.findClass RX4 = some m.cls := F.2.2.2.2.2.1
  have hKK := F.2.2.2.2.2.2.2.2.1
  have hK := hKK.1
  have hin0 := F.2.2.2.2.2.2.2.1
  have hi4 : ∀ w ∈ u_ws RX4 TX4 15, w ∈ wsX4_heightAt := by decide +kernel
  have hl : lv_has ls 3 [(0, .ref mq), (1, .int (nI x)), (2, .int (nI y))] := hl
  generalize hH : s.heap = H at hP ⊢
  have hS : va_S A s.heap H [] := by rw [← hH]; exact va_S.rf
  generalize hLo : ([] : List Loc) = locs at hS ⊢
  refine lv_aload_n hx hb dX4_heightAt_0 rfl (lv_at hl 0 rfl) ?_
  refine lv_iconst (v := nI 0) hx hb dX4_heightAt_1 (by decide) ?_
  refine va_put (D := G.1) (ci := 4) (v := .int (nI 0)) (ty := .int) (C := RX4) (T := TX4) (N := 15) hx hb hts hi4 tyX4 tyX4_ok nmX4 hown hK hP hD hS 0 rfl rfl 11 (by decide) (hts (.fieldLink RX4 37 "LandQuartersModel" "thrown" "I") (by decide +kernel)) (fun _ h9 => h9) rfl (by decide +kernel) (rfl) (rfl) (Nat.le_of_ble_eq_true rfl) dX4_heightAt_2 (fun H locs hP hD hS => ?_)
  have hP : va_P G.1 vwCl [(mq, .inr (4, [.ref an, .ref ap, .int (nI st), .ref ak, .ref ai, .ref ad, .ref ac, .ref aw, .int (nI mn), .ref at_, .int (nI le), .int (nI 0), .int (nI sp), .ref ao, .int (nI tm)])), (an, .inl (G.2.1, 525, .inl (gn nw)))] H := hP
  have hD : va_D A [(mq, .inr (4, [.ref an, .ref ap, .int (nI st), .ref ak, .ref ai, .ref ad, .ref ac, .ref aw, .int (nI mn), .ref at_, .int (nI le), .int (nI 0), .int (nI sp), .ref ao, .int (nI tm)])), (an, .inl (G.2.1, 525, .inl (gn nw)))] := hD
  refine lv_iload_n hx hb dX4_heightAt_5 rfl (lv_at hl 1 rfl) ?_
  refine lv_iload_n hx hb dX4_heightAt_6 rfl (lv_at hl 2 rfl) ?_
  refine W.eq (g2 := F0 m 7 ls [.int (zI ((y : Nat) : Int)), .int (zI ((x : Nat) : Int))]) (by simp only [zI_nat, zI_neg1]) ?_
  refine gCi F (gRunS (own := RX4) (bytes := cX4_isCell) (n := 2) (As := [.int (zI ((x : Nat) : Int)), .int (zI ((y : Nat) : Int))]) (rest := []) F (c_X4_isCell l G ((x : Nat) : Int) ((y : Nat) : Int) (by first | assumption | omega) (by first | assumption | omega) H.size) gX4_heightAt_X4_isCell rfl rfl rfl rfl (by decide +kernel) rfl ⟨Nat.le_of_ble_eq_true rfl, Nat.le_of_ble_eq_true rfl⟩ hP hD (lit := [(mq, .inr (4, [.ref an, .ref ap, .int (nI st), .ref ak, .ref ai, .ref ad, .ref ac, .ref aw, .int (nI mn), .ref at_, .int (nI le), .int (nI 0), .int (nI sp), .ref ao, .int (nI tm)])), (an, .inl (G.2.1, 525, .inl (gn nw)))]) (wt := []) (wc := []) (isC := []) rfl (by decide) rfl hl.1 (Nat.le_of_ble_eq_true rfl) dX4_heightAt_7 ⟨Nat.le_of_ble_eq_true rfl, Nat.le_of_ble_eq_true rfl⟩) hP hD hS (lit := [(mq, .inr (4, [.ref an, .ref ap, .int (nI st), .ref ak, .ref ai, .ref ad, .ref ac, .ref aw, .int (nI mn), .ref at_, .int (nI le), .int (nI 0), .int (nI sp), .ref ao, .int (nI tm)])), (an, .inl (G.2.1, 525, .inl (gn nw)))]) (wt := []) (wc := []) (wr := [(mq, .inr (4, [.ref an, .ref ap, .int (nI st), .ref ak, .ref ai, .ref ad, .ref ac, .ref aw, .int (nI mn), .ref at_, .int (nI le), .int (nI 0), .int (nI sp), .ref ao, .int (nI tm)])), (an, .inl (G.2.1, 525, .inl (gn nw)))]) (isC := []) (isR := [0, 1]) rfl rfl (by decide) (by decide) (fun r7 u H locs hp7 hP hD hS => ?_)
  subst hp7
  have hP : va_P G.1 vwCl [(mq, .inr (4, [.ref an, .ref ap, .int (nI st), .ref ak, .ref ai, .ref ad, .ref ac, .ref aw, .int (nI mn), .ref at_, .int (nI le), .int (nI 0), .int (nI sp), .ref ao, .int (nI tm)])), (an, .inl (G.2.1, 525, .inl (gn nw)))] H := hP
  have hD : va_D A [(mq, .inr (4, [.ref an, .ref ap, .int (nI st), .ref ak, .ref ai, .ref ad, .ref ac, .ref aw, .int (nI mn), .ref at_, .int (nI le), .int (nI 0), .int (nI sp), .ref ao, .int (nI tm)])), (an, .inl (G.2.1, 525, .inl (gn nw)))] := hD
  refine gIfB_eq (P := (0 ≤ ((x : Nat) : Int) ∧ ((x : Nat) : Int) < 16 ∧ 0 ≤ ((y : Nat) : Int) ∧ ((y : Nat) : Int) < 16)) (tgt := 31) hx hb dX4_heightAt_10 (by decide) (fun c10 => ?_) (fun c10 => ?_)
  · skip
    refine lv_aload_n hx hb dX4_heightAt_31 rfl (lv_at hl 0 rfl) ?_
    refine lv_iconst (v := nI 1) hx hb dX4_heightAt_32 (by decide) ?_
    exfalso; omega
  refine lv_aload_n hx hb dX4_heightAt_13 rfl (lv_at hl 0 rfl) ?_
  refine va_get (D := G.1) (ci := 4) (v := .ref an) (C := RX4) (T := TX4) (N := 15) hx hb hts hi4 hown hK hP 0 rfl rfl 0 (by decide) (hts (.fieldLink RX4 7 "LandQuartersModel" "now" "[I") (by decide +kernel)) (fun _ h9 => h9) rfl dX4_heightAt_14 ?_
  refine lv_sipush (v := nI 256) hx hb dX4_heightAt_17 (by decide) ?_
  refine lv_bipush (v := nI 16) hx hb dX4_heightAt_20 (by decide) ?_
  refine lv_iload_n hx hb dX4_heightAt_22 rfl (lv_at hl 2 rfl) ?_
  refine gImul (a := 16) (b := y) hx hb dX4_heightAt_23 ?_
  refine gIadd (a := 256) (b := 16 * y) hx hb dX4_heightAt_24 ?_
  refine lv_iload_n hx hb dX4_heightAt_25 rfl (lv_at hl 1 rfl) ?_
  refine gIadd (a := 256 + (16 * y)) (b := x) hx hb dX4_heightAt_26 ?_
  refine gNald (k := 256 + (16 * y) + x) hx hb hK hP 1 0 rfl rfl (by omega) (by first | decide | omega) dX4_heightAt_27 ?_
  refine lv_goto (tgt := 36) hx hb dX4_heightAt_28 (by decide) ?_
  exact gRi F dX4_heightAt_36 (rfl) () (by simp [c10]) hP hD hS (Nat.le_refl _) (Nat.le_refl _)

set_option maxHeartbeats 4000000 in
set_option maxRecDepth 100000 in
theorem f1_X4_heightAt (l : Launch) (G : gG) (mq : Nat) (an : Nat) (ap : Nat) (st : Nat) (ak : Nat) (ai : Nat) (ad : Nat) (ac : Nat) (aw : Nat) (mn : Nat) (at_ : Nat) (le : Nat) (th : Nat) (sp : Nat) (ao : Nat) (tm : Nat) (x : Int) (y : Int) (hx : -2147483648 ≤ x ∧ x < 2147483648) (hy : -2147483648 ≤ y ∧ y < 2147483648) (hcond0 : ¬(0 ≤ x ∧ x < 16 ∧ 0 ≤ y ∧ y < 16)) : gMi (S := Unit) l yX4_heightAt wsX4_heightAt { frames := 2, cells := 0, slots := 0, locals := 43 } G [.ref mq, .int (zI x), .int (zI y)] [(mq, .inr (4, [.ref an, .ref ap, .int (nI st), .ref ak, .ref ai, .ref ad, .ref ac, .ref aw, .int (nI mn), .ref at_, .int (nI le), .int (nI th), .int (nI sp), .ref ao, .int (nI tm)]))] (fun (r : Int32) (u : Unit) => (r = nI 0)) (fun u => [(mq, .inr (4, [.ref an, .ref ap, .int (nI st), .ref ak, .ref ai, .ref ad, .ref ac, .ref aw, .int (nI mn), .ref at_, .int (nI le), .int (nI 1), .int (nI sp), .ref ao, .int (nI tm)]))]) 0 0 := by
  refine gMet_mk (cc := cX4_heightAt) (nL := 3) (ret := (some .int)) (Qc := fun A => va_Qi (S := Unit) (fun (r : Int32) (u : Unit) => (r = nI 0)) (gB G A (fun (u : Unit) => [(mq, .inr (4, [.ref an, .ref ap, .int (nI st), .ref ak, .ref ai, .ref ad, .ref ac, .ref aw, .int (nI mn), .ref at_, .int (nI le), .int (nI 1), .int (nI sp), .ref ao, .int (nI tm)]))])) A) (by decide) rfl (Nat.le_of_ble_eq_true rfl) ?_
  intro p e s m args below meth c A F ls hl hP hD hS
  have hx := F.1
  have hb := F.2.1
  have hts := F.2.2.2.2.2.2.1
  have hown : s.vm.findClass RX4 = some m.cls := F.2.2.2.2.2.1
  have hKK := F.2.2.2.2.2.2.2.2.1
  have hK := hKK.1
  have hin0 := F.2.2.2.2.2.2.2.1
  have hi4 : ∀ w ∈ u_ws RX4 TX4 15, w ∈ wsX4_heightAt := by decide +kernel
  have hl : lv_has ls 3 [(0, .ref mq), (1, .int (zI x)), (2, .int (zI y))] := hl
  generalize hH : s.heap = H at hP ⊢
  have hS : va_S A s.heap H [] := by rw [← hH]; exact va_S.rf
  generalize hLo : ([] : List Loc) = locs at hS ⊢
  refine lv_aload_n hx hb dX4_heightAt_0 rfl (lv_at hl 0 rfl) ?_
  refine lv_iconst (v := nI 0) hx hb dX4_heightAt_1 (by decide) ?_
  refine va_put (D := G.1) (ci := 4) (v := .int (nI 0)) (ty := .int) (C := RX4) (T := TX4) (N := 15) hx hb hts hi4 tyX4 tyX4_ok nmX4 hown hK hP hD hS 0 rfl rfl 11 (by decide) (hts (.fieldLink RX4 37 "LandQuartersModel" "thrown" "I") (by decide +kernel)) (fun _ h9 => h9) rfl (by decide +kernel) (rfl) (rfl) (Nat.le_of_ble_eq_true rfl) dX4_heightAt_2 (fun H locs hP hD hS => ?_)
  have hP : va_P G.1 vwCl [(mq, .inr (4, [.ref an, .ref ap, .int (nI st), .ref ak, .ref ai, .ref ad, .ref ac, .ref aw, .int (nI mn), .ref at_, .int (nI le), .int (nI 0), .int (nI sp), .ref ao, .int (nI tm)]))] H := hP
  have hD : va_D A [(mq, .inr (4, [.ref an, .ref ap, .int (nI st), .ref ak, .ref ai, .ref ad, .ref ac, .ref aw, .int (nI mn), .ref at_, .int (nI le), .int (nI 0), .int (nI sp), .ref ao, .int (nI tm)]))] := hD
  refine lv_iload_n hx hb dX4_heightAt_5 rfl (lv_at hl 1 rfl) ?_
  refine lv_iload_n hx hb dX4_heightAt_6 rfl (lv_at hl 2 rfl) ?_
  refine gCi F (gRunS (own := RX4) (bytes := cX4_isCell) (n := 2) (As := [.int (zI x), .int (zI y)]) (rest := []) F (c_X4_isCell l G x y (by first | assumption | omega) (by first | assumption | omega) H.size) gX4_heightAt_X4_isCell rfl rfl rfl rfl (by decide +kernel) rfl ⟨Nat.le_of_ble_eq_true rfl, Nat.le_of_ble_eq_true rfl⟩ hP hD (lit := [(mq, .inr (4, [.ref an, .ref ap, .int (nI st), .ref ak, .ref ai, .ref ad, .ref ac, .ref aw, .int (nI mn), .ref at_, .int (nI le), .int (nI 0), .int (nI sp), .ref ao, .int (nI tm)]))]) (wt := []) (wc := []) (isC := []) rfl (by decide) rfl hl.1 (Nat.le_of_ble_eq_true rfl) dX4_heightAt_7 ⟨Nat.le_of_ble_eq_true rfl, Nat.le_of_ble_eq_true rfl⟩) hP hD hS (lit := [(mq, .inr (4, [.ref an, .ref ap, .int (nI st), .ref ak, .ref ai, .ref ad, .ref ac, .ref aw, .int (nI mn), .ref at_, .int (nI le), .int (nI 0), .int (nI sp), .ref ao, .int (nI tm)]))]) (wt := []) (wc := []) (wr := [(mq, .inr (4, [.ref an, .ref ap, .int (nI st), .ref ak, .ref ai, .ref ad, .ref ac, .ref aw, .int (nI mn), .ref at_, .int (nI le), .int (nI 0), .int (nI sp), .ref ao, .int (nI tm)]))]) (isC := []) (isR := [0]) rfl rfl (by decide) (by decide) (fun r7 u H locs hp7 hP hD hS => ?_)
  subst hp7
  have hP : va_P G.1 vwCl [(mq, .inr (4, [.ref an, .ref ap, .int (nI st), .ref ak, .ref ai, .ref ad, .ref ac, .ref aw, .int (nI mn), .ref at_, .int (nI le), .int (nI 0), .int (nI sp), .ref ao, .int (nI tm)]))] H := hP
  have hD : va_D A [(mq, .inr (4, [.ref an, .ref ap, .int (nI st), .ref ak, .ref ai, .ref ad, .ref ac, .ref aw, .int (nI mn), .ref at_, .int (nI le), .int (nI 0), .int (nI sp), .ref ao, .int (nI tm)]))] := hD
  refine gIfB_eq (P := (0 ≤ x ∧ x < 16 ∧ 0 ≤ y ∧ y < 16)) (tgt := 31) hx hb dX4_heightAt_10 (by decide) (fun c10 => ?_) (fun c10 => ?_)
  · skip
    refine lv_aload_n hx hb dX4_heightAt_31 rfl (lv_at hl 0 rfl) ?_
    refine lv_iconst (v := nI 1) hx hb dX4_heightAt_32 (by decide) ?_
    refine gCi F (gRunV (own := RX4) (C := RX4) (ci := 4) (bytes := cX4_refuses) (n := 1) (As := [.int (nI 1)]) (rest := []) F (c_X4_refuses l G mq an ap st ak ai ad ac aw mn at_ le 0 sp ao tm 1  H.size) gX4_heightAt_X4_refuses rfl rfl rfl rfl (by decide +kernel) rfl ⟨Nat.le_of_ble_eq_true rfl, Nat.le_of_ble_eq_true rfl⟩ hP hD (lit := [(mq, .inr (4, [.ref an, .ref ap, .int (nI st), .ref ak, .ref ai, .ref ad, .ref ac, .ref aw, .int (nI mn), .ref at_, .int (nI le), .int (nI 0), .int (nI sp), .ref ao, .int (nI tm)]))]) (wt := []) (wc := [(mq, .inr (4, [.ref an, .ref ap, .int (nI st), .ref ak, .ref ai, .ref ad, .ref ac, .ref aw, .int (nI mn), .ref at_, .int (nI le), .int (nI 0), .int (nI sp), .ref ao, .int (nI tm)]))]) (isC := [0]) rfl (by decide) rfl rfl rfl hl.1 (Nat.le_of_ble_eq_true rfl) dX4_heightAt_33 ⟨Nat.le_of_ble_eq_true rfl, Nat.le_of_ble_eq_true rfl⟩) hP hD hS (lit := [(mq, .inr (4, [.ref an, .ref ap, .int (nI st), .ref ak, .ref ai, .ref ad, .ref ac, .ref aw, .int (nI mn), .ref at_, .int (nI le), .int (nI 0), .int (nI sp), .ref ao, .int (nI tm)]))]) (wt := []) (wc := [(mq, .inr (4, [.ref an, .ref ap, .int (nI st), .ref ak, .ref ai, .ref ad, .ref ac, .ref aw, .int (nI mn), .ref at_, .int (nI le), .int (nI 0), .int (nI sp), .ref ao, .int (nI tm)]))]) (wr := []) (isC := [0]) (isR := []) rfl rfl (by decide) (by decide) (fun r33 u H locs hp33 hP hD hS => ?_)
    subst hp33
    have hP : va_P G.1 vwCl [(mq, .inr (4, [.ref an, .ref ap, .int (nI st), .ref ak, .ref ai, .ref ad, .ref ac, .ref aw, .int (nI mn), .ref at_, .int (nI le), .int (nI 1), .int (nI sp), .ref ao, .int (nI tm)]))] H := hP
    have hD : va_D A [(mq, .inr (4, [.ref an, .ref ap, .int (nI st), .ref ak, .ref ai, .ref ad, .ref ac, .ref aw, .int (nI mn), .ref at_, .int (nI le), .int (nI 1), .int (nI sp), .ref ao, .int (nI tm)]))] := hD
    exact gRi F dX4_heightAt_36 (rfl) () (rfl) hP hD hS (Nat.le_refl _) (Nat.le_refl _)
  exfalso; omega

set_option maxHeartbeats 4000000 in
set_option maxRecDepth 100000 in
theorem c_X4_plotSizeAt (l : Launch) (G : gG) (mq : Nat) (an : Nat) (ap : Nat) (st : Nat) (ak : Nat) (ai : Nat) (ad : Nat) (ac : Nat) (aw : Nat) (mn : Nat) (at_ : Nat) (le : Nat) (th : Nat) (sp : Nat) (ao : Nat) (tm : Nat) (nw : Nat → Nat) (pC : Nat → Nat) (pW : Nat → Nat) (x : Nat) (y : Nat) (how : ∀ k, k < 256 → nw k < 8) (hx16 : x < 16) (hy16 : y < 16) : gMi (S := (Nat → Nat) × (Nat → Nat)) l yX4_plotSizeAt wsX4_plotSizeAt { frames := 3, cells := 0, slots := 0, locals := 72 } G [.ref mq, .int (nI x), .int (nI y)] [(mq, .inr (4, [.ref an, .ref ap, .int (nI st), .ref ak, .ref ai, .ref ad, .ref ac, .ref aw, .int (nI mn), .ref at_, .int (nI le), .int (nI th), .int (nI sp), .ref ao, .int (nI tm)])), (an, .inl (G.2.1, 525, .inl (gn nw))), (ac, .inl (G.2.1, 256, .inl (gn pC))), (aw, .inl (G.2.1, 256, .inl (gn pW)))] (fun (r : Int32) (u : (Nat → Nat) × (Nat → Nat)) => (r = nI (psz nw (gP nw (rkA nw x y))))) (fun u => [(mq, .inr (4, [.ref an, .ref ap, .int (nI st), .ref ak, .ref ai, .ref ad, .ref ac, .ref aw, .int (nI (cnt nw)), .ref at_, .int (nI le), .int (nI 0), .int (nI sp), .ref ao, .int (nI tm)])), (an, .inl (G.2.1, 525, .inl (gn nw))), (ac, .inl (G.2.1, 256, .inl (gn u.1))), (aw, .inl (G.2.1, 256, .inl (gn u.2)))]) 0 0 := by
  refine gMet_mk (cc := cX4_plotSizeAt) (nL := 3) (ret := (some .int)) (Qc := fun A => va_Qi (S := (Nat → Nat) × (Nat → Nat)) (fun (r : Int32) (u : (Nat → Nat) × (Nat → Nat)) => (r = nI (psz nw (gP nw (rkA nw x y))))) (gB G A (fun (u : (Nat → Nat) × (Nat → Nat)) => [(mq, .inr (4, [.ref an, .ref ap, .int (nI st), .ref ak, .ref ai, .ref ad, .ref ac, .ref aw, .int (nI (cnt nw)), .ref at_, .int (nI le), .int (nI 0), .int (nI sp), .ref ao, .int (nI tm)])), (an, .inl (G.2.1, 525, .inl (gn nw))), (ac, .inl (G.2.1, 256, .inl (gn u.1))), (aw, .inl (G.2.1, 256, .inl (gn u.2)))])) A) (by decide) rfl (Nat.le_of_ble_eq_true rfl) ?_
  intro p e s m args below meth c A F ls hl hP hD hS
  have hx := F.1
  have hb := F.2.1
  have hts := F.2.2.2.2.2.2.1
  have hown : s.vm.findClass RX4 = some m.cls := F.2.2.2.2.2.1
  have hKK := F.2.2.2.2.2.2.2.2.1
  have hK := hKK.1
  have hin0 := F.2.2.2.2.2.2.2.1
  have hi4 : ∀ w ∈ u_ws RX4 TX4 15, w ∈ wsX4_plotSizeAt := by decide +kernel
  have hl : lv_has ls 3 [(0, .ref mq), (1, .int (nI x)), (2, .int (nI y))] := hl
  have hrl := rkA_lt nw x y
  have hcl := cnt_le nw
  have hgp := (lt_cnt nw).mp hrl
  have hpp := psz_pos nw (gP nw (rkA nw x y))
  have hal := (sq_al hgp).mp (psz_sq nw (gP nw (rkA nw x y)))
  have hcz9 := sqC hgp (psz_isz nw (gP nw (rkA nw x y))) hal.2
  have hmc := mc_lt (gP nw (rkA nw x y))
  generalize hH : s.heap = H at hP ⊢
  have hS : va_S A s.heap H [] := by rw [← hH]; exact va_S.rf
  generalize hLo : ([] : List Loc) = locs at hS ⊢
  refine lv_aload_n hx hb dX4_plotSizeAt_0 rfl (lv_at hl 0 rfl) ?_
  refine lv_iconst (v := nI 0) hx hb dX4_plotSizeAt_1 (by decide) ?_
  refine va_put (D := G.1) (ci := 4) (v := .int (nI 0)) (ty := .int) (C := RX4) (T := TX4) (N := 15) hx hb hts hi4 tyX4 tyX4_ok nmX4 hown hK hP hD hS 0 rfl rfl 11 (by decide) (hts (.fieldLink RX4 37 "LandQuartersModel" "thrown" "I") (by decide +kernel)) (fun _ h9 => h9) rfl (by decide +kernel) (rfl) (rfl) (Nat.le_of_ble_eq_true rfl) dX4_plotSizeAt_2 (fun H locs hP hD hS => ?_)
  have hP : va_P G.1 vwCl [(mq, .inr (4, [.ref an, .ref ap, .int (nI st), .ref ak, .ref ai, .ref ad, .ref ac, .ref aw, .int (nI mn), .ref at_, .int (nI le), .int (nI 0), .int (nI sp), .ref ao, .int (nI tm)])), (an, .inl (G.2.1, 525, .inl (gn nw))), (ac, .inl (G.2.1, 256, .inl (gn pC))), (aw, .inl (G.2.1, 256, .inl (gn pW)))] H := hP
  have hD : va_D A [(mq, .inr (4, [.ref an, .ref ap, .int (nI st), .ref ak, .ref ai, .ref ad, .ref ac, .ref aw, .int (nI mn), .ref at_, .int (nI le), .int (nI 0), .int (nI sp), .ref ao, .int (nI tm)])), (an, .inl (G.2.1, 525, .inl (gn nw))), (ac, .inl (G.2.1, 256, .inl (gn pC))), (aw, .inl (G.2.1, 256, .inl (gn pW)))] := hD
  refine lv_iload_n hx hb dX4_plotSizeAt_5 rfl (lv_at hl 1 rfl) ?_
  refine lv_iload_n hx hb dX4_plotSizeAt_6 rfl (lv_at hl 2 rfl) ?_
  refine W.eq (g2 := F0 m 7 ls [.int (zI ((y : Nat) : Int)), .int (zI ((x : Nat) : Int))]) (by simp only [zI_nat, zI_neg1]) ?_
  refine gCi F (gRunS (own := RX4) (bytes := cX4_isCell) (n := 2) (As := [.int (zI ((x : Nat) : Int)), .int (zI ((y : Nat) : Int))]) (rest := []) F (c_X4_isCell l G ((x : Nat) : Int) ((y : Nat) : Int) (by first | assumption | omega) (by first | assumption | omega) H.size) gX4_plotSizeAt_X4_isCell rfl rfl rfl rfl (by decide +kernel) rfl ⟨Nat.le_of_ble_eq_true rfl, Nat.le_of_ble_eq_true rfl⟩ hP hD (lit := [(mq, .inr (4, [.ref an, .ref ap, .int (nI st), .ref ak, .ref ai, .ref ad, .ref ac, .ref aw, .int (nI mn), .ref at_, .int (nI le), .int (nI 0), .int (nI sp), .ref ao, .int (nI tm)])), (an, .inl (G.2.1, 525, .inl (gn nw))), (ac, .inl (G.2.1, 256, .inl (gn pC))), (aw, .inl (G.2.1, 256, .inl (gn pW)))]) (wt := []) (wc := []) (isC := []) rfl (by decide) rfl hl.1 (Nat.le_of_ble_eq_true rfl) dX4_plotSizeAt_7 ⟨Nat.le_of_ble_eq_true rfl, Nat.le_of_ble_eq_true rfl⟩) hP hD hS (lit := [(mq, .inr (4, [.ref an, .ref ap, .int (nI st), .ref ak, .ref ai, .ref ad, .ref ac, .ref aw, .int (nI mn), .ref at_, .int (nI le), .int (nI 0), .int (nI sp), .ref ao, .int (nI tm)])), (an, .inl (G.2.1, 525, .inl (gn nw))), (ac, .inl (G.2.1, 256, .inl (gn pC))), (aw, .inl (G.2.1, 256, .inl (gn pW)))]) (wt := []) (wc := []) (wr := [(mq, .inr (4, [.ref an, .ref ap, .int (nI st), .ref ak, .ref ai, .ref ad, .ref ac, .ref aw, .int (nI mn), .ref at_, .int (nI le), .int (nI 0), .int (nI sp), .ref ao, .int (nI tm)])), (an, .inl (G.2.1, 525, .inl (gn nw))), (ac, .inl (G.2.1, 256, .inl (gn pC))), (aw, .inl (G.2.1, 256, .inl (gn pW)))]) (isC := []) (isR := [0, 1, 2, 3]) rfl rfl (by decide) (by decide) (fun r7 u H locs hp7 hP hD hS => ?_)
  subst hp7
  have hP : va_P G.1 vwCl [(mq, .inr (4, [.ref an, .ref ap, .int (nI st), .ref ak, .ref ai, .ref ad, .ref ac, .ref aw, .int (nI mn), .ref at_, .int (nI le), .int (nI 0), .int (nI sp), .ref ao, .int (nI tm)])), (an, .inl (G.2.1, 525, .inl (gn nw))), (ac, .inl (G.2.1, 256, .inl (gn pC))), (aw, .inl (G.2.1, 256, .inl (gn pW)))] H := hP
  have hD : va_D A [(mq, .inr (4, [.ref an, .ref ap, .int (nI st), .ref ak, .ref ai, .ref ad, .ref ac, .ref aw, .int (nI mn), .ref at_, .int (nI le), .int (nI 0), .int (nI sp), .ref ao, .int (nI tm)])), (an, .inl (G.2.1, 525, .inl (gn nw))), (ac, .inl (G.2.1, 256, .inl (gn pC))), (aw, .inl (G.2.1, 256, .inl (gn pW)))] := hD
  refine gIfB_eq (P := (0 ≤ ((x : Nat) : Int) ∧ ((x : Nat) : Int) < 16 ∧ 0 ≤ ((y : Nat) : Int) ∧ ((y : Nat) : Int) < 16)) (tgt := 27) hx hb dX4_plotSizeAt_10 (by decide) (fun c10 => ?_) (fun c10 => ?_)
  · skip
    refine lv_aload_n hx hb dX4_plotSizeAt_27 rfl (lv_at hl 0 rfl) ?_
    refine lv_iconst (v := nI 1) hx hb dX4_plotSizeAt_28 (by decide) ?_
    exfalso; omega
  refine lv_aload_n hx hb dX4_plotSizeAt_13 rfl (lv_at hl 0 rfl) ?_
  refine va_get (D := G.1) (ci := 4) (v := .ref aw) (C := RX4) (T := TX4) (N := 15) hx hb hts hi4 hown hK hP 0 rfl rfl 7 (by decide) (hts (.fieldLink RX4 28 "LandQuartersModel" "plotWide" "[I") (by decide +kernel)) (fun _ h9 => h9) rfl dX4_plotSizeAt_14 ?_
  refine lv_aload_n hx hb dX4_plotSizeAt_17 rfl (lv_at hl 0 rfl) ?_
  refine lv_iload_n hx hb dX4_plotSizeAt_18 rfl (lv_at hl 1 rfl) ?_
  refine lv_iload_n hx hb dX4_plotSizeAt_19 rfl (lv_at hl 2 rfl) ?_
  refine gCi F (gRunV (own := RX4) (C := RX4) (ci := 4) (bytes := cX4_plotAt) (n := 2) (As := [.int (nI x), .int (nI y)]) (rest := [.ref aw]) F (c_X4_plotAt l G mq an ap st ak ai ad ac aw mn at_ le 0 sp ao tm nw pC pW x y (by first | assumption | omega) (hx16) (hy16) H.size) gX4_plotSizeAt_X4_plotAt rfl rfl rfl rfl (by decide +kernel) rfl ⟨Nat.le_of_ble_eq_true rfl, Nat.le_of_ble_eq_true rfl⟩ hP hD (lit := [(mq, .inr (4, [.ref an, .ref ap, .int (nI st), .ref ak, .ref ai, .ref ad, .ref ac, .ref aw, .int (nI mn), .ref at_, .int (nI le), .int (nI 0), .int (nI sp), .ref ao, .int (nI tm)])), (an, .inl (G.2.1, 525, .inl (gn nw))), (ac, .inl (G.2.1, 256, .inl (gn pC))), (aw, .inl (G.2.1, 256, .inl (gn pW)))]) (wt := []) (wc := [(mq, .inr (4, [.ref an, .ref ap, .int (nI st), .ref ak, .ref ai, .ref ad, .ref ac, .ref aw, .int (nI mn), .ref at_, .int (nI le), .int (nI 0), .int (nI sp), .ref ao, .int (nI tm)])), (an, .inl (G.2.1, 525, .inl (gn nw))), (ac, .inl (G.2.1, 256, .inl (gn pC))), (aw, .inl (G.2.1, 256, .inl (gn pW)))]) (isC := [0, 1, 2, 3]) rfl (by decide) rfl rfl rfl hl.1 (Nat.le_of_ble_eq_true rfl) dX4_plotSizeAt_20 ⟨Nat.le_of_ble_eq_true rfl, Nat.le_of_ble_eq_true rfl⟩) hP hD hS (lit := [(mq, .inr (4, [.ref an, .ref ap, .int (nI st), .ref ak, .ref ai, .ref ad, .ref ac, .ref aw, .int (nI mn), .ref at_, .int (nI le), .int (nI 0), .int (nI sp), .ref ao, .int (nI tm)])), (an, .inl (G.2.1, 525, .inl (gn nw))), (ac, .inl (G.2.1, 256, .inl (gn pC))), (aw, .inl (G.2.1, 256, .inl (gn pW)))]) (wt := []) (wc := [(mq, .inr (4, [.ref an, .ref ap, .int (nI st), .ref ak, .ref ai, .ref ad, .ref ac, .ref aw, .int (nI mn), .ref at_, .int (nI le), .int (nI 0), .int (nI sp), .ref ao, .int (nI tm)])), (an, .inl (G.2.1, 525, .inl (gn nw))), (ac, .inl (G.2.1, 256, .inl (gn pC))), (aw, .inl (G.2.1, 256, .inl (gn pW)))]) (wr := []) (isC := [0, 1, 2, 3]) (isR := []) rfl rfl (by decide) (by decide) (fun r20 u H locs hp20 hP hD hS => ?_)
  obtain ⟨pc1, pw1⟩ := u
  try dsimp only at hp20
  obtain ⟨rfl, hp20_0⟩ := hp20
  have hP : va_P G.1 vwCl [(mq, .inr (4, [.ref an, .ref ap, .int (nI st), .ref ak, .ref ai, .ref ad, .ref ac, .ref aw, .int (nI (cnt nw)), .ref at_, .int (nI le), .int (nI 0), .int (nI sp), .ref ao, .int (nI tm)])), (an, .inl (G.2.1, 525, .inl (gn nw))), (ac, .inl (G.2.1, 256, .inl (gn pc1))), (aw, .inl (G.2.1, 256, .inl (gn pw1)))] H := hP
  have hD : va_D A [(mq, .inr (4, [.ref an, .ref ap, .int (nI st), .ref ak, .ref ai, .ref ad, .ref ac, .ref aw, .int (nI (cnt nw)), .ref at_, .int (nI le), .int (nI 0), .int (nI sp), .ref ao, .int (nI tm)])), (an, .inl (G.2.1, 525, .inl (gn nw))), (ac, .inl (G.2.1, 256, .inl (gn pc1))), (aw, .inl (G.2.1, 256, .inl (gn pw1)))] := hD
  refine gNald (k := rkA nw x y) hx hb hK hP 3 0 rfl rfl (by omega) (by first | decide | omega) dX4_plotSizeAt_23 ?_
  refine W.eq (g2 := F0 m 24 ls [.int (nI (psz nw (gP nw (rkA nw x y))))]) (by rw [show (nI (pw1 (rkA nw x y)) : Int32) = nI (psz nw (gP nw (rkA nw x y))) from by rw [(hp20_0 _ hrl).2]]) ?_
  refine lv_goto (tgt := 32) hx hb dX4_plotSizeAt_24 (by decide) ?_
  exact gRi F dX4_plotSizeAt_32 (rfl) (pc1, pw1) (rfl) hP hD hS (Nat.le_refl _) (Nat.le_refl _)

set_option maxHeartbeats 4000000 in
set_option maxRecDepth 100000 in
theorem f1_X4_plotSizeAt (l : Launch) (G : gG) (mq : Nat) (an : Nat) (ap : Nat) (st : Nat) (ak : Nat) (ai : Nat) (ad : Nat) (ac : Nat) (aw : Nat) (mn : Nat) (at_ : Nat) (le : Nat) (th : Nat) (sp : Nat) (ao : Nat) (tm : Nat) (x : Int) (y : Int) (hx : -2147483648 ≤ x ∧ x < 2147483648) (hy : -2147483648 ≤ y ∧ y < 2147483648) (hcond0 : ¬(0 ≤ x ∧ x < 16 ∧ 0 ≤ y ∧ y < 16)) : gMi (S := Unit) l yX4_plotSizeAt wsX4_plotSizeAt { frames := 2, cells := 0, slots := 0, locals := 43 } G [.ref mq, .int (zI x), .int (zI y)] [(mq, .inr (4, [.ref an, .ref ap, .int (nI st), .ref ak, .ref ai, .ref ad, .ref ac, .ref aw, .int (nI mn), .ref at_, .int (nI le), .int (nI th), .int (nI sp), .ref ao, .int (nI tm)]))] (fun (r : Int32) (u : Unit) => (r = nI 0)) (fun u => [(mq, .inr (4, [.ref an, .ref ap, .int (nI st), .ref ak, .ref ai, .ref ad, .ref ac, .ref aw, .int (nI mn), .ref at_, .int (nI le), .int (nI 1), .int (nI sp), .ref ao, .int (nI tm)]))]) 0 0 := by
  refine gMet_mk (cc := cX4_plotSizeAt) (nL := 3) (ret := (some .int)) (Qc := fun A => va_Qi (S := Unit) (fun (r : Int32) (u : Unit) => (r = nI 0)) (gB G A (fun (u : Unit) => [(mq, .inr (4, [.ref an, .ref ap, .int (nI st), .ref ak, .ref ai, .ref ad, .ref ac, .ref aw, .int (nI mn), .ref at_, .int (nI le), .int (nI 1), .int (nI sp), .ref ao, .int (nI tm)]))])) A) (by decide) rfl (Nat.le_of_ble_eq_true rfl) ?_
  intro p e s m args below meth c A F ls hl hP hD hS
  have hx := F.1
  have hb := F.2.1
  have hts := F.2.2.2.2.2.2.1
  have hown : s.vm.findClass RX4 = some m.cls := F.2.2.2.2.2.1
  have hKK := F.2.2.2.2.2.2.2.2.1
  have hK := hKK.1
  have hin0 := F.2.2.2.2.2.2.2.1
  have hi4 : ∀ w ∈ u_ws RX4 TX4 15, w ∈ wsX4_plotSizeAt := by decide +kernel
  have hl : lv_has ls 3 [(0, .ref mq), (1, .int (zI x)), (2, .int (zI y))] := hl
  generalize hH : s.heap = H at hP ⊢
  have hS : va_S A s.heap H [] := by rw [← hH]; exact va_S.rf
  generalize hLo : ([] : List Loc) = locs at hS ⊢
  refine lv_aload_n hx hb dX4_plotSizeAt_0 rfl (lv_at hl 0 rfl) ?_
  refine lv_iconst (v := nI 0) hx hb dX4_plotSizeAt_1 (by decide) ?_
  refine va_put (D := G.1) (ci := 4) (v := .int (nI 0)) (ty := .int) (C := RX4) (T := TX4) (N := 15) hx hb hts hi4 tyX4 tyX4_ok nmX4 hown hK hP hD hS 0 rfl rfl 11 (by decide) (hts (.fieldLink RX4 37 "LandQuartersModel" "thrown" "I") (by decide +kernel)) (fun _ h9 => h9) rfl (by decide +kernel) (rfl) (rfl) (Nat.le_of_ble_eq_true rfl) dX4_plotSizeAt_2 (fun H locs hP hD hS => ?_)
  have hP : va_P G.1 vwCl [(mq, .inr (4, [.ref an, .ref ap, .int (nI st), .ref ak, .ref ai, .ref ad, .ref ac, .ref aw, .int (nI mn), .ref at_, .int (nI le), .int (nI 0), .int (nI sp), .ref ao, .int (nI tm)]))] H := hP
  have hD : va_D A [(mq, .inr (4, [.ref an, .ref ap, .int (nI st), .ref ak, .ref ai, .ref ad, .ref ac, .ref aw, .int (nI mn), .ref at_, .int (nI le), .int (nI 0), .int (nI sp), .ref ao, .int (nI tm)]))] := hD
  refine lv_iload_n hx hb dX4_plotSizeAt_5 rfl (lv_at hl 1 rfl) ?_
  refine lv_iload_n hx hb dX4_plotSizeAt_6 rfl (lv_at hl 2 rfl) ?_
  refine gCi F (gRunS (own := RX4) (bytes := cX4_isCell) (n := 2) (As := [.int (zI x), .int (zI y)]) (rest := []) F (c_X4_isCell l G x y (by first | assumption | omega) (by first | assumption | omega) H.size) gX4_plotSizeAt_X4_isCell rfl rfl rfl rfl (by decide +kernel) rfl ⟨Nat.le_of_ble_eq_true rfl, Nat.le_of_ble_eq_true rfl⟩ hP hD (lit := [(mq, .inr (4, [.ref an, .ref ap, .int (nI st), .ref ak, .ref ai, .ref ad, .ref ac, .ref aw, .int (nI mn), .ref at_, .int (nI le), .int (nI 0), .int (nI sp), .ref ao, .int (nI tm)]))]) (wt := []) (wc := []) (isC := []) rfl (by decide) rfl hl.1 (Nat.le_of_ble_eq_true rfl) dX4_plotSizeAt_7 ⟨Nat.le_of_ble_eq_true rfl, Nat.le_of_ble_eq_true rfl⟩) hP hD hS (lit := [(mq, .inr (4, [.ref an, .ref ap, .int (nI st), .ref ak, .ref ai, .ref ad, .ref ac, .ref aw, .int (nI mn), .ref at_, .int (nI le), .int (nI 0), .int (nI sp), .ref ao, .int (nI tm)]))]) (wt := []) (wc := []) (wr := [(mq, .inr (4, [.ref an, .ref ap, .int (nI st), .ref ak, .ref ai, .ref ad, .ref ac, .ref aw, .int (nI mn), .ref at_, .int (nI le), .int (nI 0), .int (nI sp), .ref ao, .int (nI tm)]))]) (isC := []) (isR := [0]) rfl rfl (by decide) (by decide) (fun r7 u H locs hp7 hP hD hS => ?_)
  subst hp7
  have hP : va_P G.1 vwCl [(mq, .inr (4, [.ref an, .ref ap, .int (nI st), .ref ak, .ref ai, .ref ad, .ref ac, .ref aw, .int (nI mn), .ref at_, .int (nI le), .int (nI 0), .int (nI sp), .ref ao, .int (nI tm)]))] H := hP
  have hD : va_D A [(mq, .inr (4, [.ref an, .ref ap, .int (nI st), .ref ak, .ref ai, .ref ad, .ref ac, .ref aw, .int (nI mn), .ref at_, .int (nI le), .int (nI 0), .int (nI sp), .ref ao, .int (nI tm)]))] := hD
  refine gIfB_eq (P := (0 ≤ x ∧ x < 16 ∧ 0 ≤ y ∧ y < 16)) (tgt := 27) hx hb dX4_plotSizeAt_10 (by decide) (fun c10 => ?_) (fun c10 => ?_)
  · skip
    refine lv_aload_n hx hb dX4_plotSizeAt_27 rfl (lv_at hl 0 rfl) ?_
    refine lv_iconst (v := nI 1) hx hb dX4_plotSizeAt_28 (by decide) ?_
    refine gCi F (gRunV (own := RX4) (C := RX4) (ci := 4) (bytes := cX4_refuses) (n := 1) (As := [.int (nI 1)]) (rest := []) F (c_X4_refuses l G mq an ap st ak ai ad ac aw mn at_ le 0 sp ao tm 1  H.size) gX4_plotSizeAt_X4_refuses rfl rfl rfl rfl (by decide +kernel) rfl ⟨Nat.le_of_ble_eq_true rfl, Nat.le_of_ble_eq_true rfl⟩ hP hD (lit := [(mq, .inr (4, [.ref an, .ref ap, .int (nI st), .ref ak, .ref ai, .ref ad, .ref ac, .ref aw, .int (nI mn), .ref at_, .int (nI le), .int (nI 0), .int (nI sp), .ref ao, .int (nI tm)]))]) (wt := []) (wc := [(mq, .inr (4, [.ref an, .ref ap, .int (nI st), .ref ak, .ref ai, .ref ad, .ref ac, .ref aw, .int (nI mn), .ref at_, .int (nI le), .int (nI 0), .int (nI sp), .ref ao, .int (nI tm)]))]) (isC := [0]) rfl (by decide) rfl rfl rfl hl.1 (Nat.le_of_ble_eq_true rfl) dX4_plotSizeAt_29 ⟨Nat.le_of_ble_eq_true rfl, Nat.le_of_ble_eq_true rfl⟩) hP hD hS (lit := [(mq, .inr (4, [.ref an, .ref ap, .int (nI st), .ref ak, .ref ai, .ref ad, .ref ac, .ref aw, .int (nI mn), .ref at_, .int (nI le), .int (nI 0), .int (nI sp), .ref ao, .int (nI tm)]))]) (wt := []) (wc := [(mq, .inr (4, [.ref an, .ref ap, .int (nI st), .ref ak, .ref ai, .ref ad, .ref ac, .ref aw, .int (nI mn), .ref at_, .int (nI le), .int (nI 0), .int (nI sp), .ref ao, .int (nI tm)]))]) (wr := []) (isC := [0]) (isR := []) rfl rfl (by decide) (by decide) (fun r29 u H locs hp29 hP hD hS => ?_)
    subst hp29
    have hP : va_P G.1 vwCl [(mq, .inr (4, [.ref an, .ref ap, .int (nI st), .ref ak, .ref ai, .ref ad, .ref ac, .ref aw, .int (nI mn), .ref at_, .int (nI le), .int (nI 1), .int (nI sp), .ref ao, .int (nI tm)]))] H := hP
    have hD : va_D A [(mq, .inr (4, [.ref an, .ref ap, .int (nI st), .ref ak, .ref ai, .ref ad, .ref ac, .ref aw, .int (nI mn), .ref at_, .int (nI le), .int (nI 1), .int (nI sp), .ref ao, .int (nI tm)]))] := hD
    exact gRi F dX4_plotSizeAt_32 (rfl) () (rfl) hP hD hS (Nat.le_refl _) (Nat.le_refl _)
  exfalso; omega

set_option maxHeartbeats 4000000 in
set_option maxRecDepth 100000 in
theorem c_X4_plotRankAt (l : Launch) (G : gG) (mq : Nat) (an : Nat) (ap : Nat) (st : Nat) (ak : Nat) (ai : Nat) (ad : Nat) (ac : Nat) (aw : Nat) (mn : Nat) (at_ : Nat) (le : Nat) (th : Nat) (sp : Nat) (ao : Nat) (tm : Nat) (nw : Nat → Nat) (pC : Nat → Nat) (pW : Nat → Nat) (x : Nat) (y : Nat) (how : ∀ k, k < 256 → nw k < 8) (hx16 : x < 16) (hy16 : y < 16) : gMi (S := (Nat → Nat) × (Nat → Nat)) l yX4_plotRankAt wsX4_plotRankAt { frames := 3, cells := 0, slots := 0, locals := 72 } G [.ref mq, .int (nI x), .int (nI y)] [(mq, .inr (4, [.ref an, .ref ap, .int (nI st), .ref ak, .ref ai, .ref ad, .ref ac, .ref aw, .int (nI mn), .ref at_, .int (nI le), .int (nI th), .int (nI sp), .ref ao, .int (nI tm)])), (an, .inl (G.2.1, 525, .inl (gn nw))), (ac, .inl (G.2.1, 256, .inl (gn pC))), (aw, .inl (G.2.1, 256, .inl (gn pW)))] (fun (r : Int32) (u : (Nat → Nat) × (Nat → Nat)) => (r = nI (rkA nw x y))) (fun u => [(mq, .inr (4, [.ref an, .ref ap, .int (nI st), .ref ak, .ref ai, .ref ad, .ref ac, .ref aw, .int (nI (cnt nw)), .ref at_, .int (nI le), .int (nI 0), .int (nI sp), .ref ao, .int (nI tm)])), (an, .inl (G.2.1, 525, .inl (gn nw))), (ac, .inl (G.2.1, 256, .inl (gn u.1))), (aw, .inl (G.2.1, 256, .inl (gn u.2)))]) 0 0 := by
  refine gMet_mk (cc := cX4_plotRankAt) (nL := 3) (ret := (some .int)) (Qc := fun A => va_Qi (S := (Nat → Nat) × (Nat → Nat)) (fun (r : Int32) (u : (Nat → Nat) × (Nat → Nat)) => (r = nI (rkA nw x y))) (gB G A (fun (u : (Nat → Nat) × (Nat → Nat)) => [(mq, .inr (4, [.ref an, .ref ap, .int (nI st), .ref ak, .ref ai, .ref ad, .ref ac, .ref aw, .int (nI (cnt nw)), .ref at_, .int (nI le), .int (nI 0), .int (nI sp), .ref ao, .int (nI tm)])), (an, .inl (G.2.1, 525, .inl (gn nw))), (ac, .inl (G.2.1, 256, .inl (gn u.1))), (aw, .inl (G.2.1, 256, .inl (gn u.2)))])) A) (by decide) rfl (Nat.le_of_ble_eq_true rfl) ?_
  intro p e s m args below meth c A F ls hl hP hD hS
  have hx := F.1
  have hb := F.2.1
  have hts := F.2.2.2.2.2.2.1
  have hown : s.vm.findClass RX4 = some m.cls := F.2.2.2.2.2.1
  have hKK := F.2.2.2.2.2.2.2.2.1
  have hK := hKK.1
  have hin0 := F.2.2.2.2.2.2.2.1
  have hi4 : ∀ w ∈ u_ws RX4 TX4 15, w ∈ wsX4_plotRankAt := by decide +kernel
  have hl : lv_has ls 3 [(0, .ref mq), (1, .int (nI x)), (2, .int (nI y))] := hl
  generalize hH : s.heap = H at hP ⊢
  have hS : va_S A s.heap H [] := by rw [← hH]; exact va_S.rf
  generalize hLo : ([] : List Loc) = locs at hS ⊢
  refine lv_aload_n hx hb dX4_plotRankAt_0 rfl (lv_at hl 0 rfl) ?_
  refine lv_iconst (v := nI 0) hx hb dX4_plotRankAt_1 (by decide) ?_
  refine va_put (D := G.1) (ci := 4) (v := .int (nI 0)) (ty := .int) (C := RX4) (T := TX4) (N := 15) hx hb hts hi4 tyX4 tyX4_ok nmX4 hown hK hP hD hS 0 rfl rfl 11 (by decide) (hts (.fieldLink RX4 37 "LandQuartersModel" "thrown" "I") (by decide +kernel)) (fun _ h9 => h9) rfl (by decide +kernel) (rfl) (rfl) (Nat.le_of_ble_eq_true rfl) dX4_plotRankAt_2 (fun H locs hP hD hS => ?_)
  have hP : va_P G.1 vwCl [(mq, .inr (4, [.ref an, .ref ap, .int (nI st), .ref ak, .ref ai, .ref ad, .ref ac, .ref aw, .int (nI mn), .ref at_, .int (nI le), .int (nI 0), .int (nI sp), .ref ao, .int (nI tm)])), (an, .inl (G.2.1, 525, .inl (gn nw))), (ac, .inl (G.2.1, 256, .inl (gn pC))), (aw, .inl (G.2.1, 256, .inl (gn pW)))] H := hP
  have hD : va_D A [(mq, .inr (4, [.ref an, .ref ap, .int (nI st), .ref ak, .ref ai, .ref ad, .ref ac, .ref aw, .int (nI mn), .ref at_, .int (nI le), .int (nI 0), .int (nI sp), .ref ao, .int (nI tm)])), (an, .inl (G.2.1, 525, .inl (gn nw))), (ac, .inl (G.2.1, 256, .inl (gn pC))), (aw, .inl (G.2.1, 256, .inl (gn pW)))] := hD
  refine lv_iload_n hx hb dX4_plotRankAt_5 rfl (lv_at hl 1 rfl) ?_
  refine lv_iload_n hx hb dX4_plotRankAt_6 rfl (lv_at hl 2 rfl) ?_
  refine W.eq (g2 := F0 m 7 ls [.int (zI ((y : Nat) : Int)), .int (zI ((x : Nat) : Int))]) (by simp only [zI_nat, zI_neg1]) ?_
  refine gCi F (gRunS (own := RX4) (bytes := cX4_isCell) (n := 2) (As := [.int (zI ((x : Nat) : Int)), .int (zI ((y : Nat) : Int))]) (rest := []) F (c_X4_isCell l G ((x : Nat) : Int) ((y : Nat) : Int) (by first | assumption | omega) (by first | assumption | omega) H.size) gX4_plotRankAt_X4_isCell rfl rfl rfl rfl (by decide +kernel) rfl ⟨Nat.le_of_ble_eq_true rfl, Nat.le_of_ble_eq_true rfl⟩ hP hD (lit := [(mq, .inr (4, [.ref an, .ref ap, .int (nI st), .ref ak, .ref ai, .ref ad, .ref ac, .ref aw, .int (nI mn), .ref at_, .int (nI le), .int (nI 0), .int (nI sp), .ref ao, .int (nI tm)])), (an, .inl (G.2.1, 525, .inl (gn nw))), (ac, .inl (G.2.1, 256, .inl (gn pC))), (aw, .inl (G.2.1, 256, .inl (gn pW)))]) (wt := []) (wc := []) (isC := []) rfl (by decide) rfl hl.1 (Nat.le_of_ble_eq_true rfl) dX4_plotRankAt_7 ⟨Nat.le_of_ble_eq_true rfl, Nat.le_of_ble_eq_true rfl⟩) hP hD hS (lit := [(mq, .inr (4, [.ref an, .ref ap, .int (nI st), .ref ak, .ref ai, .ref ad, .ref ac, .ref aw, .int (nI mn), .ref at_, .int (nI le), .int (nI 0), .int (nI sp), .ref ao, .int (nI tm)])), (an, .inl (G.2.1, 525, .inl (gn nw))), (ac, .inl (G.2.1, 256, .inl (gn pC))), (aw, .inl (G.2.1, 256, .inl (gn pW)))]) (wt := []) (wc := []) (wr := [(mq, .inr (4, [.ref an, .ref ap, .int (nI st), .ref ak, .ref ai, .ref ad, .ref ac, .ref aw, .int (nI mn), .ref at_, .int (nI le), .int (nI 0), .int (nI sp), .ref ao, .int (nI tm)])), (an, .inl (G.2.1, 525, .inl (gn nw))), (ac, .inl (G.2.1, 256, .inl (gn pC))), (aw, .inl (G.2.1, 256, .inl (gn pW)))]) (isC := []) (isR := [0, 1, 2, 3]) rfl rfl (by decide) (by decide) (fun r7 u H locs hp7 hP hD hS => ?_)
  subst hp7
  have hP : va_P G.1 vwCl [(mq, .inr (4, [.ref an, .ref ap, .int (nI st), .ref ak, .ref ai, .ref ad, .ref ac, .ref aw, .int (nI mn), .ref at_, .int (nI le), .int (nI 0), .int (nI sp), .ref ao, .int (nI tm)])), (an, .inl (G.2.1, 525, .inl (gn nw))), (ac, .inl (G.2.1, 256, .inl (gn pC))), (aw, .inl (G.2.1, 256, .inl (gn pW)))] H := hP
  have hD : va_D A [(mq, .inr (4, [.ref an, .ref ap, .int (nI st), .ref ak, .ref ai, .ref ad, .ref ac, .ref aw, .int (nI mn), .ref at_, .int (nI le), .int (nI 0), .int (nI sp), .ref ao, .int (nI tm)])), (an, .inl (G.2.1, 525, .inl (gn nw))), (ac, .inl (G.2.1, 256, .inl (gn pC))), (aw, .inl (G.2.1, 256, .inl (gn pW)))] := hD
  refine gIfB_eq (P := (0 ≤ ((x : Nat) : Int) ∧ ((x : Nat) : Int) < 16 ∧ 0 ≤ ((y : Nat) : Int) ∧ ((y : Nat) : Int) < 16)) (tgt := 22) hx hb dX4_plotRankAt_10 (by decide) (fun c10 => ?_) (fun c10 => ?_)
  · skip
    refine lv_aload_n hx hb dX4_plotRankAt_22 rfl (lv_at hl 0 rfl) ?_
    refine lv_iconst (v := nI 1) hx hb dX4_plotRankAt_23 (by decide) ?_
    exfalso; omega
  refine lv_aload_n hx hb dX4_plotRankAt_13 rfl (lv_at hl 0 rfl) ?_
  refine lv_iload_n hx hb dX4_plotRankAt_14 rfl (lv_at hl 1 rfl) ?_
  refine lv_iload_n hx hb dX4_plotRankAt_15 rfl (lv_at hl 2 rfl) ?_
  refine gCi F (gRunV (own := RX4) (C := RX4) (ci := 4) (bytes := cX4_plotAt) (n := 2) (As := [.int (nI x), .int (nI y)]) (rest := []) F (c_X4_plotAt l G mq an ap st ak ai ad ac aw mn at_ le 0 sp ao tm nw pC pW x y (by first | assumption | omega) (hx16) (hy16) H.size) gX4_plotRankAt_X4_plotAt rfl rfl rfl rfl (by decide +kernel) rfl ⟨Nat.le_of_ble_eq_true rfl, Nat.le_of_ble_eq_true rfl⟩ hP hD (lit := [(mq, .inr (4, [.ref an, .ref ap, .int (nI st), .ref ak, .ref ai, .ref ad, .ref ac, .ref aw, .int (nI mn), .ref at_, .int (nI le), .int (nI 0), .int (nI sp), .ref ao, .int (nI tm)])), (an, .inl (G.2.1, 525, .inl (gn nw))), (ac, .inl (G.2.1, 256, .inl (gn pC))), (aw, .inl (G.2.1, 256, .inl (gn pW)))]) (wt := []) (wc := [(mq, .inr (4, [.ref an, .ref ap, .int (nI st), .ref ak, .ref ai, .ref ad, .ref ac, .ref aw, .int (nI mn), .ref at_, .int (nI le), .int (nI 0), .int (nI sp), .ref ao, .int (nI tm)])), (an, .inl (G.2.1, 525, .inl (gn nw))), (ac, .inl (G.2.1, 256, .inl (gn pC))), (aw, .inl (G.2.1, 256, .inl (gn pW)))]) (isC := [0, 1, 2, 3]) rfl (by decide) rfl rfl rfl hl.1 (Nat.le_of_ble_eq_true rfl) dX4_plotRankAt_16 ⟨Nat.le_of_ble_eq_true rfl, Nat.le_of_ble_eq_true rfl⟩) hP hD hS (lit := [(mq, .inr (4, [.ref an, .ref ap, .int (nI st), .ref ak, .ref ai, .ref ad, .ref ac, .ref aw, .int (nI mn), .ref at_, .int (nI le), .int (nI 0), .int (nI sp), .ref ao, .int (nI tm)])), (an, .inl (G.2.1, 525, .inl (gn nw))), (ac, .inl (G.2.1, 256, .inl (gn pC))), (aw, .inl (G.2.1, 256, .inl (gn pW)))]) (wt := []) (wc := [(mq, .inr (4, [.ref an, .ref ap, .int (nI st), .ref ak, .ref ai, .ref ad, .ref ac, .ref aw, .int (nI mn), .ref at_, .int (nI le), .int (nI 0), .int (nI sp), .ref ao, .int (nI tm)])), (an, .inl (G.2.1, 525, .inl (gn nw))), (ac, .inl (G.2.1, 256, .inl (gn pC))), (aw, .inl (G.2.1, 256, .inl (gn pW)))]) (wr := []) (isC := [0, 1, 2, 3]) (isR := []) rfl rfl (by decide) (by decide) (fun r16 u H locs hp16 hP hD hS => ?_)
  obtain ⟨pc1, pw1⟩ := u
  try dsimp only at hp16
  obtain ⟨rfl, hp16_0⟩ := hp16
  have hP : va_P G.1 vwCl [(mq, .inr (4, [.ref an, .ref ap, .int (nI st), .ref ak, .ref ai, .ref ad, .ref ac, .ref aw, .int (nI (cnt nw)), .ref at_, .int (nI le), .int (nI 0), .int (nI sp), .ref ao, .int (nI tm)])), (an, .inl (G.2.1, 525, .inl (gn nw))), (ac, .inl (G.2.1, 256, .inl (gn pc1))), (aw, .inl (G.2.1, 256, .inl (gn pw1)))] H := hP
  have hD : va_D A [(mq, .inr (4, [.ref an, .ref ap, .int (nI st), .ref ak, .ref ai, .ref ad, .ref ac, .ref aw, .int (nI (cnt nw)), .ref at_, .int (nI le), .int (nI 0), .int (nI sp), .ref ao, .int (nI tm)])), (an, .inl (G.2.1, 525, .inl (gn nw))), (ac, .inl (G.2.1, 256, .inl (gn pc1))), (aw, .inl (G.2.1, 256, .inl (gn pw1)))] := hD
  refine lv_goto (tgt := 27) hx hb dX4_plotRankAt_19 (by decide) ?_
  exact gRi F dX4_plotRankAt_27 (rfl) (pc1, pw1) (rfl) hP hD hS (Nat.le_refl _) (Nat.le_refl _)

set_option maxHeartbeats 4000000 in
set_option maxRecDepth 100000 in
theorem f1_X4_plotRankAt (l : Launch) (G : gG) (mq : Nat) (an : Nat) (ap : Nat) (st : Nat) (ak : Nat) (ai : Nat) (ad : Nat) (ac : Nat) (aw : Nat) (mn : Nat) (at_ : Nat) (le : Nat) (th : Nat) (sp : Nat) (ao : Nat) (tm : Nat) (x : Int) (y : Int) (hx : -2147483648 ≤ x ∧ x < 2147483648) (hy : -2147483648 ≤ y ∧ y < 2147483648) (hcond0 : ¬(0 ≤ x ∧ x < 16 ∧ 0 ≤ y ∧ y < 16)) : gMi (S := Unit) l yX4_plotRankAt wsX4_plotRankAt { frames := 2, cells := 0, slots := 0, locals := 43 } G [.ref mq, .int (zI x), .int (zI y)] [(mq, .inr (4, [.ref an, .ref ap, .int (nI st), .ref ak, .ref ai, .ref ad, .ref ac, .ref aw, .int (nI mn), .ref at_, .int (nI le), .int (nI th), .int (nI sp), .ref ao, .int (nI tm)]))] (fun (r : Int32) (u : Unit) => (r = nI 0)) (fun u => [(mq, .inr (4, [.ref an, .ref ap, .int (nI st), .ref ak, .ref ai, .ref ad, .ref ac, .ref aw, .int (nI mn), .ref at_, .int (nI le), .int (nI 1), .int (nI sp), .ref ao, .int (nI tm)]))]) 0 0 := by
  refine gMet_mk (cc := cX4_plotRankAt) (nL := 3) (ret := (some .int)) (Qc := fun A => va_Qi (S := Unit) (fun (r : Int32) (u : Unit) => (r = nI 0)) (gB G A (fun (u : Unit) => [(mq, .inr (4, [.ref an, .ref ap, .int (nI st), .ref ak, .ref ai, .ref ad, .ref ac, .ref aw, .int (nI mn), .ref at_, .int (nI le), .int (nI 1), .int (nI sp), .ref ao, .int (nI tm)]))])) A) (by decide) rfl (Nat.le_of_ble_eq_true rfl) ?_
  intro p e s m args below meth c A F ls hl hP hD hS
  have hx := F.1
  have hb := F.2.1
  have hts := F.2.2.2.2.2.2.1
  have hown : s.vm.findClass RX4 = some m.cls := F.2.2.2.2.2.1
  have hKK := F.2.2.2.2.2.2.2.2.1
  have hK := hKK.1
  have hin0 := F.2.2.2.2.2.2.2.1
  have hi4 : ∀ w ∈ u_ws RX4 TX4 15, w ∈ wsX4_plotRankAt := by decide +kernel
  have hl : lv_has ls 3 [(0, .ref mq), (1, .int (zI x)), (2, .int (zI y))] := hl
  generalize hH : s.heap = H at hP ⊢
  have hS : va_S A s.heap H [] := by rw [← hH]; exact va_S.rf
  generalize hLo : ([] : List Loc) = locs at hS ⊢
  refine lv_aload_n hx hb dX4_plotRankAt_0 rfl (lv_at hl 0 rfl) ?_
  refine lv_iconst (v := nI 0) hx hb dX4_plotRankAt_1 (by decide) ?_
  refine va_put (D := G.1) (ci := 4) (v := .int (nI 0)) (ty := .int) (C := RX4) (T := TX4) (N := 15) hx hb hts hi4 tyX4 tyX4_ok nmX4 hown hK hP hD hS 0 rfl rfl 11 (by decide) (hts (.fieldLink RX4 37 "LandQuartersModel" "thrown" "I") (by decide +kernel)) (fun _ h9 => h9) rfl (by decide +kernel) (rfl) (rfl) (Nat.le_of_ble_eq_true rfl) dX4_plotRankAt_2 (fun H locs hP hD hS => ?_)
  have hP : va_P G.1 vwCl [(mq, .inr (4, [.ref an, .ref ap, .int (nI st), .ref ak, .ref ai, .ref ad, .ref ac, .ref aw, .int (nI mn), .ref at_, .int (nI le), .int (nI 0), .int (nI sp), .ref ao, .int (nI tm)]))] H := hP
  have hD : va_D A [(mq, .inr (4, [.ref an, .ref ap, .int (nI st), .ref ak, .ref ai, .ref ad, .ref ac, .ref aw, .int (nI mn), .ref at_, .int (nI le), .int (nI 0), .int (nI sp), .ref ao, .int (nI tm)]))] := hD
  refine lv_iload_n hx hb dX4_plotRankAt_5 rfl (lv_at hl 1 rfl) ?_
  refine lv_iload_n hx hb dX4_plotRankAt_6 rfl (lv_at hl 2 rfl) ?_
  refine gCi F (gRunS (own := RX4) (bytes := cX4_isCell) (n := 2) (As := [.int (zI x), .int (zI y)]) (rest := []) F (c_X4_isCell l G x y (by first | assumption | omega) (by first | assumption | omega) H.size) gX4_plotRankAt_X4_isCell rfl rfl rfl rfl (by decide +kernel) rfl ⟨Nat.le_of_ble_eq_true rfl, Nat.le_of_ble_eq_true rfl⟩ hP hD (lit := [(mq, .inr (4, [.ref an, .ref ap, .int (nI st), .ref ak, .ref ai, .ref ad, .ref ac, .ref aw, .int (nI mn), .ref at_, .int (nI le), .int (nI 0), .int (nI sp), .ref ao, .int (nI tm)]))]) (wt := []) (wc := []) (isC := []) rfl (by decide) rfl hl.1 (Nat.le_of_ble_eq_true rfl) dX4_plotRankAt_7 ⟨Nat.le_of_ble_eq_true rfl, Nat.le_of_ble_eq_true rfl⟩) hP hD hS (lit := [(mq, .inr (4, [.ref an, .ref ap, .int (nI st), .ref ak, .ref ai, .ref ad, .ref ac, .ref aw, .int (nI mn), .ref at_, .int (nI le), .int (nI 0), .int (nI sp), .ref ao, .int (nI tm)]))]) (wt := []) (wc := []) (wr := [(mq, .inr (4, [.ref an, .ref ap, .int (nI st), .ref ak, .ref ai, .ref ad, .ref ac, .ref aw, .int (nI mn), .ref at_, .int (nI le), .int (nI 0), .int (nI sp), .ref ao, .int (nI tm)]))]) (isC := []) (isR := [0]) rfl rfl (by decide) (by decide) (fun r7 u H locs hp7 hP hD hS => ?_)
  subst hp7
  have hP : va_P G.1 vwCl [(mq, .inr (4, [.ref an, .ref ap, .int (nI st), .ref ak, .ref ai, .ref ad, .ref ac, .ref aw, .int (nI mn), .ref at_, .int (nI le), .int (nI 0), .int (nI sp), .ref ao, .int (nI tm)]))] H := hP
  have hD : va_D A [(mq, .inr (4, [.ref an, .ref ap, .int (nI st), .ref ak, .ref ai, .ref ad, .ref ac, .ref aw, .int (nI mn), .ref at_, .int (nI le), .int (nI 0), .int (nI sp), .ref ao, .int (nI tm)]))] := hD
  refine gIfB_eq (P := (0 ≤ x ∧ x < 16 ∧ 0 ≤ y ∧ y < 16)) (tgt := 22) hx hb dX4_plotRankAt_10 (by decide) (fun c10 => ?_) (fun c10 => ?_)
  · skip
    refine lv_aload_n hx hb dX4_plotRankAt_22 rfl (lv_at hl 0 rfl) ?_
    refine lv_iconst (v := nI 1) hx hb dX4_plotRankAt_23 (by decide) ?_
    refine gCi F (gRunV (own := RX4) (C := RX4) (ci := 4) (bytes := cX4_refuses) (n := 1) (As := [.int (nI 1)]) (rest := []) F (c_X4_refuses l G mq an ap st ak ai ad ac aw mn at_ le 0 sp ao tm 1  H.size) gX4_plotRankAt_X4_refuses rfl rfl rfl rfl (by decide +kernel) rfl ⟨Nat.le_of_ble_eq_true rfl, Nat.le_of_ble_eq_true rfl⟩ hP hD (lit := [(mq, .inr (4, [.ref an, .ref ap, .int (nI st), .ref ak, .ref ai, .ref ad, .ref ac, .ref aw, .int (nI mn), .ref at_, .int (nI le), .int (nI 0), .int (nI sp), .ref ao, .int (nI tm)]))]) (wt := []) (wc := [(mq, .inr (4, [.ref an, .ref ap, .int (nI st), .ref ak, .ref ai, .ref ad, .ref ac, .ref aw, .int (nI mn), .ref at_, .int (nI le), .int (nI 0), .int (nI sp), .ref ao, .int (nI tm)]))]) (isC := [0]) rfl (by decide) rfl rfl rfl hl.1 (Nat.le_of_ble_eq_true rfl) dX4_plotRankAt_24 ⟨Nat.le_of_ble_eq_true rfl, Nat.le_of_ble_eq_true rfl⟩) hP hD hS (lit := [(mq, .inr (4, [.ref an, .ref ap, .int (nI st), .ref ak, .ref ai, .ref ad, .ref ac, .ref aw, .int (nI mn), .ref at_, .int (nI le), .int (nI 0), .int (nI sp), .ref ao, .int (nI tm)]))]) (wt := []) (wc := [(mq, .inr (4, [.ref an, .ref ap, .int (nI st), .ref ak, .ref ai, .ref ad, .ref ac, .ref aw, .int (nI mn), .ref at_, .int (nI le), .int (nI 0), .int (nI sp), .ref ao, .int (nI tm)]))]) (wr := []) (isC := [0]) (isR := []) rfl rfl (by decide) (by decide) (fun r24 u H locs hp24 hP hD hS => ?_)
    subst hp24
    have hP : va_P G.1 vwCl [(mq, .inr (4, [.ref an, .ref ap, .int (nI st), .ref ak, .ref ai, .ref ad, .ref ac, .ref aw, .int (nI mn), .ref at_, .int (nI le), .int (nI 1), .int (nI sp), .ref ao, .int (nI tm)]))] H := hP
    have hD : va_D A [(mq, .inr (4, [.ref an, .ref ap, .int (nI st), .ref ak, .ref ai, .ref ad, .ref ac, .ref aw, .int (nI mn), .ref at_, .int (nI le), .int (nI 1), .int (nI sp), .ref ao, .int (nI tm)]))] := hD
    exact gRi F dX4_plotRankAt_27 (rfl) () (rfl) hP hD hS (Nat.le_refl _) (Nat.le_refl _)
  exfalso; omega

set_option maxHeartbeats 4000000 in
set_option maxRecDepth 100000 in
theorem c_X4_plotPriceAt (l : Launch) (G : gG) (mq : Nat) (an : Nat) (ap : Nat) (st : Nat) (ak : Nat) (ai : Nat) (ad : Nat) (ac : Nat) (aw : Nat) (mn : Nat) (at_ : Nat) (le : Nat) (th : Nat) (sp : Nat) (ao : Nat) (tm : Nat) (nw : Nat → Nat) (pC : Nat → Nat) (pW : Nat → Nat) (x : Nat) (y : Nat) (how : ∀ k, k < 256 → nw k < 8) (hx16 : x < 16) (hy16 : y < 16) : gMi (S := (Nat → Nat) × (Nat → Nat)) l yX4_plotPriceAt wsX4_plotPriceAt { frames := 3, cells := 0, slots := 0, locals := 72 } G [.ref mq, .int (nI x), .int (nI y)] [(mq, .inr (4, [.ref an, .ref ap, .int (nI st), .ref ak, .ref ai, .ref ad, .ref ac, .ref aw, .int (nI mn), .ref at_, .int (nI le), .int (nI th), .int (nI sp), .ref ao, .int (nI tm)])), (an, .inl (G.2.1, 525, .inl (gn nw))), (ac, .inl (G.2.1, 256, .inl (gn pC))), (aw, .inl (G.2.1, 256, .inl (gn pW)))] (fun (r : Int32) (u : (Nat → Nat) × (Nat → Nat)) => (r = nI (nw 520 * psz nw (gP nw (rkA nw x y)) * psz nw (gP nw (rkA nw x y))))) (fun u => [(mq, .inr (4, [.ref an, .ref ap, .int (nI st), .ref ak, .ref ai, .ref ad, .ref ac, .ref aw, .int (nI (cnt nw)), .ref at_, .int (nI le), .int (nI 0), .int (nI sp), .ref ao, .int (nI tm)])), (an, .inl (G.2.1, 525, .inl (gn nw))), (ac, .inl (G.2.1, 256, .inl (gn u.1))), (aw, .inl (G.2.1, 256, .inl (gn u.2)))]) 0 0 := by
  refine gMet_mk (cc := cX4_plotPriceAt) (nL := 4) (ret := (some .int)) (Qc := fun A => va_Qi (S := (Nat → Nat) × (Nat → Nat)) (fun (r : Int32) (u : (Nat → Nat) × (Nat → Nat)) => (r = nI (nw 520 * psz nw (gP nw (rkA nw x y)) * psz nw (gP nw (rkA nw x y))))) (gB G A (fun (u : (Nat → Nat) × (Nat → Nat)) => [(mq, .inr (4, [.ref an, .ref ap, .int (nI st), .ref ak, .ref ai, .ref ad, .ref ac, .ref aw, .int (nI (cnt nw)), .ref at_, .int (nI le), .int (nI 0), .int (nI sp), .ref ao, .int (nI tm)])), (an, .inl (G.2.1, 525, .inl (gn nw))), (ac, .inl (G.2.1, 256, .inl (gn u.1))), (aw, .inl (G.2.1, 256, .inl (gn u.2)))])) A) (by decide) rfl (Nat.le_of_ble_eq_true rfl) ?_
  intro p e s m args below meth c A F ls hl hP hD hS
  have hx := F.1
  have hb := F.2.1
  have hts := F.2.2.2.2.2.2.1
  have hown : s.vm.findClass RX4 = some m.cls := F.2.2.2.2.2.1
  have hKK := F.2.2.2.2.2.2.2.2.1
  have hK := hKK.1
  have hin0 := F.2.2.2.2.2.2.2.1
  have hi4 : ∀ w ∈ u_ws RX4 TX4 15, w ∈ wsX4_plotPriceAt := by decide +kernel
  have hl : lv_has ls 4 [(0, .ref mq), (1, .int (nI x)), (2, .int (nI y))] := hl
  have hrl := rkA_lt nw x y
  have hcl := cnt_le nw
  have hgp := (lt_cnt nw).mp hrl
  have hpp := psz_pos nw (gP nw (rkA nw x y))
  have hal := (sq_al hgp).mp (psz_sq nw (gP nw (rkA nw x y)))
  have hcz9 := sqC hgp (psz_isz nw (gP nw (rkA nw x y))) hal.2
  have hmc := mc_lt (gP nw (rkA nw x y))
  generalize hH : s.heap = H at hP ⊢
  have hS : va_S A s.heap H [] := by rw [← hH]; exact va_S.rf
  generalize hLo : ([] : List Loc) = locs at hS ⊢
  refine lv_aload_n hx hb dX4_plotPriceAt_0 rfl (lv_at hl 0 rfl) ?_
  refine lv_iconst (v := nI 0) hx hb dX4_plotPriceAt_1 (by decide) ?_
  refine va_put (D := G.1) (ci := 4) (v := .int (nI 0)) (ty := .int) (C := RX4) (T := TX4) (N := 15) hx hb hts hi4 tyX4 tyX4_ok nmX4 hown hK hP hD hS 0 rfl rfl 11 (by decide) (hts (.fieldLink RX4 37 "LandQuartersModel" "thrown" "I") (by decide +kernel)) (fun _ h9 => h9) rfl (by decide +kernel) (rfl) (rfl) (Nat.le_of_ble_eq_true rfl) dX4_plotPriceAt_2 (fun H locs hP hD hS => ?_)
  have hP : va_P G.1 vwCl [(mq, .inr (4, [.ref an, .ref ap, .int (nI st), .ref ak, .ref ai, .ref ad, .ref ac, .ref aw, .int (nI mn), .ref at_, .int (nI le), .int (nI 0), .int (nI sp), .ref ao, .int (nI tm)])), (an, .inl (G.2.1, 525, .inl (gn nw))), (ac, .inl (G.2.1, 256, .inl (gn pC))), (aw, .inl (G.2.1, 256, .inl (gn pW)))] H := hP
  have hD : va_D A [(mq, .inr (4, [.ref an, .ref ap, .int (nI st), .ref ak, .ref ai, .ref ad, .ref ac, .ref aw, .int (nI mn), .ref at_, .int (nI le), .int (nI 0), .int (nI sp), .ref ao, .int (nI tm)])), (an, .inl (G.2.1, 525, .inl (gn nw))), (ac, .inl (G.2.1, 256, .inl (gn pC))), (aw, .inl (G.2.1, 256, .inl (gn pW)))] := hD
  refine lv_iload_n hx hb dX4_plotPriceAt_5 rfl (lv_at hl 1 rfl) ?_
  refine lv_iload_n hx hb dX4_plotPriceAt_6 rfl (lv_at hl 2 rfl) ?_
  refine W.eq (g2 := F0 m 7 ls [.int (zI ((y : Nat) : Int)), .int (zI ((x : Nat) : Int))]) (by simp only [zI_nat, zI_neg1]) ?_
  refine gCi F (gRunS (own := RX4) (bytes := cX4_isCell) (n := 2) (As := [.int (zI ((x : Nat) : Int)), .int (zI ((y : Nat) : Int))]) (rest := []) F (c_X4_isCell l G ((x : Nat) : Int) ((y : Nat) : Int) (by first | assumption | omega) (by first | assumption | omega) H.size) gX4_plotPriceAt_X4_isCell rfl rfl rfl rfl (by decide +kernel) rfl ⟨Nat.le_of_ble_eq_true rfl, Nat.le_of_ble_eq_true rfl⟩ hP hD (lit := [(mq, .inr (4, [.ref an, .ref ap, .int (nI st), .ref ak, .ref ai, .ref ad, .ref ac, .ref aw, .int (nI mn), .ref at_, .int (nI le), .int (nI 0), .int (nI sp), .ref ao, .int (nI tm)])), (an, .inl (G.2.1, 525, .inl (gn nw))), (ac, .inl (G.2.1, 256, .inl (gn pC))), (aw, .inl (G.2.1, 256, .inl (gn pW)))]) (wt := []) (wc := []) (isC := []) rfl (by decide) rfl hl.1 (Nat.le_of_ble_eq_true rfl) dX4_plotPriceAt_7 ⟨Nat.le_of_ble_eq_true rfl, Nat.le_of_ble_eq_true rfl⟩) hP hD hS (lit := [(mq, .inr (4, [.ref an, .ref ap, .int (nI st), .ref ak, .ref ai, .ref ad, .ref ac, .ref aw, .int (nI mn), .ref at_, .int (nI le), .int (nI 0), .int (nI sp), .ref ao, .int (nI tm)])), (an, .inl (G.2.1, 525, .inl (gn nw))), (ac, .inl (G.2.1, 256, .inl (gn pC))), (aw, .inl (G.2.1, 256, .inl (gn pW)))]) (wt := []) (wc := []) (wr := [(mq, .inr (4, [.ref an, .ref ap, .int (nI st), .ref ak, .ref ai, .ref ad, .ref ac, .ref aw, .int (nI mn), .ref at_, .int (nI le), .int (nI 0), .int (nI sp), .ref ao, .int (nI tm)])), (an, .inl (G.2.1, 525, .inl (gn nw))), (ac, .inl (G.2.1, 256, .inl (gn pC))), (aw, .inl (G.2.1, 256, .inl (gn pW)))]) (isC := []) (isR := [0, 1, 2, 3]) rfl rfl (by decide) (by decide) (fun r7 u H locs hp7 hP hD hS => ?_)
  subst hp7
  have hP : va_P G.1 vwCl [(mq, .inr (4, [.ref an, .ref ap, .int (nI st), .ref ak, .ref ai, .ref ad, .ref ac, .ref aw, .int (nI mn), .ref at_, .int (nI le), .int (nI 0), .int (nI sp), .ref ao, .int (nI tm)])), (an, .inl (G.2.1, 525, .inl (gn nw))), (ac, .inl (G.2.1, 256, .inl (gn pC))), (aw, .inl (G.2.1, 256, .inl (gn pW)))] H := hP
  have hD : va_D A [(mq, .inr (4, [.ref an, .ref ap, .int (nI st), .ref ak, .ref ai, .ref ad, .ref ac, .ref aw, .int (nI mn), .ref at_, .int (nI le), .int (nI 0), .int (nI sp), .ref ao, .int (nI tm)])), (an, .inl (G.2.1, 525, .inl (gn nw))), (ac, .inl (G.2.1, 256, .inl (gn pC))), (aw, .inl (G.2.1, 256, .inl (gn pW)))] := hD
  refine gIfB_ne (P := (0 ≤ ((x : Nat) : Int) ∧ ((x : Nat) : Int) < 16 ∧ 0 ≤ ((y : Nat) : Int) ∧ ((y : Nat) : Int) < 16)) (tgt := 19) hx hb dX4_plotPriceAt_10 (by decide) (fun c10 => ?_) (fun c10 => ?_)
  · skip
    refine lv_aload_n hx hb dX4_plotPriceAt_19 rfl (lv_at hl 0 rfl) ?_
    refine va_get (D := G.1) (ci := 4) (v := .ref aw) (C := RX4) (T := TX4) (N := 15) hx hb hts hi4 hown hK hP 0 rfl rfl 7 (by decide) (hts (.fieldLink RX4 28 "LandQuartersModel" "plotWide" "[I") (by decide +kernel)) (fun _ h9 => h9) rfl dX4_plotPriceAt_20 ?_
    refine lv_aload_n hx hb dX4_plotPriceAt_23 rfl (lv_at hl 0 rfl) ?_
    refine lv_iload_n hx hb dX4_plotPriceAt_24 rfl (lv_at hl 1 rfl) ?_
    refine lv_iload_n hx hb dX4_plotPriceAt_25 rfl (lv_at hl 2 rfl) ?_
    refine gCi F (gRunV (own := RX4) (C := RX4) (ci := 4) (bytes := cX4_plotAt) (n := 2) (As := [.int (nI x), .int (nI y)]) (rest := [.ref aw]) F (c_X4_plotAt l G mq an ap st ak ai ad ac aw mn at_ le 0 sp ao tm nw pC pW x y (by first | assumption | omega) (hx16) (hy16) H.size) gX4_plotPriceAt_X4_plotAt rfl rfl rfl rfl (by decide +kernel) rfl ⟨Nat.le_of_ble_eq_true rfl, Nat.le_of_ble_eq_true rfl⟩ hP hD (lit := [(mq, .inr (4, [.ref an, .ref ap, .int (nI st), .ref ak, .ref ai, .ref ad, .ref ac, .ref aw, .int (nI mn), .ref at_, .int (nI le), .int (nI 0), .int (nI sp), .ref ao, .int (nI tm)])), (an, .inl (G.2.1, 525, .inl (gn nw))), (ac, .inl (G.2.1, 256, .inl (gn pC))), (aw, .inl (G.2.1, 256, .inl (gn pW)))]) (wt := []) (wc := [(mq, .inr (4, [.ref an, .ref ap, .int (nI st), .ref ak, .ref ai, .ref ad, .ref ac, .ref aw, .int (nI mn), .ref at_, .int (nI le), .int (nI 0), .int (nI sp), .ref ao, .int (nI tm)])), (an, .inl (G.2.1, 525, .inl (gn nw))), (ac, .inl (G.2.1, 256, .inl (gn pC))), (aw, .inl (G.2.1, 256, .inl (gn pW)))]) (isC := [0, 1, 2, 3]) rfl (by decide) rfl rfl rfl hl.1 (Nat.le_of_ble_eq_true rfl) dX4_plotPriceAt_26 ⟨Nat.le_of_ble_eq_true rfl, Nat.le_of_ble_eq_true rfl⟩) hP hD hS (lit := [(mq, .inr (4, [.ref an, .ref ap, .int (nI st), .ref ak, .ref ai, .ref ad, .ref ac, .ref aw, .int (nI mn), .ref at_, .int (nI le), .int (nI 0), .int (nI sp), .ref ao, .int (nI tm)])), (an, .inl (G.2.1, 525, .inl (gn nw))), (ac, .inl (G.2.1, 256, .inl (gn pC))), (aw, .inl (G.2.1, 256, .inl (gn pW)))]) (wt := []) (wc := [(mq, .inr (4, [.ref an, .ref ap, .int (nI st), .ref ak, .ref ai, .ref ad, .ref ac, .ref aw, .int (nI mn), .ref at_, .int (nI le), .int (nI 0), .int (nI sp), .ref ao, .int (nI tm)])), (an, .inl (G.2.1, 525, .inl (gn nw))), (ac, .inl (G.2.1, 256, .inl (gn pC))), (aw, .inl (G.2.1, 256, .inl (gn pW)))]) (wr := []) (isC := [0, 1, 2, 3]) (isR := []) rfl rfl (by decide) (by decide) (fun r26 u H locs hp26 hP hD hS => ?_)
    obtain ⟨pc1, pw1⟩ := u
    try dsimp only at hp26
    obtain ⟨rfl, hp26_0⟩ := hp26
    have hP : va_P G.1 vwCl [(mq, .inr (4, [.ref an, .ref ap, .int (nI st), .ref ak, .ref ai, .ref ad, .ref ac, .ref aw, .int (nI (cnt nw)), .ref at_, .int (nI le), .int (nI 0), .int (nI sp), .ref ao, .int (nI tm)])), (an, .inl (G.2.1, 525, .inl (gn nw))), (ac, .inl (G.2.1, 256, .inl (gn pc1))), (aw, .inl (G.2.1, 256, .inl (gn pw1)))] H := hP
    have hD : va_D A [(mq, .inr (4, [.ref an, .ref ap, .int (nI st), .ref ak, .ref ai, .ref ad, .ref ac, .ref aw, .int (nI (cnt nw)), .ref at_, .int (nI le), .int (nI 0), .int (nI sp), .ref ao, .int (nI tm)])), (an, .inl (G.2.1, 525, .inl (gn nw))), (ac, .inl (G.2.1, 256, .inl (gn pc1))), (aw, .inl (G.2.1, 256, .inl (gn pw1)))] := hD
    refine gNald (k := rkA nw x y) hx hb hK hP 3 0 rfl rfl (by omega) (by first | decide | omega) dX4_plotPriceAt_29 ?_
    refine W.eq (g2 := F0 m 30 ls [.int (nI (psz nw (gP nw (rkA nw x y))))]) (by rw [show (nI (pw1 (rkA nw x y)) : Int32) = nI (psz nw (gP nw (rkA nw x y))) from by rw [(hp26_0 _ hrl).2]]) ?_
    refine lv_istore_n (lv' := [(3, .int (nI (psz nw (gP nw (rkA nw x y))))), (0, .ref mq), (1, .int (nI x)), (2, .int (nI y))]) hx hb dX4_plotPriceAt_30 rfl hl (by decide) rfl (fun ls hl => ?_)
    refine lv_aload_n hx hb dX4_plotPriceAt_31 rfl (lv_at hl 1 rfl) ?_
    refine va_get (D := G.1) (ci := 4) (v := .ref an) (C := RX4) (T := TX4) (N := 15) hx hb hts hi4 hown hK hP 0 rfl rfl 0 (by decide) (hts (.fieldLink RX4 7 "LandQuartersModel" "now" "[I") (by decide +kernel)) (fun _ h9 => h9) rfl dX4_plotPriceAt_32 ?_
    refine lv_sipush (v := nI 520) hx hb dX4_plotPriceAt_35 (by decide) ?_
    refine gNald (k := 520) hx hb hK hP 1 0 rfl rfl (by omega) (by first | decide | omega) dX4_plotPriceAt_38 ?_
    refine lv_iload_n hx hb dX4_plotPriceAt_39 rfl (lv_at hl 0 rfl) ?_
    refine gImul (a := nw 520) (b := psz nw (gP nw (rkA nw x y))) hx hb dX4_plotPriceAt_40 ?_
    refine lv_iload_n hx hb dX4_plotPriceAt_41 rfl (lv_at hl 0 rfl) ?_
    refine gImul (a := (nw 520) * (psz nw (gP nw (rkA nw x y)))) (b := psz nw (gP nw (rkA nw x y))) hx hb dX4_plotPriceAt_42 ?_
    exact gRi F dX4_plotPriceAt_43 (rfl) (pc1, pw1) (by simp [c10, hp26_0]) hP hD hS (Nat.le_refl _) (Nat.le_refl _)
  refine lv_aload_n hx hb dX4_plotPriceAt_13 rfl (lv_at hl 0 rfl) ?_
  refine lv_iconst (v := nI 1) hx hb dX4_plotPriceAt_14 (by decide) ?_
  exfalso; omega

set_option maxHeartbeats 4000000 in
set_option maxRecDepth 100000 in
theorem f1_X4_plotPriceAt (l : Launch) (G : gG) (mq : Nat) (an : Nat) (ap : Nat) (st : Nat) (ak : Nat) (ai : Nat) (ad : Nat) (ac : Nat) (aw : Nat) (mn : Nat) (at_ : Nat) (le : Nat) (th : Nat) (sp : Nat) (ao : Nat) (tm : Nat) (x : Int) (y : Int) (hx : -2147483648 ≤ x ∧ x < 2147483648) (hy : -2147483648 ≤ y ∧ y < 2147483648) (hcond0 : ¬(0 ≤ x ∧ x < 16 ∧ 0 ≤ y ∧ y < 16)) : gMi (S := Unit) l yX4_plotPriceAt wsX4_plotPriceAt { frames := 2, cells := 0, slots := 0, locals := 43 } G [.ref mq, .int (zI x), .int (zI y)] [(mq, .inr (4, [.ref an, .ref ap, .int (nI st), .ref ak, .ref ai, .ref ad, .ref ac, .ref aw, .int (nI mn), .ref at_, .int (nI le), .int (nI th), .int (nI sp), .ref ao, .int (nI tm)]))] (fun (r : Int32) (u : Unit) => (r = nI 0)) (fun u => [(mq, .inr (4, [.ref an, .ref ap, .int (nI st), .ref ak, .ref ai, .ref ad, .ref ac, .ref aw, .int (nI mn), .ref at_, .int (nI le), .int (nI 1), .int (nI sp), .ref ao, .int (nI tm)]))]) 0 0 := by
  refine gMet_mk (cc := cX4_plotPriceAt) (nL := 4) (ret := (some .int)) (Qc := fun A => va_Qi (S := Unit) (fun (r : Int32) (u : Unit) => (r = nI 0)) (gB G A (fun (u : Unit) => [(mq, .inr (4, [.ref an, .ref ap, .int (nI st), .ref ak, .ref ai, .ref ad, .ref ac, .ref aw, .int (nI mn), .ref at_, .int (nI le), .int (nI 1), .int (nI sp), .ref ao, .int (nI tm)]))])) A) (by decide) rfl (Nat.le_of_ble_eq_true rfl) ?_
  intro p e s m args below meth c A F ls hl hP hD hS
  have hx := F.1
  have hb := F.2.1
  have hts := F.2.2.2.2.2.2.1
  have hown : s.vm.findClass RX4 = some m.cls := F.2.2.2.2.2.1
  have hKK := F.2.2.2.2.2.2.2.2.1
  have hK := hKK.1
  have hin0 := F.2.2.2.2.2.2.2.1
  have hi4 : ∀ w ∈ u_ws RX4 TX4 15, w ∈ wsX4_plotPriceAt := by decide +kernel
  have hl : lv_has ls 4 [(0, .ref mq), (1, .int (zI x)), (2, .int (zI y))] := hl
  generalize hH : s.heap = H at hP ⊢
  have hS : va_S A s.heap H [] := by rw [← hH]; exact va_S.rf
  generalize hLo : ([] : List Loc) = locs at hS ⊢
  refine lv_aload_n hx hb dX4_plotPriceAt_0 rfl (lv_at hl 0 rfl) ?_
  refine lv_iconst (v := nI 0) hx hb dX4_plotPriceAt_1 (by decide) ?_
  refine va_put (D := G.1) (ci := 4) (v := .int (nI 0)) (ty := .int) (C := RX4) (T := TX4) (N := 15) hx hb hts hi4 tyX4 tyX4_ok nmX4 hown hK hP hD hS 0 rfl rfl 11 (by decide) (hts (.fieldLink RX4 37 "LandQuartersModel" "thrown" "I") (by decide +kernel)) (fun _ h9 => h9) rfl (by decide +kernel) (rfl) (rfl) (Nat.le_of_ble_eq_true rfl) dX4_plotPriceAt_2 (fun H locs hP hD hS => ?_)
  have hP : va_P G.1 vwCl [(mq, .inr (4, [.ref an, .ref ap, .int (nI st), .ref ak, .ref ai, .ref ad, .ref ac, .ref aw, .int (nI mn), .ref at_, .int (nI le), .int (nI 0), .int (nI sp), .ref ao, .int (nI tm)]))] H := hP
  have hD : va_D A [(mq, .inr (4, [.ref an, .ref ap, .int (nI st), .ref ak, .ref ai, .ref ad, .ref ac, .ref aw, .int (nI mn), .ref at_, .int (nI le), .int (nI 0), .int (nI sp), .ref ao, .int (nI tm)]))] := hD
  refine lv_iload_n hx hb dX4_plotPriceAt_5 rfl (lv_at hl 1 rfl) ?_
  refine lv_iload_n hx hb dX4_plotPriceAt_6 rfl (lv_at hl 2 rfl) ?_
  refine gCi F (gRunS (own := RX4) (bytes := cX4_isCell) (n := 2) (As := [.int (zI x), .int (zI y)]) (rest := []) F (c_X4_isCell l G x y (by first | assumption | omega) (by first | assumption | omega) H.size) gX4_plotPriceAt_X4_isCell rfl rfl rfl rfl (by decide +kernel) rfl ⟨Nat.le_of_ble_eq_true rfl, Nat.le_of_ble_eq_true rfl⟩ hP hD (lit := [(mq, .inr (4, [.ref an, .ref ap, .int (nI st), .ref ak, .ref ai, .ref ad, .ref ac, .ref aw, .int (nI mn), .ref at_, .int (nI le), .int (nI 0), .int (nI sp), .ref ao, .int (nI tm)]))]) (wt := []) (wc := []) (isC := []) rfl (by decide) rfl hl.1 (Nat.le_of_ble_eq_true rfl) dX4_plotPriceAt_7 ⟨Nat.le_of_ble_eq_true rfl, Nat.le_of_ble_eq_true rfl⟩) hP hD hS (lit := [(mq, .inr (4, [.ref an, .ref ap, .int (nI st), .ref ak, .ref ai, .ref ad, .ref ac, .ref aw, .int (nI mn), .ref at_, .int (nI le), .int (nI 0), .int (nI sp), .ref ao, .int (nI tm)]))]) (wt := []) (wc := []) (wr := [(mq, .inr (4, [.ref an, .ref ap, .int (nI st), .ref ak, .ref ai, .ref ad, .ref ac, .ref aw, .int (nI mn), .ref at_, .int (nI le), .int (nI 0), .int (nI sp), .ref ao, .int (nI tm)]))]) (isC := []) (isR := [0]) rfl rfl (by decide) (by decide) (fun r7 u H locs hp7 hP hD hS => ?_)
  subst hp7
  have hP : va_P G.1 vwCl [(mq, .inr (4, [.ref an, .ref ap, .int (nI st), .ref ak, .ref ai, .ref ad, .ref ac, .ref aw, .int (nI mn), .ref at_, .int (nI le), .int (nI 0), .int (nI sp), .ref ao, .int (nI tm)]))] H := hP
  have hD : va_D A [(mq, .inr (4, [.ref an, .ref ap, .int (nI st), .ref ak, .ref ai, .ref ad, .ref ac, .ref aw, .int (nI mn), .ref at_, .int (nI le), .int (nI 0), .int (nI sp), .ref ao, .int (nI tm)]))] := hD
  refine gIfB_ne (P := (0 ≤ x ∧ x < 16 ∧ 0 ≤ y ∧ y < 16)) (tgt := 19) hx hb dX4_plotPriceAt_10 (by decide) (fun c10 => ?_) (fun c10 => ?_)
  · skip
    refine lv_aload_n hx hb dX4_plotPriceAt_19 rfl (lv_at hl 0 rfl) ?_
    refine va_get (D := G.1) (ci := 4) (v := .ref aw) (C := RX4) (T := TX4) (N := 15) hx hb hts hi4 hown hK hP 0 rfl rfl 7 (by decide) (hts (.fieldLink RX4 28 "LandQuartersModel" "plotWide" "[I") (by decide +kernel)) (fun _ h9 => h9) rfl dX4_plotPriceAt_20 ?_
    refine lv_aload_n hx hb dX4_plotPriceAt_23 rfl (lv_at hl 0 rfl) ?_
    refine lv_iload_n hx hb dX4_plotPriceAt_24 rfl (lv_at hl 1 rfl) ?_
    refine lv_iload_n hx hb dX4_plotPriceAt_25 rfl (lv_at hl 2 rfl) ?_
    exfalso; omega
  refine lv_aload_n hx hb dX4_plotPriceAt_13 rfl (lv_at hl 0 rfl) ?_
  refine lv_iconst (v := nI 1) hx hb dX4_plotPriceAt_14 (by decide) ?_
  refine gCi F (gRunV (own := RX4) (C := RX4) (ci := 4) (bytes := cX4_refuses) (n := 1) (As := [.int (nI 1)]) (rest := []) F (c_X4_refuses l G mq an ap st ak ai ad ac aw mn at_ le 0 sp ao tm 1  H.size) gX4_plotPriceAt_X4_refuses rfl rfl rfl rfl (by decide +kernel) rfl ⟨Nat.le_of_ble_eq_true rfl, Nat.le_of_ble_eq_true rfl⟩ hP hD (lit := [(mq, .inr (4, [.ref an, .ref ap, .int (nI st), .ref ak, .ref ai, .ref ad, .ref ac, .ref aw, .int (nI mn), .ref at_, .int (nI le), .int (nI 0), .int (nI sp), .ref ao, .int (nI tm)]))]) (wt := []) (wc := [(mq, .inr (4, [.ref an, .ref ap, .int (nI st), .ref ak, .ref ai, .ref ad, .ref ac, .ref aw, .int (nI mn), .ref at_, .int (nI le), .int (nI 0), .int (nI sp), .ref ao, .int (nI tm)]))]) (isC := [0]) rfl (by decide) rfl rfl rfl hl.1 (Nat.le_of_ble_eq_true rfl) dX4_plotPriceAt_15 ⟨Nat.le_of_ble_eq_true rfl, Nat.le_of_ble_eq_true rfl⟩) hP hD hS (lit := [(mq, .inr (4, [.ref an, .ref ap, .int (nI st), .ref ak, .ref ai, .ref ad, .ref ac, .ref aw, .int (nI mn), .ref at_, .int (nI le), .int (nI 0), .int (nI sp), .ref ao, .int (nI tm)]))]) (wt := []) (wc := [(mq, .inr (4, [.ref an, .ref ap, .int (nI st), .ref ak, .ref ai, .ref ad, .ref ac, .ref aw, .int (nI mn), .ref at_, .int (nI le), .int (nI 0), .int (nI sp), .ref ao, .int (nI tm)]))]) (wr := []) (isC := [0]) (isR := []) rfl rfl (by decide) (by decide) (fun r15 u H locs hp15 hP hD hS => ?_)
  subst hp15
  have hP : va_P G.1 vwCl [(mq, .inr (4, [.ref an, .ref ap, .int (nI st), .ref ak, .ref ai, .ref ad, .ref ac, .ref aw, .int (nI mn), .ref at_, .int (nI le), .int (nI 1), .int (nI sp), .ref ao, .int (nI tm)]))] H := hP
  have hD : va_D A [(mq, .inr (4, [.ref an, .ref ap, .int (nI st), .ref ak, .ref ai, .ref ad, .ref ac, .ref aw, .int (nI mn), .ref at_, .int (nI le), .int (nI 1), .int (nI sp), .ref ao, .int (nI tm)]))] := hD
  exact gRi F dX4_plotPriceAt_18 (rfl) () (rfl) hP hD hS (Nat.le_refl _) (Nat.le_refl _)

set_option maxHeartbeats 4000000 in
set_option maxRecDepth 100000 in
theorem c_X4_plots (l : Launch) (G : gG) (mq : Nat) (an : Nat) (ap : Nat) (st : Nat) (ak : Nat) (ai : Nat) (ad : Nat) (ac : Nat) (aw : Nat) (mn : Nat) (at_ : Nat) (le : Nat) (th : Nat) (sp : Nat) (ao : Nat) (tm : Nat) (nw : Nat → Nat) (pC : Nat → Nat) (pW : Nat → Nat) (how : ∀ k, k < 256 → nw k < 8) : gMi (S := (Nat → Nat) × (Nat → Nat)) l yX4_plots wsX4_plots { frames := 3, cells := 0, slots := 0, locals := 66 } G [.ref mq] [(mq, .inr (4, [.ref an, .ref ap, .int (nI st), .ref ak, .ref ai, .ref ad, .ref ac, .ref aw, .int (nI mn), .ref at_, .int (nI le), .int (nI th), .int (nI sp), .ref ao, .int (nI tm)])), (an, .inl (G.2.1, 525, .inl (gn nw))), (ac, .inl (G.2.1, 256, .inl (gn pC))), (aw, .inl (G.2.1, 256, .inl (gn pW)))] (fun (r : Int32) (u : (Nat → Nat) × (Nat → Nat)) => (r = nI (cnt nw))) (fun u => [(mq, .inr (4, [.ref an, .ref ap, .int (nI st), .ref ak, .ref ai, .ref ad, .ref ac, .ref aw, .int (nI (cnt nw)), .ref at_, .int (nI le), .int (nI 0), .int (nI sp), .ref ao, .int (nI tm)])), (an, .inl (G.2.1, 525, .inl (gn nw))), (ac, .inl (G.2.1, 256, .inl (gn u.1))), (aw, .inl (G.2.1, 256, .inl (gn u.2)))]) 0 0 := by
  refine gMet_mk (cc := cX4_plots) (nL := 1) (ret := (some .int)) (Qc := fun A => va_Qi (S := (Nat → Nat) × (Nat → Nat)) (fun (r : Int32) (u : (Nat → Nat) × (Nat → Nat)) => (r = nI (cnt nw))) (gB G A (fun (u : (Nat → Nat) × (Nat → Nat)) => [(mq, .inr (4, [.ref an, .ref ap, .int (nI st), .ref ak, .ref ai, .ref ad, .ref ac, .ref aw, .int (nI (cnt nw)), .ref at_, .int (nI le), .int (nI 0), .int (nI sp), .ref ao, .int (nI tm)])), (an, .inl (G.2.1, 525, .inl (gn nw))), (ac, .inl (G.2.1, 256, .inl (gn u.1))), (aw, .inl (G.2.1, 256, .inl (gn u.2)))])) A) (by decide) rfl (Nat.le_of_ble_eq_true rfl) ?_
  intro p e s m args below meth c A F ls hl hP hD hS
  have hx := F.1
  have hb := F.2.1
  have hts := F.2.2.2.2.2.2.1
  have hown : s.vm.findClass RX4 = some m.cls := F.2.2.2.2.2.1
  have hKK := F.2.2.2.2.2.2.2.2.1
  have hK := hKK.1
  have hin0 := F.2.2.2.2.2.2.2.1
  have hi4 : ∀ w ∈ u_ws RX4 TX4 15, w ∈ wsX4_plots := by decide +kernel
  have hl : lv_has ls 1 [(0, .ref mq)] := hl
  generalize hH : s.heap = H at hP ⊢
  have hS : va_S A s.heap H [] := by rw [← hH]; exact va_S.rf
  generalize hLo : ([] : List Loc) = locs at hS ⊢
  refine lv_aload_n hx hb dX4_plots_0 rfl (lv_at hl 0 rfl) ?_
  refine lv_iconst (v := nI 0) hx hb dX4_plots_1 (by decide) ?_
  refine va_put (D := G.1) (ci := 4) (v := .int (nI 0)) (ty := .int) (C := RX4) (T := TX4) (N := 15) hx hb hts hi4 tyX4 tyX4_ok nmX4 hown hK hP hD hS 0 rfl rfl 11 (by decide) (hts (.fieldLink RX4 37 "LandQuartersModel" "thrown" "I") (by decide +kernel)) (fun _ h9 => h9) rfl (by decide +kernel) (rfl) (rfl) (Nat.le_of_ble_eq_true rfl) dX4_plots_2 (fun H locs hP hD hS => ?_)
  have hP : va_P G.1 vwCl [(mq, .inr (4, [.ref an, .ref ap, .int (nI st), .ref ak, .ref ai, .ref ad, .ref ac, .ref aw, .int (nI mn), .ref at_, .int (nI le), .int (nI 0), .int (nI sp), .ref ao, .int (nI tm)])), (an, .inl (G.2.1, 525, .inl (gn nw))), (ac, .inl (G.2.1, 256, .inl (gn pC))), (aw, .inl (G.2.1, 256, .inl (gn pW)))] H := hP
  have hD : va_D A [(mq, .inr (4, [.ref an, .ref ap, .int (nI st), .ref ak, .ref ai, .ref ad, .ref ac, .ref aw, .int (nI mn), .ref at_, .int (nI le), .int (nI 0), .int (nI sp), .ref ao, .int (nI tm)])), (an, .inl (G.2.1, 525, .inl (gn nw))), (ac, .inl (G.2.1, 256, .inl (gn pC))), (aw, .inl (G.2.1, 256, .inl (gn pW)))] := hD
  refine lv_aload_n hx hb dX4_plots_5 rfl (lv_at hl 0 rfl) ?_
  refine gCi F (gRunV (own := RX4) (C := RX4) (ci := 4) (bytes := cX4_allPlots) (n := 0) (As := []) (rest := []) F (c_X4_allPlots l G mq an ap st ak ai ad ac aw mn at_ le 0 sp ao tm nw pC pW (by first | assumption | omega) H.size) gX4_plots_X4_allPlots rfl rfl rfl rfl (by decide +kernel) rfl ⟨Nat.le_of_ble_eq_true rfl, Nat.le_of_ble_eq_true rfl⟩ hP hD (lit := [(mq, .inr (4, [.ref an, .ref ap, .int (nI st), .ref ak, .ref ai, .ref ad, .ref ac, .ref aw, .int (nI mn), .ref at_, .int (nI le), .int (nI 0), .int (nI sp), .ref ao, .int (nI tm)])), (an, .inl (G.2.1, 525, .inl (gn nw))), (ac, .inl (G.2.1, 256, .inl (gn pC))), (aw, .inl (G.2.1, 256, .inl (gn pW)))]) (wt := []) (wc := [(mq, .inr (4, [.ref an, .ref ap, .int (nI st), .ref ak, .ref ai, .ref ad, .ref ac, .ref aw, .int (nI mn), .ref at_, .int (nI le), .int (nI 0), .int (nI sp), .ref ao, .int (nI tm)])), (an, .inl (G.2.1, 525, .inl (gn nw))), (ac, .inl (G.2.1, 256, .inl (gn pC))), (aw, .inl (G.2.1, 256, .inl (gn pW)))]) (isC := [0, 1, 2, 3]) rfl (by decide) rfl rfl rfl hl.1 (Nat.le_of_ble_eq_true rfl) dX4_plots_6 ⟨Nat.le_of_ble_eq_true rfl, Nat.le_of_ble_eq_true rfl⟩) hP hD hS (lit := [(mq, .inr (4, [.ref an, .ref ap, .int (nI st), .ref ak, .ref ai, .ref ad, .ref ac, .ref aw, .int (nI mn), .ref at_, .int (nI le), .int (nI 0), .int (nI sp), .ref ao, .int (nI tm)])), (an, .inl (G.2.1, 525, .inl (gn nw))), (ac, .inl (G.2.1, 256, .inl (gn pC))), (aw, .inl (G.2.1, 256, .inl (gn pW)))]) (wt := []) (wc := [(mq, .inr (4, [.ref an, .ref ap, .int (nI st), .ref ak, .ref ai, .ref ad, .ref ac, .ref aw, .int (nI mn), .ref at_, .int (nI le), .int (nI 0), .int (nI sp), .ref ao, .int (nI tm)])), (an, .inl (G.2.1, 525, .inl (gn nw))), (ac, .inl (G.2.1, 256, .inl (gn pC))), (aw, .inl (G.2.1, 256, .inl (gn pW)))]) (wr := []) (isC := [0, 1, 2, 3]) (isR := []) rfl rfl (by decide) (by decide) (fun r6 u H locs hp6 hP hD hS => ?_)
  obtain ⟨pc1, pw1⟩ := u
  try dsimp only at hp6
  obtain ⟨rfl, hp6_0⟩ := hp6
  have hP : va_P G.1 vwCl [(mq, .inr (4, [.ref an, .ref ap, .int (nI st), .ref ak, .ref ai, .ref ad, .ref ac, .ref aw, .int (nI (cnt nw)), .ref at_, .int (nI le), .int (nI 0), .int (nI sp), .ref ao, .int (nI tm)])), (an, .inl (G.2.1, 525, .inl (gn nw))), (ac, .inl (G.2.1, 256, .inl (gn pc1))), (aw, .inl (G.2.1, 256, .inl (gn pw1)))] H := hP
  have hD : va_D A [(mq, .inr (4, [.ref an, .ref ap, .int (nI st), .ref ak, .ref ai, .ref ad, .ref ac, .ref aw, .int (nI (cnt nw)), .ref at_, .int (nI le), .int (nI 0), .int (nI sp), .ref ao, .int (nI tm)])), (an, .inl (G.2.1, 525, .inl (gn nw))), (ac, .inl (G.2.1, 256, .inl (gn pc1))), (aw, .inl (G.2.1, 256, .inl (gn pw1)))] := hD
  exact gRi F dX4_plots_9 (rfl) (pc1, pw1) (rfl) hP hD hS (Nat.le_refl _) (Nat.le_refl _)

set_option maxHeartbeats 4000000 in
set_option maxRecDepth 100000 in
theorem c_X4_plotOwner (l : Launch) (G : gG) (mq : Nat) (an : Nat) (ap : Nat) (st : Nat) (ak : Nat) (ai : Nat) (ad : Nat) (ac : Nat) (aw : Nat) (mn : Nat) (at_ : Nat) (le : Nat) (th : Nat) (sp : Nat) (ao : Nat) (tm : Nat) (nw : Nat → Nat) (pC : Nat → Nat) (pW : Nat → Nat) (rr : Nat) (how : ∀ k, k < 256 → nw k < 8) (hr : rr < cnt nw) : gMi (S := (Nat → Nat) × (Nat → Nat)) l yX4_plotOwner wsX4_plotOwner { frames := 4, cells := 0, slots := 0, locals := 87 } G [.ref mq, .int (nI rr)] [(mq, .inr (4, [.ref an, .ref ap, .int (nI st), .ref ak, .ref ai, .ref ad, .ref ac, .ref aw, .int (nI mn), .ref at_, .int (nI le), .int (nI th), .int (nI sp), .ref ao, .int (nI tm)])), (an, .inl (G.2.1, 525, .inl (gn nw))), (ac, .inl (G.2.1, 256, .inl (gn pC))), (aw, .inl (G.2.1, 256, .inl (gn pW)))] (fun (r : Int32) (u : (Nat → Nat) × (Nat → Nat)) => (r = nI (svO nw rr))) (fun u => [(mq, .inr (4, [.ref an, .ref ap, .int (nI st), .ref ak, .ref ai, .ref ad, .ref ac, .ref aw, .int (nI (cnt nw)), .ref at_, .int (nI le), .int (nI 0), .int (nI sp), .ref ao, .int (nI tm)])), (an, .inl (G.2.1, 525, .inl (gn nw))), (ac, .inl (G.2.1, 256, .inl (gn u.1))), (aw, .inl (G.2.1, 256, .inl (gn u.2)))]) 0 0 := by
  refine gMet_mk (cc := cX4_plotOwner) (nL := 2) (ret := (some .int)) (Qc := fun A => va_Qi (S := (Nat → Nat) × (Nat → Nat)) (fun (r : Int32) (u : (Nat → Nat) × (Nat → Nat)) => (r = nI (svO nw rr))) (gB G A (fun (u : (Nat → Nat) × (Nat → Nat)) => [(mq, .inr (4, [.ref an, .ref ap, .int (nI st), .ref ak, .ref ai, .ref ad, .ref ac, .ref aw, .int (nI (cnt nw)), .ref at_, .int (nI le), .int (nI 0), .int (nI sp), .ref ao, .int (nI tm)])), (an, .inl (G.2.1, 525, .inl (gn nw))), (ac, .inl (G.2.1, 256, .inl (gn u.1))), (aw, .inl (G.2.1, 256, .inl (gn u.2)))])) A) (by decide) rfl (Nat.le_of_ble_eq_true rfl) ?_
  intro p e s m args below meth c A F ls hl hP hD hS
  have hx := F.1
  have hb := F.2.1
  have hts := F.2.2.2.2.2.2.1
  have hown : s.vm.findClass RX4 = some m.cls := F.2.2.2.2.2.1
  have hKK := F.2.2.2.2.2.2.2.2.1
  have hK := hKK.1
  have hin0 := F.2.2.2.2.2.2.2.1
  have hi4 : ∀ w ∈ u_ws RX4 TX4 15, w ∈ wsX4_plotOwner := by decide +kernel
  have hl : lv_has ls 2 [(0, .ref mq), (1, .int (nI rr))] := hl
  have hcl := cnt_le nw
  have hmc := mc_lt (gP nw rr)
  have hmx := mc_xy (gP nw rr)
  generalize hH : s.heap = H at hP ⊢
  have hS : va_S A s.heap H [] := by rw [← hH]; exact va_S.rf
  generalize hLo : ([] : List Loc) = locs at hS ⊢
  refine lv_aload_n hx hb dX4_plotOwner_0 rfl (lv_at hl 0 rfl) ?_
  refine lv_iconst (v := nI 0) hx hb dX4_plotOwner_1 (by decide) ?_
  refine va_put (D := G.1) (ci := 4) (v := .int (nI 0)) (ty := .int) (C := RX4) (T := TX4) (N := 15) hx hb hts hi4 tyX4 tyX4_ok nmX4 hown hK hP hD hS 0 rfl rfl 11 (by decide) (hts (.fieldLink RX4 37 "LandQuartersModel" "thrown" "I") (by decide +kernel)) (fun _ h9 => h9) rfl (by decide +kernel) (rfl) (rfl) (Nat.le_of_ble_eq_true rfl) dX4_plotOwner_2 (fun H locs hP hD hS => ?_)
  have hP : va_P G.1 vwCl [(mq, .inr (4, [.ref an, .ref ap, .int (nI st), .ref ak, .ref ai, .ref ad, .ref ac, .ref aw, .int (nI mn), .ref at_, .int (nI le), .int (nI 0), .int (nI sp), .ref ao, .int (nI tm)])), (an, .inl (G.2.1, 525, .inl (gn nw))), (ac, .inl (G.2.1, 256, .inl (gn pC))), (aw, .inl (G.2.1, 256, .inl (gn pW)))] H := hP
  have hD : va_D A [(mq, .inr (4, [.ref an, .ref ap, .int (nI st), .ref ak, .ref ai, .ref ad, .ref ac, .ref aw, .int (nI mn), .ref at_, .int (nI le), .int (nI 0), .int (nI sp), .ref ao, .int (nI tm)])), (an, .inl (G.2.1, 525, .inl (gn nw))), (ac, .inl (G.2.1, 256, .inl (gn pC))), (aw, .inl (G.2.1, 256, .inl (gn pW)))] := hD
  refine lv_aload_n hx hb dX4_plotOwner_5 rfl (lv_at hl 0 rfl) ?_
  refine lv_iload_n hx hb dX4_plotOwner_6 rfl (lv_at hl 1 rfl) ?_
  refine W.eq (g2 := F0 m 7 ls [.int (zI ((rr : Nat) : Int)), .ref mq]) (by simp only [zI_nat, zI_neg1]) ?_
  refine gCi F (gRunV (own := RX4) (C := RX4) (ci := 4) (bytes := cX4_isPlot) (n := 1) (As := [.int (zI ((rr : Nat) : Int))]) (rest := []) F (c_X4_isPlot l G mq an ap st ak ai ad ac aw mn at_ le 0 sp ao tm nw pC pW ((rr : Nat) : Int) (by first | assumption | omega) (by first | assumption | omega) H.size) gX4_plotOwner_X4_isPlot rfl rfl rfl rfl (by decide +kernel) rfl ⟨Nat.le_of_ble_eq_true rfl, Nat.le_of_ble_eq_true rfl⟩ hP hD (lit := [(mq, .inr (4, [.ref an, .ref ap, .int (nI st), .ref ak, .ref ai, .ref ad, .ref ac, .ref aw, .int (nI mn), .ref at_, .int (nI le), .int (nI 0), .int (nI sp), .ref ao, .int (nI tm)])), (an, .inl (G.2.1, 525, .inl (gn nw))), (ac, .inl (G.2.1, 256, .inl (gn pC))), (aw, .inl (G.2.1, 256, .inl (gn pW)))]) (wt := []) (wc := [(mq, .inr (4, [.ref an, .ref ap, .int (nI st), .ref ak, .ref ai, .ref ad, .ref ac, .ref aw, .int (nI mn), .ref at_, .int (nI le), .int (nI 0), .int (nI sp), .ref ao, .int (nI tm)])), (an, .inl (G.2.1, 525, .inl (gn nw))), (ac, .inl (G.2.1, 256, .inl (gn pC))), (aw, .inl (G.2.1, 256, .inl (gn pW)))]) (isC := [0, 1, 2, 3]) rfl (by decide) rfl rfl rfl hl.1 (Nat.le_of_ble_eq_true rfl) dX4_plotOwner_7 ⟨Nat.le_of_ble_eq_true rfl, Nat.le_of_ble_eq_true rfl⟩) hP hD hS (lit := [(mq, .inr (4, [.ref an, .ref ap, .int (nI st), .ref ak, .ref ai, .ref ad, .ref ac, .ref aw, .int (nI mn), .ref at_, .int (nI le), .int (nI 0), .int (nI sp), .ref ao, .int (nI tm)])), (an, .inl (G.2.1, 525, .inl (gn nw))), (ac, .inl (G.2.1, 256, .inl (gn pC))), (aw, .inl (G.2.1, 256, .inl (gn pW)))]) (wt := []) (wc := [(mq, .inr (4, [.ref an, .ref ap, .int (nI st), .ref ak, .ref ai, .ref ad, .ref ac, .ref aw, .int (nI mn), .ref at_, .int (nI le), .int (nI 0), .int (nI sp), .ref ao, .int (nI tm)])), (an, .inl (G.2.1, 525, .inl (gn nw))), (ac, .inl (G.2.1, 256, .inl (gn pC))), (aw, .inl (G.2.1, 256, .inl (gn pW)))]) (wr := []) (isC := [0, 1, 2, 3]) (isR := []) rfl rfl (by decide) (by decide) (fun r7 u H locs hp7 hP hD hS => ?_)
  obtain ⟨pc1, pw1⟩ := u
  try dsimp only at hp7
  obtain ⟨rfl, hp7_0⟩ := hp7
  have hP : va_P G.1 vwCl [(mq, .inr (4, [.ref an, .ref ap, .int (nI st), .ref ak, .ref ai, .ref ad, .ref ac, .ref aw, .int (nI (cnt nw)), .ref at_, .int (nI le), .int (nI 0), .int (nI sp), .ref ao, .int (nI tm)])), (an, .inl (G.2.1, 525, .inl (gn nw))), (ac, .inl (G.2.1, 256, .inl (gn pc1))), (aw, .inl (G.2.1, 256, .inl (gn pw1)))] H := hP
  have hD : va_D A [(mq, .inr (4, [.ref an, .ref ap, .int (nI st), .ref ak, .ref ai, .ref ad, .ref ac, .ref aw, .int (nI (cnt nw)), .ref at_, .int (nI le), .int (nI 0), .int (nI sp), .ref ao, .int (nI tm)])), (an, .inl (G.2.1, 525, .inl (gn nw))), (ac, .inl (G.2.1, 256, .inl (gn pc1))), (aw, .inl (G.2.1, 256, .inl (gn pw1)))] := hD
  refine gIfB_eq (P := (0 ≤ ((rr : Nat) : Int) ∧ ((rr : Nat) : Int) < (cnt nw : Int))) (tgt := 21) hx hb dX4_plotOwner_10 (by decide) (fun c10 => ?_) (fun c10 => ?_)
  · skip
    refine lv_aload_n hx hb dX4_plotOwner_21 rfl (lv_at hl 0 rfl) ?_
    refine lv_iconst (v := nI 1) hx hb dX4_plotOwner_22 (by decide) ?_
    exfalso; omega
  refine lv_aload_n hx hb dX4_plotOwner_13 rfl (lv_at hl 0 rfl) ?_
  refine lv_iload_n hx hb dX4_plotOwner_14 rfl (lv_at hl 1 rfl) ?_
  refine gCi F (gRunV (own := RX4) (C := RX4) (ci := 4) (bytes := cX4_ownerOf) (n := 1) (As := [.int (nI rr)]) (rest := []) F (c_X4_ownerOf l G mq an ap st ak ai ad ac aw (cnt nw) at_ le 0 sp ao tm nw pc1 rr (by omega) (by rw [(hp7_0 _ hr).1]; omega) H.size) gX4_plotOwner_X4_ownerOf rfl rfl rfl rfl (by decide +kernel) rfl ⟨Nat.le_of_ble_eq_true rfl, Nat.le_of_ble_eq_true rfl⟩ hP hD (lit := [(mq, .inr (4, [.ref an, .ref ap, .int (nI st), .ref ak, .ref ai, .ref ad, .ref ac, .ref aw, .int (nI (cnt nw)), .ref at_, .int (nI le), .int (nI 0), .int (nI sp), .ref ao, .int (nI tm)])), (an, .inl (G.2.1, 525, .inl (gn nw))), (ac, .inl (G.2.1, 256, .inl (gn pc1))), (aw, .inl (G.2.1, 256, .inl (gn pw1)))]) (wt := []) (wc := [(mq, .inr (4, [.ref an, .ref ap, .int (nI st), .ref ak, .ref ai, .ref ad, .ref ac, .ref aw, .int (nI (cnt nw)), .ref at_, .int (nI le), .int (nI 0), .int (nI sp), .ref ao, .int (nI tm)])), (an, .inl (G.2.1, 525, .inl (gn nw))), (ac, .inl (G.2.1, 256, .inl (gn pc1)))]) (isC := [0, 1, 2]) rfl (by decide) rfl rfl rfl hl.1 (Nat.le_of_ble_eq_true rfl) dX4_plotOwner_15 ⟨Nat.le_of_ble_eq_true rfl, Nat.le_of_ble_eq_true rfl⟩) hP hD hS (lit := [(mq, .inr (4, [.ref an, .ref ap, .int (nI st), .ref ak, .ref ai, .ref ad, .ref ac, .ref aw, .int (nI (cnt nw)), .ref at_, .int (nI le), .int (nI 0), .int (nI sp), .ref ao, .int (nI tm)])), (an, .inl (G.2.1, 525, .inl (gn nw))), (ac, .inl (G.2.1, 256, .inl (gn pc1))), (aw, .inl (G.2.1, 256, .inl (gn pw1)))]) (wt := []) (wc := [(mq, .inr (4, [.ref an, .ref ap, .int (nI st), .ref ak, .ref ai, .ref ad, .ref ac, .ref aw, .int (nI (cnt nw)), .ref at_, .int (nI le), .int (nI 0), .int (nI sp), .ref ao, .int (nI tm)])), (an, .inl (G.2.1, 525, .inl (gn nw))), (ac, .inl (G.2.1, 256, .inl (gn pc1)))]) (wr := [(aw, .inl (G.2.1, 256, .inl (gn pw1)))]) (isC := [0, 1, 2]) (isR := [3]) rfl rfl (by decide) (by decide) (fun r15 u H locs hp15 hP hD hS => ?_)
  subst hp15
  have hP : va_P G.1 vwCl [(aw, .inl (G.2.1, 256, .inl (gn pw1))), (mq, .inr (4, [.ref an, .ref ap, .int (nI st), .ref ak, .ref ai, .ref ad, .ref ac, .ref aw, .int (nI (cnt nw)), .ref at_, .int (nI le), .int (nI 0), .int (nI sp), .ref ao, .int (nI tm)])), (an, .inl (G.2.1, 525, .inl (gn nw))), (ac, .inl (G.2.1, 256, .inl (gn pc1)))] H := hP
  have hD : va_D A [(aw, .inl (G.2.1, 256, .inl (gn pw1))), (mq, .inr (4, [.ref an, .ref ap, .int (nI st), .ref ak, .ref ai, .ref ad, .ref ac, .ref aw, .int (nI (cnt nw)), .ref at_, .int (nI le), .int (nI 0), .int (nI sp), .ref ao, .int (nI tm)])), (an, .inl (G.2.1, 525, .inl (gn nw))), (ac, .inl (G.2.1, 256, .inl (gn pc1)))] := hD
  refine W.eq (g2 := F0 m 18 ls [.int (nI (svO nw rr))]) (by rw [show (nI (nw (pc1 rr)) : Int32) = nI (svO nw rr) from by rw [svO, (hp7_0 _ hr).1]]) ?_
  refine lv_goto (tgt := 26) hx hb dX4_plotOwner_18 (by decide) ?_
  have hP : va_P G.1 vwCl [(mq, .inr (4, [.ref an, .ref ap, .int (nI st), .ref ak, .ref ai, .ref ad, .ref ac, .ref aw, .int (nI (cnt nw)), .ref at_, .int (nI le), .int (nI 0), .int (nI sp), .ref ao, .int (nI tm)])), (an, .inl (G.2.1, 525, .inl (gn nw))), (ac, .inl (G.2.1, 256, .inl (gn pc1))), (aw, .inl (G.2.1, 256, .inl (gn pw1)))] H := hP.sub (ws' := [(mq, .inr (4, [.ref an, .ref ap, .int (nI st), .ref ak, .ref ai, .ref ad, .ref ac, .ref aw, .int (nI (cnt nw)), .ref at_, .int (nI le), .int (nI 0), .int (nI sp), .ref ao, .int (nI tm)])), (an, .inl (G.2.1, 525, .inl (gn nw))), (ac, .inl (G.2.1, 256, .inl (gn pc1))), (aw, .inl (G.2.1, 256, .inl (gn pw1)))]) [1, 2, 3, 0] rfl
  have hD : va_D A [(mq, .inr (4, [.ref an, .ref ap, .int (nI st), .ref ak, .ref ai, .ref ad, .ref ac, .ref aw, .int (nI (cnt nw)), .ref at_, .int (nI le), .int (nI 0), .int (nI sp), .ref ao, .int (nI tm)])), (an, .inl (G.2.1, 525, .inl (gn nw))), (ac, .inl (G.2.1, 256, .inl (gn pc1))), (aw, .inl (G.2.1, 256, .inl (gn pw1)))] := hD.sub (ws' := [(mq, .inr (4, [.ref an, .ref ap, .int (nI st), .ref ak, .ref ai, .ref ad, .ref ac, .ref aw, .int (nI (cnt nw)), .ref at_, .int (nI le), .int (nI 0), .int (nI sp), .ref ao, .int (nI tm)])), (an, .inl (G.2.1, 525, .inl (gn nw))), (ac, .inl (G.2.1, 256, .inl (gn pc1))), (aw, .inl (G.2.1, 256, .inl (gn pw1)))]) [1, 2, 3, 0] (by decide) rfl
  exact gRi F dX4_plotOwner_26 (rfl) (pc1, pw1) (rfl) hP hD hS (Nat.le_refl _) (Nat.le_refl _)

set_option maxHeartbeats 4000000 in
set_option maxRecDepth 100000 in
theorem f1_X4_plotOwner (l : Launch) (G : gG) (mq : Nat) (an : Nat) (ap : Nat) (st : Nat) (ak : Nat) (ai : Nat) (ad : Nat) (ac : Nat) (aw : Nat) (mn : Nat) (at_ : Nat) (le : Nat) (th : Nat) (sp : Nat) (ao : Nat) (tm : Nat) (nw : Nat → Nat) (pC : Nat → Nat) (pW : Nat → Nat) (rr : Int) (hrr : -2147483648 ≤ rr ∧ rr < 2147483648) (how : ∀ k, k < 256 → nw k < 8) (hcond0 : ¬ (0 ≤ rr ∧ rr < (cnt nw : Int))) : gMi (S := (Nat → Nat) × (Nat → Nat)) l yX4_plotOwner wsX4_plotOwner { frames := 4, cells := 0, slots := 0, locals := 87 } G [.ref mq, .int (zI rr)] [(mq, .inr (4, [.ref an, .ref ap, .int (nI st), .ref ak, .ref ai, .ref ad, .ref ac, .ref aw, .int (nI mn), .ref at_, .int (nI le), .int (nI th), .int (nI sp), .ref ao, .int (nI tm)])), (an, .inl (G.2.1, 525, .inl (gn nw))), (ac, .inl (G.2.1, 256, .inl (gn pC))), (aw, .inl (G.2.1, 256, .inl (gn pW)))] (fun (r : Int32) (u : (Nat → Nat) × (Nat → Nat)) => (r = nI 0)) (fun u => [(mq, .inr (4, [.ref an, .ref ap, .int (nI st), .ref ak, .ref ai, .ref ad, .ref ac, .ref aw, .int (nI (cnt nw)), .ref at_, .int (nI le), .int (nI 1), .int (nI sp), .ref ao, .int (nI tm)])), (an, .inl (G.2.1, 525, .inl (gn nw))), (ac, .inl (G.2.1, 256, .inl (gn u.1))), (aw, .inl (G.2.1, 256, .inl (gn u.2)))]) 0 0 := by
  refine gMet_mk (cc := cX4_plotOwner) (nL := 2) (ret := (some .int)) (Qc := fun A => va_Qi (S := (Nat → Nat) × (Nat → Nat)) (fun (r : Int32) (u : (Nat → Nat) × (Nat → Nat)) => (r = nI 0)) (gB G A (fun (u : (Nat → Nat) × (Nat → Nat)) => [(mq, .inr (4, [.ref an, .ref ap, .int (nI st), .ref ak, .ref ai, .ref ad, .ref ac, .ref aw, .int (nI (cnt nw)), .ref at_, .int (nI le), .int (nI 1), .int (nI sp), .ref ao, .int (nI tm)])), (an, .inl (G.2.1, 525, .inl (gn nw))), (ac, .inl (G.2.1, 256, .inl (gn u.1))), (aw, .inl (G.2.1, 256, .inl (gn u.2)))])) A) (by decide) rfl (Nat.le_of_ble_eq_true rfl) ?_
  intro p e s m args below meth c A F ls hl hP hD hS
  have hx := F.1
  have hb := F.2.1
  have hts := F.2.2.2.2.2.2.1
  have hown : s.vm.findClass RX4 = some m.cls := F.2.2.2.2.2.1
  have hKK := F.2.2.2.2.2.2.2.2.1
  have hK := hKK.1
  have hin0 := F.2.2.2.2.2.2.2.1
  have hi4 : ∀ w ∈ u_ws RX4 TX4 15, w ∈ wsX4_plotOwner := by decide +kernel
  have hl : lv_has ls 2 [(0, .ref mq), (1, .int (zI rr))] := hl
  generalize hH : s.heap = H at hP ⊢
  have hS : va_S A s.heap H [] := by rw [← hH]; exact va_S.rf
  generalize hLo : ([] : List Loc) = locs at hS ⊢
  refine lv_aload_n hx hb dX4_plotOwner_0 rfl (lv_at hl 0 rfl) ?_
  refine lv_iconst (v := nI 0) hx hb dX4_plotOwner_1 (by decide) ?_
  refine va_put (D := G.1) (ci := 4) (v := .int (nI 0)) (ty := .int) (C := RX4) (T := TX4) (N := 15) hx hb hts hi4 tyX4 tyX4_ok nmX4 hown hK hP hD hS 0 rfl rfl 11 (by decide) (hts (.fieldLink RX4 37 "LandQuartersModel" "thrown" "I") (by decide +kernel)) (fun _ h9 => h9) rfl (by decide +kernel) (rfl) (rfl) (Nat.le_of_ble_eq_true rfl) dX4_plotOwner_2 (fun H locs hP hD hS => ?_)
  have hP : va_P G.1 vwCl [(mq, .inr (4, [.ref an, .ref ap, .int (nI st), .ref ak, .ref ai, .ref ad, .ref ac, .ref aw, .int (nI mn), .ref at_, .int (nI le), .int (nI 0), .int (nI sp), .ref ao, .int (nI tm)])), (an, .inl (G.2.1, 525, .inl (gn nw))), (ac, .inl (G.2.1, 256, .inl (gn pC))), (aw, .inl (G.2.1, 256, .inl (gn pW)))] H := hP
  have hD : va_D A [(mq, .inr (4, [.ref an, .ref ap, .int (nI st), .ref ak, .ref ai, .ref ad, .ref ac, .ref aw, .int (nI mn), .ref at_, .int (nI le), .int (nI 0), .int (nI sp), .ref ao, .int (nI tm)])), (an, .inl (G.2.1, 525, .inl (gn nw))), (ac, .inl (G.2.1, 256, .inl (gn pC))), (aw, .inl (G.2.1, 256, .inl (gn pW)))] := hD
  refine lv_aload_n hx hb dX4_plotOwner_5 rfl (lv_at hl 0 rfl) ?_
  refine lv_iload_n hx hb dX4_plotOwner_6 rfl (lv_at hl 1 rfl) ?_
  refine gCi F (gRunV (own := RX4) (C := RX4) (ci := 4) (bytes := cX4_isPlot) (n := 1) (As := [.int (zI rr)]) (rest := []) F (c_X4_isPlot l G mq an ap st ak ai ad ac aw mn at_ le 0 sp ao tm nw pC pW rr (by first | assumption | omega) (by first | assumption | omega) H.size) gX4_plotOwner_X4_isPlot rfl rfl rfl rfl (by decide +kernel) rfl ⟨Nat.le_of_ble_eq_true rfl, Nat.le_of_ble_eq_true rfl⟩ hP hD (lit := [(mq, .inr (4, [.ref an, .ref ap, .int (nI st), .ref ak, .ref ai, .ref ad, .ref ac, .ref aw, .int (nI mn), .ref at_, .int (nI le), .int (nI 0), .int (nI sp), .ref ao, .int (nI tm)])), (an, .inl (G.2.1, 525, .inl (gn nw))), (ac, .inl (G.2.1, 256, .inl (gn pC))), (aw, .inl (G.2.1, 256, .inl (gn pW)))]) (wt := []) (wc := [(mq, .inr (4, [.ref an, .ref ap, .int (nI st), .ref ak, .ref ai, .ref ad, .ref ac, .ref aw, .int (nI mn), .ref at_, .int (nI le), .int (nI 0), .int (nI sp), .ref ao, .int (nI tm)])), (an, .inl (G.2.1, 525, .inl (gn nw))), (ac, .inl (G.2.1, 256, .inl (gn pC))), (aw, .inl (G.2.1, 256, .inl (gn pW)))]) (isC := [0, 1, 2, 3]) rfl (by decide) rfl rfl rfl hl.1 (Nat.le_of_ble_eq_true rfl) dX4_plotOwner_7 ⟨Nat.le_of_ble_eq_true rfl, Nat.le_of_ble_eq_true rfl⟩) hP hD hS (lit := [(mq, .inr (4, [.ref an, .ref ap, .int (nI st), .ref ak, .ref ai, .ref ad, .ref ac, .ref aw, .int (nI mn), .ref at_, .int (nI le), .int (nI 0), .int (nI sp), .ref ao, .int (nI tm)])), (an, .inl (G.2.1, 525, .inl (gn nw))), (ac, .inl (G.2.1, 256, .inl (gn pC))), (aw, .inl (G.2.1, 256, .inl (gn pW)))]) (wt := []) (wc := [(mq, .inr (4, [.ref an, .ref ap, .int (nI st), .ref ak, .ref ai, .ref ad, .ref ac, .ref aw, .int (nI mn), .ref at_, .int (nI le), .int (nI 0), .int (nI sp), .ref ao, .int (nI tm)])), (an, .inl (G.2.1, 525, .inl (gn nw))), (ac, .inl (G.2.1, 256, .inl (gn pC))), (aw, .inl (G.2.1, 256, .inl (gn pW)))]) (wr := []) (isC := [0, 1, 2, 3]) (isR := []) rfl rfl (by decide) (by decide) (fun r7 u H locs hp7 hP hD hS => ?_)
  obtain ⟨pc1, pw1⟩ := u
  try dsimp only at hp7
  obtain ⟨rfl, hp7_0⟩ := hp7
  have hP : va_P G.1 vwCl [(mq, .inr (4, [.ref an, .ref ap, .int (nI st), .ref ak, .ref ai, .ref ad, .ref ac, .ref aw, .int (nI (cnt nw)), .ref at_, .int (nI le), .int (nI 0), .int (nI sp), .ref ao, .int (nI tm)])), (an, .inl (G.2.1, 525, .inl (gn nw))), (ac, .inl (G.2.1, 256, .inl (gn pc1))), (aw, .inl (G.2.1, 256, .inl (gn pw1)))] H := hP
  have hD : va_D A [(mq, .inr (4, [.ref an, .ref ap, .int (nI st), .ref ak, .ref ai, .ref ad, .ref ac, .ref aw, .int (nI (cnt nw)), .ref at_, .int (nI le), .int (nI 0), .int (nI sp), .ref ao, .int (nI tm)])), (an, .inl (G.2.1, 525, .inl (gn nw))), (ac, .inl (G.2.1, 256, .inl (gn pc1))), (aw, .inl (G.2.1, 256, .inl (gn pw1)))] := hD
  refine gIfB_eq (P := (0 ≤ rr ∧ rr < (cnt nw : Int))) (tgt := 21) hx hb dX4_plotOwner_10 (by decide) (fun c10 => ?_) (fun c10 => ?_)
  · skip
    refine lv_aload_n hx hb dX4_plotOwner_21 rfl (lv_at hl 0 rfl) ?_
    refine lv_iconst (v := nI 1) hx hb dX4_plotOwner_22 (by decide) ?_
    refine gCi F (gRunV (own := RX4) (C := RX4) (ci := 4) (bytes := cX4_refuses) (n := 1) (As := [.int (nI 1)]) (rest := []) F (c_X4_refuses l G mq an ap st ak ai ad ac aw (cnt nw) at_ le 0 sp ao tm 1  H.size) gX4_plotOwner_X4_refuses rfl rfl rfl rfl (by decide +kernel) rfl ⟨Nat.le_of_ble_eq_true rfl, Nat.le_of_ble_eq_true rfl⟩ hP hD (lit := [(mq, .inr (4, [.ref an, .ref ap, .int (nI st), .ref ak, .ref ai, .ref ad, .ref ac, .ref aw, .int (nI (cnt nw)), .ref at_, .int (nI le), .int (nI 0), .int (nI sp), .ref ao, .int (nI tm)])), (an, .inl (G.2.1, 525, .inl (gn nw))), (ac, .inl (G.2.1, 256, .inl (gn pc1))), (aw, .inl (G.2.1, 256, .inl (gn pw1)))]) (wt := []) (wc := [(mq, .inr (4, [.ref an, .ref ap, .int (nI st), .ref ak, .ref ai, .ref ad, .ref ac, .ref aw, .int (nI (cnt nw)), .ref at_, .int (nI le), .int (nI 0), .int (nI sp), .ref ao, .int (nI tm)]))]) (isC := [0]) rfl (by decide) rfl rfl rfl hl.1 (Nat.le_of_ble_eq_true rfl) dX4_plotOwner_23 ⟨Nat.le_of_ble_eq_true rfl, Nat.le_of_ble_eq_true rfl⟩) hP hD hS (lit := [(mq, .inr (4, [.ref an, .ref ap, .int (nI st), .ref ak, .ref ai, .ref ad, .ref ac, .ref aw, .int (nI (cnt nw)), .ref at_, .int (nI le), .int (nI 0), .int (nI sp), .ref ao, .int (nI tm)])), (an, .inl (G.2.1, 525, .inl (gn nw))), (ac, .inl (G.2.1, 256, .inl (gn pc1))), (aw, .inl (G.2.1, 256, .inl (gn pw1)))]) (wt := []) (wc := [(mq, .inr (4, [.ref an, .ref ap, .int (nI st), .ref ak, .ref ai, .ref ad, .ref ac, .ref aw, .int (nI (cnt nw)), .ref at_, .int (nI le), .int (nI 0), .int (nI sp), .ref ao, .int (nI tm)]))]) (wr := [(an, .inl (G.2.1, 525, .inl (gn nw))), (ac, .inl (G.2.1, 256, .inl (gn pc1))), (aw, .inl (G.2.1, 256, .inl (gn pw1)))]) (isC := [0]) (isR := [1, 2, 3]) rfl rfl (by decide) (by decide) (fun r23 u H locs hp23 hP hD hS => ?_)
    subst hp23
    have hP : va_P G.1 vwCl [(an, .inl (G.2.1, 525, .inl (gn nw))), (ac, .inl (G.2.1, 256, .inl (gn pc1))), (aw, .inl (G.2.1, 256, .inl (gn pw1))), (mq, .inr (4, [.ref an, .ref ap, .int (nI st), .ref ak, .ref ai, .ref ad, .ref ac, .ref aw, .int (nI (cnt nw)), .ref at_, .int (nI le), .int (nI 1), .int (nI sp), .ref ao, .int (nI tm)]))] H := hP
    have hD : va_D A [(an, .inl (G.2.1, 525, .inl (gn nw))), (ac, .inl (G.2.1, 256, .inl (gn pc1))), (aw, .inl (G.2.1, 256, .inl (gn pw1))), (mq, .inr (4, [.ref an, .ref ap, .int (nI st), .ref ak, .ref ai, .ref ad, .ref ac, .ref aw, .int (nI (cnt nw)), .ref at_, .int (nI le), .int (nI 1), .int (nI sp), .ref ao, .int (nI tm)]))] := hD
    have hP : va_P G.1 vwCl [(mq, .inr (4, [.ref an, .ref ap, .int (nI st), .ref ak, .ref ai, .ref ad, .ref ac, .ref aw, .int (nI (cnt nw)), .ref at_, .int (nI le), .int (nI 1), .int (nI sp), .ref ao, .int (nI tm)])), (an, .inl (G.2.1, 525, .inl (gn nw))), (ac, .inl (G.2.1, 256, .inl (gn pc1))), (aw, .inl (G.2.1, 256, .inl (gn pw1)))] H := hP.sub (ws' := [(mq, .inr (4, [.ref an, .ref ap, .int (nI st), .ref ak, .ref ai, .ref ad, .ref ac, .ref aw, .int (nI (cnt nw)), .ref at_, .int (nI le), .int (nI 1), .int (nI sp), .ref ao, .int (nI tm)])), (an, .inl (G.2.1, 525, .inl (gn nw))), (ac, .inl (G.2.1, 256, .inl (gn pc1))), (aw, .inl (G.2.1, 256, .inl (gn pw1)))]) [3, 0, 1, 2] rfl
    have hD : va_D A [(mq, .inr (4, [.ref an, .ref ap, .int (nI st), .ref ak, .ref ai, .ref ad, .ref ac, .ref aw, .int (nI (cnt nw)), .ref at_, .int (nI le), .int (nI 1), .int (nI sp), .ref ao, .int (nI tm)])), (an, .inl (G.2.1, 525, .inl (gn nw))), (ac, .inl (G.2.1, 256, .inl (gn pc1))), (aw, .inl (G.2.1, 256, .inl (gn pw1)))] := hD.sub (ws' := [(mq, .inr (4, [.ref an, .ref ap, .int (nI st), .ref ak, .ref ai, .ref ad, .ref ac, .ref aw, .int (nI (cnt nw)), .ref at_, .int (nI le), .int (nI 1), .int (nI sp), .ref ao, .int (nI tm)])), (an, .inl (G.2.1, 525, .inl (gn nw))), (ac, .inl (G.2.1, 256, .inl (gn pc1))), (aw, .inl (G.2.1, 256, .inl (gn pw1)))]) [3, 0, 1, 2] (by decide) rfl
    exact gRi F dX4_plotOwner_26 (rfl) (pc1, pw1) (rfl) hP hD hS (Nat.le_refl _) (Nat.le_refl _)
  exfalso; omega

set_option maxHeartbeats 4000000 in
set_option maxRecDepth 100000 in
theorem c_X4_plotX (l : Launch) (G : gG) (mq : Nat) (an : Nat) (ap : Nat) (st : Nat) (ak : Nat) (ai : Nat) (ad : Nat) (ac : Nat) (aw : Nat) (mn : Nat) (at_ : Nat) (le : Nat) (th : Nat) (sp : Nat) (ao : Nat) (tm : Nat) (nw : Nat → Nat) (pC : Nat → Nat) (pW : Nat → Nat) (rr : Nat) (how : ∀ k, k < 256 → nw k < 8) (hr : rr < cnt nw) : gMi (S := (Nat → Nat) × (Nat → Nat)) l yX4_plotX wsX4_plotX { frames := 4, cells := 0, slots := 0, locals := 87 } G [.ref mq, .int (nI rr)] [(mq, .inr (4, [.ref an, .ref ap, .int (nI st), .ref ak, .ref ai, .ref ad, .ref ac, .ref aw, .int (nI mn), .ref at_, .int (nI le), .int (nI th), .int (nI sp), .ref ao, .int (nI tm)])), (an, .inl (G.2.1, 525, .inl (gn nw))), (ac, .inl (G.2.1, 256, .inl (gn pC))), (aw, .inl (G.2.1, 256, .inl (gn pW)))] (fun (r : Int32) (u : (Nat → Nat) × (Nat → Nat)) => (r = nI (mx (gP nw rr)))) (fun u => [(mq, .inr (4, [.ref an, .ref ap, .int (nI st), .ref ak, .ref ai, .ref ad, .ref ac, .ref aw, .int (nI (cnt nw)), .ref at_, .int (nI le), .int (nI 0), .int (nI sp), .ref ao, .int (nI tm)])), (an, .inl (G.2.1, 525, .inl (gn nw))), (ac, .inl (G.2.1, 256, .inl (gn u.1))), (aw, .inl (G.2.1, 256, .inl (gn u.2)))]) 0 0 := by
  refine gMet_mk (cc := cX4_plotX) (nL := 2) (ret := (some .int)) (Qc := fun A => va_Qi (S := (Nat → Nat) × (Nat → Nat)) (fun (r : Int32) (u : (Nat → Nat) × (Nat → Nat)) => (r = nI (mx (gP nw rr)))) (gB G A (fun (u : (Nat → Nat) × (Nat → Nat)) => [(mq, .inr (4, [.ref an, .ref ap, .int (nI st), .ref ak, .ref ai, .ref ad, .ref ac, .ref aw, .int (nI (cnt nw)), .ref at_, .int (nI le), .int (nI 0), .int (nI sp), .ref ao, .int (nI tm)])), (an, .inl (G.2.1, 525, .inl (gn nw))), (ac, .inl (G.2.1, 256, .inl (gn u.1))), (aw, .inl (G.2.1, 256, .inl (gn u.2)))])) A) (by decide) rfl (Nat.le_of_ble_eq_true rfl) ?_
  intro p e s m args below meth c A F ls hl hP hD hS
  have hx := F.1
  have hb := F.2.1
  have hts := F.2.2.2.2.2.2.1
  have hown : s.vm.findClass RX4 = some m.cls := F.2.2.2.2.2.1
  have hKK := F.2.2.2.2.2.2.2.2.1
  have hK := hKK.1
  have hin0 := F.2.2.2.2.2.2.2.1
  have hi4 : ∀ w ∈ u_ws RX4 TX4 15, w ∈ wsX4_plotX := by decide +kernel
  have hl : lv_has ls 2 [(0, .ref mq), (1, .int (nI rr))] := hl
  have hcl := cnt_le nw
  have hmc := mc_lt (gP nw rr)
  have hmx := mc_xy (gP nw rr)
  generalize hH : s.heap = H at hP ⊢
  have hS : va_S A s.heap H [] := by rw [← hH]; exact va_S.rf
  generalize hLo : ([] : List Loc) = locs at hS ⊢
  refine lv_aload_n hx hb dX4_plotX_0 rfl (lv_at hl 0 rfl) ?_
  refine lv_iconst (v := nI 0) hx hb dX4_plotX_1 (by decide) ?_
  refine va_put (D := G.1) (ci := 4) (v := .int (nI 0)) (ty := .int) (C := RX4) (T := TX4) (N := 15) hx hb hts hi4 tyX4 tyX4_ok nmX4 hown hK hP hD hS 0 rfl rfl 11 (by decide) (hts (.fieldLink RX4 37 "LandQuartersModel" "thrown" "I") (by decide +kernel)) (fun _ h9 => h9) rfl (by decide +kernel) (rfl) (rfl) (Nat.le_of_ble_eq_true rfl) dX4_plotX_2 (fun H locs hP hD hS => ?_)
  have hP : va_P G.1 vwCl [(mq, .inr (4, [.ref an, .ref ap, .int (nI st), .ref ak, .ref ai, .ref ad, .ref ac, .ref aw, .int (nI mn), .ref at_, .int (nI le), .int (nI 0), .int (nI sp), .ref ao, .int (nI tm)])), (an, .inl (G.2.1, 525, .inl (gn nw))), (ac, .inl (G.2.1, 256, .inl (gn pC))), (aw, .inl (G.2.1, 256, .inl (gn pW)))] H := hP
  have hD : va_D A [(mq, .inr (4, [.ref an, .ref ap, .int (nI st), .ref ak, .ref ai, .ref ad, .ref ac, .ref aw, .int (nI mn), .ref at_, .int (nI le), .int (nI 0), .int (nI sp), .ref ao, .int (nI tm)])), (an, .inl (G.2.1, 525, .inl (gn nw))), (ac, .inl (G.2.1, 256, .inl (gn pC))), (aw, .inl (G.2.1, 256, .inl (gn pW)))] := hD
  refine lv_aload_n hx hb dX4_plotX_5 rfl (lv_at hl 0 rfl) ?_
  refine lv_iload_n hx hb dX4_plotX_6 rfl (lv_at hl 1 rfl) ?_
  refine W.eq (g2 := F0 m 7 ls [.int (zI ((rr : Nat) : Int)), .ref mq]) (by simp only [zI_nat, zI_neg1]) ?_
  refine gCi F (gRunV (own := RX4) (C := RX4) (ci := 4) (bytes := cX4_isPlot) (n := 1) (As := [.int (zI ((rr : Nat) : Int))]) (rest := []) F (c_X4_isPlot l G mq an ap st ak ai ad ac aw mn at_ le 0 sp ao tm nw pC pW ((rr : Nat) : Int) (by first | assumption | omega) (by first | assumption | omega) H.size) gX4_plotX_X4_isPlot rfl rfl rfl rfl (by decide +kernel) rfl ⟨Nat.le_of_ble_eq_true rfl, Nat.le_of_ble_eq_true rfl⟩ hP hD (lit := [(mq, .inr (4, [.ref an, .ref ap, .int (nI st), .ref ak, .ref ai, .ref ad, .ref ac, .ref aw, .int (nI mn), .ref at_, .int (nI le), .int (nI 0), .int (nI sp), .ref ao, .int (nI tm)])), (an, .inl (G.2.1, 525, .inl (gn nw))), (ac, .inl (G.2.1, 256, .inl (gn pC))), (aw, .inl (G.2.1, 256, .inl (gn pW)))]) (wt := []) (wc := [(mq, .inr (4, [.ref an, .ref ap, .int (nI st), .ref ak, .ref ai, .ref ad, .ref ac, .ref aw, .int (nI mn), .ref at_, .int (nI le), .int (nI 0), .int (nI sp), .ref ao, .int (nI tm)])), (an, .inl (G.2.1, 525, .inl (gn nw))), (ac, .inl (G.2.1, 256, .inl (gn pC))), (aw, .inl (G.2.1, 256, .inl (gn pW)))]) (isC := [0, 1, 2, 3]) rfl (by decide) rfl rfl rfl hl.1 (Nat.le_of_ble_eq_true rfl) dX4_plotX_7 ⟨Nat.le_of_ble_eq_true rfl, Nat.le_of_ble_eq_true rfl⟩) hP hD hS (lit := [(mq, .inr (4, [.ref an, .ref ap, .int (nI st), .ref ak, .ref ai, .ref ad, .ref ac, .ref aw, .int (nI mn), .ref at_, .int (nI le), .int (nI 0), .int (nI sp), .ref ao, .int (nI tm)])), (an, .inl (G.2.1, 525, .inl (gn nw))), (ac, .inl (G.2.1, 256, .inl (gn pC))), (aw, .inl (G.2.1, 256, .inl (gn pW)))]) (wt := []) (wc := [(mq, .inr (4, [.ref an, .ref ap, .int (nI st), .ref ak, .ref ai, .ref ad, .ref ac, .ref aw, .int (nI mn), .ref at_, .int (nI le), .int (nI 0), .int (nI sp), .ref ao, .int (nI tm)])), (an, .inl (G.2.1, 525, .inl (gn nw))), (ac, .inl (G.2.1, 256, .inl (gn pC))), (aw, .inl (G.2.1, 256, .inl (gn pW)))]) (wr := []) (isC := [0, 1, 2, 3]) (isR := []) rfl rfl (by decide) (by decide) (fun r7 u H locs hp7 hP hD hS => ?_)
  obtain ⟨pc1, pw1⟩ := u
  try dsimp only at hp7
  obtain ⟨rfl, hp7_0⟩ := hp7
  have hP : va_P G.1 vwCl [(mq, .inr (4, [.ref an, .ref ap, .int (nI st), .ref ak, .ref ai, .ref ad, .ref ac, .ref aw, .int (nI (cnt nw)), .ref at_, .int (nI le), .int (nI 0), .int (nI sp), .ref ao, .int (nI tm)])), (an, .inl (G.2.1, 525, .inl (gn nw))), (ac, .inl (G.2.1, 256, .inl (gn pc1))), (aw, .inl (G.2.1, 256, .inl (gn pw1)))] H := hP
  have hD : va_D A [(mq, .inr (4, [.ref an, .ref ap, .int (nI st), .ref ak, .ref ai, .ref ad, .ref ac, .ref aw, .int (nI (cnt nw)), .ref at_, .int (nI le), .int (nI 0), .int (nI sp), .ref ao, .int (nI tm)])), (an, .inl (G.2.1, 525, .inl (gn nw))), (ac, .inl (G.2.1, 256, .inl (gn pc1))), (aw, .inl (G.2.1, 256, .inl (gn pw1)))] := hD
  refine gIfB_eq (P := (0 ≤ ((rr : Nat) : Int) ∧ ((rr : Nat) : Int) < (cnt nw : Int))) (tgt := 25) hx hb dX4_plotX_10 (by decide) (fun c10 => ?_) (fun c10 => ?_)
  · skip
    refine lv_aload_n hx hb dX4_plotX_25 rfl (lv_at hl 0 rfl) ?_
    refine lv_iconst (v := nI 1) hx hb dX4_plotX_26 (by decide) ?_
    exfalso; omega
  refine lv_aload_n hx hb dX4_plotX_13 rfl (lv_at hl 0 rfl) ?_
  refine va_get (D := G.1) (ci := 4) (v := .ref ac) (C := RX4) (T := TX4) (N := 15) hx hb hts hi4 hown hK hP 0 rfl rfl 6 (by decide) (hts (.fieldLink RX4 25 "LandQuartersModel" "plotCell" "[I") (by decide +kernel)) (fun _ h9 => h9) rfl dX4_plotX_14 ?_
  refine lv_iload_n hx hb dX4_plotX_17 rfl (lv_at hl 1 rfl) ?_
  refine gNald (k := rr) hx hb hK hP 2 0 rfl rfl (by omega) (by first | decide | omega) dX4_plotX_18 ?_
  refine W.eq (g2 := F0 m 19 ls [.int (nI (mc (gP nw rr)))]) (by rw [show (nI (pc1 rr) : Int32) = nI (mc (gP nw rr)) from by rw [(hp7_0 _ hr).1]]) ?_
  refine lv_bipush (v := nI 16) hx hb dX4_plotX_19 (by decide) ?_
  refine gIrem (a := mc (gP nw rr)) (b := 16) hx hb dX4_plotX_21 (by omega) (by omega) (by omega) ?_
  refine lv_goto (tgt := 30) hx hb dX4_plotX_22 (by decide) ?_
  exact gRi F dX4_plotX_30 (rfl) (pc1, pw1) (by congr 1; omega) hP hD hS (Nat.le_refl _) (Nat.le_refl _)

set_option maxHeartbeats 4000000 in
set_option maxRecDepth 100000 in
theorem f1_X4_plotX (l : Launch) (G : gG) (mq : Nat) (an : Nat) (ap : Nat) (st : Nat) (ak : Nat) (ai : Nat) (ad : Nat) (ac : Nat) (aw : Nat) (mn : Nat) (at_ : Nat) (le : Nat) (th : Nat) (sp : Nat) (ao : Nat) (tm : Nat) (nw : Nat → Nat) (pC : Nat → Nat) (pW : Nat → Nat) (rr : Int) (hrr : -2147483648 ≤ rr ∧ rr < 2147483648) (how : ∀ k, k < 256 → nw k < 8) (hcond0 : ¬ (0 ≤ rr ∧ rr < (cnt nw : Int))) : gMi (S := (Nat → Nat) × (Nat → Nat)) l yX4_plotX wsX4_plotX { frames := 4, cells := 0, slots := 0, locals := 87 } G [.ref mq, .int (zI rr)] [(mq, .inr (4, [.ref an, .ref ap, .int (nI st), .ref ak, .ref ai, .ref ad, .ref ac, .ref aw, .int (nI mn), .ref at_, .int (nI le), .int (nI th), .int (nI sp), .ref ao, .int (nI tm)])), (an, .inl (G.2.1, 525, .inl (gn nw))), (ac, .inl (G.2.1, 256, .inl (gn pC))), (aw, .inl (G.2.1, 256, .inl (gn pW)))] (fun (r : Int32) (u : (Nat → Nat) × (Nat → Nat)) => (r = nI 0)) (fun u => [(mq, .inr (4, [.ref an, .ref ap, .int (nI st), .ref ak, .ref ai, .ref ad, .ref ac, .ref aw, .int (nI (cnt nw)), .ref at_, .int (nI le), .int (nI 1), .int (nI sp), .ref ao, .int (nI tm)])), (an, .inl (G.2.1, 525, .inl (gn nw))), (ac, .inl (G.2.1, 256, .inl (gn u.1))), (aw, .inl (G.2.1, 256, .inl (gn u.2)))]) 0 0 := by
  refine gMet_mk (cc := cX4_plotX) (nL := 2) (ret := (some .int)) (Qc := fun A => va_Qi (S := (Nat → Nat) × (Nat → Nat)) (fun (r : Int32) (u : (Nat → Nat) × (Nat → Nat)) => (r = nI 0)) (gB G A (fun (u : (Nat → Nat) × (Nat → Nat)) => [(mq, .inr (4, [.ref an, .ref ap, .int (nI st), .ref ak, .ref ai, .ref ad, .ref ac, .ref aw, .int (nI (cnt nw)), .ref at_, .int (nI le), .int (nI 1), .int (nI sp), .ref ao, .int (nI tm)])), (an, .inl (G.2.1, 525, .inl (gn nw))), (ac, .inl (G.2.1, 256, .inl (gn u.1))), (aw, .inl (G.2.1, 256, .inl (gn u.2)))])) A) (by decide) rfl (Nat.le_of_ble_eq_true rfl) ?_
  intro p e s m args below meth c A F ls hl hP hD hS
  have hx := F.1
  have hb := F.2.1
  have hts := F.2.2.2.2.2.2.1
  have hown : s.vm.findClass RX4 = some m.cls := F.2.2.2.2.2.1
  have hKK := F.2.2.2.2.2.2.2.2.1
  have hK := hKK.1
  have hin0 := F.2.2.2.2.2.2.2.1
  have hi4 : ∀ w ∈ u_ws RX4 TX4 15, w ∈ wsX4_plotX := by decide +kernel
  have hl : lv_has ls 2 [(0, .ref mq), (1, .int (zI rr))] := hl
  generalize hH : s.heap = H at hP ⊢
  have hS : va_S A s.heap H [] := by rw [← hH]; exact va_S.rf
  generalize hLo : ([] : List Loc) = locs at hS ⊢
  refine lv_aload_n hx hb dX4_plotX_0 rfl (lv_at hl 0 rfl) ?_
  refine lv_iconst (v := nI 0) hx hb dX4_plotX_1 (by decide) ?_
  refine va_put (D := G.1) (ci := 4) (v := .int (nI 0)) (ty := .int) (C := RX4) (T := TX4) (N := 15) hx hb hts hi4 tyX4 tyX4_ok nmX4 hown hK hP hD hS 0 rfl rfl 11 (by decide) (hts (.fieldLink RX4 37 "LandQuartersModel" "thrown" "I") (by decide +kernel)) (fun _ h9 => h9) rfl (by decide +kernel) (rfl) (rfl) (Nat.le_of_ble_eq_true rfl) dX4_plotX_2 (fun H locs hP hD hS => ?_)
  have hP : va_P G.1 vwCl [(mq, .inr (4, [.ref an, .ref ap, .int (nI st), .ref ak, .ref ai, .ref ad, .ref ac, .ref aw, .int (nI mn), .ref at_, .int (nI le), .int (nI 0), .int (nI sp), .ref ao, .int (nI tm)])), (an, .inl (G.2.1, 525, .inl (gn nw))), (ac, .inl (G.2.1, 256, .inl (gn pC))), (aw, .inl (G.2.1, 256, .inl (gn pW)))] H := hP
  have hD : va_D A [(mq, .inr (4, [.ref an, .ref ap, .int (nI st), .ref ak, .ref ai, .ref ad, .ref ac, .ref aw, .int (nI mn), .ref at_, .int (nI le), .int (nI 0), .int (nI sp), .ref ao, .int (nI tm)])), (an, .inl (G.2.1, 525, .inl (gn nw))), (ac, .inl (G.2.1, 256, .inl (gn pC))), (aw, .inl (G.2.1, 256, .inl (gn pW)))] := hD
  refine lv_aload_n hx hb dX4_plotX_5 rfl (lv_at hl 0 rfl) ?_
  refine lv_iload_n hx hb dX4_plotX_6 rfl (lv_at hl 1 rfl) ?_
  refine gCi F (gRunV (own := RX4) (C := RX4) (ci := 4) (bytes := cX4_isPlot) (n := 1) (As := [.int (zI rr)]) (rest := []) F (c_X4_isPlot l G mq an ap st ak ai ad ac aw mn at_ le 0 sp ao tm nw pC pW rr (by first | assumption | omega) (by first | assumption | omega) H.size) gX4_plotX_X4_isPlot rfl rfl rfl rfl (by decide +kernel) rfl ⟨Nat.le_of_ble_eq_true rfl, Nat.le_of_ble_eq_true rfl⟩ hP hD (lit := [(mq, .inr (4, [.ref an, .ref ap, .int (nI st), .ref ak, .ref ai, .ref ad, .ref ac, .ref aw, .int (nI mn), .ref at_, .int (nI le), .int (nI 0), .int (nI sp), .ref ao, .int (nI tm)])), (an, .inl (G.2.1, 525, .inl (gn nw))), (ac, .inl (G.2.1, 256, .inl (gn pC))), (aw, .inl (G.2.1, 256, .inl (gn pW)))]) (wt := []) (wc := [(mq, .inr (4, [.ref an, .ref ap, .int (nI st), .ref ak, .ref ai, .ref ad, .ref ac, .ref aw, .int (nI mn), .ref at_, .int (nI le), .int (nI 0), .int (nI sp), .ref ao, .int (nI tm)])), (an, .inl (G.2.1, 525, .inl (gn nw))), (ac, .inl (G.2.1, 256, .inl (gn pC))), (aw, .inl (G.2.1, 256, .inl (gn pW)))]) (isC := [0, 1, 2, 3]) rfl (by decide) rfl rfl rfl hl.1 (Nat.le_of_ble_eq_true rfl) dX4_plotX_7 ⟨Nat.le_of_ble_eq_true rfl, Nat.le_of_ble_eq_true rfl⟩) hP hD hS (lit := [(mq, .inr (4, [.ref an, .ref ap, .int (nI st), .ref ak, .ref ai, .ref ad, .ref ac, .ref aw, .int (nI mn), .ref at_, .int (nI le), .int (nI 0), .int (nI sp), .ref ao, .int (nI tm)])), (an, .inl (G.2.1, 525, .inl (gn nw))), (ac, .inl (G.2.1, 256, .inl (gn pC))), (aw, .inl (G.2.1, 256, .inl (gn pW)))]) (wt := []) (wc := [(mq, .inr (4, [.ref an, .ref ap, .int (nI st), .ref ak, .ref ai, .ref ad, .ref ac, .ref aw, .int (nI mn), .ref at_, .int (nI le), .int (nI 0), .int (nI sp), .ref ao, .int (nI tm)])), (an, .inl (G.2.1, 525, .inl (gn nw))), (ac, .inl (G.2.1, 256, .inl (gn pC))), (aw, .inl (G.2.1, 256, .inl (gn pW)))]) (wr := []) (isC := [0, 1, 2, 3]) (isR := []) rfl rfl (by decide) (by decide) (fun r7 u H locs hp7 hP hD hS => ?_)
  obtain ⟨pc1, pw1⟩ := u
  try dsimp only at hp7
  obtain ⟨rfl, hp7_0⟩ := hp7
  have hP : va_P G.1 vwCl [(mq, .inr (4, [.ref an, .ref ap, .int (nI st), .ref ak, .ref ai, .ref ad, .ref ac, .ref aw, .int (nI (cnt nw)), .ref at_, .int (nI le), .int (nI 0), .int (nI sp), .ref ao, .int (nI tm)])), (an, .inl (G.2.1, 525, .inl (gn nw))), (ac, .inl (G.2.1, 256, .inl (gn pc1))), (aw, .inl (G.2.1, 256, .inl (gn pw1)))] H := hP
  have hD : va_D A [(mq, .inr (4, [.ref an, .ref ap, .int (nI st), .ref ak, .ref ai, .ref ad, .ref ac, .ref aw, .int (nI (cnt nw)), .ref at_, .int (nI le), .int (nI 0), .int (nI sp), .ref ao, .int (nI tm)])), (an, .inl (G.2.1, 525, .inl (gn nw))), (ac, .inl (G.2.1, 256, .inl (gn pc1))), (aw, .inl (G.2.1, 256, .inl (gn pw1)))] := hD
  refine gIfB_eq (P := (0 ≤ rr ∧ rr < (cnt nw : Int))) (tgt := 25) hx hb dX4_plotX_10 (by decide) (fun c10 => ?_) (fun c10 => ?_)
  · skip
    refine lv_aload_n hx hb dX4_plotX_25 rfl (lv_at hl 0 rfl) ?_
    refine lv_iconst (v := nI 1) hx hb dX4_plotX_26 (by decide) ?_
    refine gCi F (gRunV (own := RX4) (C := RX4) (ci := 4) (bytes := cX4_refuses) (n := 1) (As := [.int (nI 1)]) (rest := []) F (c_X4_refuses l G mq an ap st ak ai ad ac aw (cnt nw) at_ le 0 sp ao tm 1  H.size) gX4_plotX_X4_refuses rfl rfl rfl rfl (by decide +kernel) rfl ⟨Nat.le_of_ble_eq_true rfl, Nat.le_of_ble_eq_true rfl⟩ hP hD (lit := [(mq, .inr (4, [.ref an, .ref ap, .int (nI st), .ref ak, .ref ai, .ref ad, .ref ac, .ref aw, .int (nI (cnt nw)), .ref at_, .int (nI le), .int (nI 0), .int (nI sp), .ref ao, .int (nI tm)])), (an, .inl (G.2.1, 525, .inl (gn nw))), (ac, .inl (G.2.1, 256, .inl (gn pc1))), (aw, .inl (G.2.1, 256, .inl (gn pw1)))]) (wt := []) (wc := [(mq, .inr (4, [.ref an, .ref ap, .int (nI st), .ref ak, .ref ai, .ref ad, .ref ac, .ref aw, .int (nI (cnt nw)), .ref at_, .int (nI le), .int (nI 0), .int (nI sp), .ref ao, .int (nI tm)]))]) (isC := [0]) rfl (by decide) rfl rfl rfl hl.1 (Nat.le_of_ble_eq_true rfl) dX4_plotX_27 ⟨Nat.le_of_ble_eq_true rfl, Nat.le_of_ble_eq_true rfl⟩) hP hD hS (lit := [(mq, .inr (4, [.ref an, .ref ap, .int (nI st), .ref ak, .ref ai, .ref ad, .ref ac, .ref aw, .int (nI (cnt nw)), .ref at_, .int (nI le), .int (nI 0), .int (nI sp), .ref ao, .int (nI tm)])), (an, .inl (G.2.1, 525, .inl (gn nw))), (ac, .inl (G.2.1, 256, .inl (gn pc1))), (aw, .inl (G.2.1, 256, .inl (gn pw1)))]) (wt := []) (wc := [(mq, .inr (4, [.ref an, .ref ap, .int (nI st), .ref ak, .ref ai, .ref ad, .ref ac, .ref aw, .int (nI (cnt nw)), .ref at_, .int (nI le), .int (nI 0), .int (nI sp), .ref ao, .int (nI tm)]))]) (wr := [(an, .inl (G.2.1, 525, .inl (gn nw))), (ac, .inl (G.2.1, 256, .inl (gn pc1))), (aw, .inl (G.2.1, 256, .inl (gn pw1)))]) (isC := [0]) (isR := [1, 2, 3]) rfl rfl (by decide) (by decide) (fun r27 u H locs hp27 hP hD hS => ?_)
    subst hp27
    have hP : va_P G.1 vwCl [(an, .inl (G.2.1, 525, .inl (gn nw))), (ac, .inl (G.2.1, 256, .inl (gn pc1))), (aw, .inl (G.2.1, 256, .inl (gn pw1))), (mq, .inr (4, [.ref an, .ref ap, .int (nI st), .ref ak, .ref ai, .ref ad, .ref ac, .ref aw, .int (nI (cnt nw)), .ref at_, .int (nI le), .int (nI 1), .int (nI sp), .ref ao, .int (nI tm)]))] H := hP
    have hD : va_D A [(an, .inl (G.2.1, 525, .inl (gn nw))), (ac, .inl (G.2.1, 256, .inl (gn pc1))), (aw, .inl (G.2.1, 256, .inl (gn pw1))), (mq, .inr (4, [.ref an, .ref ap, .int (nI st), .ref ak, .ref ai, .ref ad, .ref ac, .ref aw, .int (nI (cnt nw)), .ref at_, .int (nI le), .int (nI 1), .int (nI sp), .ref ao, .int (nI tm)]))] := hD
    have hP : va_P G.1 vwCl [(mq, .inr (4, [.ref an, .ref ap, .int (nI st), .ref ak, .ref ai, .ref ad, .ref ac, .ref aw, .int (nI (cnt nw)), .ref at_, .int (nI le), .int (nI 1), .int (nI sp), .ref ao, .int (nI tm)])), (an, .inl (G.2.1, 525, .inl (gn nw))), (ac, .inl (G.2.1, 256, .inl (gn pc1))), (aw, .inl (G.2.1, 256, .inl (gn pw1)))] H := hP.sub (ws' := [(mq, .inr (4, [.ref an, .ref ap, .int (nI st), .ref ak, .ref ai, .ref ad, .ref ac, .ref aw, .int (nI (cnt nw)), .ref at_, .int (nI le), .int (nI 1), .int (nI sp), .ref ao, .int (nI tm)])), (an, .inl (G.2.1, 525, .inl (gn nw))), (ac, .inl (G.2.1, 256, .inl (gn pc1))), (aw, .inl (G.2.1, 256, .inl (gn pw1)))]) [3, 0, 1, 2] rfl
    have hD : va_D A [(mq, .inr (4, [.ref an, .ref ap, .int (nI st), .ref ak, .ref ai, .ref ad, .ref ac, .ref aw, .int (nI (cnt nw)), .ref at_, .int (nI le), .int (nI 1), .int (nI sp), .ref ao, .int (nI tm)])), (an, .inl (G.2.1, 525, .inl (gn nw))), (ac, .inl (G.2.1, 256, .inl (gn pc1))), (aw, .inl (G.2.1, 256, .inl (gn pw1)))] := hD.sub (ws' := [(mq, .inr (4, [.ref an, .ref ap, .int (nI st), .ref ak, .ref ai, .ref ad, .ref ac, .ref aw, .int (nI (cnt nw)), .ref at_, .int (nI le), .int (nI 1), .int (nI sp), .ref ao, .int (nI tm)])), (an, .inl (G.2.1, 525, .inl (gn nw))), (ac, .inl (G.2.1, 256, .inl (gn pc1))), (aw, .inl (G.2.1, 256, .inl (gn pw1)))]) [3, 0, 1, 2] (by decide) rfl
    exact gRi F dX4_plotX_30 (rfl) (pc1, pw1) (rfl) hP hD hS (Nat.le_refl _) (Nat.le_refl _)
  exfalso; omega

set_option maxHeartbeats 4000000 in
set_option maxRecDepth 100000 in
theorem c_X4_plotY (l : Launch) (G : gG) (mq : Nat) (an : Nat) (ap : Nat) (st : Nat) (ak : Nat) (ai : Nat) (ad : Nat) (ac : Nat) (aw : Nat) (mn : Nat) (at_ : Nat) (le : Nat) (th : Nat) (sp : Nat) (ao : Nat) (tm : Nat) (nw : Nat → Nat) (pC : Nat → Nat) (pW : Nat → Nat) (rr : Nat) (how : ∀ k, k < 256 → nw k < 8) (hr : rr < cnt nw) : gMi (S := (Nat → Nat) × (Nat → Nat)) l yX4_plotY wsX4_plotY { frames := 4, cells := 0, slots := 0, locals := 87 } G [.ref mq, .int (nI rr)] [(mq, .inr (4, [.ref an, .ref ap, .int (nI st), .ref ak, .ref ai, .ref ad, .ref ac, .ref aw, .int (nI mn), .ref at_, .int (nI le), .int (nI th), .int (nI sp), .ref ao, .int (nI tm)])), (an, .inl (G.2.1, 525, .inl (gn nw))), (ac, .inl (G.2.1, 256, .inl (gn pC))), (aw, .inl (G.2.1, 256, .inl (gn pW)))] (fun (r : Int32) (u : (Nat → Nat) × (Nat → Nat)) => (r = nI (my (gP nw rr)))) (fun u => [(mq, .inr (4, [.ref an, .ref ap, .int (nI st), .ref ak, .ref ai, .ref ad, .ref ac, .ref aw, .int (nI (cnt nw)), .ref at_, .int (nI le), .int (nI 0), .int (nI sp), .ref ao, .int (nI tm)])), (an, .inl (G.2.1, 525, .inl (gn nw))), (ac, .inl (G.2.1, 256, .inl (gn u.1))), (aw, .inl (G.2.1, 256, .inl (gn u.2)))]) 0 0 := by
  refine gMet_mk (cc := cX4_plotY) (nL := 2) (ret := (some .int)) (Qc := fun A => va_Qi (S := (Nat → Nat) × (Nat → Nat)) (fun (r : Int32) (u : (Nat → Nat) × (Nat → Nat)) => (r = nI (my (gP nw rr)))) (gB G A (fun (u : (Nat → Nat) × (Nat → Nat)) => [(mq, .inr (4, [.ref an, .ref ap, .int (nI st), .ref ak, .ref ai, .ref ad, .ref ac, .ref aw, .int (nI (cnt nw)), .ref at_, .int (nI le), .int (nI 0), .int (nI sp), .ref ao, .int (nI tm)])), (an, .inl (G.2.1, 525, .inl (gn nw))), (ac, .inl (G.2.1, 256, .inl (gn u.1))), (aw, .inl (G.2.1, 256, .inl (gn u.2)))])) A) (by decide) rfl (Nat.le_of_ble_eq_true rfl) ?_
  intro p e s m args below meth c A F ls hl hP hD hS
  have hx := F.1
  have hb := F.2.1
  have hts := F.2.2.2.2.2.2.1
  have hown : s.vm.findClass RX4 = some m.cls := F.2.2.2.2.2.1
  have hKK := F.2.2.2.2.2.2.2.2.1
  have hK := hKK.1
  have hin0 := F.2.2.2.2.2.2.2.1
  have hi4 : ∀ w ∈ u_ws RX4 TX4 15, w ∈ wsX4_plotY := by decide +kernel
  have hl : lv_has ls 2 [(0, .ref mq), (1, .int (nI rr))] := hl
  have hcl := cnt_le nw
  have hmc := mc_lt (gP nw rr)
  have hmx := mc_xy (gP nw rr)
  generalize hH : s.heap = H at hP ⊢
  have hS : va_S A s.heap H [] := by rw [← hH]; exact va_S.rf
  generalize hLo : ([] : List Loc) = locs at hS ⊢
  refine lv_aload_n hx hb dX4_plotY_0 rfl (lv_at hl 0 rfl) ?_
  refine lv_iconst (v := nI 0) hx hb dX4_plotY_1 (by decide) ?_
  refine va_put (D := G.1) (ci := 4) (v := .int (nI 0)) (ty := .int) (C := RX4) (T := TX4) (N := 15) hx hb hts hi4 tyX4 tyX4_ok nmX4 hown hK hP hD hS 0 rfl rfl 11 (by decide) (hts (.fieldLink RX4 37 "LandQuartersModel" "thrown" "I") (by decide +kernel)) (fun _ h9 => h9) rfl (by decide +kernel) (rfl) (rfl) (Nat.le_of_ble_eq_true rfl) dX4_plotY_2 (fun H locs hP hD hS => ?_)
  have hP : va_P G.1 vwCl [(mq, .inr (4, [.ref an, .ref ap, .int (nI st), .ref ak, .ref ai, .ref ad, .ref ac, .ref aw, .int (nI mn), .ref at_, .int (nI le), .int (nI 0), .int (nI sp), .ref ao, .int (nI tm)])), (an, .inl (G.2.1, 525, .inl (gn nw))), (ac, .inl (G.2.1, 256, .inl (gn pC))), (aw, .inl (G.2.1, 256, .inl (gn pW)))] H := hP
  have hD : va_D A [(mq, .inr (4, [.ref an, .ref ap, .int (nI st), .ref ak, .ref ai, .ref ad, .ref ac, .ref aw, .int (nI mn), .ref at_, .int (nI le), .int (nI 0), .int (nI sp), .ref ao, .int (nI tm)])), (an, .inl (G.2.1, 525, .inl (gn nw))), (ac, .inl (G.2.1, 256, .inl (gn pC))), (aw, .inl (G.2.1, 256, .inl (gn pW)))] := hD
  refine lv_aload_n hx hb dX4_plotY_5 rfl (lv_at hl 0 rfl) ?_
  refine lv_iload_n hx hb dX4_plotY_6 rfl (lv_at hl 1 rfl) ?_
  refine W.eq (g2 := F0 m 7 ls [.int (zI ((rr : Nat) : Int)), .ref mq]) (by simp only [zI_nat, zI_neg1]) ?_
  refine gCi F (gRunV (own := RX4) (C := RX4) (ci := 4) (bytes := cX4_isPlot) (n := 1) (As := [.int (zI ((rr : Nat) : Int))]) (rest := []) F (c_X4_isPlot l G mq an ap st ak ai ad ac aw mn at_ le 0 sp ao tm nw pC pW ((rr : Nat) : Int) (by first | assumption | omega) (by first | assumption | omega) H.size) gX4_plotY_X4_isPlot rfl rfl rfl rfl (by decide +kernel) rfl ⟨Nat.le_of_ble_eq_true rfl, Nat.le_of_ble_eq_true rfl⟩ hP hD (lit := [(mq, .inr (4, [.ref an, .ref ap, .int (nI st), .ref ak, .ref ai, .ref ad, .ref ac, .ref aw, .int (nI mn), .ref at_, .int (nI le), .int (nI 0), .int (nI sp), .ref ao, .int (nI tm)])), (an, .inl (G.2.1, 525, .inl (gn nw))), (ac, .inl (G.2.1, 256, .inl (gn pC))), (aw, .inl (G.2.1, 256, .inl (gn pW)))]) (wt := []) (wc := [(mq, .inr (4, [.ref an, .ref ap, .int (nI st), .ref ak, .ref ai, .ref ad, .ref ac, .ref aw, .int (nI mn), .ref at_, .int (nI le), .int (nI 0), .int (nI sp), .ref ao, .int (nI tm)])), (an, .inl (G.2.1, 525, .inl (gn nw))), (ac, .inl (G.2.1, 256, .inl (gn pC))), (aw, .inl (G.2.1, 256, .inl (gn pW)))]) (isC := [0, 1, 2, 3]) rfl (by decide) rfl rfl rfl hl.1 (Nat.le_of_ble_eq_true rfl) dX4_plotY_7 ⟨Nat.le_of_ble_eq_true rfl, Nat.le_of_ble_eq_true rfl⟩) hP hD hS (lit := [(mq, .inr (4, [.ref an, .ref ap, .int (nI st), .ref ak, .ref ai, .ref ad, .ref ac, .ref aw, .int (nI mn), .ref at_, .int (nI le), .int (nI 0), .int (nI sp), .ref ao, .int (nI tm)])), (an, .inl (G.2.1, 525, .inl (gn nw))), (ac, .inl (G.2.1, 256, .inl (gn pC))), (aw, .inl (G.2.1, 256, .inl (gn pW)))]) (wt := []) (wc := [(mq, .inr (4, [.ref an, .ref ap, .int (nI st), .ref ak, .ref ai, .ref ad, .ref ac, .ref aw, .int (nI mn), .ref at_, .int (nI le), .int (nI 0), .int (nI sp), .ref ao, .int (nI tm)])), (an, .inl (G.2.1, 525, .inl (gn nw))), (ac, .inl (G.2.1, 256, .inl (gn pC))), (aw, .inl (G.2.1, 256, .inl (gn pW)))]) (wr := []) (isC := [0, 1, 2, 3]) (isR := []) rfl rfl (by decide) (by decide) (fun r7 u H locs hp7 hP hD hS => ?_)
  obtain ⟨pc1, pw1⟩ := u
  try dsimp only at hp7
  obtain ⟨rfl, hp7_0⟩ := hp7
  have hP : va_P G.1 vwCl [(mq, .inr (4, [.ref an, .ref ap, .int (nI st), .ref ak, .ref ai, .ref ad, .ref ac, .ref aw, .int (nI (cnt nw)), .ref at_, .int (nI le), .int (nI 0), .int (nI sp), .ref ao, .int (nI tm)])), (an, .inl (G.2.1, 525, .inl (gn nw))), (ac, .inl (G.2.1, 256, .inl (gn pc1))), (aw, .inl (G.2.1, 256, .inl (gn pw1)))] H := hP
  have hD : va_D A [(mq, .inr (4, [.ref an, .ref ap, .int (nI st), .ref ak, .ref ai, .ref ad, .ref ac, .ref aw, .int (nI (cnt nw)), .ref at_, .int (nI le), .int (nI 0), .int (nI sp), .ref ao, .int (nI tm)])), (an, .inl (G.2.1, 525, .inl (gn nw))), (ac, .inl (G.2.1, 256, .inl (gn pc1))), (aw, .inl (G.2.1, 256, .inl (gn pw1)))] := hD
  refine gIfB_eq (P := (0 ≤ ((rr : Nat) : Int) ∧ ((rr : Nat) : Int) < (cnt nw : Int))) (tgt := 25) hx hb dX4_plotY_10 (by decide) (fun c10 => ?_) (fun c10 => ?_)
  · skip
    refine lv_aload_n hx hb dX4_plotY_25 rfl (lv_at hl 0 rfl) ?_
    refine lv_iconst (v := nI 1) hx hb dX4_plotY_26 (by decide) ?_
    exfalso; omega
  refine lv_aload_n hx hb dX4_plotY_13 rfl (lv_at hl 0 rfl) ?_
  refine va_get (D := G.1) (ci := 4) (v := .ref ac) (C := RX4) (T := TX4) (N := 15) hx hb hts hi4 hown hK hP 0 rfl rfl 6 (by decide) (hts (.fieldLink RX4 25 "LandQuartersModel" "plotCell" "[I") (by decide +kernel)) (fun _ h9 => h9) rfl dX4_plotY_14 ?_
  refine lv_iload_n hx hb dX4_plotY_17 rfl (lv_at hl 1 rfl) ?_
  refine gNald (k := rr) hx hb hK hP 2 0 rfl rfl (by omega) (by first | decide | omega) dX4_plotY_18 ?_
  refine W.eq (g2 := F0 m 19 ls [.int (nI (mc (gP nw rr)))]) (by rw [show (nI (pc1 rr) : Int32) = nI (mc (gP nw rr)) from by rw [(hp7_0 _ hr).1]]) ?_
  refine lv_bipush (v := nI 16) hx hb dX4_plotY_19 (by decide) ?_
  refine gIdiv (a := mc (gP nw rr)) (b := 16) hx hb dX4_plotY_21 (by omega) (by omega) (by omega) ?_
  refine lv_goto (tgt := 30) hx hb dX4_plotY_22 (by decide) ?_
  exact gRi F dX4_plotY_30 (rfl) (pc1, pw1) (by congr 1; omega) hP hD hS (Nat.le_refl _) (Nat.le_refl _)

set_option maxHeartbeats 4000000 in
set_option maxRecDepth 100000 in
theorem f1_X4_plotY (l : Launch) (G : gG) (mq : Nat) (an : Nat) (ap : Nat) (st : Nat) (ak : Nat) (ai : Nat) (ad : Nat) (ac : Nat) (aw : Nat) (mn : Nat) (at_ : Nat) (le : Nat) (th : Nat) (sp : Nat) (ao : Nat) (tm : Nat) (nw : Nat → Nat) (pC : Nat → Nat) (pW : Nat → Nat) (rr : Int) (hrr : -2147483648 ≤ rr ∧ rr < 2147483648) (how : ∀ k, k < 256 → nw k < 8) (hcond0 : ¬ (0 ≤ rr ∧ rr < (cnt nw : Int))) : gMi (S := (Nat → Nat) × (Nat → Nat)) l yX4_plotY wsX4_plotY { frames := 4, cells := 0, slots := 0, locals := 87 } G [.ref mq, .int (zI rr)] [(mq, .inr (4, [.ref an, .ref ap, .int (nI st), .ref ak, .ref ai, .ref ad, .ref ac, .ref aw, .int (nI mn), .ref at_, .int (nI le), .int (nI th), .int (nI sp), .ref ao, .int (nI tm)])), (an, .inl (G.2.1, 525, .inl (gn nw))), (ac, .inl (G.2.1, 256, .inl (gn pC))), (aw, .inl (G.2.1, 256, .inl (gn pW)))] (fun (r : Int32) (u : (Nat → Nat) × (Nat → Nat)) => (r = nI 0)) (fun u => [(mq, .inr (4, [.ref an, .ref ap, .int (nI st), .ref ak, .ref ai, .ref ad, .ref ac, .ref aw, .int (nI (cnt nw)), .ref at_, .int (nI le), .int (nI 1), .int (nI sp), .ref ao, .int (nI tm)])), (an, .inl (G.2.1, 525, .inl (gn nw))), (ac, .inl (G.2.1, 256, .inl (gn u.1))), (aw, .inl (G.2.1, 256, .inl (gn u.2)))]) 0 0 := by
  refine gMet_mk (cc := cX4_plotY) (nL := 2) (ret := (some .int)) (Qc := fun A => va_Qi (S := (Nat → Nat) × (Nat → Nat)) (fun (r : Int32) (u : (Nat → Nat) × (Nat → Nat)) => (r = nI 0)) (gB G A (fun (u : (Nat → Nat) × (Nat → Nat)) => [(mq, .inr (4, [.ref an, .ref ap, .int (nI st), .ref ak, .ref ai, .ref ad, .ref ac, .ref aw, .int (nI (cnt nw)), .ref at_, .int (nI le), .int (nI 1), .int (nI sp), .ref ao, .int (nI tm)])), (an, .inl (G.2.1, 525, .inl (gn nw))), (ac, .inl (G.2.1, 256, .inl (gn u.1))), (aw, .inl (G.2.1, 256, .inl (gn u.2)))])) A) (by decide) rfl (Nat.le_of_ble_eq_true rfl) ?_
  intro p e s m args below meth c A F ls hl hP hD hS
  have hx := F.1
  have hb := F.2.1
  have hts := F.2.2.2.2.2.2.1
  have hown : s.vm.findClass RX4 = some m.cls := F.2.2.2.2.2.1
  have hKK := F.2.2.2.2.2.2.2.2.1
  have hK := hKK.1
  have hin0 := F.2.2.2.2.2.2.2.1
  have hi4 : ∀ w ∈ u_ws RX4 TX4 15, w ∈ wsX4_plotY := by decide +kernel
  have hl : lv_has ls 2 [(0, .ref mq), (1, .int (zI rr))] := hl
  generalize hH : s.heap = H at hP ⊢
  have hS : va_S A s.heap H [] := by rw [← hH]; exact va_S.rf
  generalize hLo : ([] : List Loc) = locs at hS ⊢
  refine lv_aload_n hx hb dX4_plotY_0 rfl (lv_at hl 0 rfl) ?_
  refine lv_iconst (v := nI 0) hx hb dX4_plotY_1 (by decide) ?_
  refine va_put (D := G.1) (ci := 4) (v := .int (nI 0)) (ty := .int) (C := RX4) (T := TX4) (N := 15) hx hb hts hi4 tyX4 tyX4_ok nmX4 hown hK hP hD hS 0 rfl rfl 11 (by decide) (hts (.fieldLink RX4 37 "LandQuartersModel" "thrown" "I") (by decide +kernel)) (fun _ h9 => h9) rfl (by decide +kernel) (rfl) (rfl) (Nat.le_of_ble_eq_true rfl) dX4_plotY_2 (fun H locs hP hD hS => ?_)
  have hP : va_P G.1 vwCl [(mq, .inr (4, [.ref an, .ref ap, .int (nI st), .ref ak, .ref ai, .ref ad, .ref ac, .ref aw, .int (nI mn), .ref at_, .int (nI le), .int (nI 0), .int (nI sp), .ref ao, .int (nI tm)])), (an, .inl (G.2.1, 525, .inl (gn nw))), (ac, .inl (G.2.1, 256, .inl (gn pC))), (aw, .inl (G.2.1, 256, .inl (gn pW)))] H := hP
  have hD : va_D A [(mq, .inr (4, [.ref an, .ref ap, .int (nI st), .ref ak, .ref ai, .ref ad, .ref ac, .ref aw, .int (nI mn), .ref at_, .int (nI le), .int (nI 0), .int (nI sp), .ref ao, .int (nI tm)])), (an, .inl (G.2.1, 525, .inl (gn nw))), (ac, .inl (G.2.1, 256, .inl (gn pC))), (aw, .inl (G.2.1, 256, .inl (gn pW)))] := hD
  refine lv_aload_n hx hb dX4_plotY_5 rfl (lv_at hl 0 rfl) ?_
  refine lv_iload_n hx hb dX4_plotY_6 rfl (lv_at hl 1 rfl) ?_
  refine gCi F (gRunV (own := RX4) (C := RX4) (ci := 4) (bytes := cX4_isPlot) (n := 1) (As := [.int (zI rr)]) (rest := []) F (c_X4_isPlot l G mq an ap st ak ai ad ac aw mn at_ le 0 sp ao tm nw pC pW rr (by first | assumption | omega) (by first | assumption | omega) H.size) gX4_plotY_X4_isPlot rfl rfl rfl rfl (by decide +kernel) rfl ⟨Nat.le_of_ble_eq_true rfl, Nat.le_of_ble_eq_true rfl⟩ hP hD (lit := [(mq, .inr (4, [.ref an, .ref ap, .int (nI st), .ref ak, .ref ai, .ref ad, .ref ac, .ref aw, .int (nI mn), .ref at_, .int (nI le), .int (nI 0), .int (nI sp), .ref ao, .int (nI tm)])), (an, .inl (G.2.1, 525, .inl (gn nw))), (ac, .inl (G.2.1, 256, .inl (gn pC))), (aw, .inl (G.2.1, 256, .inl (gn pW)))]) (wt := []) (wc := [(mq, .inr (4, [.ref an, .ref ap, .int (nI st), .ref ak, .ref ai, .ref ad, .ref ac, .ref aw, .int (nI mn), .ref at_, .int (nI le), .int (nI 0), .int (nI sp), .ref ao, .int (nI tm)])), (an, .inl (G.2.1, 525, .inl (gn nw))), (ac, .inl (G.2.1, 256, .inl (gn pC))), (aw, .inl (G.2.1, 256, .inl (gn pW)))]) (isC := [0, 1, 2, 3]) rfl (by decide) rfl rfl rfl hl.1 (Nat.le_of_ble_eq_true rfl) dX4_plotY_7 ⟨Nat.le_of_ble_eq_true rfl, Nat.le_of_ble_eq_true rfl⟩) hP hD hS (lit := [(mq, .inr (4, [.ref an, .ref ap, .int (nI st), .ref ak, .ref ai, .ref ad, .ref ac, .ref aw, .int (nI mn), .ref at_, .int (nI le), .int (nI 0), .int (nI sp), .ref ao, .int (nI tm)])), (an, .inl (G.2.1, 525, .inl (gn nw))), (ac, .inl (G.2.1, 256, .inl (gn pC))), (aw, .inl (G.2.1, 256, .inl (gn pW)))]) (wt := []) (wc := [(mq, .inr (4, [.ref an, .ref ap, .int (nI st), .ref ak, .ref ai, .ref ad, .ref ac, .ref aw, .int (nI mn), .ref at_, .int (nI le), .int (nI 0), .int (nI sp), .ref ao, .int (nI tm)])), (an, .inl (G.2.1, 525, .inl (gn nw))), (ac, .inl (G.2.1, 256, .inl (gn pC))), (aw, .inl (G.2.1, 256, .inl (gn pW)))]) (wr := []) (isC := [0, 1, 2, 3]) (isR := []) rfl rfl (by decide) (by decide) (fun r7 u H locs hp7 hP hD hS => ?_)
  obtain ⟨pc1, pw1⟩ := u
  try dsimp only at hp7
  obtain ⟨rfl, hp7_0⟩ := hp7
  have hP : va_P G.1 vwCl [(mq, .inr (4, [.ref an, .ref ap, .int (nI st), .ref ak, .ref ai, .ref ad, .ref ac, .ref aw, .int (nI (cnt nw)), .ref at_, .int (nI le), .int (nI 0), .int (nI sp), .ref ao, .int (nI tm)])), (an, .inl (G.2.1, 525, .inl (gn nw))), (ac, .inl (G.2.1, 256, .inl (gn pc1))), (aw, .inl (G.2.1, 256, .inl (gn pw1)))] H := hP
  have hD : va_D A [(mq, .inr (4, [.ref an, .ref ap, .int (nI st), .ref ak, .ref ai, .ref ad, .ref ac, .ref aw, .int (nI (cnt nw)), .ref at_, .int (nI le), .int (nI 0), .int (nI sp), .ref ao, .int (nI tm)])), (an, .inl (G.2.1, 525, .inl (gn nw))), (ac, .inl (G.2.1, 256, .inl (gn pc1))), (aw, .inl (G.2.1, 256, .inl (gn pw1)))] := hD
  refine gIfB_eq (P := (0 ≤ rr ∧ rr < (cnt nw : Int))) (tgt := 25) hx hb dX4_plotY_10 (by decide) (fun c10 => ?_) (fun c10 => ?_)
  · skip
    refine lv_aload_n hx hb dX4_plotY_25 rfl (lv_at hl 0 rfl) ?_
    refine lv_iconst (v := nI 1) hx hb dX4_plotY_26 (by decide) ?_
    refine gCi F (gRunV (own := RX4) (C := RX4) (ci := 4) (bytes := cX4_refuses) (n := 1) (As := [.int (nI 1)]) (rest := []) F (c_X4_refuses l G mq an ap st ak ai ad ac aw (cnt nw) at_ le 0 sp ao tm 1  H.size) gX4_plotY_X4_refuses rfl rfl rfl rfl (by decide +kernel) rfl ⟨Nat.le_of_ble_eq_true rfl, Nat.le_of_ble_eq_true rfl⟩ hP hD (lit := [(mq, .inr (4, [.ref an, .ref ap, .int (nI st), .ref ak, .ref ai, .ref ad, .ref ac, .ref aw, .int (nI (cnt nw)), .ref at_, .int (nI le), .int (nI 0), .int (nI sp), .ref ao, .int (nI tm)])), (an, .inl (G.2.1, 525, .inl (gn nw))), (ac, .inl (G.2.1, 256, .inl (gn pc1))), (aw, .inl (G.2.1, 256, .inl (gn pw1)))]) (wt := []) (wc := [(mq, .inr (4, [.ref an, .ref ap, .int (nI st), .ref ak, .ref ai, .ref ad, .ref ac, .ref aw, .int (nI (cnt nw)), .ref at_, .int (nI le), .int (nI 0), .int (nI sp), .ref ao, .int (nI tm)]))]) (isC := [0]) rfl (by decide) rfl rfl rfl hl.1 (Nat.le_of_ble_eq_true rfl) dX4_plotY_27 ⟨Nat.le_of_ble_eq_true rfl, Nat.le_of_ble_eq_true rfl⟩) hP hD hS (lit := [(mq, .inr (4, [.ref an, .ref ap, .int (nI st), .ref ak, .ref ai, .ref ad, .ref ac, .ref aw, .int (nI (cnt nw)), .ref at_, .int (nI le), .int (nI 0), .int (nI sp), .ref ao, .int (nI tm)])), (an, .inl (G.2.1, 525, .inl (gn nw))), (ac, .inl (G.2.1, 256, .inl (gn pc1))), (aw, .inl (G.2.1, 256, .inl (gn pw1)))]) (wt := []) (wc := [(mq, .inr (4, [.ref an, .ref ap, .int (nI st), .ref ak, .ref ai, .ref ad, .ref ac, .ref aw, .int (nI (cnt nw)), .ref at_, .int (nI le), .int (nI 0), .int (nI sp), .ref ao, .int (nI tm)]))]) (wr := [(an, .inl (G.2.1, 525, .inl (gn nw))), (ac, .inl (G.2.1, 256, .inl (gn pc1))), (aw, .inl (G.2.1, 256, .inl (gn pw1)))]) (isC := [0]) (isR := [1, 2, 3]) rfl rfl (by decide) (by decide) (fun r27 u H locs hp27 hP hD hS => ?_)
    subst hp27
    have hP : va_P G.1 vwCl [(an, .inl (G.2.1, 525, .inl (gn nw))), (ac, .inl (G.2.1, 256, .inl (gn pc1))), (aw, .inl (G.2.1, 256, .inl (gn pw1))), (mq, .inr (4, [.ref an, .ref ap, .int (nI st), .ref ak, .ref ai, .ref ad, .ref ac, .ref aw, .int (nI (cnt nw)), .ref at_, .int (nI le), .int (nI 1), .int (nI sp), .ref ao, .int (nI tm)]))] H := hP
    have hD : va_D A [(an, .inl (G.2.1, 525, .inl (gn nw))), (ac, .inl (G.2.1, 256, .inl (gn pc1))), (aw, .inl (G.2.1, 256, .inl (gn pw1))), (mq, .inr (4, [.ref an, .ref ap, .int (nI st), .ref ak, .ref ai, .ref ad, .ref ac, .ref aw, .int (nI (cnt nw)), .ref at_, .int (nI le), .int (nI 1), .int (nI sp), .ref ao, .int (nI tm)]))] := hD
    have hP : va_P G.1 vwCl [(mq, .inr (4, [.ref an, .ref ap, .int (nI st), .ref ak, .ref ai, .ref ad, .ref ac, .ref aw, .int (nI (cnt nw)), .ref at_, .int (nI le), .int (nI 1), .int (nI sp), .ref ao, .int (nI tm)])), (an, .inl (G.2.1, 525, .inl (gn nw))), (ac, .inl (G.2.1, 256, .inl (gn pc1))), (aw, .inl (G.2.1, 256, .inl (gn pw1)))] H := hP.sub (ws' := [(mq, .inr (4, [.ref an, .ref ap, .int (nI st), .ref ak, .ref ai, .ref ad, .ref ac, .ref aw, .int (nI (cnt nw)), .ref at_, .int (nI le), .int (nI 1), .int (nI sp), .ref ao, .int (nI tm)])), (an, .inl (G.2.1, 525, .inl (gn nw))), (ac, .inl (G.2.1, 256, .inl (gn pc1))), (aw, .inl (G.2.1, 256, .inl (gn pw1)))]) [3, 0, 1, 2] rfl
    have hD : va_D A [(mq, .inr (4, [.ref an, .ref ap, .int (nI st), .ref ak, .ref ai, .ref ad, .ref ac, .ref aw, .int (nI (cnt nw)), .ref at_, .int (nI le), .int (nI 1), .int (nI sp), .ref ao, .int (nI tm)])), (an, .inl (G.2.1, 525, .inl (gn nw))), (ac, .inl (G.2.1, 256, .inl (gn pc1))), (aw, .inl (G.2.1, 256, .inl (gn pw1)))] := hD.sub (ws' := [(mq, .inr (4, [.ref an, .ref ap, .int (nI st), .ref ak, .ref ai, .ref ad, .ref ac, .ref aw, .int (nI (cnt nw)), .ref at_, .int (nI le), .int (nI 1), .int (nI sp), .ref ao, .int (nI tm)])), (an, .inl (G.2.1, 525, .inl (gn nw))), (ac, .inl (G.2.1, 256, .inl (gn pc1))), (aw, .inl (G.2.1, 256, .inl (gn pw1)))]) [3, 0, 1, 2] (by decide) rfl
    exact gRi F dX4_plotY_30 (rfl) (pc1, pw1) (rfl) hP hD hS (Nat.le_refl _) (Nat.le_refl _)
  exfalso; omega

set_option maxHeartbeats 4000000 in
set_option maxRecDepth 100000 in
theorem c_X4_plotSize (l : Launch) (G : gG) (mq : Nat) (an : Nat) (ap : Nat) (st : Nat) (ak : Nat) (ai : Nat) (ad : Nat) (ac : Nat) (aw : Nat) (mn : Nat) (at_ : Nat) (le : Nat) (th : Nat) (sp : Nat) (ao : Nat) (tm : Nat) (nw : Nat → Nat) (pC : Nat → Nat) (pW : Nat → Nat) (rr : Nat) (how : ∀ k, k < 256 → nw k < 8) (hr : rr < cnt nw) : gMi (S := (Nat → Nat) × (Nat → Nat)) l yX4_plotSize wsX4_plotSize { frames := 4, cells := 0, slots := 0, locals := 87 } G [.ref mq, .int (nI rr)] [(mq, .inr (4, [.ref an, .ref ap, .int (nI st), .ref ak, .ref ai, .ref ad, .ref ac, .ref aw, .int (nI mn), .ref at_, .int (nI le), .int (nI th), .int (nI sp), .ref ao, .int (nI tm)])), (an, .inl (G.2.1, 525, .inl (gn nw))), (ac, .inl (G.2.1, 256, .inl (gn pC))), (aw, .inl (G.2.1, 256, .inl (gn pW)))] (fun (r : Int32) (u : (Nat → Nat) × (Nat → Nat)) => (r = nI (psz nw (gP nw rr)))) (fun u => [(mq, .inr (4, [.ref an, .ref ap, .int (nI st), .ref ak, .ref ai, .ref ad, .ref ac, .ref aw, .int (nI (cnt nw)), .ref at_, .int (nI le), .int (nI 0), .int (nI sp), .ref ao, .int (nI tm)])), (an, .inl (G.2.1, 525, .inl (gn nw))), (ac, .inl (G.2.1, 256, .inl (gn u.1))), (aw, .inl (G.2.1, 256, .inl (gn u.2)))]) 0 0 := by
  refine gMet_mk (cc := cX4_plotSize) (nL := 2) (ret := (some .int)) (Qc := fun A => va_Qi (S := (Nat → Nat) × (Nat → Nat)) (fun (r : Int32) (u : (Nat → Nat) × (Nat → Nat)) => (r = nI (psz nw (gP nw rr)))) (gB G A (fun (u : (Nat → Nat) × (Nat → Nat)) => [(mq, .inr (4, [.ref an, .ref ap, .int (nI st), .ref ak, .ref ai, .ref ad, .ref ac, .ref aw, .int (nI (cnt nw)), .ref at_, .int (nI le), .int (nI 0), .int (nI sp), .ref ao, .int (nI tm)])), (an, .inl (G.2.1, 525, .inl (gn nw))), (ac, .inl (G.2.1, 256, .inl (gn u.1))), (aw, .inl (G.2.1, 256, .inl (gn u.2)))])) A) (by decide) rfl (Nat.le_of_ble_eq_true rfl) ?_
  intro p e s m args below meth c A F ls hl hP hD hS
  have hx := F.1
  have hb := F.2.1
  have hts := F.2.2.2.2.2.2.1
  have hown : s.vm.findClass RX4 = some m.cls := F.2.2.2.2.2.1
  have hKK := F.2.2.2.2.2.2.2.2.1
  have hK := hKK.1
  have hin0 := F.2.2.2.2.2.2.2.1
  have hi4 : ∀ w ∈ u_ws RX4 TX4 15, w ∈ wsX4_plotSize := by decide +kernel
  have hl : lv_has ls 2 [(0, .ref mq), (1, .int (nI rr))] := hl
  have hcl := cnt_le nw
  have hmc := mc_lt (gP nw rr)
  have hmx := mc_xy (gP nw rr)
  generalize hH : s.heap = H at hP ⊢
  have hS : va_S A s.heap H [] := by rw [← hH]; exact va_S.rf
  generalize hLo : ([] : List Loc) = locs at hS ⊢
  refine lv_aload_n hx hb dX4_plotSize_0 rfl (lv_at hl 0 rfl) ?_
  refine lv_iconst (v := nI 0) hx hb dX4_plotSize_1 (by decide) ?_
  refine va_put (D := G.1) (ci := 4) (v := .int (nI 0)) (ty := .int) (C := RX4) (T := TX4) (N := 15) hx hb hts hi4 tyX4 tyX4_ok nmX4 hown hK hP hD hS 0 rfl rfl 11 (by decide) (hts (.fieldLink RX4 37 "LandQuartersModel" "thrown" "I") (by decide +kernel)) (fun _ h9 => h9) rfl (by decide +kernel) (rfl) (rfl) (Nat.le_of_ble_eq_true rfl) dX4_plotSize_2 (fun H locs hP hD hS => ?_)
  have hP : va_P G.1 vwCl [(mq, .inr (4, [.ref an, .ref ap, .int (nI st), .ref ak, .ref ai, .ref ad, .ref ac, .ref aw, .int (nI mn), .ref at_, .int (nI le), .int (nI 0), .int (nI sp), .ref ao, .int (nI tm)])), (an, .inl (G.2.1, 525, .inl (gn nw))), (ac, .inl (G.2.1, 256, .inl (gn pC))), (aw, .inl (G.2.1, 256, .inl (gn pW)))] H := hP
  have hD : va_D A [(mq, .inr (4, [.ref an, .ref ap, .int (nI st), .ref ak, .ref ai, .ref ad, .ref ac, .ref aw, .int (nI mn), .ref at_, .int (nI le), .int (nI 0), .int (nI sp), .ref ao, .int (nI tm)])), (an, .inl (G.2.1, 525, .inl (gn nw))), (ac, .inl (G.2.1, 256, .inl (gn pC))), (aw, .inl (G.2.1, 256, .inl (gn pW)))] := hD
  refine lv_aload_n hx hb dX4_plotSize_5 rfl (lv_at hl 0 rfl) ?_
  refine lv_iload_n hx hb dX4_plotSize_6 rfl (lv_at hl 1 rfl) ?_
  refine W.eq (g2 := F0 m 7 ls [.int (zI ((rr : Nat) : Int)), .ref mq]) (by simp only [zI_nat, zI_neg1]) ?_
  refine gCi F (gRunV (own := RX4) (C := RX4) (ci := 4) (bytes := cX4_isPlot) (n := 1) (As := [.int (zI ((rr : Nat) : Int))]) (rest := []) F (c_X4_isPlot l G mq an ap st ak ai ad ac aw mn at_ le 0 sp ao tm nw pC pW ((rr : Nat) : Int) (by first | assumption | omega) (by first | assumption | omega) H.size) gX4_plotSize_X4_isPlot rfl rfl rfl rfl (by decide +kernel) rfl ⟨Nat.le_of_ble_eq_true rfl, Nat.le_of_ble_eq_true rfl⟩ hP hD (lit := [(mq, .inr (4, [.ref an, .ref ap, .int (nI st), .ref ak, .ref ai, .ref ad, .ref ac, .ref aw, .int (nI mn), .ref at_, .int (nI le), .int (nI 0), .int (nI sp), .ref ao, .int (nI tm)])), (an, .inl (G.2.1, 525, .inl (gn nw))), (ac, .inl (G.2.1, 256, .inl (gn pC))), (aw, .inl (G.2.1, 256, .inl (gn pW)))]) (wt := []) (wc := [(mq, .inr (4, [.ref an, .ref ap, .int (nI st), .ref ak, .ref ai, .ref ad, .ref ac, .ref aw, .int (nI mn), .ref at_, .int (nI le), .int (nI 0), .int (nI sp), .ref ao, .int (nI tm)])), (an, .inl (G.2.1, 525, .inl (gn nw))), (ac, .inl (G.2.1, 256, .inl (gn pC))), (aw, .inl (G.2.1, 256, .inl (gn pW)))]) (isC := [0, 1, 2, 3]) rfl (by decide) rfl rfl rfl hl.1 (Nat.le_of_ble_eq_true rfl) dX4_plotSize_7 ⟨Nat.le_of_ble_eq_true rfl, Nat.le_of_ble_eq_true rfl⟩) hP hD hS (lit := [(mq, .inr (4, [.ref an, .ref ap, .int (nI st), .ref ak, .ref ai, .ref ad, .ref ac, .ref aw, .int (nI mn), .ref at_, .int (nI le), .int (nI 0), .int (nI sp), .ref ao, .int (nI tm)])), (an, .inl (G.2.1, 525, .inl (gn nw))), (ac, .inl (G.2.1, 256, .inl (gn pC))), (aw, .inl (G.2.1, 256, .inl (gn pW)))]) (wt := []) (wc := [(mq, .inr (4, [.ref an, .ref ap, .int (nI st), .ref ak, .ref ai, .ref ad, .ref ac, .ref aw, .int (nI mn), .ref at_, .int (nI le), .int (nI 0), .int (nI sp), .ref ao, .int (nI tm)])), (an, .inl (G.2.1, 525, .inl (gn nw))), (ac, .inl (G.2.1, 256, .inl (gn pC))), (aw, .inl (G.2.1, 256, .inl (gn pW)))]) (wr := []) (isC := [0, 1, 2, 3]) (isR := []) rfl rfl (by decide) (by decide) (fun r7 u H locs hp7 hP hD hS => ?_)
  obtain ⟨pc1, pw1⟩ := u
  try dsimp only at hp7
  obtain ⟨rfl, hp7_0⟩ := hp7
  have hP : va_P G.1 vwCl [(mq, .inr (4, [.ref an, .ref ap, .int (nI st), .ref ak, .ref ai, .ref ad, .ref ac, .ref aw, .int (nI (cnt nw)), .ref at_, .int (nI le), .int (nI 0), .int (nI sp), .ref ao, .int (nI tm)])), (an, .inl (G.2.1, 525, .inl (gn nw))), (ac, .inl (G.2.1, 256, .inl (gn pc1))), (aw, .inl (G.2.1, 256, .inl (gn pw1)))] H := hP
  have hD : va_D A [(mq, .inr (4, [.ref an, .ref ap, .int (nI st), .ref ak, .ref ai, .ref ad, .ref ac, .ref aw, .int (nI (cnt nw)), .ref at_, .int (nI le), .int (nI 0), .int (nI sp), .ref ao, .int (nI tm)])), (an, .inl (G.2.1, 525, .inl (gn nw))), (ac, .inl (G.2.1, 256, .inl (gn pc1))), (aw, .inl (G.2.1, 256, .inl (gn pw1)))] := hD
  refine gIfB_eq (P := (0 ≤ ((rr : Nat) : Int) ∧ ((rr : Nat) : Int) < (cnt nw : Int))) (tgt := 22) hx hb dX4_plotSize_10 (by decide) (fun c10 => ?_) (fun c10 => ?_)
  · skip
    refine lv_aload_n hx hb dX4_plotSize_22 rfl (lv_at hl 0 rfl) ?_
    refine lv_iconst (v := nI 1) hx hb dX4_plotSize_23 (by decide) ?_
    exfalso; omega
  refine lv_aload_n hx hb dX4_plotSize_13 rfl (lv_at hl 0 rfl) ?_
  refine va_get (D := G.1) (ci := 4) (v := .ref aw) (C := RX4) (T := TX4) (N := 15) hx hb hts hi4 hown hK hP 0 rfl rfl 7 (by decide) (hts (.fieldLink RX4 28 "LandQuartersModel" "plotWide" "[I") (by decide +kernel)) (fun _ h9 => h9) rfl dX4_plotSize_14 ?_
  refine lv_iload_n hx hb dX4_plotSize_17 rfl (lv_at hl 1 rfl) ?_
  refine gNald (k := rr) hx hb hK hP 3 0 rfl rfl (by omega) (by first | decide | omega) dX4_plotSize_18 ?_
  refine W.eq (g2 := F0 m 19 ls [.int (nI (psz nw (gP nw rr)))]) (by rw [show (nI (pw1 rr) : Int32) = nI (psz nw (gP nw rr)) from by rw [(hp7_0 _ hr).2]]) ?_
  refine lv_goto (tgt := 27) hx hb dX4_plotSize_19 (by decide) ?_
  exact gRi F dX4_plotSize_27 (rfl) (pc1, pw1) (rfl) hP hD hS (Nat.le_refl _) (Nat.le_refl _)

set_option maxHeartbeats 4000000 in
set_option maxRecDepth 100000 in
theorem f1_X4_plotSize (l : Launch) (G : gG) (mq : Nat) (an : Nat) (ap : Nat) (st : Nat) (ak : Nat) (ai : Nat) (ad : Nat) (ac : Nat) (aw : Nat) (mn : Nat) (at_ : Nat) (le : Nat) (th : Nat) (sp : Nat) (ao : Nat) (tm : Nat) (nw : Nat → Nat) (pC : Nat → Nat) (pW : Nat → Nat) (rr : Int) (hrr : -2147483648 ≤ rr ∧ rr < 2147483648) (how : ∀ k, k < 256 → nw k < 8) (hcond0 : ¬ (0 ≤ rr ∧ rr < (cnt nw : Int))) : gMi (S := (Nat → Nat) × (Nat → Nat)) l yX4_plotSize wsX4_plotSize { frames := 4, cells := 0, slots := 0, locals := 87 } G [.ref mq, .int (zI rr)] [(mq, .inr (4, [.ref an, .ref ap, .int (nI st), .ref ak, .ref ai, .ref ad, .ref ac, .ref aw, .int (nI mn), .ref at_, .int (nI le), .int (nI th), .int (nI sp), .ref ao, .int (nI tm)])), (an, .inl (G.2.1, 525, .inl (gn nw))), (ac, .inl (G.2.1, 256, .inl (gn pC))), (aw, .inl (G.2.1, 256, .inl (gn pW)))] (fun (r : Int32) (u : (Nat → Nat) × (Nat → Nat)) => (r = nI 0)) (fun u => [(mq, .inr (4, [.ref an, .ref ap, .int (nI st), .ref ak, .ref ai, .ref ad, .ref ac, .ref aw, .int (nI (cnt nw)), .ref at_, .int (nI le), .int (nI 1), .int (nI sp), .ref ao, .int (nI tm)])), (an, .inl (G.2.1, 525, .inl (gn nw))), (ac, .inl (G.2.1, 256, .inl (gn u.1))), (aw, .inl (G.2.1, 256, .inl (gn u.2)))]) 0 0 := by
  refine gMet_mk (cc := cX4_plotSize) (nL := 2) (ret := (some .int)) (Qc := fun A => va_Qi (S := (Nat → Nat) × (Nat → Nat)) (fun (r : Int32) (u : (Nat → Nat) × (Nat → Nat)) => (r = nI 0)) (gB G A (fun (u : (Nat → Nat) × (Nat → Nat)) => [(mq, .inr (4, [.ref an, .ref ap, .int (nI st), .ref ak, .ref ai, .ref ad, .ref ac, .ref aw, .int (nI (cnt nw)), .ref at_, .int (nI le), .int (nI 1), .int (nI sp), .ref ao, .int (nI tm)])), (an, .inl (G.2.1, 525, .inl (gn nw))), (ac, .inl (G.2.1, 256, .inl (gn u.1))), (aw, .inl (G.2.1, 256, .inl (gn u.2)))])) A) (by decide) rfl (Nat.le_of_ble_eq_true rfl) ?_
  intro p e s m args below meth c A F ls hl hP hD hS
  have hx := F.1
  have hb := F.2.1
  have hts := F.2.2.2.2.2.2.1
  have hown : s.vm.findClass RX4 = some m.cls := F.2.2.2.2.2.1
  have hKK := F.2.2.2.2.2.2.2.2.1
  have hK := hKK.1
  have hin0 := F.2.2.2.2.2.2.2.1
  have hi4 : ∀ w ∈ u_ws RX4 TX4 15, w ∈ wsX4_plotSize := by decide +kernel
  have hl : lv_has ls 2 [(0, .ref mq), (1, .int (zI rr))] := hl
  generalize hH : s.heap = H at hP ⊢
  have hS : va_S A s.heap H [] := by rw [← hH]; exact va_S.rf
  generalize hLo : ([] : List Loc) = locs at hS ⊢
  refine lv_aload_n hx hb dX4_plotSize_0 rfl (lv_at hl 0 rfl) ?_
  refine lv_iconst (v := nI 0) hx hb dX4_plotSize_1 (by decide) ?_
  refine va_put (D := G.1) (ci := 4) (v := .int (nI 0)) (ty := .int) (C := RX4) (T := TX4) (N := 15) hx hb hts hi4 tyX4 tyX4_ok nmX4 hown hK hP hD hS 0 rfl rfl 11 (by decide) (hts (.fieldLink RX4 37 "LandQuartersModel" "thrown" "I") (by decide +kernel)) (fun _ h9 => h9) rfl (by decide +kernel) (rfl) (rfl) (Nat.le_of_ble_eq_true rfl) dX4_plotSize_2 (fun H locs hP hD hS => ?_)
  have hP : va_P G.1 vwCl [(mq, .inr (4, [.ref an, .ref ap, .int (nI st), .ref ak, .ref ai, .ref ad, .ref ac, .ref aw, .int (nI mn), .ref at_, .int (nI le), .int (nI 0), .int (nI sp), .ref ao, .int (nI tm)])), (an, .inl (G.2.1, 525, .inl (gn nw))), (ac, .inl (G.2.1, 256, .inl (gn pC))), (aw, .inl (G.2.1, 256, .inl (gn pW)))] H := hP
  have hD : va_D A [(mq, .inr (4, [.ref an, .ref ap, .int (nI st), .ref ak, .ref ai, .ref ad, .ref ac, .ref aw, .int (nI mn), .ref at_, .int (nI le), .int (nI 0), .int (nI sp), .ref ao, .int (nI tm)])), (an, .inl (G.2.1, 525, .inl (gn nw))), (ac, .inl (G.2.1, 256, .inl (gn pC))), (aw, .inl (G.2.1, 256, .inl (gn pW)))] := hD
  refine lv_aload_n hx hb dX4_plotSize_5 rfl (lv_at hl 0 rfl) ?_
  refine lv_iload_n hx hb dX4_plotSize_6 rfl (lv_at hl 1 rfl) ?_
  refine gCi F (gRunV (own := RX4) (C := RX4) (ci := 4) (bytes := cX4_isPlot) (n := 1) (As := [.int (zI rr)]) (rest := []) F (c_X4_isPlot l G mq an ap st ak ai ad ac aw mn at_ le 0 sp ao tm nw pC pW rr (by first | assumption | omega) (by first | assumption | omega) H.size) gX4_plotSize_X4_isPlot rfl rfl rfl rfl (by decide +kernel) rfl ⟨Nat.le_of_ble_eq_true rfl, Nat.le_of_ble_eq_true rfl⟩ hP hD (lit := [(mq, .inr (4, [.ref an, .ref ap, .int (nI st), .ref ak, .ref ai, .ref ad, .ref ac, .ref aw, .int (nI mn), .ref at_, .int (nI le), .int (nI 0), .int (nI sp), .ref ao, .int (nI tm)])), (an, .inl (G.2.1, 525, .inl (gn nw))), (ac, .inl (G.2.1, 256, .inl (gn pC))), (aw, .inl (G.2.1, 256, .inl (gn pW)))]) (wt := []) (wc := [(mq, .inr (4, [.ref an, .ref ap, .int (nI st), .ref ak, .ref ai, .ref ad, .ref ac, .ref aw, .int (nI mn), .ref at_, .int (nI le), .int (nI 0), .int (nI sp), .ref ao, .int (nI tm)])), (an, .inl (G.2.1, 525, .inl (gn nw))), (ac, .inl (G.2.1, 256, .inl (gn pC))), (aw, .inl (G.2.1, 256, .inl (gn pW)))]) (isC := [0, 1, 2, 3]) rfl (by decide) rfl rfl rfl hl.1 (Nat.le_of_ble_eq_true rfl) dX4_plotSize_7 ⟨Nat.le_of_ble_eq_true rfl, Nat.le_of_ble_eq_true rfl⟩) hP hD hS (lit := [(mq, .inr (4, [.ref an, .ref ap, .int (nI st), .ref ak, .ref ai, .ref ad, .ref ac, .ref aw, .int (nI mn), .ref at_, .int (nI le), .int (nI 0), .int (nI sp), .ref ao, .int (nI tm)])), (an, .inl (G.2.1, 525, .inl (gn nw))), (ac, .inl (G.2.1, 256, .inl (gn pC))), (aw, .inl (G.2.1, 256, .inl (gn pW)))]) (wt := []) (wc := [(mq, .inr (4, [.ref an, .ref ap, .int (nI st), .ref ak, .ref ai, .ref ad, .ref ac, .ref aw, .int (nI mn), .ref at_, .int (nI le), .int (nI 0), .int (nI sp), .ref ao, .int (nI tm)])), (an, .inl (G.2.1, 525, .inl (gn nw))), (ac, .inl (G.2.1, 256, .inl (gn pC))), (aw, .inl (G.2.1, 256, .inl (gn pW)))]) (wr := []) (isC := [0, 1, 2, 3]) (isR := []) rfl rfl (by decide) (by decide) (fun r7 u H locs hp7 hP hD hS => ?_)
  obtain ⟨pc1, pw1⟩ := u
  try dsimp only at hp7
  obtain ⟨rfl, hp7_0⟩ := hp7
  have hP : va_P G.1 vwCl [(mq, .inr (4, [.ref an, .ref ap, .int (nI st), .ref ak, .ref ai, .ref ad, .ref ac, .ref aw, .int (nI (cnt nw)), .ref at_, .int (nI le), .int (nI 0), .int (nI sp), .ref ao, .int (nI tm)])), (an, .inl (G.2.1, 525, .inl (gn nw))), (ac, .inl (G.2.1, 256, .inl (gn pc1))), (aw, .inl (G.2.1, 256, .inl (gn pw1)))] H := hP
  have hD : va_D A [(mq, .inr (4, [.ref an, .ref ap, .int (nI st), .ref ak, .ref ai, .ref ad, .ref ac, .ref aw, .int (nI (cnt nw)), .ref at_, .int (nI le), .int (nI 0), .int (nI sp), .ref ao, .int (nI tm)])), (an, .inl (G.2.1, 525, .inl (gn nw))), (ac, .inl (G.2.1, 256, .inl (gn pc1))), (aw, .inl (G.2.1, 256, .inl (gn pw1)))] := hD
  refine gIfB_eq (P := (0 ≤ rr ∧ rr < (cnt nw : Int))) (tgt := 22) hx hb dX4_plotSize_10 (by decide) (fun c10 => ?_) (fun c10 => ?_)
  · skip
    refine lv_aload_n hx hb dX4_plotSize_22 rfl (lv_at hl 0 rfl) ?_
    refine lv_iconst (v := nI 1) hx hb dX4_plotSize_23 (by decide) ?_
    refine gCi F (gRunV (own := RX4) (C := RX4) (ci := 4) (bytes := cX4_refuses) (n := 1) (As := [.int (nI 1)]) (rest := []) F (c_X4_refuses l G mq an ap st ak ai ad ac aw (cnt nw) at_ le 0 sp ao tm 1  H.size) gX4_plotSize_X4_refuses rfl rfl rfl rfl (by decide +kernel) rfl ⟨Nat.le_of_ble_eq_true rfl, Nat.le_of_ble_eq_true rfl⟩ hP hD (lit := [(mq, .inr (4, [.ref an, .ref ap, .int (nI st), .ref ak, .ref ai, .ref ad, .ref ac, .ref aw, .int (nI (cnt nw)), .ref at_, .int (nI le), .int (nI 0), .int (nI sp), .ref ao, .int (nI tm)])), (an, .inl (G.2.1, 525, .inl (gn nw))), (ac, .inl (G.2.1, 256, .inl (gn pc1))), (aw, .inl (G.2.1, 256, .inl (gn pw1)))]) (wt := []) (wc := [(mq, .inr (4, [.ref an, .ref ap, .int (nI st), .ref ak, .ref ai, .ref ad, .ref ac, .ref aw, .int (nI (cnt nw)), .ref at_, .int (nI le), .int (nI 0), .int (nI sp), .ref ao, .int (nI tm)]))]) (isC := [0]) rfl (by decide) rfl rfl rfl hl.1 (Nat.le_of_ble_eq_true rfl) dX4_plotSize_24 ⟨Nat.le_of_ble_eq_true rfl, Nat.le_of_ble_eq_true rfl⟩) hP hD hS (lit := [(mq, .inr (4, [.ref an, .ref ap, .int (nI st), .ref ak, .ref ai, .ref ad, .ref ac, .ref aw, .int (nI (cnt nw)), .ref at_, .int (nI le), .int (nI 0), .int (nI sp), .ref ao, .int (nI tm)])), (an, .inl (G.2.1, 525, .inl (gn nw))), (ac, .inl (G.2.1, 256, .inl (gn pc1))), (aw, .inl (G.2.1, 256, .inl (gn pw1)))]) (wt := []) (wc := [(mq, .inr (4, [.ref an, .ref ap, .int (nI st), .ref ak, .ref ai, .ref ad, .ref ac, .ref aw, .int (nI (cnt nw)), .ref at_, .int (nI le), .int (nI 0), .int (nI sp), .ref ao, .int (nI tm)]))]) (wr := [(an, .inl (G.2.1, 525, .inl (gn nw))), (ac, .inl (G.2.1, 256, .inl (gn pc1))), (aw, .inl (G.2.1, 256, .inl (gn pw1)))]) (isC := [0]) (isR := [1, 2, 3]) rfl rfl (by decide) (by decide) (fun r24 u H locs hp24 hP hD hS => ?_)
    subst hp24
    have hP : va_P G.1 vwCl [(an, .inl (G.2.1, 525, .inl (gn nw))), (ac, .inl (G.2.1, 256, .inl (gn pc1))), (aw, .inl (G.2.1, 256, .inl (gn pw1))), (mq, .inr (4, [.ref an, .ref ap, .int (nI st), .ref ak, .ref ai, .ref ad, .ref ac, .ref aw, .int (nI (cnt nw)), .ref at_, .int (nI le), .int (nI 1), .int (nI sp), .ref ao, .int (nI tm)]))] H := hP
    have hD : va_D A [(an, .inl (G.2.1, 525, .inl (gn nw))), (ac, .inl (G.2.1, 256, .inl (gn pc1))), (aw, .inl (G.2.1, 256, .inl (gn pw1))), (mq, .inr (4, [.ref an, .ref ap, .int (nI st), .ref ak, .ref ai, .ref ad, .ref ac, .ref aw, .int (nI (cnt nw)), .ref at_, .int (nI le), .int (nI 1), .int (nI sp), .ref ao, .int (nI tm)]))] := hD
    have hP : va_P G.1 vwCl [(mq, .inr (4, [.ref an, .ref ap, .int (nI st), .ref ak, .ref ai, .ref ad, .ref ac, .ref aw, .int (nI (cnt nw)), .ref at_, .int (nI le), .int (nI 1), .int (nI sp), .ref ao, .int (nI tm)])), (an, .inl (G.2.1, 525, .inl (gn nw))), (ac, .inl (G.2.1, 256, .inl (gn pc1))), (aw, .inl (G.2.1, 256, .inl (gn pw1)))] H := hP.sub (ws' := [(mq, .inr (4, [.ref an, .ref ap, .int (nI st), .ref ak, .ref ai, .ref ad, .ref ac, .ref aw, .int (nI (cnt nw)), .ref at_, .int (nI le), .int (nI 1), .int (nI sp), .ref ao, .int (nI tm)])), (an, .inl (G.2.1, 525, .inl (gn nw))), (ac, .inl (G.2.1, 256, .inl (gn pc1))), (aw, .inl (G.2.1, 256, .inl (gn pw1)))]) [3, 0, 1, 2] rfl
    have hD : va_D A [(mq, .inr (4, [.ref an, .ref ap, .int (nI st), .ref ak, .ref ai, .ref ad, .ref ac, .ref aw, .int (nI (cnt nw)), .ref at_, .int (nI le), .int (nI 1), .int (nI sp), .ref ao, .int (nI tm)])), (an, .inl (G.2.1, 525, .inl (gn nw))), (ac, .inl (G.2.1, 256, .inl (gn pc1))), (aw, .inl (G.2.1, 256, .inl (gn pw1)))] := hD.sub (ws' := [(mq, .inr (4, [.ref an, .ref ap, .int (nI st), .ref ak, .ref ai, .ref ad, .ref ac, .ref aw, .int (nI (cnt nw)), .ref at_, .int (nI le), .int (nI 1), .int (nI sp), .ref ao, .int (nI tm)])), (an, .inl (G.2.1, 525, .inl (gn nw))), (ac, .inl (G.2.1, 256, .inl (gn pc1))), (aw, .inl (G.2.1, 256, .inl (gn pw1)))]) [3, 0, 1, 2] (by decide) rfl
    exact gRi F dX4_plotSize_27 (rfl) (pc1, pw1) (rfl) hP hD hS (Nat.le_refl _) (Nat.le_refl _)
  exfalso; omega

set_option maxHeartbeats 4000000 in
set_option maxRecDepth 100000 in
theorem c_X4_plotsOf (l : Launch) (G : gG) (mq : Nat) (an : Nat) (ap : Nat) (st : Nat) (ak : Nat) (ai : Nat) (ad : Nat) (ac : Nat) (aw : Nat) (mn : Nat) (at_ : Nat) (le : Nat) (th : Nat) (sp : Nat) (ao : Nat) (tm : Nat) (nw : Nat → Nat) (pC : Nat → Nat) (pW : Nat → Nat) (o : Nat) (how : ∀ k, k < 256 → nw k < 8) (ho : o < 8) : gMi (S := (Nat → Nat) × (Nat → Nat)) l yX4_plotsOf wsX4_plotsOf { frames := 3, cells := 0, slots := 0, locals := 69 } G [.ref mq, .int (nI o)] [(mq, .inr (4, [.ref an, .ref ap, .int (nI st), .ref ak, .ref ai, .ref ad, .ref ac, .ref aw, .int (nI mn), .ref at_, .int (nI le), .int (nI th), .int (nI sp), .ref ao, .int (nI tm)])), (an, .inl (G.2.1, 525, .inl (gn nw))), (ac, .inl (G.2.1, 256, .inl (gn pC))), (aw, .inl (G.2.1, 256, .inl (gn pW)))] (fun (r : Int32) (u : (Nat → Nat) × (Nat → Nat)) => (r = nI (sCnt (svO nw) o (cnt nw)))) (fun u => [(mq, .inr (4, [.ref an, .ref ap, .int (nI st), .ref ak, .ref ai, .ref ad, .ref ac, .ref aw, .int (nI (cnt nw)), .ref at_, .int (nI le), .int (nI 0), .int (nI sp), .ref ao, .int (nI tm)])), (an, .inl (G.2.1, 525, .inl (gn nw))), (ac, .inl (G.2.1, 256, .inl (gn u.1))), (aw, .inl (G.2.1, 256, .inl (gn u.2)))]) 0 0 := by
  refine gMet_mk (cc := cX4_plotsOf) (nL := 2) (ret := (some .int)) (Qc := fun A => va_Qi (S := (Nat → Nat) × (Nat → Nat)) (fun (r : Int32) (u : (Nat → Nat) × (Nat → Nat)) => (r = nI (sCnt (svO nw) o (cnt nw)))) (gB G A (fun (u : (Nat → Nat) × (Nat → Nat)) => [(mq, .inr (4, [.ref an, .ref ap, .int (nI st), .ref ak, .ref ai, .ref ad, .ref ac, .ref aw, .int (nI (cnt nw)), .ref at_, .int (nI le), .int (nI 0), .int (nI sp), .ref ao, .int (nI tm)])), (an, .inl (G.2.1, 525, .inl (gn nw))), (ac, .inl (G.2.1, 256, .inl (gn u.1))), (aw, .inl (G.2.1, 256, .inl (gn u.2)))])) A) (by decide) rfl (Nat.le_of_ble_eq_true rfl) ?_
  intro p e s m args below meth c A F ls hl hP hD hS
  have hx := F.1
  have hb := F.2.1
  have hts := F.2.2.2.2.2.2.1
  have hown : s.vm.findClass RX4 = some m.cls := F.2.2.2.2.2.1
  have hKK := F.2.2.2.2.2.2.2.2.1
  have hK := hKK.1
  have hin0 := F.2.2.2.2.2.2.2.1
  have hi4 : ∀ w ∈ u_ws RX4 TX4 15, w ∈ wsX4_plotsOf := by decide +kernel
  have hl : lv_has ls 2 [(0, .ref mq), (1, .int (nI o))] := hl
  generalize hH : s.heap = H at hP ⊢
  have hS : va_S A s.heap H [] := by rw [← hH]; exact va_S.rf
  generalize hLo : ([] : List Loc) = locs at hS ⊢
  refine lv_aload_n hx hb dX4_plotsOf_0 rfl (lv_at hl 0 rfl) ?_
  refine lv_iconst (v := nI 0) hx hb dX4_plotsOf_1 (by decide) ?_
  refine va_put (D := G.1) (ci := 4) (v := .int (nI 0)) (ty := .int) (C := RX4) (T := TX4) (N := 15) hx hb hts hi4 tyX4 tyX4_ok nmX4 hown hK hP hD hS 0 rfl rfl 11 (by decide) (hts (.fieldLink RX4 37 "LandQuartersModel" "thrown" "I") (by decide +kernel)) (fun _ h9 => h9) rfl (by decide +kernel) (rfl) (rfl) (Nat.le_of_ble_eq_true rfl) dX4_plotsOf_2 (fun H locs hP hD hS => ?_)
  have hP : va_P G.1 vwCl [(mq, .inr (4, [.ref an, .ref ap, .int (nI st), .ref ak, .ref ai, .ref ad, .ref ac, .ref aw, .int (nI mn), .ref at_, .int (nI le), .int (nI 0), .int (nI sp), .ref ao, .int (nI tm)])), (an, .inl (G.2.1, 525, .inl (gn nw))), (ac, .inl (G.2.1, 256, .inl (gn pC))), (aw, .inl (G.2.1, 256, .inl (gn pW)))] H := hP
  have hD : va_D A [(mq, .inr (4, [.ref an, .ref ap, .int (nI st), .ref ak, .ref ai, .ref ad, .ref ac, .ref aw, .int (nI mn), .ref at_, .int (nI le), .int (nI 0), .int (nI sp), .ref ao, .int (nI tm)])), (an, .inl (G.2.1, 525, .inl (gn nw))), (ac, .inl (G.2.1, 256, .inl (gn pC))), (aw, .inl (G.2.1, 256, .inl (gn pW)))] := hD
  refine lv_iload_n hx hb dX4_plotsOf_5 rfl (lv_at hl 1 rfl) ?_
  refine W.eq (g2 := F0 m 6 ls [.int (zI ((o : Nat) : Int))]) (by simp only [zI_nat, zI_neg1]) ?_
  refine gCi F (gRunS (own := RX4) (bytes := cX4_isOwner) (n := 1) (As := [.int (zI ((o : Nat) : Int))]) (rest := []) F (c_X4_isOwner l G ((o : Nat) : Int) (by first | assumption | omega) H.size) gX4_plotsOf_X4_isOwner rfl rfl rfl rfl (by decide +kernel) rfl ⟨Nat.le_of_ble_eq_true rfl, Nat.le_of_ble_eq_true rfl⟩ hP hD (lit := [(mq, .inr (4, [.ref an, .ref ap, .int (nI st), .ref ak, .ref ai, .ref ad, .ref ac, .ref aw, .int (nI mn), .ref at_, .int (nI le), .int (nI 0), .int (nI sp), .ref ao, .int (nI tm)])), (an, .inl (G.2.1, 525, .inl (gn nw))), (ac, .inl (G.2.1, 256, .inl (gn pC))), (aw, .inl (G.2.1, 256, .inl (gn pW)))]) (wt := []) (wc := []) (isC := []) rfl (by decide) rfl hl.1 (Nat.le_of_ble_eq_true rfl) dX4_plotsOf_6 ⟨Nat.le_of_ble_eq_true rfl, Nat.le_of_ble_eq_true rfl⟩) hP hD hS (lit := [(mq, .inr (4, [.ref an, .ref ap, .int (nI st), .ref ak, .ref ai, .ref ad, .ref ac, .ref aw, .int (nI mn), .ref at_, .int (nI le), .int (nI 0), .int (nI sp), .ref ao, .int (nI tm)])), (an, .inl (G.2.1, 525, .inl (gn nw))), (ac, .inl (G.2.1, 256, .inl (gn pC))), (aw, .inl (G.2.1, 256, .inl (gn pW)))]) (wt := []) (wc := []) (wr := [(mq, .inr (4, [.ref an, .ref ap, .int (nI st), .ref ak, .ref ai, .ref ad, .ref ac, .ref aw, .int (nI mn), .ref at_, .int (nI le), .int (nI 0), .int (nI sp), .ref ao, .int (nI tm)])), (an, .inl (G.2.1, 525, .inl (gn nw))), (ac, .inl (G.2.1, 256, .inl (gn pC))), (aw, .inl (G.2.1, 256, .inl (gn pW)))]) (isC := []) (isR := [0, 1, 2, 3]) rfl rfl (by decide) (by decide) (fun r6 u H locs hp6 hP hD hS => ?_)
  subst hp6
  have hP : va_P G.1 vwCl [(mq, .inr (4, [.ref an, .ref ap, .int (nI st), .ref ak, .ref ai, .ref ad, .ref ac, .ref aw, .int (nI mn), .ref at_, .int (nI le), .int (nI 0), .int (nI sp), .ref ao, .int (nI tm)])), (an, .inl (G.2.1, 525, .inl (gn nw))), (ac, .inl (G.2.1, 256, .inl (gn pC))), (aw, .inl (G.2.1, 256, .inl (gn pW)))] H := hP
  have hD : va_D A [(mq, .inr (4, [.ref an, .ref ap, .int (nI st), .ref ak, .ref ai, .ref ad, .ref ac, .ref aw, .int (nI mn), .ref at_, .int (nI le), .int (nI 0), .int (nI sp), .ref ao, .int (nI tm)])), (an, .inl (G.2.1, 525, .inl (gn nw))), (ac, .inl (G.2.1, 256, .inl (gn pC))), (aw, .inl (G.2.1, 256, .inl (gn pW)))] := hD
  refine gIfB_eq (P := (0 ≤ ((o : Nat) : Int) ∧ ((o : Nat) : Int) < 8)) (tgt := 20) hx hb dX4_plotsOf_9 (by decide) (fun c9 => ?_) (fun c9 => ?_)
  · skip
    refine lv_aload_n hx hb dX4_plotsOf_20 rfl (lv_at hl 0 rfl) ?_
    refine lv_iconst (v := nI 1) hx hb dX4_plotsOf_21 (by decide) ?_
    exfalso; omega
  refine lv_aload_n hx hb dX4_plotsOf_12 rfl (lv_at hl 0 rfl) ?_
  refine lv_iload_n hx hb dX4_plotsOf_13 rfl (lv_at hl 1 rfl) ?_
  refine gCi F (gRunV (own := RX4) (C := RX4) (ci := 4) (bytes := cX4_plotsFor) (n := 1) (As := [.int (nI o)]) (rest := []) F (c_X4_plotsFor l G mq an ap st ak ai ad ac aw mn at_ le 0 sp ao tm nw pC pW o (by first | assumption | omega) (by first | assumption | omega) H.size) gX4_plotsOf_X4_plotsFor rfl rfl rfl rfl (by decide +kernel) rfl ⟨Nat.le_of_ble_eq_true rfl, Nat.le_of_ble_eq_true rfl⟩ hP hD (lit := [(mq, .inr (4, [.ref an, .ref ap, .int (nI st), .ref ak, .ref ai, .ref ad, .ref ac, .ref aw, .int (nI mn), .ref at_, .int (nI le), .int (nI 0), .int (nI sp), .ref ao, .int (nI tm)])), (an, .inl (G.2.1, 525, .inl (gn nw))), (ac, .inl (G.2.1, 256, .inl (gn pC))), (aw, .inl (G.2.1, 256, .inl (gn pW)))]) (wt := []) (wc := [(mq, .inr (4, [.ref an, .ref ap, .int (nI st), .ref ak, .ref ai, .ref ad, .ref ac, .ref aw, .int (nI mn), .ref at_, .int (nI le), .int (nI 0), .int (nI sp), .ref ao, .int (nI tm)])), (an, .inl (G.2.1, 525, .inl (gn nw))), (ac, .inl (G.2.1, 256, .inl (gn pC))), (aw, .inl (G.2.1, 256, .inl (gn pW)))]) (isC := [0, 1, 2, 3]) rfl (by decide) rfl rfl rfl hl.1 (Nat.le_of_ble_eq_true rfl) dX4_plotsOf_14 ⟨Nat.le_of_ble_eq_true rfl, Nat.le_of_ble_eq_true rfl⟩) hP hD hS (lit := [(mq, .inr (4, [.ref an, .ref ap, .int (nI st), .ref ak, .ref ai, .ref ad, .ref ac, .ref aw, .int (nI mn), .ref at_, .int (nI le), .int (nI 0), .int (nI sp), .ref ao, .int (nI tm)])), (an, .inl (G.2.1, 525, .inl (gn nw))), (ac, .inl (G.2.1, 256, .inl (gn pC))), (aw, .inl (G.2.1, 256, .inl (gn pW)))]) (wt := []) (wc := [(mq, .inr (4, [.ref an, .ref ap, .int (nI st), .ref ak, .ref ai, .ref ad, .ref ac, .ref aw, .int (nI mn), .ref at_, .int (nI le), .int (nI 0), .int (nI sp), .ref ao, .int (nI tm)])), (an, .inl (G.2.1, 525, .inl (gn nw))), (ac, .inl (G.2.1, 256, .inl (gn pC))), (aw, .inl (G.2.1, 256, .inl (gn pW)))]) (wr := []) (isC := [0, 1, 2, 3]) (isR := []) rfl rfl (by decide) (by decide) (fun r14 u H locs hp14 hP hD hS => ?_)
  obtain ⟨pc1, pw1⟩ := u
  try dsimp only at hp14
  obtain ⟨rfl, hp14_0⟩ := hp14
  have hP : va_P G.1 vwCl [(mq, .inr (4, [.ref an, .ref ap, .int (nI st), .ref ak, .ref ai, .ref ad, .ref ac, .ref aw, .int (nI (cnt nw)), .ref at_, .int (nI le), .int (nI 0), .int (nI sp), .ref ao, .int (nI tm)])), (an, .inl (G.2.1, 525, .inl (gn nw))), (ac, .inl (G.2.1, 256, .inl (gn pc1))), (aw, .inl (G.2.1, 256, .inl (gn pw1)))] H := hP
  have hD : va_D A [(mq, .inr (4, [.ref an, .ref ap, .int (nI st), .ref ak, .ref ai, .ref ad, .ref ac, .ref aw, .int (nI (cnt nw)), .ref at_, .int (nI le), .int (nI 0), .int (nI sp), .ref ao, .int (nI tm)])), (an, .inl (G.2.1, 525, .inl (gn nw))), (ac, .inl (G.2.1, 256, .inl (gn pc1))), (aw, .inl (G.2.1, 256, .inl (gn pw1)))] := hD
  refine lv_goto (tgt := 25) hx hb dX4_plotsOf_17 (by decide) ?_
  exact gRi F dX4_plotsOf_25 (rfl) (pc1, pw1) (rfl) hP hD hS (Nat.le_refl _) (Nat.le_refl _)

set_option maxHeartbeats 4000000 in
set_option maxRecDepth 100000 in
theorem f1_X4_plotsOf (l : Launch) (G : gG) (mq : Nat) (an : Nat) (ap : Nat) (st : Nat) (ak : Nat) (ai : Nat) (ad : Nat) (ac : Nat) (aw : Nat) (mn : Nat) (at_ : Nat) (le : Nat) (th : Nat) (sp : Nat) (ao : Nat) (tm : Nat) (o : Int) (ho : -2147483648 ≤ o ∧ o < 2147483648) (hcond0 : ¬(0 ≤ o ∧ o < 8)) : gMi (S := Unit) l yX4_plotsOf wsX4_plotsOf { frames := 2, cells := 0, slots := 0, locals := 42 } G [.ref mq, .int (zI o)] [(mq, .inr (4, [.ref an, .ref ap, .int (nI st), .ref ak, .ref ai, .ref ad, .ref ac, .ref aw, .int (nI mn), .ref at_, .int (nI le), .int (nI th), .int (nI sp), .ref ao, .int (nI tm)]))] (fun (r : Int32) (u : Unit) => (r = nI 0)) (fun u => [(mq, .inr (4, [.ref an, .ref ap, .int (nI st), .ref ak, .ref ai, .ref ad, .ref ac, .ref aw, .int (nI mn), .ref at_, .int (nI le), .int (nI 1), .int (nI sp), .ref ao, .int (nI tm)]))]) 0 0 := by
  refine gMet_mk (cc := cX4_plotsOf) (nL := 2) (ret := (some .int)) (Qc := fun A => va_Qi (S := Unit) (fun (r : Int32) (u : Unit) => (r = nI 0)) (gB G A (fun (u : Unit) => [(mq, .inr (4, [.ref an, .ref ap, .int (nI st), .ref ak, .ref ai, .ref ad, .ref ac, .ref aw, .int (nI mn), .ref at_, .int (nI le), .int (nI 1), .int (nI sp), .ref ao, .int (nI tm)]))])) A) (by decide) rfl (Nat.le_of_ble_eq_true rfl) ?_
  intro p e s m args below meth c A F ls hl hP hD hS
  have hx := F.1
  have hb := F.2.1
  have hts := F.2.2.2.2.2.2.1
  have hown : s.vm.findClass RX4 = some m.cls := F.2.2.2.2.2.1
  have hKK := F.2.2.2.2.2.2.2.2.1
  have hK := hKK.1
  have hin0 := F.2.2.2.2.2.2.2.1
  have hi4 : ∀ w ∈ u_ws RX4 TX4 15, w ∈ wsX4_plotsOf := by decide +kernel
  have hl : lv_has ls 2 [(0, .ref mq), (1, .int (zI o))] := hl
  generalize hH : s.heap = H at hP ⊢
  have hS : va_S A s.heap H [] := by rw [← hH]; exact va_S.rf
  generalize hLo : ([] : List Loc) = locs at hS ⊢
  refine lv_aload_n hx hb dX4_plotsOf_0 rfl (lv_at hl 0 rfl) ?_
  refine lv_iconst (v := nI 0) hx hb dX4_plotsOf_1 (by decide) ?_
  refine va_put (D := G.1) (ci := 4) (v := .int (nI 0)) (ty := .int) (C := RX4) (T := TX4) (N := 15) hx hb hts hi4 tyX4 tyX4_ok nmX4 hown hK hP hD hS 0 rfl rfl 11 (by decide) (hts (.fieldLink RX4 37 "LandQuartersModel" "thrown" "I") (by decide +kernel)) (fun _ h9 => h9) rfl (by decide +kernel) (rfl) (rfl) (Nat.le_of_ble_eq_true rfl) dX4_plotsOf_2 (fun H locs hP hD hS => ?_)
  have hP : va_P G.1 vwCl [(mq, .inr (4, [.ref an, .ref ap, .int (nI st), .ref ak, .ref ai, .ref ad, .ref ac, .ref aw, .int (nI mn), .ref at_, .int (nI le), .int (nI 0), .int (nI sp), .ref ao, .int (nI tm)]))] H := hP
  have hD : va_D A [(mq, .inr (4, [.ref an, .ref ap, .int (nI st), .ref ak, .ref ai, .ref ad, .ref ac, .ref aw, .int (nI mn), .ref at_, .int (nI le), .int (nI 0), .int (nI sp), .ref ao, .int (nI tm)]))] := hD
  refine lv_iload_n hx hb dX4_plotsOf_5 rfl (lv_at hl 1 rfl) ?_
  refine gCi F (gRunS (own := RX4) (bytes := cX4_isOwner) (n := 1) (As := [.int (zI o)]) (rest := []) F (c_X4_isOwner l G o (by first | assumption | omega) H.size) gX4_plotsOf_X4_isOwner rfl rfl rfl rfl (by decide +kernel) rfl ⟨Nat.le_of_ble_eq_true rfl, Nat.le_of_ble_eq_true rfl⟩ hP hD (lit := [(mq, .inr (4, [.ref an, .ref ap, .int (nI st), .ref ak, .ref ai, .ref ad, .ref ac, .ref aw, .int (nI mn), .ref at_, .int (nI le), .int (nI 0), .int (nI sp), .ref ao, .int (nI tm)]))]) (wt := []) (wc := []) (isC := []) rfl (by decide) rfl hl.1 (Nat.le_of_ble_eq_true rfl) dX4_plotsOf_6 ⟨Nat.le_of_ble_eq_true rfl, Nat.le_of_ble_eq_true rfl⟩) hP hD hS (lit := [(mq, .inr (4, [.ref an, .ref ap, .int (nI st), .ref ak, .ref ai, .ref ad, .ref ac, .ref aw, .int (nI mn), .ref at_, .int (nI le), .int (nI 0), .int (nI sp), .ref ao, .int (nI tm)]))]) (wt := []) (wc := []) (wr := [(mq, .inr (4, [.ref an, .ref ap, .int (nI st), .ref ak, .ref ai, .ref ad, .ref ac, .ref aw, .int (nI mn), .ref at_, .int (nI le), .int (nI 0), .int (nI sp), .ref ao, .int (nI tm)]))]) (isC := []) (isR := [0]) rfl rfl (by decide) (by decide) (fun r6 u H locs hp6 hP hD hS => ?_)
  subst hp6
  have hP : va_P G.1 vwCl [(mq, .inr (4, [.ref an, .ref ap, .int (nI st), .ref ak, .ref ai, .ref ad, .ref ac, .ref aw, .int (nI mn), .ref at_, .int (nI le), .int (nI 0), .int (nI sp), .ref ao, .int (nI tm)]))] H := hP
  have hD : va_D A [(mq, .inr (4, [.ref an, .ref ap, .int (nI st), .ref ak, .ref ai, .ref ad, .ref ac, .ref aw, .int (nI mn), .ref at_, .int (nI le), .int (nI 0), .int (nI sp), .ref ao, .int (nI tm)]))] := hD
  refine gIfB_eq (P := (0 ≤ o ∧ o < 8)) (tgt := 20) hx hb dX4_plotsOf_9 (by decide) (fun c9 => ?_) (fun c9 => ?_)
  · skip
    refine lv_aload_n hx hb dX4_plotsOf_20 rfl (lv_at hl 0 rfl) ?_
    refine lv_iconst (v := nI 1) hx hb dX4_plotsOf_21 (by decide) ?_
    refine gCi F (gRunV (own := RX4) (C := RX4) (ci := 4) (bytes := cX4_refuses) (n := 1) (As := [.int (nI 1)]) (rest := []) F (c_X4_refuses l G mq an ap st ak ai ad ac aw mn at_ le 0 sp ao tm 1  H.size) gX4_plotsOf_X4_refuses rfl rfl rfl rfl (by decide +kernel) rfl ⟨Nat.le_of_ble_eq_true rfl, Nat.le_of_ble_eq_true rfl⟩ hP hD (lit := [(mq, .inr (4, [.ref an, .ref ap, .int (nI st), .ref ak, .ref ai, .ref ad, .ref ac, .ref aw, .int (nI mn), .ref at_, .int (nI le), .int (nI 0), .int (nI sp), .ref ao, .int (nI tm)]))]) (wt := []) (wc := [(mq, .inr (4, [.ref an, .ref ap, .int (nI st), .ref ak, .ref ai, .ref ad, .ref ac, .ref aw, .int (nI mn), .ref at_, .int (nI le), .int (nI 0), .int (nI sp), .ref ao, .int (nI tm)]))]) (isC := [0]) rfl (by decide) rfl rfl rfl hl.1 (Nat.le_of_ble_eq_true rfl) dX4_plotsOf_22 ⟨Nat.le_of_ble_eq_true rfl, Nat.le_of_ble_eq_true rfl⟩) hP hD hS (lit := [(mq, .inr (4, [.ref an, .ref ap, .int (nI st), .ref ak, .ref ai, .ref ad, .ref ac, .ref aw, .int (nI mn), .ref at_, .int (nI le), .int (nI 0), .int (nI sp), .ref ao, .int (nI tm)]))]) (wt := []) (wc := [(mq, .inr (4, [.ref an, .ref ap, .int (nI st), .ref ak, .ref ai, .ref ad, .ref ac, .ref aw, .int (nI mn), .ref at_, .int (nI le), .int (nI 0), .int (nI sp), .ref ao, .int (nI tm)]))]) (wr := []) (isC := [0]) (isR := []) rfl rfl (by decide) (by decide) (fun r22 u H locs hp22 hP hD hS => ?_)
    subst hp22
    have hP : va_P G.1 vwCl [(mq, .inr (4, [.ref an, .ref ap, .int (nI st), .ref ak, .ref ai, .ref ad, .ref ac, .ref aw, .int (nI mn), .ref at_, .int (nI le), .int (nI 1), .int (nI sp), .ref ao, .int (nI tm)]))] H := hP
    have hD : va_D A [(mq, .inr (4, [.ref an, .ref ap, .int (nI st), .ref ak, .ref ai, .ref ad, .ref ac, .ref aw, .int (nI mn), .ref at_, .int (nI le), .int (nI 1), .int (nI sp), .ref ao, .int (nI tm)]))] := hD
    exact gRi F dX4_plotsOf_25 (rfl) () (rfl) hP hD hS (Nat.le_refl _) (Nat.le_refl _)
  exfalso; omega

set_option maxHeartbeats 4000000 in
set_option maxRecDepth 100000 in
theorem c_X4_areaByPlots (l : Launch) (G : gG) (mq : Nat) (an : Nat) (ap : Nat) (st : Nat) (ak : Nat) (ai : Nat) (ad : Nat) (ac : Nat) (aw : Nat) (mn : Nat) (at_ : Nat) (le : Nat) (th : Nat) (sp : Nat) (ao : Nat) (tm : Nat) (nw : Nat → Nat) (o : Nat) (how : ∀ k, k < 256 → nw k < 8) (ho : o < 8) : gMi (S := Unit) l yX4_areaByPlots wsX4_areaByPlots { frames := 2, cells := 0, slots := 0, locals := 42 } G [.ref mq, .int (nI o)] [(mq, .inr (4, [.ref an, .ref ap, .int (nI st), .ref ak, .ref ai, .ref ad, .ref ac, .ref aw, .int (nI mn), .ref at_, .int (nI le), .int (nI th), .int (nI sp), .ref ao, .int (nI tm)])), (an, .inl (G.2.1, 525, .inl (gn nw)))] (fun (r : Int32) (u : Unit) => (r = nI (aM nw o 256))) (fun u => [(mq, .inr (4, [.ref an, .ref ap, .int (nI st), .ref ak, .ref ai, .ref ad, .ref ac, .ref aw, .int (nI mn), .ref at_, .int (nI le), .int (nI 0), .int (nI sp), .ref ao, .int (nI tm)])), (an, .inl (G.2.1, 525, .inl (gn nw)))]) 0 0 := by
  refine gMet_mk (cc := cX4_areaByPlots) (nL := 2) (ret := (some .int)) (Qc := fun A => va_Qi (S := Unit) (fun (r : Int32) (u : Unit) => (r = nI (aM nw o 256))) (gB G A (fun (u : Unit) => [(mq, .inr (4, [.ref an, .ref ap, .int (nI st), .ref ak, .ref ai, .ref ad, .ref ac, .ref aw, .int (nI mn), .ref at_, .int (nI le), .int (nI 0), .int (nI sp), .ref ao, .int (nI tm)])), (an, .inl (G.2.1, 525, .inl (gn nw)))])) A) (by decide) rfl (Nat.le_of_ble_eq_true rfl) ?_
  intro p e s m args below meth c A F ls hl hP hD hS
  have hx := F.1
  have hb := F.2.1
  have hts := F.2.2.2.2.2.2.1
  have hown : s.vm.findClass RX4 = some m.cls := F.2.2.2.2.2.1
  have hKK := F.2.2.2.2.2.2.2.2.1
  have hK := hKK.1
  have hin0 := F.2.2.2.2.2.2.2.1
  have hi4 : ∀ w ∈ u_ws RX4 TX4 15, w ∈ wsX4_areaByPlots := by decide +kernel
  have hl : lv_has ls 2 [(0, .ref mq), (1, .int (nI o))] := hl
  generalize hH : s.heap = H at hP ⊢
  have hS : va_S A s.heap H [] := by rw [← hH]; exact va_S.rf
  generalize hLo : ([] : List Loc) = locs at hS ⊢
  refine lv_aload_n hx hb dX4_areaByPlots_0 rfl (lv_at hl 0 rfl) ?_
  refine lv_iconst (v := nI 0) hx hb dX4_areaByPlots_1 (by decide) ?_
  refine va_put (D := G.1) (ci := 4) (v := .int (nI 0)) (ty := .int) (C := RX4) (T := TX4) (N := 15) hx hb hts hi4 tyX4 tyX4_ok nmX4 hown hK hP hD hS 0 rfl rfl 11 (by decide) (hts (.fieldLink RX4 37 "LandQuartersModel" "thrown" "I") (by decide +kernel)) (fun _ h9 => h9) rfl (by decide +kernel) (rfl) (rfl) (Nat.le_of_ble_eq_true rfl) dX4_areaByPlots_2 (fun H locs hP hD hS => ?_)
  have hP : va_P G.1 vwCl [(mq, .inr (4, [.ref an, .ref ap, .int (nI st), .ref ak, .ref ai, .ref ad, .ref ac, .ref aw, .int (nI mn), .ref at_, .int (nI le), .int (nI 0), .int (nI sp), .ref ao, .int (nI tm)])), (an, .inl (G.2.1, 525, .inl (gn nw)))] H := hP
  have hD : va_D A [(mq, .inr (4, [.ref an, .ref ap, .int (nI st), .ref ak, .ref ai, .ref ad, .ref ac, .ref aw, .int (nI mn), .ref at_, .int (nI le), .int (nI 0), .int (nI sp), .ref ao, .int (nI tm)])), (an, .inl (G.2.1, 525, .inl (gn nw)))] := hD
  refine lv_iload_n hx hb dX4_areaByPlots_5 rfl (lv_at hl 1 rfl) ?_
  refine W.eq (g2 := F0 m 6 ls [.int (zI ((o : Nat) : Int))]) (by simp only [zI_nat, zI_neg1]) ?_
  refine gCi F (gRunS (own := RX4) (bytes := cX4_isOwner) (n := 1) (As := [.int (zI ((o : Nat) : Int))]) (rest := []) F (c_X4_isOwner l G ((o : Nat) : Int) (by first | assumption | omega) H.size) gX4_areaByPlots_X4_isOwner rfl rfl rfl rfl (by decide +kernel) rfl ⟨Nat.le_of_ble_eq_true rfl, Nat.le_of_ble_eq_true rfl⟩ hP hD (lit := [(mq, .inr (4, [.ref an, .ref ap, .int (nI st), .ref ak, .ref ai, .ref ad, .ref ac, .ref aw, .int (nI mn), .ref at_, .int (nI le), .int (nI 0), .int (nI sp), .ref ao, .int (nI tm)])), (an, .inl (G.2.1, 525, .inl (gn nw)))]) (wt := []) (wc := []) (isC := []) rfl (by decide) rfl hl.1 (Nat.le_of_ble_eq_true rfl) dX4_areaByPlots_6 ⟨Nat.le_of_ble_eq_true rfl, Nat.le_of_ble_eq_true rfl⟩) hP hD hS (lit := [(mq, .inr (4, [.ref an, .ref ap, .int (nI st), .ref ak, .ref ai, .ref ad, .ref ac, .ref aw, .int (nI mn), .ref at_, .int (nI le), .int (nI 0), .int (nI sp), .ref ao, .int (nI tm)])), (an, .inl (G.2.1, 525, .inl (gn nw)))]) (wt := []) (wc := []) (wr := [(mq, .inr (4, [.ref an, .ref ap, .int (nI st), .ref ak, .ref ai, .ref ad, .ref ac, .ref aw, .int (nI mn), .ref at_, .int (nI le), .int (nI 0), .int (nI sp), .ref ao, .int (nI tm)])), (an, .inl (G.2.1, 525, .inl (gn nw)))]) (isC := []) (isR := [0, 1]) rfl rfl (by decide) (by decide) (fun r6 u H locs hp6 hP hD hS => ?_)
  subst hp6
  have hP : va_P G.1 vwCl [(mq, .inr (4, [.ref an, .ref ap, .int (nI st), .ref ak, .ref ai, .ref ad, .ref ac, .ref aw, .int (nI mn), .ref at_, .int (nI le), .int (nI 0), .int (nI sp), .ref ao, .int (nI tm)])), (an, .inl (G.2.1, 525, .inl (gn nw)))] H := hP
  have hD : va_D A [(mq, .inr (4, [.ref an, .ref ap, .int (nI st), .ref ak, .ref ai, .ref ad, .ref ac, .ref aw, .int (nI mn), .ref at_, .int (nI le), .int (nI 0), .int (nI sp), .ref ao, .int (nI tm)])), (an, .inl (G.2.1, 525, .inl (gn nw)))] := hD
  refine gIfB_eq (P := (0 ≤ ((o : Nat) : Int) ∧ ((o : Nat) : Int) < 8)) (tgt := 20) hx hb dX4_areaByPlots_9 (by decide) (fun c9 => ?_) (fun c9 => ?_)
  · skip
    refine lv_aload_n hx hb dX4_areaByPlots_20 rfl (lv_at hl 0 rfl) ?_
    refine lv_iconst (v := nI 1) hx hb dX4_areaByPlots_21 (by decide) ?_
    exfalso; omega
  refine lv_aload_n hx hb dX4_areaByPlots_12 rfl (lv_at hl 0 rfl) ?_
  refine lv_iload_n hx hb dX4_areaByPlots_13 rfl (lv_at hl 1 rfl) ?_
  refine gCi F (gRunV (own := RX4) (C := RX4) (ci := 4) (bytes := cX4_area) (n := 1) (As := [.int (nI o)]) (rest := []) F (c_X4_area l G mq an ap st ak ai ad ac aw mn at_ le 0 sp ao tm nw o (by first | assumption | omega) (by first | assumption | omega) H.size) gX4_areaByPlots_X4_area rfl rfl rfl rfl (by decide +kernel) rfl ⟨Nat.le_of_ble_eq_true rfl, Nat.le_of_ble_eq_true rfl⟩ hP hD (lit := [(mq, .inr (4, [.ref an, .ref ap, .int (nI st), .ref ak, .ref ai, .ref ad, .ref ac, .ref aw, .int (nI mn), .ref at_, .int (nI le), .int (nI 0), .int (nI sp), .ref ao, .int (nI tm)])), (an, .inl (G.2.1, 525, .inl (gn nw)))]) (wt := []) (wc := [(mq, .inr (4, [.ref an, .ref ap, .int (nI st), .ref ak, .ref ai, .ref ad, .ref ac, .ref aw, .int (nI mn), .ref at_, .int (nI le), .int (nI 0), .int (nI sp), .ref ao, .int (nI tm)])), (an, .inl (G.2.1, 525, .inl (gn nw)))]) (isC := [0, 1]) rfl (by decide) rfl rfl rfl hl.1 (Nat.le_of_ble_eq_true rfl) dX4_areaByPlots_14 ⟨Nat.le_of_ble_eq_true rfl, Nat.le_of_ble_eq_true rfl⟩) hP hD hS (lit := [(mq, .inr (4, [.ref an, .ref ap, .int (nI st), .ref ak, .ref ai, .ref ad, .ref ac, .ref aw, .int (nI mn), .ref at_, .int (nI le), .int (nI 0), .int (nI sp), .ref ao, .int (nI tm)])), (an, .inl (G.2.1, 525, .inl (gn nw)))]) (wt := []) (wc := [(mq, .inr (4, [.ref an, .ref ap, .int (nI st), .ref ak, .ref ai, .ref ad, .ref ac, .ref aw, .int (nI mn), .ref at_, .int (nI le), .int (nI 0), .int (nI sp), .ref ao, .int (nI tm)])), (an, .inl (G.2.1, 525, .inl (gn nw)))]) (wr := []) (isC := [0, 1]) (isR := []) rfl rfl (by decide) (by decide) (fun r14 u H locs hp14 hP hD hS => ?_)
  subst hp14
  have hP : va_P G.1 vwCl [(mq, .inr (4, [.ref an, .ref ap, .int (nI st), .ref ak, .ref ai, .ref ad, .ref ac, .ref aw, .int (nI mn), .ref at_, .int (nI le), .int (nI 0), .int (nI sp), .ref ao, .int (nI tm)])), (an, .inl (G.2.1, 525, .inl (gn nw)))] H := hP
  have hD : va_D A [(mq, .inr (4, [.ref an, .ref ap, .int (nI st), .ref ak, .ref ai, .ref ad, .ref ac, .ref aw, .int (nI mn), .ref at_, .int (nI le), .int (nI 0), .int (nI sp), .ref ao, .int (nI tm)])), (an, .inl (G.2.1, 525, .inl (gn nw)))] := hD
  refine lv_goto (tgt := 25) hx hb dX4_areaByPlots_17 (by decide) ?_
  exact gRi F dX4_areaByPlots_25 (rfl) () (rfl) hP hD hS (Nat.le_refl _) (Nat.le_refl _)

set_option maxHeartbeats 4000000 in
set_option maxRecDepth 100000 in
theorem f1_X4_areaByPlots (l : Launch) (G : gG) (mq : Nat) (an : Nat) (ap : Nat) (st : Nat) (ak : Nat) (ai : Nat) (ad : Nat) (ac : Nat) (aw : Nat) (mn : Nat) (at_ : Nat) (le : Nat) (th : Nat) (sp : Nat) (ao : Nat) (tm : Nat) (o : Int) (ho : -2147483648 ≤ o ∧ o < 2147483648) (hcond0 : ¬(0 ≤ o ∧ o < 8)) : gMi (S := Unit) l yX4_areaByPlots wsX4_areaByPlots { frames := 2, cells := 0, slots := 0, locals := 42 } G [.ref mq, .int (zI o)] [(mq, .inr (4, [.ref an, .ref ap, .int (nI st), .ref ak, .ref ai, .ref ad, .ref ac, .ref aw, .int (nI mn), .ref at_, .int (nI le), .int (nI th), .int (nI sp), .ref ao, .int (nI tm)]))] (fun (r : Int32) (u : Unit) => (r = nI 0)) (fun u => [(mq, .inr (4, [.ref an, .ref ap, .int (nI st), .ref ak, .ref ai, .ref ad, .ref ac, .ref aw, .int (nI mn), .ref at_, .int (nI le), .int (nI 1), .int (nI sp), .ref ao, .int (nI tm)]))]) 0 0 := by
  refine gMet_mk (cc := cX4_areaByPlots) (nL := 2) (ret := (some .int)) (Qc := fun A => va_Qi (S := Unit) (fun (r : Int32) (u : Unit) => (r = nI 0)) (gB G A (fun (u : Unit) => [(mq, .inr (4, [.ref an, .ref ap, .int (nI st), .ref ak, .ref ai, .ref ad, .ref ac, .ref aw, .int (nI mn), .ref at_, .int (nI le), .int (nI 1), .int (nI sp), .ref ao, .int (nI tm)]))])) A) (by decide) rfl (Nat.le_of_ble_eq_true rfl) ?_
  intro p e s m args below meth c A F ls hl hP hD hS
  have hx := F.1
  have hb := F.2.1
  have hts := F.2.2.2.2.2.2.1
  have hown : s.vm.findClass RX4 = some m.cls := F.2.2.2.2.2.1
  have hKK := F.2.2.2.2.2.2.2.2.1
  have hK := hKK.1
  have hin0 := F.2.2.2.2.2.2.2.1
  have hi4 : ∀ w ∈ u_ws RX4 TX4 15, w ∈ wsX4_areaByPlots := by decide +kernel
  have hl : lv_has ls 2 [(0, .ref mq), (1, .int (zI o))] := hl
  generalize hH : s.heap = H at hP ⊢
  have hS : va_S A s.heap H [] := by rw [← hH]; exact va_S.rf
  generalize hLo : ([] : List Loc) = locs at hS ⊢
  refine lv_aload_n hx hb dX4_areaByPlots_0 rfl (lv_at hl 0 rfl) ?_
  refine lv_iconst (v := nI 0) hx hb dX4_areaByPlots_1 (by decide) ?_
  refine va_put (D := G.1) (ci := 4) (v := .int (nI 0)) (ty := .int) (C := RX4) (T := TX4) (N := 15) hx hb hts hi4 tyX4 tyX4_ok nmX4 hown hK hP hD hS 0 rfl rfl 11 (by decide) (hts (.fieldLink RX4 37 "LandQuartersModel" "thrown" "I") (by decide +kernel)) (fun _ h9 => h9) rfl (by decide +kernel) (rfl) (rfl) (Nat.le_of_ble_eq_true rfl) dX4_areaByPlots_2 (fun H locs hP hD hS => ?_)
  have hP : va_P G.1 vwCl [(mq, .inr (4, [.ref an, .ref ap, .int (nI st), .ref ak, .ref ai, .ref ad, .ref ac, .ref aw, .int (nI mn), .ref at_, .int (nI le), .int (nI 0), .int (nI sp), .ref ao, .int (nI tm)]))] H := hP
  have hD : va_D A [(mq, .inr (4, [.ref an, .ref ap, .int (nI st), .ref ak, .ref ai, .ref ad, .ref ac, .ref aw, .int (nI mn), .ref at_, .int (nI le), .int (nI 0), .int (nI sp), .ref ao, .int (nI tm)]))] := hD
  refine lv_iload_n hx hb dX4_areaByPlots_5 rfl (lv_at hl 1 rfl) ?_
  refine gCi F (gRunS (own := RX4) (bytes := cX4_isOwner) (n := 1) (As := [.int (zI o)]) (rest := []) F (c_X4_isOwner l G o (by first | assumption | omega) H.size) gX4_areaByPlots_X4_isOwner rfl rfl rfl rfl (by decide +kernel) rfl ⟨Nat.le_of_ble_eq_true rfl, Nat.le_of_ble_eq_true rfl⟩ hP hD (lit := [(mq, .inr (4, [.ref an, .ref ap, .int (nI st), .ref ak, .ref ai, .ref ad, .ref ac, .ref aw, .int (nI mn), .ref at_, .int (nI le), .int (nI 0), .int (nI sp), .ref ao, .int (nI tm)]))]) (wt := []) (wc := []) (isC := []) rfl (by decide) rfl hl.1 (Nat.le_of_ble_eq_true rfl) dX4_areaByPlots_6 ⟨Nat.le_of_ble_eq_true rfl, Nat.le_of_ble_eq_true rfl⟩) hP hD hS (lit := [(mq, .inr (4, [.ref an, .ref ap, .int (nI st), .ref ak, .ref ai, .ref ad, .ref ac, .ref aw, .int (nI mn), .ref at_, .int (nI le), .int (nI 0), .int (nI sp), .ref ao, .int (nI tm)]))]) (wt := []) (wc := []) (wr := [(mq, .inr (4, [.ref an, .ref ap, .int (nI st), .ref ak, .ref ai, .ref ad, .ref ac, .ref aw, .int (nI mn), .ref at_, .int (nI le), .int (nI 0), .int (nI sp), .ref ao, .int (nI tm)]))]) (isC := []) (isR := [0]) rfl rfl (by decide) (by decide) (fun r6 u H locs hp6 hP hD hS => ?_)
  subst hp6
  have hP : va_P G.1 vwCl [(mq, .inr (4, [.ref an, .ref ap, .int (nI st), .ref ak, .ref ai, .ref ad, .ref ac, .ref aw, .int (nI mn), .ref at_, .int (nI le), .int (nI 0), .int (nI sp), .ref ao, .int (nI tm)]))] H := hP
  have hD : va_D A [(mq, .inr (4, [.ref an, .ref ap, .int (nI st), .ref ak, .ref ai, .ref ad, .ref ac, .ref aw, .int (nI mn), .ref at_, .int (nI le), .int (nI 0), .int (nI sp), .ref ao, .int (nI tm)]))] := hD
  refine gIfB_eq (P := (0 ≤ o ∧ o < 8)) (tgt := 20) hx hb dX4_areaByPlots_9 (by decide) (fun c9 => ?_) (fun c9 => ?_)
  · skip
    refine lv_aload_n hx hb dX4_areaByPlots_20 rfl (lv_at hl 0 rfl) ?_
    refine lv_iconst (v := nI 1) hx hb dX4_areaByPlots_21 (by decide) ?_
    refine gCi F (gRunV (own := RX4) (C := RX4) (ci := 4) (bytes := cX4_refuses) (n := 1) (As := [.int (nI 1)]) (rest := []) F (c_X4_refuses l G mq an ap st ak ai ad ac aw mn at_ le 0 sp ao tm 1  H.size) gX4_areaByPlots_X4_refuses rfl rfl rfl rfl (by decide +kernel) rfl ⟨Nat.le_of_ble_eq_true rfl, Nat.le_of_ble_eq_true rfl⟩ hP hD (lit := [(mq, .inr (4, [.ref an, .ref ap, .int (nI st), .ref ak, .ref ai, .ref ad, .ref ac, .ref aw, .int (nI mn), .ref at_, .int (nI le), .int (nI 0), .int (nI sp), .ref ao, .int (nI tm)]))]) (wt := []) (wc := [(mq, .inr (4, [.ref an, .ref ap, .int (nI st), .ref ak, .ref ai, .ref ad, .ref ac, .ref aw, .int (nI mn), .ref at_, .int (nI le), .int (nI 0), .int (nI sp), .ref ao, .int (nI tm)]))]) (isC := [0]) rfl (by decide) rfl rfl rfl hl.1 (Nat.le_of_ble_eq_true rfl) dX4_areaByPlots_22 ⟨Nat.le_of_ble_eq_true rfl, Nat.le_of_ble_eq_true rfl⟩) hP hD hS (lit := [(mq, .inr (4, [.ref an, .ref ap, .int (nI st), .ref ak, .ref ai, .ref ad, .ref ac, .ref aw, .int (nI mn), .ref at_, .int (nI le), .int (nI 0), .int (nI sp), .ref ao, .int (nI tm)]))]) (wt := []) (wc := [(mq, .inr (4, [.ref an, .ref ap, .int (nI st), .ref ak, .ref ai, .ref ad, .ref ac, .ref aw, .int (nI mn), .ref at_, .int (nI le), .int (nI 0), .int (nI sp), .ref ao, .int (nI tm)]))]) (wr := []) (isC := [0]) (isR := []) rfl rfl (by decide) (by decide) (fun r22 u H locs hp22 hP hD hS => ?_)
    subst hp22
    have hP : va_P G.1 vwCl [(mq, .inr (4, [.ref an, .ref ap, .int (nI st), .ref ak, .ref ai, .ref ad, .ref ac, .ref aw, .int (nI mn), .ref at_, .int (nI le), .int (nI 1), .int (nI sp), .ref ao, .int (nI tm)]))] H := hP
    have hD : va_D A [(mq, .inr (4, [.ref an, .ref ap, .int (nI st), .ref ak, .ref ai, .ref ad, .ref ac, .ref aw, .int (nI mn), .ref at_, .int (nI le), .int (nI 1), .int (nI sp), .ref ao, .int (nI tm)]))] := hD
    exact gRi F dX4_areaByPlots_25 (rfl) () (rfl) hP hD hS (Nat.le_refl _) (Nat.le_refl _)
  exfalso; omega

set_option maxHeartbeats 4000000 in
set_option maxRecDepth 100000 in
theorem c_X4_areaByCells (l : Launch) (G : gG) (mq : Nat) (an : Nat) (ap : Nat) (st : Nat) (ak : Nat) (ai : Nat) (ad : Nat) (ac : Nat) (aw : Nat) (mn : Nat) (at_ : Nat) (le : Nat) (th : Nat) (sp : Nat) (ao : Nat) (tm : Nat) (nw : Nat → Nat) (o : Nat) (how : ∀ k, k < 256 → nw k < 8) (ho : o < 8) : gMi (S := Unit) l yX4_areaByCells wsX4_areaByCells { frames := 2, cells := 0, slots := 0, locals := 42 } G [.ref mq, .int (nI o)] [(mq, .inr (4, [.ref an, .ref ap, .int (nI st), .ref ak, .ref ai, .ref ad, .ref ac, .ref aw, .int (nI mn), .ref at_, .int (nI le), .int (nI th), .int (nI sp), .ref ao, .int (nI tm)])), (an, .inl (G.2.1, 525, .inl (gn nw)))] (fun (r : Int32) (u : Unit) => (r = nI (aM nw o 256))) (fun u => [(mq, .inr (4, [.ref an, .ref ap, .int (nI st), .ref ak, .ref ai, .ref ad, .ref ac, .ref aw, .int (nI mn), .ref at_, .int (nI le), .int (nI 0), .int (nI sp), .ref ao, .int (nI tm)])), (an, .inl (G.2.1, 525, .inl (gn nw)))]) 0 0 := by
  refine gMet_mk (cc := cX4_areaByCells) (nL := 2) (ret := (some .int)) (Qc := fun A => va_Qi (S := Unit) (fun (r : Int32) (u : Unit) => (r = nI (aM nw o 256))) (gB G A (fun (u : Unit) => [(mq, .inr (4, [.ref an, .ref ap, .int (nI st), .ref ak, .ref ai, .ref ad, .ref ac, .ref aw, .int (nI mn), .ref at_, .int (nI le), .int (nI 0), .int (nI sp), .ref ao, .int (nI tm)])), (an, .inl (G.2.1, 525, .inl (gn nw)))])) A) (by decide) rfl (Nat.le_of_ble_eq_true rfl) ?_
  intro p e s m args below meth c A F ls hl hP hD hS
  have hx := F.1
  have hb := F.2.1
  have hts := F.2.2.2.2.2.2.1
  have hown : s.vm.findClass RX4 = some m.cls := F.2.2.2.2.2.1
  have hKK := F.2.2.2.2.2.2.2.2.1
  have hK := hKK.1
  have hin0 := F.2.2.2.2.2.2.2.1
  have hi4 : ∀ w ∈ u_ws RX4 TX4 15, w ∈ wsX4_areaByCells := by decide +kernel
  have hl : lv_has ls 2 [(0, .ref mq), (1, .int (nI o))] := hl
  generalize hH : s.heap = H at hP ⊢
  have hS : va_S A s.heap H [] := by rw [← hH]; exact va_S.rf
  generalize hLo : ([] : List Loc) = locs at hS ⊢
  refine lv_aload_n hx hb dX4_areaByCells_0 rfl (lv_at hl 0 rfl) ?_
  refine lv_iconst (v := nI 0) hx hb dX4_areaByCells_1 (by decide) ?_
  refine va_put (D := G.1) (ci := 4) (v := .int (nI 0)) (ty := .int) (C := RX4) (T := TX4) (N := 15) hx hb hts hi4 tyX4 tyX4_ok nmX4 hown hK hP hD hS 0 rfl rfl 11 (by decide) (hts (.fieldLink RX4 37 "LandQuartersModel" "thrown" "I") (by decide +kernel)) (fun _ h9 => h9) rfl (by decide +kernel) (rfl) (rfl) (Nat.le_of_ble_eq_true rfl) dX4_areaByCells_2 (fun H locs hP hD hS => ?_)
  have hP : va_P G.1 vwCl [(mq, .inr (4, [.ref an, .ref ap, .int (nI st), .ref ak, .ref ai, .ref ad, .ref ac, .ref aw, .int (nI mn), .ref at_, .int (nI le), .int (nI 0), .int (nI sp), .ref ao, .int (nI tm)])), (an, .inl (G.2.1, 525, .inl (gn nw)))] H := hP
  have hD : va_D A [(mq, .inr (4, [.ref an, .ref ap, .int (nI st), .ref ak, .ref ai, .ref ad, .ref ac, .ref aw, .int (nI mn), .ref at_, .int (nI le), .int (nI 0), .int (nI sp), .ref ao, .int (nI tm)])), (an, .inl (G.2.1, 525, .inl (gn nw)))] := hD
  refine lv_iload_n hx hb dX4_areaByCells_5 rfl (lv_at hl 1 rfl) ?_
  refine W.eq (g2 := F0 m 6 ls [.int (zI ((o : Nat) : Int))]) (by simp only [zI_nat, zI_neg1]) ?_
  refine gCi F (gRunS (own := RX4) (bytes := cX4_isOwner) (n := 1) (As := [.int (zI ((o : Nat) : Int))]) (rest := []) F (c_X4_isOwner l G ((o : Nat) : Int) (by first | assumption | omega) H.size) gX4_areaByCells_X4_isOwner rfl rfl rfl rfl (by decide +kernel) rfl ⟨Nat.le_of_ble_eq_true rfl, Nat.le_of_ble_eq_true rfl⟩ hP hD (lit := [(mq, .inr (4, [.ref an, .ref ap, .int (nI st), .ref ak, .ref ai, .ref ad, .ref ac, .ref aw, .int (nI mn), .ref at_, .int (nI le), .int (nI 0), .int (nI sp), .ref ao, .int (nI tm)])), (an, .inl (G.2.1, 525, .inl (gn nw)))]) (wt := []) (wc := []) (isC := []) rfl (by decide) rfl hl.1 (Nat.le_of_ble_eq_true rfl) dX4_areaByCells_6 ⟨Nat.le_of_ble_eq_true rfl, Nat.le_of_ble_eq_true rfl⟩) hP hD hS (lit := [(mq, .inr (4, [.ref an, .ref ap, .int (nI st), .ref ak, .ref ai, .ref ad, .ref ac, .ref aw, .int (nI mn), .ref at_, .int (nI le), .int (nI 0), .int (nI sp), .ref ao, .int (nI tm)])), (an, .inl (G.2.1, 525, .inl (gn nw)))]) (wt := []) (wc := []) (wr := [(mq, .inr (4, [.ref an, .ref ap, .int (nI st), .ref ak, .ref ai, .ref ad, .ref ac, .ref aw, .int (nI mn), .ref at_, .int (nI le), .int (nI 0), .int (nI sp), .ref ao, .int (nI tm)])), (an, .inl (G.2.1, 525, .inl (gn nw)))]) (isC := []) (isR := [0, 1]) rfl rfl (by decide) (by decide) (fun r6 u H locs hp6 hP hD hS => ?_)
  subst hp6
  have hP : va_P G.1 vwCl [(mq, .inr (4, [.ref an, .ref ap, .int (nI st), .ref ak, .ref ai, .ref ad, .ref ac, .ref aw, .int (nI mn), .ref at_, .int (nI le), .int (nI 0), .int (nI sp), .ref ao, .int (nI tm)])), (an, .inl (G.2.1, 525, .inl (gn nw)))] H := hP
  have hD : va_D A [(mq, .inr (4, [.ref an, .ref ap, .int (nI st), .ref ak, .ref ai, .ref ad, .ref ac, .ref aw, .int (nI mn), .ref at_, .int (nI le), .int (nI 0), .int (nI sp), .ref ao, .int (nI tm)])), (an, .inl (G.2.1, 525, .inl (gn nw)))] := hD
  refine gIfB_eq (P := (0 ≤ ((o : Nat) : Int) ∧ ((o : Nat) : Int) < 8)) (tgt := 20) hx hb dX4_areaByCells_9 (by decide) (fun c9 => ?_) (fun c9 => ?_)
  · skip
    refine lv_aload_n hx hb dX4_areaByCells_20 rfl (lv_at hl 0 rfl) ?_
    refine lv_iconst (v := nI 1) hx hb dX4_areaByCells_21 (by decide) ?_
    exfalso; omega
  refine lv_aload_n hx hb dX4_areaByCells_12 rfl (lv_at hl 0 rfl) ?_
  refine lv_iload_n hx hb dX4_areaByCells_13 rfl (lv_at hl 1 rfl) ?_
  refine gCi F (gRunV (own := RX4) (C := RX4) (ci := 4) (bytes := cX4_area) (n := 1) (As := [.int (nI o)]) (rest := []) F (c_X4_area l G mq an ap st ak ai ad ac aw mn at_ le 0 sp ao tm nw o (by first | assumption | omega) (by first | assumption | omega) H.size) gX4_areaByCells_X4_area rfl rfl rfl rfl (by decide +kernel) rfl ⟨Nat.le_of_ble_eq_true rfl, Nat.le_of_ble_eq_true rfl⟩ hP hD (lit := [(mq, .inr (4, [.ref an, .ref ap, .int (nI st), .ref ak, .ref ai, .ref ad, .ref ac, .ref aw, .int (nI mn), .ref at_, .int (nI le), .int (nI 0), .int (nI sp), .ref ao, .int (nI tm)])), (an, .inl (G.2.1, 525, .inl (gn nw)))]) (wt := []) (wc := [(mq, .inr (4, [.ref an, .ref ap, .int (nI st), .ref ak, .ref ai, .ref ad, .ref ac, .ref aw, .int (nI mn), .ref at_, .int (nI le), .int (nI 0), .int (nI sp), .ref ao, .int (nI tm)])), (an, .inl (G.2.1, 525, .inl (gn nw)))]) (isC := [0, 1]) rfl (by decide) rfl rfl rfl hl.1 (Nat.le_of_ble_eq_true rfl) dX4_areaByCells_14 ⟨Nat.le_of_ble_eq_true rfl, Nat.le_of_ble_eq_true rfl⟩) hP hD hS (lit := [(mq, .inr (4, [.ref an, .ref ap, .int (nI st), .ref ak, .ref ai, .ref ad, .ref ac, .ref aw, .int (nI mn), .ref at_, .int (nI le), .int (nI 0), .int (nI sp), .ref ao, .int (nI tm)])), (an, .inl (G.2.1, 525, .inl (gn nw)))]) (wt := []) (wc := [(mq, .inr (4, [.ref an, .ref ap, .int (nI st), .ref ak, .ref ai, .ref ad, .ref ac, .ref aw, .int (nI mn), .ref at_, .int (nI le), .int (nI 0), .int (nI sp), .ref ao, .int (nI tm)])), (an, .inl (G.2.1, 525, .inl (gn nw)))]) (wr := []) (isC := [0, 1]) (isR := []) rfl rfl (by decide) (by decide) (fun r14 u H locs hp14 hP hD hS => ?_)
  subst hp14
  have hP : va_P G.1 vwCl [(mq, .inr (4, [.ref an, .ref ap, .int (nI st), .ref ak, .ref ai, .ref ad, .ref ac, .ref aw, .int (nI mn), .ref at_, .int (nI le), .int (nI 0), .int (nI sp), .ref ao, .int (nI tm)])), (an, .inl (G.2.1, 525, .inl (gn nw)))] H := hP
  have hD : va_D A [(mq, .inr (4, [.ref an, .ref ap, .int (nI st), .ref ak, .ref ai, .ref ad, .ref ac, .ref aw, .int (nI mn), .ref at_, .int (nI le), .int (nI 0), .int (nI sp), .ref ao, .int (nI tm)])), (an, .inl (G.2.1, 525, .inl (gn nw)))] := hD
  refine lv_goto (tgt := 25) hx hb dX4_areaByCells_17 (by decide) ?_
  exact gRi F dX4_areaByCells_25 (rfl) () (rfl) hP hD hS (Nat.le_refl _) (Nat.le_refl _)

set_option maxHeartbeats 4000000 in
set_option maxRecDepth 100000 in
theorem f1_X4_areaByCells (l : Launch) (G : gG) (mq : Nat) (an : Nat) (ap : Nat) (st : Nat) (ak : Nat) (ai : Nat) (ad : Nat) (ac : Nat) (aw : Nat) (mn : Nat) (at_ : Nat) (le : Nat) (th : Nat) (sp : Nat) (ao : Nat) (tm : Nat) (o : Int) (ho : -2147483648 ≤ o ∧ o < 2147483648) (hcond0 : ¬(0 ≤ o ∧ o < 8)) : gMi (S := Unit) l yX4_areaByCells wsX4_areaByCells { frames := 2, cells := 0, slots := 0, locals := 42 } G [.ref mq, .int (zI o)] [(mq, .inr (4, [.ref an, .ref ap, .int (nI st), .ref ak, .ref ai, .ref ad, .ref ac, .ref aw, .int (nI mn), .ref at_, .int (nI le), .int (nI th), .int (nI sp), .ref ao, .int (nI tm)]))] (fun (r : Int32) (u : Unit) => (r = nI 0)) (fun u => [(mq, .inr (4, [.ref an, .ref ap, .int (nI st), .ref ak, .ref ai, .ref ad, .ref ac, .ref aw, .int (nI mn), .ref at_, .int (nI le), .int (nI 1), .int (nI sp), .ref ao, .int (nI tm)]))]) 0 0 := by
  refine gMet_mk (cc := cX4_areaByCells) (nL := 2) (ret := (some .int)) (Qc := fun A => va_Qi (S := Unit) (fun (r : Int32) (u : Unit) => (r = nI 0)) (gB G A (fun (u : Unit) => [(mq, .inr (4, [.ref an, .ref ap, .int (nI st), .ref ak, .ref ai, .ref ad, .ref ac, .ref aw, .int (nI mn), .ref at_, .int (nI le), .int (nI 1), .int (nI sp), .ref ao, .int (nI tm)]))])) A) (by decide) rfl (Nat.le_of_ble_eq_true rfl) ?_
  intro p e s m args below meth c A F ls hl hP hD hS
  have hx := F.1
  have hb := F.2.1
  have hts := F.2.2.2.2.2.2.1
  have hown : s.vm.findClass RX4 = some m.cls := F.2.2.2.2.2.1
  have hKK := F.2.2.2.2.2.2.2.2.1
  have hK := hKK.1
  have hin0 := F.2.2.2.2.2.2.2.1
  have hi4 : ∀ w ∈ u_ws RX4 TX4 15, w ∈ wsX4_areaByCells := by decide +kernel
  have hl : lv_has ls 2 [(0, .ref mq), (1, .int (zI o))] := hl
  generalize hH : s.heap = H at hP ⊢
  have hS : va_S A s.heap H [] := by rw [← hH]; exact va_S.rf
  generalize hLo : ([] : List Loc) = locs at hS ⊢
  refine lv_aload_n hx hb dX4_areaByCells_0 rfl (lv_at hl 0 rfl) ?_
  refine lv_iconst (v := nI 0) hx hb dX4_areaByCells_1 (by decide) ?_
  refine va_put (D := G.1) (ci := 4) (v := .int (nI 0)) (ty := .int) (C := RX4) (T := TX4) (N := 15) hx hb hts hi4 tyX4 tyX4_ok nmX4 hown hK hP hD hS 0 rfl rfl 11 (by decide) (hts (.fieldLink RX4 37 "LandQuartersModel" "thrown" "I") (by decide +kernel)) (fun _ h9 => h9) rfl (by decide +kernel) (rfl) (rfl) (Nat.le_of_ble_eq_true rfl) dX4_areaByCells_2 (fun H locs hP hD hS => ?_)
  have hP : va_P G.1 vwCl [(mq, .inr (4, [.ref an, .ref ap, .int (nI st), .ref ak, .ref ai, .ref ad, .ref ac, .ref aw, .int (nI mn), .ref at_, .int (nI le), .int (nI 0), .int (nI sp), .ref ao, .int (nI tm)]))] H := hP
  have hD : va_D A [(mq, .inr (4, [.ref an, .ref ap, .int (nI st), .ref ak, .ref ai, .ref ad, .ref ac, .ref aw, .int (nI mn), .ref at_, .int (nI le), .int (nI 0), .int (nI sp), .ref ao, .int (nI tm)]))] := hD
  refine lv_iload_n hx hb dX4_areaByCells_5 rfl (lv_at hl 1 rfl) ?_
  refine gCi F (gRunS (own := RX4) (bytes := cX4_isOwner) (n := 1) (As := [.int (zI o)]) (rest := []) F (c_X4_isOwner l G o (by first | assumption | omega) H.size) gX4_areaByCells_X4_isOwner rfl rfl rfl rfl (by decide +kernel) rfl ⟨Nat.le_of_ble_eq_true rfl, Nat.le_of_ble_eq_true rfl⟩ hP hD (lit := [(mq, .inr (4, [.ref an, .ref ap, .int (nI st), .ref ak, .ref ai, .ref ad, .ref ac, .ref aw, .int (nI mn), .ref at_, .int (nI le), .int (nI 0), .int (nI sp), .ref ao, .int (nI tm)]))]) (wt := []) (wc := []) (isC := []) rfl (by decide) rfl hl.1 (Nat.le_of_ble_eq_true rfl) dX4_areaByCells_6 ⟨Nat.le_of_ble_eq_true rfl, Nat.le_of_ble_eq_true rfl⟩) hP hD hS (lit := [(mq, .inr (4, [.ref an, .ref ap, .int (nI st), .ref ak, .ref ai, .ref ad, .ref ac, .ref aw, .int (nI mn), .ref at_, .int (nI le), .int (nI 0), .int (nI sp), .ref ao, .int (nI tm)]))]) (wt := []) (wc := []) (wr := [(mq, .inr (4, [.ref an, .ref ap, .int (nI st), .ref ak, .ref ai, .ref ad, .ref ac, .ref aw, .int (nI mn), .ref at_, .int (nI le), .int (nI 0), .int (nI sp), .ref ao, .int (nI tm)]))]) (isC := []) (isR := [0]) rfl rfl (by decide) (by decide) (fun r6 u H locs hp6 hP hD hS => ?_)
  subst hp6
  have hP : va_P G.1 vwCl [(mq, .inr (4, [.ref an, .ref ap, .int (nI st), .ref ak, .ref ai, .ref ad, .ref ac, .ref aw, .int (nI mn), .ref at_, .int (nI le), .int (nI 0), .int (nI sp), .ref ao, .int (nI tm)]))] H := hP
  have hD : va_D A [(mq, .inr (4, [.ref an, .ref ap, .int (nI st), .ref ak, .ref ai, .ref ad, .ref ac, .ref aw, .int (nI mn), .ref at_, .int (nI le), .int (nI 0), .int (nI sp), .ref ao, .int (nI tm)]))] := hD
  refine gIfB_eq (P := (0 ≤ o ∧ o < 8)) (tgt := 20) hx hb dX4_areaByCells_9 (by decide) (fun c9 => ?_) (fun c9 => ?_)
  · skip
    refine lv_aload_n hx hb dX4_areaByCells_20 rfl (lv_at hl 0 rfl) ?_
    refine lv_iconst (v := nI 1) hx hb dX4_areaByCells_21 (by decide) ?_
    refine gCi F (gRunV (own := RX4) (C := RX4) (ci := 4) (bytes := cX4_refuses) (n := 1) (As := [.int (nI 1)]) (rest := []) F (c_X4_refuses l G mq an ap st ak ai ad ac aw mn at_ le 0 sp ao tm 1  H.size) gX4_areaByCells_X4_refuses rfl rfl rfl rfl (by decide +kernel) rfl ⟨Nat.le_of_ble_eq_true rfl, Nat.le_of_ble_eq_true rfl⟩ hP hD (lit := [(mq, .inr (4, [.ref an, .ref ap, .int (nI st), .ref ak, .ref ai, .ref ad, .ref ac, .ref aw, .int (nI mn), .ref at_, .int (nI le), .int (nI 0), .int (nI sp), .ref ao, .int (nI tm)]))]) (wt := []) (wc := [(mq, .inr (4, [.ref an, .ref ap, .int (nI st), .ref ak, .ref ai, .ref ad, .ref ac, .ref aw, .int (nI mn), .ref at_, .int (nI le), .int (nI 0), .int (nI sp), .ref ao, .int (nI tm)]))]) (isC := [0]) rfl (by decide) rfl rfl rfl hl.1 (Nat.le_of_ble_eq_true rfl) dX4_areaByCells_22 ⟨Nat.le_of_ble_eq_true rfl, Nat.le_of_ble_eq_true rfl⟩) hP hD hS (lit := [(mq, .inr (4, [.ref an, .ref ap, .int (nI st), .ref ak, .ref ai, .ref ad, .ref ac, .ref aw, .int (nI mn), .ref at_, .int (nI le), .int (nI 0), .int (nI sp), .ref ao, .int (nI tm)]))]) (wt := []) (wc := [(mq, .inr (4, [.ref an, .ref ap, .int (nI st), .ref ak, .ref ai, .ref ad, .ref ac, .ref aw, .int (nI mn), .ref at_, .int (nI le), .int (nI 0), .int (nI sp), .ref ao, .int (nI tm)]))]) (wr := []) (isC := [0]) (isR := []) rfl rfl (by decide) (by decide) (fun r22 u H locs hp22 hP hD hS => ?_)
    subst hp22
    have hP : va_P G.1 vwCl [(mq, .inr (4, [.ref an, .ref ap, .int (nI st), .ref ak, .ref ai, .ref ad, .ref ac, .ref aw, .int (nI mn), .ref at_, .int (nI le), .int (nI 1), .int (nI sp), .ref ao, .int (nI tm)]))] H := hP
    have hD : va_D A [(mq, .inr (4, [.ref an, .ref ap, .int (nI st), .ref ak, .ref ai, .ref ad, .ref ac, .ref aw, .int (nI mn), .ref at_, .int (nI le), .int (nI 1), .int (nI sp), .ref ao, .int (nI tm)]))] := hD
    exact gRi F dX4_areaByCells_25 (rfl) () (rfl) hP hD hS (Nat.le_refl _) (Nat.le_refl _)
  exfalso; omega

set_option maxHeartbeats 4000000 in
set_option maxRecDepth 100000 in
theorem c_X4_fenceByPlots (l : Launch) (G : gG) (mq : Nat) (an : Nat) (ap : Nat) (st : Nat) (ak : Nat) (ai : Nat) (ad : Nat) (ac : Nat) (aw : Nat) (mn : Nat) (at_ : Nat) (le : Nat) (th : Nat) (sp : Nat) (ao : Nat) (tm : Nat) (nw : Nat → Nat) (o : Nat) (how : ∀ k, k < 256 → nw k < 8) (ho : o < 8) : gMi (S := Unit) l yX4_fenceByPlots wsX4_fenceByPlots { frames := 2, cells := 0, slots := 0, locals := 49 } G [.ref mq, .int (nI o)] [(mq, .inr (4, [.ref an, .ref ap, .int (nI st), .ref ak, .ref ai, .ref ad, .ref ac, .ref aw, .int (nI mn), .ref at_, .int (nI le), .int (nI th), .int (nI sp), .ref ao, .int (nI tm)])), (an, .inl (G.2.1, 525, .inl (gn nw)))] (fun (r : Int32) (u : Unit) => (r = nI (fM nw o 8))) (fun u => [(mq, .inr (4, [.ref an, .ref ap, .int (nI st), .ref ak, .ref ai, .ref ad, .ref ac, .ref aw, .int (nI mn), .ref at_, .int (nI le), .int (nI 0), .int (nI sp), .ref ao, .int (nI tm)])), (an, .inl (G.2.1, 525, .inl (gn nw)))]) 0 0 := by
  refine gMet_mk (cc := cX4_fenceByPlots) (nL := 2) (ret := (some .int)) (Qc := fun A => va_Qi (S := Unit) (fun (r : Int32) (u : Unit) => (r = nI (fM nw o 8))) (gB G A (fun (u : Unit) => [(mq, .inr (4, [.ref an, .ref ap, .int (nI st), .ref ak, .ref ai, .ref ad, .ref ac, .ref aw, .int (nI mn), .ref at_, .int (nI le), .int (nI 0), .int (nI sp), .ref ao, .int (nI tm)])), (an, .inl (G.2.1, 525, .inl (gn nw)))])) A) (by decide) rfl (Nat.le_of_ble_eq_true rfl) ?_
  intro p e s m args below meth c A F ls hl hP hD hS
  have hx := F.1
  have hb := F.2.1
  have hts := F.2.2.2.2.2.2.1
  have hown : s.vm.findClass RX4 = some m.cls := F.2.2.2.2.2.1
  have hKK := F.2.2.2.2.2.2.2.2.1
  have hK := hKK.1
  have hin0 := F.2.2.2.2.2.2.2.1
  have hi4 : ∀ w ∈ u_ws RX4 TX4 15, w ∈ wsX4_fenceByPlots := by decide +kernel
  have hl : lv_has ls 2 [(0, .ref mq), (1, .int (nI o))] := hl
  generalize hH : s.heap = H at hP ⊢
  have hS : va_S A s.heap H [] := by rw [← hH]; exact va_S.rf
  generalize hLo : ([] : List Loc) = locs at hS ⊢
  refine lv_aload_n hx hb dX4_fenceByPlots_0 rfl (lv_at hl 0 rfl) ?_
  refine lv_iconst (v := nI 0) hx hb dX4_fenceByPlots_1 (by decide) ?_
  refine va_put (D := G.1) (ci := 4) (v := .int (nI 0)) (ty := .int) (C := RX4) (T := TX4) (N := 15) hx hb hts hi4 tyX4 tyX4_ok nmX4 hown hK hP hD hS 0 rfl rfl 11 (by decide) (hts (.fieldLink RX4 37 "LandQuartersModel" "thrown" "I") (by decide +kernel)) (fun _ h9 => h9) rfl (by decide +kernel) (rfl) (rfl) (Nat.le_of_ble_eq_true rfl) dX4_fenceByPlots_2 (fun H locs hP hD hS => ?_)
  have hP : va_P G.1 vwCl [(mq, .inr (4, [.ref an, .ref ap, .int (nI st), .ref ak, .ref ai, .ref ad, .ref ac, .ref aw, .int (nI mn), .ref at_, .int (nI le), .int (nI 0), .int (nI sp), .ref ao, .int (nI tm)])), (an, .inl (G.2.1, 525, .inl (gn nw)))] H := hP
  have hD : va_D A [(mq, .inr (4, [.ref an, .ref ap, .int (nI st), .ref ak, .ref ai, .ref ad, .ref ac, .ref aw, .int (nI mn), .ref at_, .int (nI le), .int (nI 0), .int (nI sp), .ref ao, .int (nI tm)])), (an, .inl (G.2.1, 525, .inl (gn nw)))] := hD
  refine lv_iload_n hx hb dX4_fenceByPlots_5 rfl (lv_at hl 1 rfl) ?_
  refine W.eq (g2 := F0 m 6 ls [.int (zI ((o : Nat) : Int))]) (by simp only [zI_nat, zI_neg1]) ?_
  refine gCi F (gRunS (own := RX4) (bytes := cX4_isOwner) (n := 1) (As := [.int (zI ((o : Nat) : Int))]) (rest := []) F (c_X4_isOwner l G ((o : Nat) : Int) (by first | assumption | omega) H.size) gX4_fenceByPlots_X4_isOwner rfl rfl rfl rfl (by decide +kernel) rfl ⟨Nat.le_of_ble_eq_true rfl, Nat.le_of_ble_eq_true rfl⟩ hP hD (lit := [(mq, .inr (4, [.ref an, .ref ap, .int (nI st), .ref ak, .ref ai, .ref ad, .ref ac, .ref aw, .int (nI mn), .ref at_, .int (nI le), .int (nI 0), .int (nI sp), .ref ao, .int (nI tm)])), (an, .inl (G.2.1, 525, .inl (gn nw)))]) (wt := []) (wc := []) (isC := []) rfl (by decide) rfl hl.1 (Nat.le_of_ble_eq_true rfl) dX4_fenceByPlots_6 ⟨Nat.le_of_ble_eq_true rfl, Nat.le_of_ble_eq_true rfl⟩) hP hD hS (lit := [(mq, .inr (4, [.ref an, .ref ap, .int (nI st), .ref ak, .ref ai, .ref ad, .ref ac, .ref aw, .int (nI mn), .ref at_, .int (nI le), .int (nI 0), .int (nI sp), .ref ao, .int (nI tm)])), (an, .inl (G.2.1, 525, .inl (gn nw)))]) (wt := []) (wc := []) (wr := [(mq, .inr (4, [.ref an, .ref ap, .int (nI st), .ref ak, .ref ai, .ref ad, .ref ac, .ref aw, .int (nI mn), .ref at_, .int (nI le), .int (nI 0), .int (nI sp), .ref ao, .int (nI tm)])), (an, .inl (G.2.1, 525, .inl (gn nw)))]) (isC := []) (isR := [0, 1]) rfl rfl (by decide) (by decide) (fun r6 u H locs hp6 hP hD hS => ?_)
  subst hp6
  have hP : va_P G.1 vwCl [(mq, .inr (4, [.ref an, .ref ap, .int (nI st), .ref ak, .ref ai, .ref ad, .ref ac, .ref aw, .int (nI mn), .ref at_, .int (nI le), .int (nI 0), .int (nI sp), .ref ao, .int (nI tm)])), (an, .inl (G.2.1, 525, .inl (gn nw)))] H := hP
  have hD : va_D A [(mq, .inr (4, [.ref an, .ref ap, .int (nI st), .ref ak, .ref ai, .ref ad, .ref ac, .ref aw, .int (nI mn), .ref at_, .int (nI le), .int (nI 0), .int (nI sp), .ref ao, .int (nI tm)])), (an, .inl (G.2.1, 525, .inl (gn nw)))] := hD
  refine gIfB_eq (P := (0 ≤ ((o : Nat) : Int) ∧ ((o : Nat) : Int) < 8)) (tgt := 20) hx hb dX4_fenceByPlots_9 (by decide) (fun c9 => ?_) (fun c9 => ?_)
  · skip
    refine lv_aload_n hx hb dX4_fenceByPlots_20 rfl (lv_at hl 0 rfl) ?_
    refine lv_iconst (v := nI 1) hx hb dX4_fenceByPlots_21 (by decide) ?_
    exfalso; omega
  refine lv_aload_n hx hb dX4_fenceByPlots_12 rfl (lv_at hl 0 rfl) ?_
  refine lv_iload_n hx hb dX4_fenceByPlots_13 rfl (lv_at hl 1 rfl) ?_
  refine gCi F (gRunV (own := RX4) (C := RX4) (ci := 4) (bytes := cX4_fence) (n := 1) (As := [.int (nI o)]) (rest := []) F (c_X4_fence l G mq an ap st ak ai ad ac aw mn at_ le 0 sp ao tm nw o (by first | assumption | omega) (by first | assumption | omega) H.size) gX4_fenceByPlots_X4_fence rfl rfl rfl rfl (by decide +kernel) rfl ⟨Nat.le_of_ble_eq_true rfl, Nat.le_of_ble_eq_true rfl⟩ hP hD (lit := [(mq, .inr (4, [.ref an, .ref ap, .int (nI st), .ref ak, .ref ai, .ref ad, .ref ac, .ref aw, .int (nI mn), .ref at_, .int (nI le), .int (nI 0), .int (nI sp), .ref ao, .int (nI tm)])), (an, .inl (G.2.1, 525, .inl (gn nw)))]) (wt := []) (wc := [(mq, .inr (4, [.ref an, .ref ap, .int (nI st), .ref ak, .ref ai, .ref ad, .ref ac, .ref aw, .int (nI mn), .ref at_, .int (nI le), .int (nI 0), .int (nI sp), .ref ao, .int (nI tm)])), (an, .inl (G.2.1, 525, .inl (gn nw)))]) (isC := [0, 1]) rfl (by decide) rfl rfl rfl hl.1 (Nat.le_of_ble_eq_true rfl) dX4_fenceByPlots_14 ⟨Nat.le_of_ble_eq_true rfl, Nat.le_of_ble_eq_true rfl⟩) hP hD hS (lit := [(mq, .inr (4, [.ref an, .ref ap, .int (nI st), .ref ak, .ref ai, .ref ad, .ref ac, .ref aw, .int (nI mn), .ref at_, .int (nI le), .int (nI 0), .int (nI sp), .ref ao, .int (nI tm)])), (an, .inl (G.2.1, 525, .inl (gn nw)))]) (wt := []) (wc := [(mq, .inr (4, [.ref an, .ref ap, .int (nI st), .ref ak, .ref ai, .ref ad, .ref ac, .ref aw, .int (nI mn), .ref at_, .int (nI le), .int (nI 0), .int (nI sp), .ref ao, .int (nI tm)])), (an, .inl (G.2.1, 525, .inl (gn nw)))]) (wr := []) (isC := [0, 1]) (isR := []) rfl rfl (by decide) (by decide) (fun r14 u H locs hp14 hP hD hS => ?_)
  subst hp14
  have hP : va_P G.1 vwCl [(mq, .inr (4, [.ref an, .ref ap, .int (nI st), .ref ak, .ref ai, .ref ad, .ref ac, .ref aw, .int (nI mn), .ref at_, .int (nI le), .int (nI 0), .int (nI sp), .ref ao, .int (nI tm)])), (an, .inl (G.2.1, 525, .inl (gn nw)))] H := hP
  have hD : va_D A [(mq, .inr (4, [.ref an, .ref ap, .int (nI st), .ref ak, .ref ai, .ref ad, .ref ac, .ref aw, .int (nI mn), .ref at_, .int (nI le), .int (nI 0), .int (nI sp), .ref ao, .int (nI tm)])), (an, .inl (G.2.1, 525, .inl (gn nw)))] := hD
  refine lv_goto (tgt := 25) hx hb dX4_fenceByPlots_17 (by decide) ?_
  exact gRi F dX4_fenceByPlots_25 (rfl) () (rfl) hP hD hS (Nat.le_refl _) (Nat.le_refl _)

set_option maxHeartbeats 4000000 in
set_option maxRecDepth 100000 in
theorem f1_X4_fenceByPlots (l : Launch) (G : gG) (mq : Nat) (an : Nat) (ap : Nat) (st : Nat) (ak : Nat) (ai : Nat) (ad : Nat) (ac : Nat) (aw : Nat) (mn : Nat) (at_ : Nat) (le : Nat) (th : Nat) (sp : Nat) (ao : Nat) (tm : Nat) (o : Int) (ho : -2147483648 ≤ o ∧ o < 2147483648) (hcond0 : ¬(0 ≤ o ∧ o < 8)) : gMi (S := Unit) l yX4_fenceByPlots wsX4_fenceByPlots { frames := 2, cells := 0, slots := 0, locals := 42 } G [.ref mq, .int (zI o)] [(mq, .inr (4, [.ref an, .ref ap, .int (nI st), .ref ak, .ref ai, .ref ad, .ref ac, .ref aw, .int (nI mn), .ref at_, .int (nI le), .int (nI th), .int (nI sp), .ref ao, .int (nI tm)]))] (fun (r : Int32) (u : Unit) => (r = nI 0)) (fun u => [(mq, .inr (4, [.ref an, .ref ap, .int (nI st), .ref ak, .ref ai, .ref ad, .ref ac, .ref aw, .int (nI mn), .ref at_, .int (nI le), .int (nI 1), .int (nI sp), .ref ao, .int (nI tm)]))]) 0 0 := by
  refine gMet_mk (cc := cX4_fenceByPlots) (nL := 2) (ret := (some .int)) (Qc := fun A => va_Qi (S := Unit) (fun (r : Int32) (u : Unit) => (r = nI 0)) (gB G A (fun (u : Unit) => [(mq, .inr (4, [.ref an, .ref ap, .int (nI st), .ref ak, .ref ai, .ref ad, .ref ac, .ref aw, .int (nI mn), .ref at_, .int (nI le), .int (nI 1), .int (nI sp), .ref ao, .int (nI tm)]))])) A) (by decide) rfl (Nat.le_of_ble_eq_true rfl) ?_
  intro p e s m args below meth c A F ls hl hP hD hS
  have hx := F.1
  have hb := F.2.1
  have hts := F.2.2.2.2.2.2.1
  have hown : s.vm.findClass RX4 = some m.cls := F.2.2.2.2.2.1
  have hKK := F.2.2.2.2.2.2.2.2.1
  have hK := hKK.1
  have hin0 := F.2.2.2.2.2.2.2.1
  have hi4 : ∀ w ∈ u_ws RX4 TX4 15, w ∈ wsX4_fenceByPlots := by decide +kernel
  have hl : lv_has ls 2 [(0, .ref mq), (1, .int (zI o))] := hl
  generalize hH : s.heap = H at hP ⊢
  have hS : va_S A s.heap H [] := by rw [← hH]; exact va_S.rf
  generalize hLo : ([] : List Loc) = locs at hS ⊢
  refine lv_aload_n hx hb dX4_fenceByPlots_0 rfl (lv_at hl 0 rfl) ?_
  refine lv_iconst (v := nI 0) hx hb dX4_fenceByPlots_1 (by decide) ?_
  refine va_put (D := G.1) (ci := 4) (v := .int (nI 0)) (ty := .int) (C := RX4) (T := TX4) (N := 15) hx hb hts hi4 tyX4 tyX4_ok nmX4 hown hK hP hD hS 0 rfl rfl 11 (by decide) (hts (.fieldLink RX4 37 "LandQuartersModel" "thrown" "I") (by decide +kernel)) (fun _ h9 => h9) rfl (by decide +kernel) (rfl) (rfl) (Nat.le_of_ble_eq_true rfl) dX4_fenceByPlots_2 (fun H locs hP hD hS => ?_)
  have hP : va_P G.1 vwCl [(mq, .inr (4, [.ref an, .ref ap, .int (nI st), .ref ak, .ref ai, .ref ad, .ref ac, .ref aw, .int (nI mn), .ref at_, .int (nI le), .int (nI 0), .int (nI sp), .ref ao, .int (nI tm)]))] H := hP
  have hD : va_D A [(mq, .inr (4, [.ref an, .ref ap, .int (nI st), .ref ak, .ref ai, .ref ad, .ref ac, .ref aw, .int (nI mn), .ref at_, .int (nI le), .int (nI 0), .int (nI sp), .ref ao, .int (nI tm)]))] := hD
  refine lv_iload_n hx hb dX4_fenceByPlots_5 rfl (lv_at hl 1 rfl) ?_
  refine gCi F (gRunS (own := RX4) (bytes := cX4_isOwner) (n := 1) (As := [.int (zI o)]) (rest := []) F (c_X4_isOwner l G o (by first | assumption | omega) H.size) gX4_fenceByPlots_X4_isOwner rfl rfl rfl rfl (by decide +kernel) rfl ⟨Nat.le_of_ble_eq_true rfl, Nat.le_of_ble_eq_true rfl⟩ hP hD (lit := [(mq, .inr (4, [.ref an, .ref ap, .int (nI st), .ref ak, .ref ai, .ref ad, .ref ac, .ref aw, .int (nI mn), .ref at_, .int (nI le), .int (nI 0), .int (nI sp), .ref ao, .int (nI tm)]))]) (wt := []) (wc := []) (isC := []) rfl (by decide) rfl hl.1 (Nat.le_of_ble_eq_true rfl) dX4_fenceByPlots_6 ⟨Nat.le_of_ble_eq_true rfl, Nat.le_of_ble_eq_true rfl⟩) hP hD hS (lit := [(mq, .inr (4, [.ref an, .ref ap, .int (nI st), .ref ak, .ref ai, .ref ad, .ref ac, .ref aw, .int (nI mn), .ref at_, .int (nI le), .int (nI 0), .int (nI sp), .ref ao, .int (nI tm)]))]) (wt := []) (wc := []) (wr := [(mq, .inr (4, [.ref an, .ref ap, .int (nI st), .ref ak, .ref ai, .ref ad, .ref ac, .ref aw, .int (nI mn), .ref at_, .int (nI le), .int (nI 0), .int (nI sp), .ref ao, .int (nI tm)]))]) (isC := []) (isR := [0]) rfl rfl (by decide) (by decide) (fun r6 u H locs hp6 hP hD hS => ?_)
  subst hp6
  have hP : va_P G.1 vwCl [(mq, .inr (4, [.ref an, .ref ap, .int (nI st), .ref ak, .ref ai, .ref ad, .ref ac, .ref aw, .int (nI mn), .ref at_, .int (nI le), .int (nI 0), .int (nI sp), .ref ao, .int (nI tm)]))] H := hP
  have hD : va_D A [(mq, .inr (4, [.ref an, .ref ap, .int (nI st), .ref ak, .ref ai, .ref ad, .ref ac, .ref aw, .int (nI mn), .ref at_, .int (nI le), .int (nI 0), .int (nI sp), .ref ao, .int (nI tm)]))] := hD
  refine gIfB_eq (P := (0 ≤ o ∧ o < 8)) (tgt := 20) hx hb dX4_fenceByPlots_9 (by decide) (fun c9 => ?_) (fun c9 => ?_)
  · skip
    refine lv_aload_n hx hb dX4_fenceByPlots_20 rfl (lv_at hl 0 rfl) ?_
    refine lv_iconst (v := nI 1) hx hb dX4_fenceByPlots_21 (by decide) ?_
    refine gCi F (gRunV (own := RX4) (C := RX4) (ci := 4) (bytes := cX4_refuses) (n := 1) (As := [.int (nI 1)]) (rest := []) F (c_X4_refuses l G mq an ap st ak ai ad ac aw mn at_ le 0 sp ao tm 1  H.size) gX4_fenceByPlots_X4_refuses rfl rfl rfl rfl (by decide +kernel) rfl ⟨Nat.le_of_ble_eq_true rfl, Nat.le_of_ble_eq_true rfl⟩ hP hD (lit := [(mq, .inr (4, [.ref an, .ref ap, .int (nI st), .ref ak, .ref ai, .ref ad, .ref ac, .ref aw, .int (nI mn), .ref at_, .int (nI le), .int (nI 0), .int (nI sp), .ref ao, .int (nI tm)]))]) (wt := []) (wc := [(mq, .inr (4, [.ref an, .ref ap, .int (nI st), .ref ak, .ref ai, .ref ad, .ref ac, .ref aw, .int (nI mn), .ref at_, .int (nI le), .int (nI 0), .int (nI sp), .ref ao, .int (nI tm)]))]) (isC := [0]) rfl (by decide) rfl rfl rfl hl.1 (Nat.le_of_ble_eq_true rfl) dX4_fenceByPlots_22 ⟨Nat.le_of_ble_eq_true rfl, Nat.le_of_ble_eq_true rfl⟩) hP hD hS (lit := [(mq, .inr (4, [.ref an, .ref ap, .int (nI st), .ref ak, .ref ai, .ref ad, .ref ac, .ref aw, .int (nI mn), .ref at_, .int (nI le), .int (nI 0), .int (nI sp), .ref ao, .int (nI tm)]))]) (wt := []) (wc := [(mq, .inr (4, [.ref an, .ref ap, .int (nI st), .ref ak, .ref ai, .ref ad, .ref ac, .ref aw, .int (nI mn), .ref at_, .int (nI le), .int (nI 0), .int (nI sp), .ref ao, .int (nI tm)]))]) (wr := []) (isC := [0]) (isR := []) rfl rfl (by decide) (by decide) (fun r22 u H locs hp22 hP hD hS => ?_)
    subst hp22
    have hP : va_P G.1 vwCl [(mq, .inr (4, [.ref an, .ref ap, .int (nI st), .ref ak, .ref ai, .ref ad, .ref ac, .ref aw, .int (nI mn), .ref at_, .int (nI le), .int (nI 1), .int (nI sp), .ref ao, .int (nI tm)]))] H := hP
    have hD : va_D A [(mq, .inr (4, [.ref an, .ref ap, .int (nI st), .ref ak, .ref ai, .ref ad, .ref ac, .ref aw, .int (nI mn), .ref at_, .int (nI le), .int (nI 1), .int (nI sp), .ref ao, .int (nI tm)]))] := hD
    exact gRi F dX4_fenceByPlots_25 (rfl) () (rfl) hP hD hS (Nat.le_refl _) (Nat.le_refl _)
  exfalso; omega

set_option maxHeartbeats 4000000 in
set_option maxRecDepth 100000 in
theorem c_X4_fenceByCells (l : Launch) (G : gG) (mq : Nat) (an : Nat) (ap : Nat) (st : Nat) (ak : Nat) (ai : Nat) (ad : Nat) (ac : Nat) (aw : Nat) (mn : Nat) (at_ : Nat) (le : Nat) (th : Nat) (sp : Nat) (ao : Nat) (tm : Nat) (nw : Nat → Nat) (o : Nat) (how : ∀ k, k < 256 → nw k < 8) (ho : o < 8) : gMi (S := Unit) l yX4_fenceByCells wsX4_fenceByCells { frames := 2, cells := 0, slots := 0, locals := 49 } G [.ref mq, .int (nI o)] [(mq, .inr (4, [.ref an, .ref ap, .int (nI st), .ref ak, .ref ai, .ref ad, .ref ac, .ref aw, .int (nI mn), .ref at_, .int (nI le), .int (nI th), .int (nI sp), .ref ao, .int (nI tm)])), (an, .inl (G.2.1, 525, .inl (gn nw)))] (fun (r : Int32) (u : Unit) => (r = nI (fM nw o 8))) (fun u => [(mq, .inr (4, [.ref an, .ref ap, .int (nI st), .ref ak, .ref ai, .ref ad, .ref ac, .ref aw, .int (nI mn), .ref at_, .int (nI le), .int (nI 0), .int (nI sp), .ref ao, .int (nI tm)])), (an, .inl (G.2.1, 525, .inl (gn nw)))]) 0 0 := by
  refine gMet_mk (cc := cX4_fenceByCells) (nL := 2) (ret := (some .int)) (Qc := fun A => va_Qi (S := Unit) (fun (r : Int32) (u : Unit) => (r = nI (fM nw o 8))) (gB G A (fun (u : Unit) => [(mq, .inr (4, [.ref an, .ref ap, .int (nI st), .ref ak, .ref ai, .ref ad, .ref ac, .ref aw, .int (nI mn), .ref at_, .int (nI le), .int (nI 0), .int (nI sp), .ref ao, .int (nI tm)])), (an, .inl (G.2.1, 525, .inl (gn nw)))])) A) (by decide) rfl (Nat.le_of_ble_eq_true rfl) ?_
  intro p e s m args below meth c A F ls hl hP hD hS
  have hx := F.1
  have hb := F.2.1
  have hts := F.2.2.2.2.2.2.1
  have hown : s.vm.findClass RX4 = some m.cls := F.2.2.2.2.2.1
  have hKK := F.2.2.2.2.2.2.2.2.1
  have hK := hKK.1
  have hin0 := F.2.2.2.2.2.2.2.1
  have hi4 : ∀ w ∈ u_ws RX4 TX4 15, w ∈ wsX4_fenceByCells := by decide +kernel
  have hl : lv_has ls 2 [(0, .ref mq), (1, .int (nI o))] := hl
  generalize hH : s.heap = H at hP ⊢
  have hS : va_S A s.heap H [] := by rw [← hH]; exact va_S.rf
  generalize hLo : ([] : List Loc) = locs at hS ⊢
  refine lv_aload_n hx hb dX4_fenceByCells_0 rfl (lv_at hl 0 rfl) ?_
  refine lv_iconst (v := nI 0) hx hb dX4_fenceByCells_1 (by decide) ?_
  refine va_put (D := G.1) (ci := 4) (v := .int (nI 0)) (ty := .int) (C := RX4) (T := TX4) (N := 15) hx hb hts hi4 tyX4 tyX4_ok nmX4 hown hK hP hD hS 0 rfl rfl 11 (by decide) (hts (.fieldLink RX4 37 "LandQuartersModel" "thrown" "I") (by decide +kernel)) (fun _ h9 => h9) rfl (by decide +kernel) (rfl) (rfl) (Nat.le_of_ble_eq_true rfl) dX4_fenceByCells_2 (fun H locs hP hD hS => ?_)
  have hP : va_P G.1 vwCl [(mq, .inr (4, [.ref an, .ref ap, .int (nI st), .ref ak, .ref ai, .ref ad, .ref ac, .ref aw, .int (nI mn), .ref at_, .int (nI le), .int (nI 0), .int (nI sp), .ref ao, .int (nI tm)])), (an, .inl (G.2.1, 525, .inl (gn nw)))] H := hP
  have hD : va_D A [(mq, .inr (4, [.ref an, .ref ap, .int (nI st), .ref ak, .ref ai, .ref ad, .ref ac, .ref aw, .int (nI mn), .ref at_, .int (nI le), .int (nI 0), .int (nI sp), .ref ao, .int (nI tm)])), (an, .inl (G.2.1, 525, .inl (gn nw)))] := hD
  refine lv_iload_n hx hb dX4_fenceByCells_5 rfl (lv_at hl 1 rfl) ?_
  refine W.eq (g2 := F0 m 6 ls [.int (zI ((o : Nat) : Int))]) (by simp only [zI_nat, zI_neg1]) ?_
  refine gCi F (gRunS (own := RX4) (bytes := cX4_isOwner) (n := 1) (As := [.int (zI ((o : Nat) : Int))]) (rest := []) F (c_X4_isOwner l G ((o : Nat) : Int) (by first | assumption | omega) H.size) gX4_fenceByCells_X4_isOwner rfl rfl rfl rfl (by decide +kernel) rfl ⟨Nat.le_of_ble_eq_true rfl, Nat.le_of_ble_eq_true rfl⟩ hP hD (lit := [(mq, .inr (4, [.ref an, .ref ap, .int (nI st), .ref ak, .ref ai, .ref ad, .ref ac, .ref aw, .int (nI mn), .ref at_, .int (nI le), .int (nI 0), .int (nI sp), .ref ao, .int (nI tm)])), (an, .inl (G.2.1, 525, .inl (gn nw)))]) (wt := []) (wc := []) (isC := []) rfl (by decide) rfl hl.1 (Nat.le_of_ble_eq_true rfl) dX4_fenceByCells_6 ⟨Nat.le_of_ble_eq_true rfl, Nat.le_of_ble_eq_true rfl⟩) hP hD hS (lit := [(mq, .inr (4, [.ref an, .ref ap, .int (nI st), .ref ak, .ref ai, .ref ad, .ref ac, .ref aw, .int (nI mn), .ref at_, .int (nI le), .int (nI 0), .int (nI sp), .ref ao, .int (nI tm)])), (an, .inl (G.2.1, 525, .inl (gn nw)))]) (wt := []) (wc := []) (wr := [(mq, .inr (4, [.ref an, .ref ap, .int (nI st), .ref ak, .ref ai, .ref ad, .ref ac, .ref aw, .int (nI mn), .ref at_, .int (nI le), .int (nI 0), .int (nI sp), .ref ao, .int (nI tm)])), (an, .inl (G.2.1, 525, .inl (gn nw)))]) (isC := []) (isR := [0, 1]) rfl rfl (by decide) (by decide) (fun r6 u H locs hp6 hP hD hS => ?_)
  subst hp6
  have hP : va_P G.1 vwCl [(mq, .inr (4, [.ref an, .ref ap, .int (nI st), .ref ak, .ref ai, .ref ad, .ref ac, .ref aw, .int (nI mn), .ref at_, .int (nI le), .int (nI 0), .int (nI sp), .ref ao, .int (nI tm)])), (an, .inl (G.2.1, 525, .inl (gn nw)))] H := hP
  have hD : va_D A [(mq, .inr (4, [.ref an, .ref ap, .int (nI st), .ref ak, .ref ai, .ref ad, .ref ac, .ref aw, .int (nI mn), .ref at_, .int (nI le), .int (nI 0), .int (nI sp), .ref ao, .int (nI tm)])), (an, .inl (G.2.1, 525, .inl (gn nw)))] := hD
  refine gIfB_eq (P := (0 ≤ ((o : Nat) : Int) ∧ ((o : Nat) : Int) < 8)) (tgt := 20) hx hb dX4_fenceByCells_9 (by decide) (fun c9 => ?_) (fun c9 => ?_)
  · skip
    refine lv_aload_n hx hb dX4_fenceByCells_20 rfl (lv_at hl 0 rfl) ?_
    refine lv_iconst (v := nI 1) hx hb dX4_fenceByCells_21 (by decide) ?_
    exfalso; omega
  refine lv_aload_n hx hb dX4_fenceByCells_12 rfl (lv_at hl 0 rfl) ?_
  refine lv_iload_n hx hb dX4_fenceByCells_13 rfl (lv_at hl 1 rfl) ?_
  refine gCi F (gRunV (own := RX4) (C := RX4) (ci := 4) (bytes := cX4_fence) (n := 1) (As := [.int (nI o)]) (rest := []) F (c_X4_fence l G mq an ap st ak ai ad ac aw mn at_ le 0 sp ao tm nw o (by first | assumption | omega) (by first | assumption | omega) H.size) gX4_fenceByCells_X4_fence rfl rfl rfl rfl (by decide +kernel) rfl ⟨Nat.le_of_ble_eq_true rfl, Nat.le_of_ble_eq_true rfl⟩ hP hD (lit := [(mq, .inr (4, [.ref an, .ref ap, .int (nI st), .ref ak, .ref ai, .ref ad, .ref ac, .ref aw, .int (nI mn), .ref at_, .int (nI le), .int (nI 0), .int (nI sp), .ref ao, .int (nI tm)])), (an, .inl (G.2.1, 525, .inl (gn nw)))]) (wt := []) (wc := [(mq, .inr (4, [.ref an, .ref ap, .int (nI st), .ref ak, .ref ai, .ref ad, .ref ac, .ref aw, .int (nI mn), .ref at_, .int (nI le), .int (nI 0), .int (nI sp), .ref ao, .int (nI tm)])), (an, .inl (G.2.1, 525, .inl (gn nw)))]) (isC := [0, 1]) rfl (by decide) rfl rfl rfl hl.1 (Nat.le_of_ble_eq_true rfl) dX4_fenceByCells_14 ⟨Nat.le_of_ble_eq_true rfl, Nat.le_of_ble_eq_true rfl⟩) hP hD hS (lit := [(mq, .inr (4, [.ref an, .ref ap, .int (nI st), .ref ak, .ref ai, .ref ad, .ref ac, .ref aw, .int (nI mn), .ref at_, .int (nI le), .int (nI 0), .int (nI sp), .ref ao, .int (nI tm)])), (an, .inl (G.2.1, 525, .inl (gn nw)))]) (wt := []) (wc := [(mq, .inr (4, [.ref an, .ref ap, .int (nI st), .ref ak, .ref ai, .ref ad, .ref ac, .ref aw, .int (nI mn), .ref at_, .int (nI le), .int (nI 0), .int (nI sp), .ref ao, .int (nI tm)])), (an, .inl (G.2.1, 525, .inl (gn nw)))]) (wr := []) (isC := [0, 1]) (isR := []) rfl rfl (by decide) (by decide) (fun r14 u H locs hp14 hP hD hS => ?_)
  subst hp14
  have hP : va_P G.1 vwCl [(mq, .inr (4, [.ref an, .ref ap, .int (nI st), .ref ak, .ref ai, .ref ad, .ref ac, .ref aw, .int (nI mn), .ref at_, .int (nI le), .int (nI 0), .int (nI sp), .ref ao, .int (nI tm)])), (an, .inl (G.2.1, 525, .inl (gn nw)))] H := hP
  have hD : va_D A [(mq, .inr (4, [.ref an, .ref ap, .int (nI st), .ref ak, .ref ai, .ref ad, .ref ac, .ref aw, .int (nI mn), .ref at_, .int (nI le), .int (nI 0), .int (nI sp), .ref ao, .int (nI tm)])), (an, .inl (G.2.1, 525, .inl (gn nw)))] := hD
  refine lv_goto (tgt := 25) hx hb dX4_fenceByCells_17 (by decide) ?_
  exact gRi F dX4_fenceByCells_25 (rfl) () (rfl) hP hD hS (Nat.le_refl _) (Nat.le_refl _)

set_option maxHeartbeats 4000000 in
set_option maxRecDepth 100000 in
theorem f1_X4_fenceByCells (l : Launch) (G : gG) (mq : Nat) (an : Nat) (ap : Nat) (st : Nat) (ak : Nat) (ai : Nat) (ad : Nat) (ac : Nat) (aw : Nat) (mn : Nat) (at_ : Nat) (le : Nat) (th : Nat) (sp : Nat) (ao : Nat) (tm : Nat) (o : Int) (ho : -2147483648 ≤ o ∧ o < 2147483648) (hcond0 : ¬(0 ≤ o ∧ o < 8)) : gMi (S := Unit) l yX4_fenceByCells wsX4_fenceByCells { frames := 2, cells := 0, slots := 0, locals := 42 } G [.ref mq, .int (zI o)] [(mq, .inr (4, [.ref an, .ref ap, .int (nI st), .ref ak, .ref ai, .ref ad, .ref ac, .ref aw, .int (nI mn), .ref at_, .int (nI le), .int (nI th), .int (nI sp), .ref ao, .int (nI tm)]))] (fun (r : Int32) (u : Unit) => (r = nI 0)) (fun u => [(mq, .inr (4, [.ref an, .ref ap, .int (nI st), .ref ak, .ref ai, .ref ad, .ref ac, .ref aw, .int (nI mn), .ref at_, .int (nI le), .int (nI 1), .int (nI sp), .ref ao, .int (nI tm)]))]) 0 0 := by
  refine gMet_mk (cc := cX4_fenceByCells) (nL := 2) (ret := (some .int)) (Qc := fun A => va_Qi (S := Unit) (fun (r : Int32) (u : Unit) => (r = nI 0)) (gB G A (fun (u : Unit) => [(mq, .inr (4, [.ref an, .ref ap, .int (nI st), .ref ak, .ref ai, .ref ad, .ref ac, .ref aw, .int (nI mn), .ref at_, .int (nI le), .int (nI 1), .int (nI sp), .ref ao, .int (nI tm)]))])) A) (by decide) rfl (Nat.le_of_ble_eq_true rfl) ?_
  intro p e s m args below meth c A F ls hl hP hD hS
  have hx := F.1
  have hb := F.2.1
  have hts := F.2.2.2.2.2.2.1
  have hown : s.vm.findClass RX4 = some m.cls := F.2.2.2.2.2.1
  have hKK := F.2.2.2.2.2.2.2.2.1
  have hK := hKK.1
  have hin0 := F.2.2.2.2.2.2.2.1
  have hi4 : ∀ w ∈ u_ws RX4 TX4 15, w ∈ wsX4_fenceByCells := by decide +kernel
  have hl : lv_has ls 2 [(0, .ref mq), (1, .int (zI o))] := hl
  generalize hH : s.heap = H at hP ⊢
  have hS : va_S A s.heap H [] := by rw [← hH]; exact va_S.rf
  generalize hLo : ([] : List Loc) = locs at hS ⊢
  refine lv_aload_n hx hb dX4_fenceByCells_0 rfl (lv_at hl 0 rfl) ?_
  refine lv_iconst (v := nI 0) hx hb dX4_fenceByCells_1 (by decide) ?_
  refine va_put (D := G.1) (ci := 4) (v := .int (nI 0)) (ty := .int) (C := RX4) (T := TX4) (N := 15) hx hb hts hi4 tyX4 tyX4_ok nmX4 hown hK hP hD hS 0 rfl rfl 11 (by decide) (hts (.fieldLink RX4 37 "LandQuartersModel" "thrown" "I") (by decide +kernel)) (fun _ h9 => h9) rfl (by decide +kernel) (rfl) (rfl) (Nat.le_of_ble_eq_true rfl) dX4_fenceByCells_2 (fun H locs hP hD hS => ?_)
  have hP : va_P G.1 vwCl [(mq, .inr (4, [.ref an, .ref ap, .int (nI st), .ref ak, .ref ai, .ref ad, .ref ac, .ref aw, .int (nI mn), .ref at_, .int (nI le), .int (nI 0), .int (nI sp), .ref ao, .int (nI tm)]))] H := hP
  have hD : va_D A [(mq, .inr (4, [.ref an, .ref ap, .int (nI st), .ref ak, .ref ai, .ref ad, .ref ac, .ref aw, .int (nI mn), .ref at_, .int (nI le), .int (nI 0), .int (nI sp), .ref ao, .int (nI tm)]))] := hD
  refine lv_iload_n hx hb dX4_fenceByCells_5 rfl (lv_at hl 1 rfl) ?_
  refine gCi F (gRunS (own := RX4) (bytes := cX4_isOwner) (n := 1) (As := [.int (zI o)]) (rest := []) F (c_X4_isOwner l G o (by first | assumption | omega) H.size) gX4_fenceByCells_X4_isOwner rfl rfl rfl rfl (by decide +kernel) rfl ⟨Nat.le_of_ble_eq_true rfl, Nat.le_of_ble_eq_true rfl⟩ hP hD (lit := [(mq, .inr (4, [.ref an, .ref ap, .int (nI st), .ref ak, .ref ai, .ref ad, .ref ac, .ref aw, .int (nI mn), .ref at_, .int (nI le), .int (nI 0), .int (nI sp), .ref ao, .int (nI tm)]))]) (wt := []) (wc := []) (isC := []) rfl (by decide) rfl hl.1 (Nat.le_of_ble_eq_true rfl) dX4_fenceByCells_6 ⟨Nat.le_of_ble_eq_true rfl, Nat.le_of_ble_eq_true rfl⟩) hP hD hS (lit := [(mq, .inr (4, [.ref an, .ref ap, .int (nI st), .ref ak, .ref ai, .ref ad, .ref ac, .ref aw, .int (nI mn), .ref at_, .int (nI le), .int (nI 0), .int (nI sp), .ref ao, .int (nI tm)]))]) (wt := []) (wc := []) (wr := [(mq, .inr (4, [.ref an, .ref ap, .int (nI st), .ref ak, .ref ai, .ref ad, .ref ac, .ref aw, .int (nI mn), .ref at_, .int (nI le), .int (nI 0), .int (nI sp), .ref ao, .int (nI tm)]))]) (isC := []) (isR := [0]) rfl rfl (by decide) (by decide) (fun r6 u H locs hp6 hP hD hS => ?_)
  subst hp6
  have hP : va_P G.1 vwCl [(mq, .inr (4, [.ref an, .ref ap, .int (nI st), .ref ak, .ref ai, .ref ad, .ref ac, .ref aw, .int (nI mn), .ref at_, .int (nI le), .int (nI 0), .int (nI sp), .ref ao, .int (nI tm)]))] H := hP
  have hD : va_D A [(mq, .inr (4, [.ref an, .ref ap, .int (nI st), .ref ak, .ref ai, .ref ad, .ref ac, .ref aw, .int (nI mn), .ref at_, .int (nI le), .int (nI 0), .int (nI sp), .ref ao, .int (nI tm)]))] := hD
  refine gIfB_eq (P := (0 ≤ o ∧ o < 8)) (tgt := 20) hx hb dX4_fenceByCells_9 (by decide) (fun c9 => ?_) (fun c9 => ?_)
  · skip
    refine lv_aload_n hx hb dX4_fenceByCells_20 rfl (lv_at hl 0 rfl) ?_
    refine lv_iconst (v := nI 1) hx hb dX4_fenceByCells_21 (by decide) ?_
    refine gCi F (gRunV (own := RX4) (C := RX4) (ci := 4) (bytes := cX4_refuses) (n := 1) (As := [.int (nI 1)]) (rest := []) F (c_X4_refuses l G mq an ap st ak ai ad ac aw mn at_ le 0 sp ao tm 1  H.size) gX4_fenceByCells_X4_refuses rfl rfl rfl rfl (by decide +kernel) rfl ⟨Nat.le_of_ble_eq_true rfl, Nat.le_of_ble_eq_true rfl⟩ hP hD (lit := [(mq, .inr (4, [.ref an, .ref ap, .int (nI st), .ref ak, .ref ai, .ref ad, .ref ac, .ref aw, .int (nI mn), .ref at_, .int (nI le), .int (nI 0), .int (nI sp), .ref ao, .int (nI tm)]))]) (wt := []) (wc := [(mq, .inr (4, [.ref an, .ref ap, .int (nI st), .ref ak, .ref ai, .ref ad, .ref ac, .ref aw, .int (nI mn), .ref at_, .int (nI le), .int (nI 0), .int (nI sp), .ref ao, .int (nI tm)]))]) (isC := [0]) rfl (by decide) rfl rfl rfl hl.1 (Nat.le_of_ble_eq_true rfl) dX4_fenceByCells_22 ⟨Nat.le_of_ble_eq_true rfl, Nat.le_of_ble_eq_true rfl⟩) hP hD hS (lit := [(mq, .inr (4, [.ref an, .ref ap, .int (nI st), .ref ak, .ref ai, .ref ad, .ref ac, .ref aw, .int (nI mn), .ref at_, .int (nI le), .int (nI 0), .int (nI sp), .ref ao, .int (nI tm)]))]) (wt := []) (wc := [(mq, .inr (4, [.ref an, .ref ap, .int (nI st), .ref ak, .ref ai, .ref ad, .ref ac, .ref aw, .int (nI mn), .ref at_, .int (nI le), .int (nI 0), .int (nI sp), .ref ao, .int (nI tm)]))]) (wr := []) (isC := [0]) (isR := []) rfl rfl (by decide) (by decide) (fun r22 u H locs hp22 hP hD hS => ?_)
    subst hp22
    have hP : va_P G.1 vwCl [(mq, .inr (4, [.ref an, .ref ap, .int (nI st), .ref ak, .ref ai, .ref ad, .ref ac, .ref aw, .int (nI mn), .ref at_, .int (nI le), .int (nI 1), .int (nI sp), .ref ao, .int (nI tm)]))] H := hP
    have hD : va_D A [(mq, .inr (4, [.ref an, .ref ap, .int (nI st), .ref ak, .ref ai, .ref ad, .ref ac, .ref aw, .int (nI mn), .ref at_, .int (nI le), .int (nI 1), .int (nI sp), .ref ao, .int (nI tm)]))] := hD
    exact gRi F dX4_fenceByCells_25 (rfl) () (rfl) hP hD hS (Nat.le_refl _) (Nat.le_refl _)
  exfalso; omega

set_option maxHeartbeats 4000000 in
set_option maxRecDepth 100000 in
theorem c_X4_fenceBetween (l : Launch) (G : gG) (mq : Nat) (an : Nat) (ap : Nat) (st : Nat) (ak : Nat) (ai : Nat) (ad : Nat) (ac : Nat) (aw : Nat) (mn : Nat) (at_ : Nat) (le : Nat) (th : Nat) (sp : Nat) (ao : Nat) (tm : Nat) (nw : Nat → Nat) (o : Nat) (q : Nat) (how : ∀ k, k < 256 → nw k < 8) (ho : o < 8) (hq : q < 8) : gMi (S := Unit) l yX4_fenceBetween wsX4_fenceBetween { frames := 2, cells := 0, slots := 0, locals := 42 } G [.ref mq, .int (nI o), .int (nI q)] [(mq, .inr (4, [.ref an, .ref ap, .int (nI st), .ref ak, .ref ai, .ref ad, .ref ac, .ref aw, .int (nI mn), .ref at_, .int (nI le), .int (nI th), .int (nI sp), .ref ao, .int (nI tm)])), (an, .inl (G.2.1, 525, .inl (gn nw)))] (fun (r : Int32) (u : Unit) => (r = nI (btw nw o q))) (fun u => [(mq, .inr (4, [.ref an, .ref ap, .int (nI st), .ref ak, .ref ai, .ref ad, .ref ac, .ref aw, .int (nI mn), .ref at_, .int (nI le), .int (nI 0), .int (nI sp), .ref ao, .int (nI tm)])), (an, .inl (G.2.1, 525, .inl (gn nw)))]) 0 0 := by
  refine gMet_mk (cc := cX4_fenceBetween) (nL := 3) (ret := (some .int)) (Qc := fun A => va_Qi (S := Unit) (fun (r : Int32) (u : Unit) => (r = nI (btw nw o q))) (gB G A (fun (u : Unit) => [(mq, .inr (4, [.ref an, .ref ap, .int (nI st), .ref ak, .ref ai, .ref ad, .ref ac, .ref aw, .int (nI mn), .ref at_, .int (nI le), .int (nI 0), .int (nI sp), .ref ao, .int (nI tm)])), (an, .inl (G.2.1, 525, .inl (gn nw)))])) A) (by decide) rfl (Nat.le_of_ble_eq_true rfl) ?_
  intro p e s m args below meth c A F ls hl hP hD hS
  have hx := F.1
  have hb := F.2.1
  have hts := F.2.2.2.2.2.2.1
  have hown : s.vm.findClass RX4 = some m.cls := F.2.2.2.2.2.1
  have hKK := F.2.2.2.2.2.2.2.2.1
  have hK := hKK.1
  have hin0 := F.2.2.2.2.2.2.2.1
  have hi4 : ∀ w ∈ u_ws RX4 TX4 15, w ∈ wsX4_fenceBetween := by decide +kernel
  have hl : lv_has ls 3 [(0, .ref mq), (1, .int (nI o)), (2, .int (nI q))] := hl
  generalize hH : s.heap = H at hP ⊢
  have hS : va_S A s.heap H [] := by rw [← hH]; exact va_S.rf
  generalize hLo : ([] : List Loc) = locs at hS ⊢
  refine lv_aload_n hx hb dX4_fenceBetween_0 rfl (lv_at hl 0 rfl) ?_
  refine lv_iconst (v := nI 0) hx hb dX4_fenceBetween_1 (by decide) ?_
  refine va_put (D := G.1) (ci := 4) (v := .int (nI 0)) (ty := .int) (C := RX4) (T := TX4) (N := 15) hx hb hts hi4 tyX4 tyX4_ok nmX4 hown hK hP hD hS 0 rfl rfl 11 (by decide) (hts (.fieldLink RX4 37 "LandQuartersModel" "thrown" "I") (by decide +kernel)) (fun _ h9 => h9) rfl (by decide +kernel) (rfl) (rfl) (Nat.le_of_ble_eq_true rfl) dX4_fenceBetween_2 (fun H locs hP hD hS => ?_)
  have hP : va_P G.1 vwCl [(mq, .inr (4, [.ref an, .ref ap, .int (nI st), .ref ak, .ref ai, .ref ad, .ref ac, .ref aw, .int (nI mn), .ref at_, .int (nI le), .int (nI 0), .int (nI sp), .ref ao, .int (nI tm)])), (an, .inl (G.2.1, 525, .inl (gn nw)))] H := hP
  have hD : va_D A [(mq, .inr (4, [.ref an, .ref ap, .int (nI st), .ref ak, .ref ai, .ref ad, .ref ac, .ref aw, .int (nI mn), .ref at_, .int (nI le), .int (nI 0), .int (nI sp), .ref ao, .int (nI tm)])), (an, .inl (G.2.1, 525, .inl (gn nw)))] := hD
  refine lv_iload_n hx hb dX4_fenceBetween_5 rfl (lv_at hl 1 rfl) ?_
  refine W.eq (g2 := F0 m 6 ls [.int (zI ((o : Nat) : Int))]) (by simp only [zI_nat, zI_neg1]) ?_
  refine gCi F (gRunS (own := RX4) (bytes := cX4_isOwner) (n := 1) (As := [.int (zI ((o : Nat) : Int))]) (rest := []) F (c_X4_isOwner l G ((o : Nat) : Int) (by first | assumption | omega) H.size) gX4_fenceBetween_X4_isOwner rfl rfl rfl rfl (by decide +kernel) rfl ⟨Nat.le_of_ble_eq_true rfl, Nat.le_of_ble_eq_true rfl⟩ hP hD (lit := [(mq, .inr (4, [.ref an, .ref ap, .int (nI st), .ref ak, .ref ai, .ref ad, .ref ac, .ref aw, .int (nI mn), .ref at_, .int (nI le), .int (nI 0), .int (nI sp), .ref ao, .int (nI tm)])), (an, .inl (G.2.1, 525, .inl (gn nw)))]) (wt := []) (wc := []) (isC := []) rfl (by decide) rfl hl.1 (Nat.le_of_ble_eq_true rfl) dX4_fenceBetween_6 ⟨Nat.le_of_ble_eq_true rfl, Nat.le_of_ble_eq_true rfl⟩) hP hD hS (lit := [(mq, .inr (4, [.ref an, .ref ap, .int (nI st), .ref ak, .ref ai, .ref ad, .ref ac, .ref aw, .int (nI mn), .ref at_, .int (nI le), .int (nI 0), .int (nI sp), .ref ao, .int (nI tm)])), (an, .inl (G.2.1, 525, .inl (gn nw)))]) (wt := []) (wc := []) (wr := [(mq, .inr (4, [.ref an, .ref ap, .int (nI st), .ref ak, .ref ai, .ref ad, .ref ac, .ref aw, .int (nI mn), .ref at_, .int (nI le), .int (nI 0), .int (nI sp), .ref ao, .int (nI tm)])), (an, .inl (G.2.1, 525, .inl (gn nw)))]) (isC := []) (isR := [0, 1]) rfl rfl (by decide) (by decide) (fun r6 u H locs hp6 hP hD hS => ?_)
  subst hp6
  have hP : va_P G.1 vwCl [(mq, .inr (4, [.ref an, .ref ap, .int (nI st), .ref ak, .ref ai, .ref ad, .ref ac, .ref aw, .int (nI mn), .ref at_, .int (nI le), .int (nI 0), .int (nI sp), .ref ao, .int (nI tm)])), (an, .inl (G.2.1, 525, .inl (gn nw)))] H := hP
  have hD : va_D A [(mq, .inr (4, [.ref an, .ref ap, .int (nI st), .ref ak, .ref ai, .ref ad, .ref ac, .ref aw, .int (nI mn), .ref at_, .int (nI le), .int (nI 0), .int (nI sp), .ref ao, .int (nI tm)])), (an, .inl (G.2.1, 525, .inl (gn nw)))] := hD
  refine gIfB_eq (P := (0 ≤ ((o : Nat) : Int) ∧ ((o : Nat) : Int) < 8)) (tgt := 28) hx hb dX4_fenceBetween_9 (by decide) (fun c9 => ?_) (fun c9 => ?_)
  · skip
    refine lv_aload_n hx hb dX4_fenceBetween_28 rfl (lv_at hl 0 rfl) ?_
    refine lv_iconst (v := nI 1) hx hb dX4_fenceBetween_29 (by decide) ?_
    exfalso; omega
  refine lv_iload_n hx hb dX4_fenceBetween_12 rfl (lv_at hl 2 rfl) ?_
  refine W.eq (g2 := F0 m 13 ls [.int (zI ((q : Nat) : Int))]) (by simp only [zI_nat, zI_neg1]) ?_
  refine gCi F (gRunS (own := RX4) (bytes := cX4_isOwner) (n := 1) (As := [.int (zI ((q : Nat) : Int))]) (rest := []) F (c_X4_isOwner l G ((q : Nat) : Int) (by first | assumption | omega) H.size) gX4_fenceBetween_X4_isOwner rfl rfl rfl rfl (by decide +kernel) rfl ⟨Nat.le_of_ble_eq_true rfl, Nat.le_of_ble_eq_true rfl⟩ hP hD (lit := [(mq, .inr (4, [.ref an, .ref ap, .int (nI st), .ref ak, .ref ai, .ref ad, .ref ac, .ref aw, .int (nI mn), .ref at_, .int (nI le), .int (nI 0), .int (nI sp), .ref ao, .int (nI tm)])), (an, .inl (G.2.1, 525, .inl (gn nw)))]) (wt := []) (wc := []) (isC := []) rfl (by decide) rfl hl.1 (Nat.le_of_ble_eq_true rfl) dX4_fenceBetween_13 ⟨Nat.le_of_ble_eq_true rfl, Nat.le_of_ble_eq_true rfl⟩) hP hD hS (lit := [(mq, .inr (4, [.ref an, .ref ap, .int (nI st), .ref ak, .ref ai, .ref ad, .ref ac, .ref aw, .int (nI mn), .ref at_, .int (nI le), .int (nI 0), .int (nI sp), .ref ao, .int (nI tm)])), (an, .inl (G.2.1, 525, .inl (gn nw)))]) (wt := []) (wc := []) (wr := [(mq, .inr (4, [.ref an, .ref ap, .int (nI st), .ref ak, .ref ai, .ref ad, .ref ac, .ref aw, .int (nI mn), .ref at_, .int (nI le), .int (nI 0), .int (nI sp), .ref ao, .int (nI tm)])), (an, .inl (G.2.1, 525, .inl (gn nw)))]) (isC := []) (isR := [0, 1]) rfl rfl (by decide) (by decide) (fun r13 u H locs hp13 hP hD hS => ?_)
  subst hp13
  have hP : va_P G.1 vwCl [(mq, .inr (4, [.ref an, .ref ap, .int (nI st), .ref ak, .ref ai, .ref ad, .ref ac, .ref aw, .int (nI mn), .ref at_, .int (nI le), .int (nI 0), .int (nI sp), .ref ao, .int (nI tm)])), (an, .inl (G.2.1, 525, .inl (gn nw)))] H := hP
  have hD : va_D A [(mq, .inr (4, [.ref an, .ref ap, .int (nI st), .ref ak, .ref ai, .ref ad, .ref ac, .ref aw, .int (nI mn), .ref at_, .int (nI le), .int (nI 0), .int (nI sp), .ref ao, .int (nI tm)])), (an, .inl (G.2.1, 525, .inl (gn nw)))] := hD
  refine gIfB_eq (P := (0 ≤ ((q : Nat) : Int) ∧ ((q : Nat) : Int) < 8)) (tgt := 28) hx hb dX4_fenceBetween_16 (by decide) (fun c16 => ?_) (fun c16 => ?_)
  · skip
    refine lv_aload_n hx hb dX4_fenceBetween_28 rfl (lv_at hl 0 rfl) ?_
    refine lv_iconst (v := nI 1) hx hb dX4_fenceBetween_29 (by decide) ?_
    exfalso; omega
  refine lv_aload_n hx hb dX4_fenceBetween_19 rfl (lv_at hl 0 rfl) ?_
  refine lv_iload_n hx hb dX4_fenceBetween_20 rfl (lv_at hl 1 rfl) ?_
  refine lv_iload_n hx hb dX4_fenceBetween_21 rfl (lv_at hl 2 rfl) ?_
  refine gCi F (gRunV (own := RX4) (C := RX4) (ci := 4) (bytes := cX4_between) (n := 2) (As := [.int (nI o), .int (nI q)]) (rest := []) F (c_X4_between l G mq an ap st ak ai ad ac aw mn at_ le 0 sp ao tm nw o q (by first | assumption | omega) (by first | assumption | omega) (by first | assumption | omega) H.size) gX4_fenceBetween_X4_between rfl rfl rfl rfl (by decide +kernel) rfl ⟨Nat.le_of_ble_eq_true rfl, Nat.le_of_ble_eq_true rfl⟩ hP hD (lit := [(mq, .inr (4, [.ref an, .ref ap, .int (nI st), .ref ak, .ref ai, .ref ad, .ref ac, .ref aw, .int (nI mn), .ref at_, .int (nI le), .int (nI 0), .int (nI sp), .ref ao, .int (nI tm)])), (an, .inl (G.2.1, 525, .inl (gn nw)))]) (wt := []) (wc := [(mq, .inr (4, [.ref an, .ref ap, .int (nI st), .ref ak, .ref ai, .ref ad, .ref ac, .ref aw, .int (nI mn), .ref at_, .int (nI le), .int (nI 0), .int (nI sp), .ref ao, .int (nI tm)])), (an, .inl (G.2.1, 525, .inl (gn nw)))]) (isC := [0, 1]) rfl (by decide) rfl rfl rfl hl.1 (Nat.le_of_ble_eq_true rfl) dX4_fenceBetween_22 ⟨Nat.le_of_ble_eq_true rfl, Nat.le_of_ble_eq_true rfl⟩) hP hD hS (lit := [(mq, .inr (4, [.ref an, .ref ap, .int (nI st), .ref ak, .ref ai, .ref ad, .ref ac, .ref aw, .int (nI mn), .ref at_, .int (nI le), .int (nI 0), .int (nI sp), .ref ao, .int (nI tm)])), (an, .inl (G.2.1, 525, .inl (gn nw)))]) (wt := []) (wc := [(mq, .inr (4, [.ref an, .ref ap, .int (nI st), .ref ak, .ref ai, .ref ad, .ref ac, .ref aw, .int (nI mn), .ref at_, .int (nI le), .int (nI 0), .int (nI sp), .ref ao, .int (nI tm)])), (an, .inl (G.2.1, 525, .inl (gn nw)))]) (wr := []) (isC := [0, 1]) (isR := []) rfl rfl (by decide) (by decide) (fun r22 u H locs hp22 hP hD hS => ?_)
  subst hp22
  have hP : va_P G.1 vwCl [(mq, .inr (4, [.ref an, .ref ap, .int (nI st), .ref ak, .ref ai, .ref ad, .ref ac, .ref aw, .int (nI mn), .ref at_, .int (nI le), .int (nI 0), .int (nI sp), .ref ao, .int (nI tm)])), (an, .inl (G.2.1, 525, .inl (gn nw)))] H := hP
  have hD : va_D A [(mq, .inr (4, [.ref an, .ref ap, .int (nI st), .ref ak, .ref ai, .ref ad, .ref ac, .ref aw, .int (nI mn), .ref at_, .int (nI le), .int (nI 0), .int (nI sp), .ref ao, .int (nI tm)])), (an, .inl (G.2.1, 525, .inl (gn nw)))] := hD
  refine lv_goto (tgt := 33) hx hb dX4_fenceBetween_25 (by decide) ?_
  exact gRi F dX4_fenceBetween_33 (rfl) () (rfl) hP hD hS (Nat.le_refl _) (Nat.le_refl _)

set_option maxHeartbeats 4000000 in
set_option maxRecDepth 100000 in
theorem f1_X4_fenceBetween (l : Launch) (G : gG) (mq : Nat) (an : Nat) (ap : Nat) (st : Nat) (ak : Nat) (ai : Nat) (ad : Nat) (ac : Nat) (aw : Nat) (mn : Nat) (at_ : Nat) (le : Nat) (th : Nat) (sp : Nat) (ao : Nat) (tm : Nat) (o : Int) (q : Int) (ho : -2147483648 ≤ o ∧ o < 2147483648) (hq : -2147483648 ≤ q ∧ q < 2147483648) (hcond0 : ¬ ((0 ≤ o ∧ o < 8) ∧ (0 ≤ q ∧ q < 8))) : gMi (S := Unit) l yX4_fenceBetween wsX4_fenceBetween { frames := 2, cells := 0, slots := 0, locals := 42 } G [.ref mq, .int (zI o), .int (zI q)] [(mq, .inr (4, [.ref an, .ref ap, .int (nI st), .ref ak, .ref ai, .ref ad, .ref ac, .ref aw, .int (nI mn), .ref at_, .int (nI le), .int (nI th), .int (nI sp), .ref ao, .int (nI tm)]))] (fun (r : Int32) (u : Unit) => (r = nI 0)) (fun u => [(mq, .inr (4, [.ref an, .ref ap, .int (nI st), .ref ak, .ref ai, .ref ad, .ref ac, .ref aw, .int (nI mn), .ref at_, .int (nI le), .int (nI 1), .int (nI sp), .ref ao, .int (nI tm)]))]) 0 0 := by
  refine gMet_mk (cc := cX4_fenceBetween) (nL := 3) (ret := (some .int)) (Qc := fun A => va_Qi (S := Unit) (fun (r : Int32) (u : Unit) => (r = nI 0)) (gB G A (fun (u : Unit) => [(mq, .inr (4, [.ref an, .ref ap, .int (nI st), .ref ak, .ref ai, .ref ad, .ref ac, .ref aw, .int (nI mn), .ref at_, .int (nI le), .int (nI 1), .int (nI sp), .ref ao, .int (nI tm)]))])) A) (by decide) rfl (Nat.le_of_ble_eq_true rfl) ?_
  intro p e s m args below meth c A F ls hl hP hD hS
  have hx := F.1
  have hb := F.2.1
  have hts := F.2.2.2.2.2.2.1
  have hown : s.vm.findClass RX4 = some m.cls := F.2.2.2.2.2.1
  have hKK := F.2.2.2.2.2.2.2.2.1
  have hK := hKK.1
  have hin0 := F.2.2.2.2.2.2.2.1
  have hi4 : ∀ w ∈ u_ws RX4 TX4 15, w ∈ wsX4_fenceBetween := by decide +kernel
  have hl : lv_has ls 3 [(0, .ref mq), (1, .int (zI o)), (2, .int (zI q))] := hl
  generalize hH : s.heap = H at hP ⊢
  have hS : va_S A s.heap H [] := by rw [← hH]; exact va_S.rf
  generalize hLo : ([] : List Loc) = locs at hS ⊢
  refine lv_aload_n hx hb dX4_fenceBetween_0 rfl (lv_at hl 0 rfl) ?_
  refine lv_iconst (v := nI 0) hx hb dX4_fenceBetween_1 (by decide) ?_
  refine va_put (D := G.1) (ci := 4) (v := .int (nI 0)) (ty := .int) (C := RX4) (T := TX4) (N := 15) hx hb hts hi4 tyX4 tyX4_ok nmX4 hown hK hP hD hS 0 rfl rfl 11 (by decide) (hts (.fieldLink RX4 37 "LandQuartersModel" "thrown" "I") (by decide +kernel)) (fun _ h9 => h9) rfl (by decide +kernel) (rfl) (rfl) (Nat.le_of_ble_eq_true rfl) dX4_fenceBetween_2 (fun H locs hP hD hS => ?_)
  have hP : va_P G.1 vwCl [(mq, .inr (4, [.ref an, .ref ap, .int (nI st), .ref ak, .ref ai, .ref ad, .ref ac, .ref aw, .int (nI mn), .ref at_, .int (nI le), .int (nI 0), .int (nI sp), .ref ao, .int (nI tm)]))] H := hP
  have hD : va_D A [(mq, .inr (4, [.ref an, .ref ap, .int (nI st), .ref ak, .ref ai, .ref ad, .ref ac, .ref aw, .int (nI mn), .ref at_, .int (nI le), .int (nI 0), .int (nI sp), .ref ao, .int (nI tm)]))] := hD
  refine lv_iload_n hx hb dX4_fenceBetween_5 rfl (lv_at hl 1 rfl) ?_
  refine gCi F (gRunS (own := RX4) (bytes := cX4_isOwner) (n := 1) (As := [.int (zI o)]) (rest := []) F (c_X4_isOwner l G o (by first | assumption | omega) H.size) gX4_fenceBetween_X4_isOwner rfl rfl rfl rfl (by decide +kernel) rfl ⟨Nat.le_of_ble_eq_true rfl, Nat.le_of_ble_eq_true rfl⟩ hP hD (lit := [(mq, .inr (4, [.ref an, .ref ap, .int (nI st), .ref ak, .ref ai, .ref ad, .ref ac, .ref aw, .int (nI mn), .ref at_, .int (nI le), .int (nI 0), .int (nI sp), .ref ao, .int (nI tm)]))]) (wt := []) (wc := []) (isC := []) rfl (by decide) rfl hl.1 (Nat.le_of_ble_eq_true rfl) dX4_fenceBetween_6 ⟨Nat.le_of_ble_eq_true rfl, Nat.le_of_ble_eq_true rfl⟩) hP hD hS (lit := [(mq, .inr (4, [.ref an, .ref ap, .int (nI st), .ref ak, .ref ai, .ref ad, .ref ac, .ref aw, .int (nI mn), .ref at_, .int (nI le), .int (nI 0), .int (nI sp), .ref ao, .int (nI tm)]))]) (wt := []) (wc := []) (wr := [(mq, .inr (4, [.ref an, .ref ap, .int (nI st), .ref ak, .ref ai, .ref ad, .ref ac, .ref aw, .int (nI mn), .ref at_, .int (nI le), .int (nI 0), .int (nI sp), .ref ao, .int (nI tm)]))]) (isC := []) (isR := [0]) rfl rfl (by decide) (by decide) (fun r6 u H locs hp6 hP hD hS => ?_)
  subst hp6
  have hP : va_P G.1 vwCl [(mq, .inr (4, [.ref an, .ref ap, .int (nI st), .ref ak, .ref ai, .ref ad, .ref ac, .ref aw, .int (nI mn), .ref at_, .int (nI le), .int (nI 0), .int (nI sp), .ref ao, .int (nI tm)]))] H := hP
  have hD : va_D A [(mq, .inr (4, [.ref an, .ref ap, .int (nI st), .ref ak, .ref ai, .ref ad, .ref ac, .ref aw, .int (nI mn), .ref at_, .int (nI le), .int (nI 0), .int (nI sp), .ref ao, .int (nI tm)]))] := hD
  refine gIfB_eq (P := (0 ≤ o ∧ o < 8)) (tgt := 28) hx hb dX4_fenceBetween_9 (by decide) (fun c9 => ?_) (fun c9 => ?_)
  · skip
    refine lv_aload_n hx hb dX4_fenceBetween_28 rfl (lv_at hl 0 rfl) ?_
    refine lv_iconst (v := nI 1) hx hb dX4_fenceBetween_29 (by decide) ?_
    refine gCi F (gRunV (own := RX4) (C := RX4) (ci := 4) (bytes := cX4_refuses) (n := 1) (As := [.int (nI 1)]) (rest := []) F (c_X4_refuses l G mq an ap st ak ai ad ac aw mn at_ le 0 sp ao tm 1  H.size) gX4_fenceBetween_X4_refuses rfl rfl rfl rfl (by decide +kernel) rfl ⟨Nat.le_of_ble_eq_true rfl, Nat.le_of_ble_eq_true rfl⟩ hP hD (lit := [(mq, .inr (4, [.ref an, .ref ap, .int (nI st), .ref ak, .ref ai, .ref ad, .ref ac, .ref aw, .int (nI mn), .ref at_, .int (nI le), .int (nI 0), .int (nI sp), .ref ao, .int (nI tm)]))]) (wt := []) (wc := [(mq, .inr (4, [.ref an, .ref ap, .int (nI st), .ref ak, .ref ai, .ref ad, .ref ac, .ref aw, .int (nI mn), .ref at_, .int (nI le), .int (nI 0), .int (nI sp), .ref ao, .int (nI tm)]))]) (isC := [0]) rfl (by decide) rfl rfl rfl hl.1 (Nat.le_of_ble_eq_true rfl) dX4_fenceBetween_30 ⟨Nat.le_of_ble_eq_true rfl, Nat.le_of_ble_eq_true rfl⟩) hP hD hS (lit := [(mq, .inr (4, [.ref an, .ref ap, .int (nI st), .ref ak, .ref ai, .ref ad, .ref ac, .ref aw, .int (nI mn), .ref at_, .int (nI le), .int (nI 0), .int (nI sp), .ref ao, .int (nI tm)]))]) (wt := []) (wc := [(mq, .inr (4, [.ref an, .ref ap, .int (nI st), .ref ak, .ref ai, .ref ad, .ref ac, .ref aw, .int (nI mn), .ref at_, .int (nI le), .int (nI 0), .int (nI sp), .ref ao, .int (nI tm)]))]) (wr := []) (isC := [0]) (isR := []) rfl rfl (by decide) (by decide) (fun r30 u H locs hp30 hP hD hS => ?_)
    subst hp30
    have hP : va_P G.1 vwCl [(mq, .inr (4, [.ref an, .ref ap, .int (nI st), .ref ak, .ref ai, .ref ad, .ref ac, .ref aw, .int (nI mn), .ref at_, .int (nI le), .int (nI 1), .int (nI sp), .ref ao, .int (nI tm)]))] H := hP
    have hD : va_D A [(mq, .inr (4, [.ref an, .ref ap, .int (nI st), .ref ak, .ref ai, .ref ad, .ref ac, .ref aw, .int (nI mn), .ref at_, .int (nI le), .int (nI 1), .int (nI sp), .ref ao, .int (nI tm)]))] := hD
    exact gRi F dX4_fenceBetween_33 (rfl) () (rfl) hP hD hS (Nat.le_refl _) (Nat.le_refl _)
  refine lv_iload_n hx hb dX4_fenceBetween_12 rfl (lv_at hl 2 rfl) ?_
  refine gCi F (gRunS (own := RX4) (bytes := cX4_isOwner) (n := 1) (As := [.int (zI q)]) (rest := []) F (c_X4_isOwner l G q (by first | assumption | omega) H.size) gX4_fenceBetween_X4_isOwner rfl rfl rfl rfl (by decide +kernel) rfl ⟨Nat.le_of_ble_eq_true rfl, Nat.le_of_ble_eq_true rfl⟩ hP hD (lit := [(mq, .inr (4, [.ref an, .ref ap, .int (nI st), .ref ak, .ref ai, .ref ad, .ref ac, .ref aw, .int (nI mn), .ref at_, .int (nI le), .int (nI 0), .int (nI sp), .ref ao, .int (nI tm)]))]) (wt := []) (wc := []) (isC := []) rfl (by decide) rfl hl.1 (Nat.le_of_ble_eq_true rfl) dX4_fenceBetween_13 ⟨Nat.le_of_ble_eq_true rfl, Nat.le_of_ble_eq_true rfl⟩) hP hD hS (lit := [(mq, .inr (4, [.ref an, .ref ap, .int (nI st), .ref ak, .ref ai, .ref ad, .ref ac, .ref aw, .int (nI mn), .ref at_, .int (nI le), .int (nI 0), .int (nI sp), .ref ao, .int (nI tm)]))]) (wt := []) (wc := []) (wr := [(mq, .inr (4, [.ref an, .ref ap, .int (nI st), .ref ak, .ref ai, .ref ad, .ref ac, .ref aw, .int (nI mn), .ref at_, .int (nI le), .int (nI 0), .int (nI sp), .ref ao, .int (nI tm)]))]) (isC := []) (isR := [0]) rfl rfl (by decide) (by decide) (fun r13 u H locs hp13 hP hD hS => ?_)
  subst hp13
  have hP : va_P G.1 vwCl [(mq, .inr (4, [.ref an, .ref ap, .int (nI st), .ref ak, .ref ai, .ref ad, .ref ac, .ref aw, .int (nI mn), .ref at_, .int (nI le), .int (nI 0), .int (nI sp), .ref ao, .int (nI tm)]))] H := hP
  have hD : va_D A [(mq, .inr (4, [.ref an, .ref ap, .int (nI st), .ref ak, .ref ai, .ref ad, .ref ac, .ref aw, .int (nI mn), .ref at_, .int (nI le), .int (nI 0), .int (nI sp), .ref ao, .int (nI tm)]))] := hD
  refine gIfB_eq (P := (0 ≤ q ∧ q < 8)) (tgt := 28) hx hb dX4_fenceBetween_16 (by decide) (fun c16 => ?_) (fun c16 => ?_)
  · skip
    refine lv_aload_n hx hb dX4_fenceBetween_28 rfl (lv_at hl 0 rfl) ?_
    refine lv_iconst (v := nI 1) hx hb dX4_fenceBetween_29 (by decide) ?_
    refine gCi F (gRunV (own := RX4) (C := RX4) (ci := 4) (bytes := cX4_refuses) (n := 1) (As := [.int (nI 1)]) (rest := []) F (c_X4_refuses l G mq an ap st ak ai ad ac aw mn at_ le 0 sp ao tm 1  H.size) gX4_fenceBetween_X4_refuses rfl rfl rfl rfl (by decide +kernel) rfl ⟨Nat.le_of_ble_eq_true rfl, Nat.le_of_ble_eq_true rfl⟩ hP hD (lit := [(mq, .inr (4, [.ref an, .ref ap, .int (nI st), .ref ak, .ref ai, .ref ad, .ref ac, .ref aw, .int (nI mn), .ref at_, .int (nI le), .int (nI 0), .int (nI sp), .ref ao, .int (nI tm)]))]) (wt := []) (wc := [(mq, .inr (4, [.ref an, .ref ap, .int (nI st), .ref ak, .ref ai, .ref ad, .ref ac, .ref aw, .int (nI mn), .ref at_, .int (nI le), .int (nI 0), .int (nI sp), .ref ao, .int (nI tm)]))]) (isC := [0]) rfl (by decide) rfl rfl rfl hl.1 (Nat.le_of_ble_eq_true rfl) dX4_fenceBetween_30 ⟨Nat.le_of_ble_eq_true rfl, Nat.le_of_ble_eq_true rfl⟩) hP hD hS (lit := [(mq, .inr (4, [.ref an, .ref ap, .int (nI st), .ref ak, .ref ai, .ref ad, .ref ac, .ref aw, .int (nI mn), .ref at_, .int (nI le), .int (nI 0), .int (nI sp), .ref ao, .int (nI tm)]))]) (wt := []) (wc := [(mq, .inr (4, [.ref an, .ref ap, .int (nI st), .ref ak, .ref ai, .ref ad, .ref ac, .ref aw, .int (nI mn), .ref at_, .int (nI le), .int (nI 0), .int (nI sp), .ref ao, .int (nI tm)]))]) (wr := []) (isC := [0]) (isR := []) rfl rfl (by decide) (by decide) (fun r30 u H locs hp30 hP hD hS => ?_)
    subst hp30
    have hP : va_P G.1 vwCl [(mq, .inr (4, [.ref an, .ref ap, .int (nI st), .ref ak, .ref ai, .ref ad, .ref ac, .ref aw, .int (nI mn), .ref at_, .int (nI le), .int (nI 1), .int (nI sp), .ref ao, .int (nI tm)]))] H := hP
    have hD : va_D A [(mq, .inr (4, [.ref an, .ref ap, .int (nI st), .ref ak, .ref ai, .ref ad, .ref ac, .ref aw, .int (nI mn), .ref at_, .int (nI le), .int (nI 1), .int (nI sp), .ref ao, .int (nI tm)]))] := hD
    exact gRi F dX4_fenceBetween_33 (rfl) () (rfl) hP hD hS (Nat.le_refl _) (Nat.le_refl _)
  exfalso; omega

set_option maxHeartbeats 4000000 in
set_option maxRecDepth 100000 in
theorem c_X4_largestPlotOf (l : Launch) (G : gG) (mq : Nat) (an : Nat) (ap : Nat) (st : Nat) (ak : Nat) (ai : Nat) (ad : Nat) (ac : Nat) (aw : Nat) (mn : Nat) (at_ : Nat) (le : Nat) (th : Nat) (sp : Nat) (ao : Nat) (tm : Nat) (nw : Nat → Nat) (pC : Nat → Nat) (pW : Nat → Nat) (o : Nat) (how : ∀ k, k < 256 → nw k < 8) (ho : o < 8) : gMi (S := (Nat → Nat) × (Nat → Nat)) l yX4_largestPlotOf wsX4_largestPlotOf { frames := 3, cells := 0, slots := 0, locals := 69 } G [.ref mq, .int (nI o)] [(mq, .inr (4, [.ref an, .ref ap, .int (nI st), .ref ak, .ref ai, .ref ad, .ref ac, .ref aw, .int (nI mn), .ref at_, .int (nI le), .int (nI th), .int (nI sp), .ref ao, .int (nI tm)])), (an, .inl (G.2.1, 525, .inl (gn nw))), (ac, .inl (G.2.1, 256, .inl (gn pC))), (aw, .inl (G.2.1, 256, .inl (gn pW)))] (fun (r : Int32) (u : (Nat → Nat) × (Nat → Nat)) => (r = zI ((fLg (svO nw) (svZ nw) o (cnt nw)).1))) (fun u => [(mq, .inr (4, [.ref an, .ref ap, .int (nI st), .ref ak, .ref ai, .ref ad, .ref ac, .ref aw, .int (nI (cnt nw)), .ref at_, .int (nI le), .int (nI 0), .int (nI sp), .ref ao, .int (nI tm)])), (an, .inl (G.2.1, 525, .inl (gn nw))), (ac, .inl (G.2.1, 256, .inl (gn u.1))), (aw, .inl (G.2.1, 256, .inl (gn u.2)))]) 0 0 := by
  refine gMet_mk (cc := cX4_largestPlotOf) (nL := 2) (ret := (some .int)) (Qc := fun A => va_Qi (S := (Nat → Nat) × (Nat → Nat)) (fun (r : Int32) (u : (Nat → Nat) × (Nat → Nat)) => (r = zI ((fLg (svO nw) (svZ nw) o (cnt nw)).1))) (gB G A (fun (u : (Nat → Nat) × (Nat → Nat)) => [(mq, .inr (4, [.ref an, .ref ap, .int (nI st), .ref ak, .ref ai, .ref ad, .ref ac, .ref aw, .int (nI (cnt nw)), .ref at_, .int (nI le), .int (nI 0), .int (nI sp), .ref ao, .int (nI tm)])), (an, .inl (G.2.1, 525, .inl (gn nw))), (ac, .inl (G.2.1, 256, .inl (gn u.1))), (aw, .inl (G.2.1, 256, .inl (gn u.2)))])) A) (by decide) rfl (Nat.le_of_ble_eq_true rfl) ?_
  intro p e s m args below meth c A F ls hl hP hD hS
  have hx := F.1
  have hb := F.2.1
  have hts := F.2.2.2.2.2.2.1
  have hown : s.vm.findClass RX4 = some m.cls := F.2.2.2.2.2.1
  have hKK := F.2.2.2.2.2.2.2.2.1
  have hK := hKK.1
  have hin0 := F.2.2.2.2.2.2.2.1
  have hi4 : ∀ w ∈ u_ws RX4 TX4 15, w ∈ wsX4_largestPlotOf := by decide +kernel
  have hl : lv_has ls 2 [(0, .ref mq), (1, .int (nI o))] := hl
  generalize hH : s.heap = H at hP ⊢
  have hS : va_S A s.heap H [] := by rw [← hH]; exact va_S.rf
  generalize hLo : ([] : List Loc) = locs at hS ⊢
  refine lv_aload_n hx hb dX4_largestPlotOf_0 rfl (lv_at hl 0 rfl) ?_
  refine lv_iconst (v := nI 0) hx hb dX4_largestPlotOf_1 (by decide) ?_
  refine va_put (D := G.1) (ci := 4) (v := .int (nI 0)) (ty := .int) (C := RX4) (T := TX4) (N := 15) hx hb hts hi4 tyX4 tyX4_ok nmX4 hown hK hP hD hS 0 rfl rfl 11 (by decide) (hts (.fieldLink RX4 37 "LandQuartersModel" "thrown" "I") (by decide +kernel)) (fun _ h9 => h9) rfl (by decide +kernel) (rfl) (rfl) (Nat.le_of_ble_eq_true rfl) dX4_largestPlotOf_2 (fun H locs hP hD hS => ?_)
  have hP : va_P G.1 vwCl [(mq, .inr (4, [.ref an, .ref ap, .int (nI st), .ref ak, .ref ai, .ref ad, .ref ac, .ref aw, .int (nI mn), .ref at_, .int (nI le), .int (nI 0), .int (nI sp), .ref ao, .int (nI tm)])), (an, .inl (G.2.1, 525, .inl (gn nw))), (ac, .inl (G.2.1, 256, .inl (gn pC))), (aw, .inl (G.2.1, 256, .inl (gn pW)))] H := hP
  have hD : va_D A [(mq, .inr (4, [.ref an, .ref ap, .int (nI st), .ref ak, .ref ai, .ref ad, .ref ac, .ref aw, .int (nI mn), .ref at_, .int (nI le), .int (nI 0), .int (nI sp), .ref ao, .int (nI tm)])), (an, .inl (G.2.1, 525, .inl (gn nw))), (ac, .inl (G.2.1, 256, .inl (gn pC))), (aw, .inl (G.2.1, 256, .inl (gn pW)))] := hD
  refine lv_iload_n hx hb dX4_largestPlotOf_5 rfl (lv_at hl 1 rfl) ?_
  refine W.eq (g2 := F0 m 6 ls [.int (zI ((o : Nat) : Int))]) (by simp only [zI_nat, zI_neg1]) ?_
  refine gCi F (gRunS (own := RX4) (bytes := cX4_isOwner) (n := 1) (As := [.int (zI ((o : Nat) : Int))]) (rest := []) F (c_X4_isOwner l G ((o : Nat) : Int) (by first | assumption | omega) H.size) gX4_largestPlotOf_X4_isOwner rfl rfl rfl rfl (by decide +kernel) rfl ⟨Nat.le_of_ble_eq_true rfl, Nat.le_of_ble_eq_true rfl⟩ hP hD (lit := [(mq, .inr (4, [.ref an, .ref ap, .int (nI st), .ref ak, .ref ai, .ref ad, .ref ac, .ref aw, .int (nI mn), .ref at_, .int (nI le), .int (nI 0), .int (nI sp), .ref ao, .int (nI tm)])), (an, .inl (G.2.1, 525, .inl (gn nw))), (ac, .inl (G.2.1, 256, .inl (gn pC))), (aw, .inl (G.2.1, 256, .inl (gn pW)))]) (wt := []) (wc := []) (isC := []) rfl (by decide) rfl hl.1 (Nat.le_of_ble_eq_true rfl) dX4_largestPlotOf_6 ⟨Nat.le_of_ble_eq_true rfl, Nat.le_of_ble_eq_true rfl⟩) hP hD hS (lit := [(mq, .inr (4, [.ref an, .ref ap, .int (nI st), .ref ak, .ref ai, .ref ad, .ref ac, .ref aw, .int (nI mn), .ref at_, .int (nI le), .int (nI 0), .int (nI sp), .ref ao, .int (nI tm)])), (an, .inl (G.2.1, 525, .inl (gn nw))), (ac, .inl (G.2.1, 256, .inl (gn pC))), (aw, .inl (G.2.1, 256, .inl (gn pW)))]) (wt := []) (wc := []) (wr := [(mq, .inr (4, [.ref an, .ref ap, .int (nI st), .ref ak, .ref ai, .ref ad, .ref ac, .ref aw, .int (nI mn), .ref at_, .int (nI le), .int (nI 0), .int (nI sp), .ref ao, .int (nI tm)])), (an, .inl (G.2.1, 525, .inl (gn nw))), (ac, .inl (G.2.1, 256, .inl (gn pC))), (aw, .inl (G.2.1, 256, .inl (gn pW)))]) (isC := []) (isR := [0, 1, 2, 3]) rfl rfl (by decide) (by decide) (fun r6 u H locs hp6 hP hD hS => ?_)
  subst hp6
  have hP : va_P G.1 vwCl [(mq, .inr (4, [.ref an, .ref ap, .int (nI st), .ref ak, .ref ai, .ref ad, .ref ac, .ref aw, .int (nI mn), .ref at_, .int (nI le), .int (nI 0), .int (nI sp), .ref ao, .int (nI tm)])), (an, .inl (G.2.1, 525, .inl (gn nw))), (ac, .inl (G.2.1, 256, .inl (gn pC))), (aw, .inl (G.2.1, 256, .inl (gn pW)))] H := hP
  have hD : va_D A [(mq, .inr (4, [.ref an, .ref ap, .int (nI st), .ref ak, .ref ai, .ref ad, .ref ac, .ref aw, .int (nI mn), .ref at_, .int (nI le), .int (nI 0), .int (nI sp), .ref ao, .int (nI tm)])), (an, .inl (G.2.1, 525, .inl (gn nw))), (ac, .inl (G.2.1, 256, .inl (gn pC))), (aw, .inl (G.2.1, 256, .inl (gn pW)))] := hD
  refine gIfB_eq (P := (0 ≤ ((o : Nat) : Int) ∧ ((o : Nat) : Int) < 8)) (tgt := 20) hx hb dX4_largestPlotOf_9 (by decide) (fun c9 => ?_) (fun c9 => ?_)
  · skip
    refine lv_aload_n hx hb dX4_largestPlotOf_20 rfl (lv_at hl 0 rfl) ?_
    refine lv_iconst (v := nI 1) hx hb dX4_largestPlotOf_21 (by decide) ?_
    exfalso; omega
  refine lv_aload_n hx hb dX4_largestPlotOf_12 rfl (lv_at hl 0 rfl) ?_
  refine lv_iload_n hx hb dX4_largestPlotOf_13 rfl (lv_at hl 1 rfl) ?_
  refine gCi F (gRunV (own := RX4) (C := RX4) (ci := 4) (bytes := cX4_greatestOf) (n := 1) (As := [.int (nI o)]) (rest := []) F (c_X4_greatestOf l G mq an ap st ak ai ad ac aw mn at_ le 0 sp ao tm nw pC pW o (by first | assumption | omega) (by first | assumption | omega) H.size) gX4_largestPlotOf_X4_greatestOf rfl rfl rfl rfl (by decide +kernel) rfl ⟨Nat.le_of_ble_eq_true rfl, Nat.le_of_ble_eq_true rfl⟩ hP hD (lit := [(mq, .inr (4, [.ref an, .ref ap, .int (nI st), .ref ak, .ref ai, .ref ad, .ref ac, .ref aw, .int (nI mn), .ref at_, .int (nI le), .int (nI 0), .int (nI sp), .ref ao, .int (nI tm)])), (an, .inl (G.2.1, 525, .inl (gn nw))), (ac, .inl (G.2.1, 256, .inl (gn pC))), (aw, .inl (G.2.1, 256, .inl (gn pW)))]) (wt := []) (wc := [(mq, .inr (4, [.ref an, .ref ap, .int (nI st), .ref ak, .ref ai, .ref ad, .ref ac, .ref aw, .int (nI mn), .ref at_, .int (nI le), .int (nI 0), .int (nI sp), .ref ao, .int (nI tm)])), (an, .inl (G.2.1, 525, .inl (gn nw))), (ac, .inl (G.2.1, 256, .inl (gn pC))), (aw, .inl (G.2.1, 256, .inl (gn pW)))]) (isC := [0, 1, 2, 3]) rfl (by decide) rfl rfl rfl hl.1 (Nat.le_of_ble_eq_true rfl) dX4_largestPlotOf_14 ⟨Nat.le_of_ble_eq_true rfl, Nat.le_of_ble_eq_true rfl⟩) hP hD hS (lit := [(mq, .inr (4, [.ref an, .ref ap, .int (nI st), .ref ak, .ref ai, .ref ad, .ref ac, .ref aw, .int (nI mn), .ref at_, .int (nI le), .int (nI 0), .int (nI sp), .ref ao, .int (nI tm)])), (an, .inl (G.2.1, 525, .inl (gn nw))), (ac, .inl (G.2.1, 256, .inl (gn pC))), (aw, .inl (G.2.1, 256, .inl (gn pW)))]) (wt := []) (wc := [(mq, .inr (4, [.ref an, .ref ap, .int (nI st), .ref ak, .ref ai, .ref ad, .ref ac, .ref aw, .int (nI mn), .ref at_, .int (nI le), .int (nI 0), .int (nI sp), .ref ao, .int (nI tm)])), (an, .inl (G.2.1, 525, .inl (gn nw))), (ac, .inl (G.2.1, 256, .inl (gn pC))), (aw, .inl (G.2.1, 256, .inl (gn pW)))]) (wr := []) (isC := [0, 1, 2, 3]) (isR := []) rfl rfl (by decide) (by decide) (fun r14 u H locs hp14 hP hD hS => ?_)
  obtain ⟨pc1, pw1⟩ := u
  try dsimp only at hp14
  obtain ⟨rfl, hp14_0⟩ := hp14
  have hP : va_P G.1 vwCl [(mq, .inr (4, [.ref an, .ref ap, .int (nI st), .ref ak, .ref ai, .ref ad, .ref ac, .ref aw, .int (nI (cnt nw)), .ref at_, .int (nI le), .int (nI 0), .int (nI sp), .ref ao, .int (nI tm)])), (an, .inl (G.2.1, 525, .inl (gn nw))), (ac, .inl (G.2.1, 256, .inl (gn pc1))), (aw, .inl (G.2.1, 256, .inl (gn pw1)))] H := hP
  have hD : va_D A [(mq, .inr (4, [.ref an, .ref ap, .int (nI st), .ref ak, .ref ai, .ref ad, .ref ac, .ref aw, .int (nI (cnt nw)), .ref at_, .int (nI le), .int (nI 0), .int (nI sp), .ref ao, .int (nI tm)])), (an, .inl (G.2.1, 525, .inl (gn nw))), (ac, .inl (G.2.1, 256, .inl (gn pc1))), (aw, .inl (G.2.1, 256, .inl (gn pw1)))] := hD
  refine lv_goto (tgt := 25) hx hb dX4_largestPlotOf_17 (by decide) ?_
  exact gRi F dX4_largestPlotOf_25 (rfl) (pc1, pw1) (rfl) hP hD hS (Nat.le_refl _) (Nat.le_refl _)

set_option maxHeartbeats 4000000 in
set_option maxRecDepth 100000 in
theorem f1_X4_largestPlotOf (l : Launch) (G : gG) (mq : Nat) (an : Nat) (ap : Nat) (st : Nat) (ak : Nat) (ai : Nat) (ad : Nat) (ac : Nat) (aw : Nat) (mn : Nat) (at_ : Nat) (le : Nat) (th : Nat) (sp : Nat) (ao : Nat) (tm : Nat) (o : Int) (ho : -2147483648 ≤ o ∧ o < 2147483648) (hcond0 : ¬(0 ≤ o ∧ o < 8)) : gMi (S := Unit) l yX4_largestPlotOf wsX4_largestPlotOf { frames := 2, cells := 0, slots := 0, locals := 42 } G [.ref mq, .int (zI o)] [(mq, .inr (4, [.ref an, .ref ap, .int (nI st), .ref ak, .ref ai, .ref ad, .ref ac, .ref aw, .int (nI mn), .ref at_, .int (nI le), .int (nI th), .int (nI sp), .ref ao, .int (nI tm)]))] (fun (r : Int32) (u : Unit) => (r = nI 0)) (fun u => [(mq, .inr (4, [.ref an, .ref ap, .int (nI st), .ref ak, .ref ai, .ref ad, .ref ac, .ref aw, .int (nI mn), .ref at_, .int (nI le), .int (nI 1), .int (nI sp), .ref ao, .int (nI tm)]))]) 0 0 := by
  refine gMet_mk (cc := cX4_largestPlotOf) (nL := 2) (ret := (some .int)) (Qc := fun A => va_Qi (S := Unit) (fun (r : Int32) (u : Unit) => (r = nI 0)) (gB G A (fun (u : Unit) => [(mq, .inr (4, [.ref an, .ref ap, .int (nI st), .ref ak, .ref ai, .ref ad, .ref ac, .ref aw, .int (nI mn), .ref at_, .int (nI le), .int (nI 1), .int (nI sp), .ref ao, .int (nI tm)]))])) A) (by decide) rfl (Nat.le_of_ble_eq_true rfl) ?_
  intro p e s m args below meth c A F ls hl hP hD hS
  have hx := F.1
  have hb := F.2.1
  have hts := F.2.2.2.2.2.2.1
  have hown : s.vm.findClass RX4 = some m.cls := F.2.2.2.2.2.1
  have hKK := F.2.2.2.2.2.2.2.2.1
  have hK := hKK.1
  have hin0 := F.2.2.2.2.2.2.2.1
  have hi4 : ∀ w ∈ u_ws RX4 TX4 15, w ∈ wsX4_largestPlotOf := by decide +kernel
  have hl : lv_has ls 2 [(0, .ref mq), (1, .int (zI o))] := hl
  generalize hH : s.heap = H at hP ⊢
  have hS : va_S A s.heap H [] := by rw [← hH]; exact va_S.rf
  generalize hLo : ([] : List Loc) = locs at hS ⊢
  refine lv_aload_n hx hb dX4_largestPlotOf_0 rfl (lv_at hl 0 rfl) ?_
  refine lv_iconst (v := nI 0) hx hb dX4_largestPlotOf_1 (by decide) ?_
  refine va_put (D := G.1) (ci := 4) (v := .int (nI 0)) (ty := .int) (C := RX4) (T := TX4) (N := 15) hx hb hts hi4 tyX4 tyX4_ok nmX4 hown hK hP hD hS 0 rfl rfl 11 (by decide) (hts (.fieldLink RX4 37 "LandQuartersModel" "thrown" "I") (by decide +kernel)) (fun _ h9 => h9) rfl (by decide +kernel) (rfl) (rfl) (Nat.le_of_ble_eq_true rfl) dX4_largestPlotOf_2 (fun H locs hP hD hS => ?_)
  have hP : va_P G.1 vwCl [(mq, .inr (4, [.ref an, .ref ap, .int (nI st), .ref ak, .ref ai, .ref ad, .ref ac, .ref aw, .int (nI mn), .ref at_, .int (nI le), .int (nI 0), .int (nI sp), .ref ao, .int (nI tm)]))] H := hP
  have hD : va_D A [(mq, .inr (4, [.ref an, .ref ap, .int (nI st), .ref ak, .ref ai, .ref ad, .ref ac, .ref aw, .int (nI mn), .ref at_, .int (nI le), .int (nI 0), .int (nI sp), .ref ao, .int (nI tm)]))] := hD
  refine lv_iload_n hx hb dX4_largestPlotOf_5 rfl (lv_at hl 1 rfl) ?_
  refine gCi F (gRunS (own := RX4) (bytes := cX4_isOwner) (n := 1) (As := [.int (zI o)]) (rest := []) F (c_X4_isOwner l G o (by first | assumption | omega) H.size) gX4_largestPlotOf_X4_isOwner rfl rfl rfl rfl (by decide +kernel) rfl ⟨Nat.le_of_ble_eq_true rfl, Nat.le_of_ble_eq_true rfl⟩ hP hD (lit := [(mq, .inr (4, [.ref an, .ref ap, .int (nI st), .ref ak, .ref ai, .ref ad, .ref ac, .ref aw, .int (nI mn), .ref at_, .int (nI le), .int (nI 0), .int (nI sp), .ref ao, .int (nI tm)]))]) (wt := []) (wc := []) (isC := []) rfl (by decide) rfl hl.1 (Nat.le_of_ble_eq_true rfl) dX4_largestPlotOf_6 ⟨Nat.le_of_ble_eq_true rfl, Nat.le_of_ble_eq_true rfl⟩) hP hD hS (lit := [(mq, .inr (4, [.ref an, .ref ap, .int (nI st), .ref ak, .ref ai, .ref ad, .ref ac, .ref aw, .int (nI mn), .ref at_, .int (nI le), .int (nI 0), .int (nI sp), .ref ao, .int (nI tm)]))]) (wt := []) (wc := []) (wr := [(mq, .inr (4, [.ref an, .ref ap, .int (nI st), .ref ak, .ref ai, .ref ad, .ref ac, .ref aw, .int (nI mn), .ref at_, .int (nI le), .int (nI 0), .int (nI sp), .ref ao, .int (nI tm)]))]) (isC := []) (isR := [0]) rfl rfl (by decide) (by decide) (fun r6 u H locs hp6 hP hD hS => ?_)
  subst hp6
  have hP : va_P G.1 vwCl [(mq, .inr (4, [.ref an, .ref ap, .int (nI st), .ref ak, .ref ai, .ref ad, .ref ac, .ref aw, .int (nI mn), .ref at_, .int (nI le), .int (nI 0), .int (nI sp), .ref ao, .int (nI tm)]))] H := hP
  have hD : va_D A [(mq, .inr (4, [.ref an, .ref ap, .int (nI st), .ref ak, .ref ai, .ref ad, .ref ac, .ref aw, .int (nI mn), .ref at_, .int (nI le), .int (nI 0), .int (nI sp), .ref ao, .int (nI tm)]))] := hD
  refine gIfB_eq (P := (0 ≤ o ∧ o < 8)) (tgt := 20) hx hb dX4_largestPlotOf_9 (by decide) (fun c9 => ?_) (fun c9 => ?_)
  · skip
    refine lv_aload_n hx hb dX4_largestPlotOf_20 rfl (lv_at hl 0 rfl) ?_
    refine lv_iconst (v := nI 1) hx hb dX4_largestPlotOf_21 (by decide) ?_
    refine gCi F (gRunV (own := RX4) (C := RX4) (ci := 4) (bytes := cX4_refuses) (n := 1) (As := [.int (nI 1)]) (rest := []) F (c_X4_refuses l G mq an ap st ak ai ad ac aw mn at_ le 0 sp ao tm 1  H.size) gX4_largestPlotOf_X4_refuses rfl rfl rfl rfl (by decide +kernel) rfl ⟨Nat.le_of_ble_eq_true rfl, Nat.le_of_ble_eq_true rfl⟩ hP hD (lit := [(mq, .inr (4, [.ref an, .ref ap, .int (nI st), .ref ak, .ref ai, .ref ad, .ref ac, .ref aw, .int (nI mn), .ref at_, .int (nI le), .int (nI 0), .int (nI sp), .ref ao, .int (nI tm)]))]) (wt := []) (wc := [(mq, .inr (4, [.ref an, .ref ap, .int (nI st), .ref ak, .ref ai, .ref ad, .ref ac, .ref aw, .int (nI mn), .ref at_, .int (nI le), .int (nI 0), .int (nI sp), .ref ao, .int (nI tm)]))]) (isC := [0]) rfl (by decide) rfl rfl rfl hl.1 (Nat.le_of_ble_eq_true rfl) dX4_largestPlotOf_22 ⟨Nat.le_of_ble_eq_true rfl, Nat.le_of_ble_eq_true rfl⟩) hP hD hS (lit := [(mq, .inr (4, [.ref an, .ref ap, .int (nI st), .ref ak, .ref ai, .ref ad, .ref ac, .ref aw, .int (nI mn), .ref at_, .int (nI le), .int (nI 0), .int (nI sp), .ref ao, .int (nI tm)]))]) (wt := []) (wc := [(mq, .inr (4, [.ref an, .ref ap, .int (nI st), .ref ak, .ref ai, .ref ad, .ref ac, .ref aw, .int (nI mn), .ref at_, .int (nI le), .int (nI 0), .int (nI sp), .ref ao, .int (nI tm)]))]) (wr := []) (isC := [0]) (isR := []) rfl rfl (by decide) (by decide) (fun r22 u H locs hp22 hP hD hS => ?_)
    subst hp22
    have hP : va_P G.1 vwCl [(mq, .inr (4, [.ref an, .ref ap, .int (nI st), .ref ak, .ref ai, .ref ad, .ref ac, .ref aw, .int (nI mn), .ref at_, .int (nI le), .int (nI 1), .int (nI sp), .ref ao, .int (nI tm)]))] H := hP
    have hD : va_D A [(mq, .inr (4, [.ref an, .ref ap, .int (nI st), .ref ak, .ref ai, .ref ad, .ref ac, .ref aw, .int (nI mn), .ref at_, .int (nI le), .int (nI 1), .int (nI sp), .ref ao, .int (nI tm)]))] := hD
    exact gRi F dX4_largestPlotOf_25 (rfl) () (rfl) hP hD hS (Nat.le_refl _) (Nat.le_refl _)
  exfalso; omega

set_option maxHeartbeats 4000000 in
set_option maxRecDepth 100000 in
theorem c_X4_firstToLose (l : Launch) (G : gG) (mq : Nat) (an : Nat) (ap : Nat) (st : Nat) (ak : Nat) (ai : Nat) (ad : Nat) (ac : Nat) (aw : Nat) (mn : Nat) (at_ : Nat) (le : Nat) (th : Nat) (sp : Nat) (ao : Nat) (tm : Nat) (nw : Nat → Nat) (pC : Nat → Nat) (pW : Nat → Nat) (o : Nat) (how : ∀ k, k < 256 → nw k < 8) (ho : o < 8) (ho1 : 1 ≤ o) : gMi (S := (Nat → Nat) × (Nat → Nat)) l yX4_firstToLose wsX4_firstToLose { frames := 3, cells := 0, slots := 0, locals := 69 } G [.ref mq, .int (nI o)] [(mq, .inr (4, [.ref an, .ref ap, .int (nI st), .ref ak, .ref ai, .ref ad, .ref ac, .ref aw, .int (nI mn), .ref at_, .int (nI le), .int (nI th), .int (nI sp), .ref ao, .int (nI tm)])), (an, .inl (G.2.1, 525, .inl (gn nw))), (ac, .inl (G.2.1, 256, .inl (gn pC))), (aw, .inl (G.2.1, 256, .inl (gn pW)))] (fun (r : Int32) (u : (Nat → Nat) × (Nat → Nat)) => (r = zI ((fSm (svO nw) (svZ nw) o (cnt nw)).1))) (fun u => [(mq, .inr (4, [.ref an, .ref ap, .int (nI st), .ref ak, .ref ai, .ref ad, .ref ac, .ref aw, .int (nI (cnt nw)), .ref at_, .int (nI le), .int (nI 0), .int (nI sp), .ref ao, .int (nI tm)])), (an, .inl (G.2.1, 525, .inl (gn nw))), (ac, .inl (G.2.1, 256, .inl (gn u.1))), (aw, .inl (G.2.1, 256, .inl (gn u.2)))]) 0 0 := by
  refine gMet_mk (cc := cX4_firstToLose) (nL := 2) (ret := (some .int)) (Qc := fun A => va_Qi (S := (Nat → Nat) × (Nat → Nat)) (fun (r : Int32) (u : (Nat → Nat) × (Nat → Nat)) => (r = zI ((fSm (svO nw) (svZ nw) o (cnt nw)).1))) (gB G A (fun (u : (Nat → Nat) × (Nat → Nat)) => [(mq, .inr (4, [.ref an, .ref ap, .int (nI st), .ref ak, .ref ai, .ref ad, .ref ac, .ref aw, .int (nI (cnt nw)), .ref at_, .int (nI le), .int (nI 0), .int (nI sp), .ref ao, .int (nI tm)])), (an, .inl (G.2.1, 525, .inl (gn nw))), (ac, .inl (G.2.1, 256, .inl (gn u.1))), (aw, .inl (G.2.1, 256, .inl (gn u.2)))])) A) (by decide) rfl (Nat.le_of_ble_eq_true rfl) ?_
  intro p e s m args below meth c A F ls hl hP hD hS
  have hx := F.1
  have hb := F.2.1
  have hts := F.2.2.2.2.2.2.1
  have hown : s.vm.findClass RX4 = some m.cls := F.2.2.2.2.2.1
  have hKK := F.2.2.2.2.2.2.2.2.1
  have hK := hKK.1
  have hin0 := F.2.2.2.2.2.2.2.1
  have hi4 : ∀ w ∈ u_ws RX4 TX4 15, w ∈ wsX4_firstToLose := by decide +kernel
  have hl : lv_has ls 2 [(0, .ref mq), (1, .int (nI o))] := hl
  generalize hH : s.heap = H at hP ⊢
  have hS : va_S A s.heap H [] := by rw [← hH]; exact va_S.rf
  generalize hLo : ([] : List Loc) = locs at hS ⊢
  refine lv_aload_n hx hb dX4_firstToLose_0 rfl (lv_at hl 0 rfl) ?_
  refine lv_iconst (v := nI 0) hx hb dX4_firstToLose_1 (by decide) ?_
  refine va_put (D := G.1) (ci := 4) (v := .int (nI 0)) (ty := .int) (C := RX4) (T := TX4) (N := 15) hx hb hts hi4 tyX4 tyX4_ok nmX4 hown hK hP hD hS 0 rfl rfl 11 (by decide) (hts (.fieldLink RX4 37 "LandQuartersModel" "thrown" "I") (by decide +kernel)) (fun _ h9 => h9) rfl (by decide +kernel) (rfl) (rfl) (Nat.le_of_ble_eq_true rfl) dX4_firstToLose_2 (fun H locs hP hD hS => ?_)
  have hP : va_P G.1 vwCl [(mq, .inr (4, [.ref an, .ref ap, .int (nI st), .ref ak, .ref ai, .ref ad, .ref ac, .ref aw, .int (nI mn), .ref at_, .int (nI le), .int (nI 0), .int (nI sp), .ref ao, .int (nI tm)])), (an, .inl (G.2.1, 525, .inl (gn nw))), (ac, .inl (G.2.1, 256, .inl (gn pC))), (aw, .inl (G.2.1, 256, .inl (gn pW)))] H := hP
  have hD : va_D A [(mq, .inr (4, [.ref an, .ref ap, .int (nI st), .ref ak, .ref ai, .ref ad, .ref ac, .ref aw, .int (nI mn), .ref at_, .int (nI le), .int (nI 0), .int (nI sp), .ref ao, .int (nI tm)])), (an, .inl (G.2.1, 525, .inl (gn nw))), (ac, .inl (G.2.1, 256, .inl (gn pC))), (aw, .inl (G.2.1, 256, .inl (gn pW)))] := hD
  refine lv_iload_n hx hb dX4_firstToLose_5 rfl (lv_at hl 1 rfl) ?_
  refine W.eq (g2 := F0 m 6 ls [.int (zI ((o : Nat) : Int))]) (by simp only [zI_nat, zI_neg1]) ?_
  refine gCi F (gRunS (own := RX4) (bytes := cX4_isPerson) (n := 1) (As := [.int (zI ((o : Nat) : Int))]) (rest := []) F (c_X4_isPerson l G ((o : Nat) : Int) (by first | assumption | omega) H.size) gX4_firstToLose_X4_isPerson rfl rfl rfl rfl (by decide +kernel) rfl ⟨Nat.le_of_ble_eq_true rfl, Nat.le_of_ble_eq_true rfl⟩ hP hD (lit := [(mq, .inr (4, [.ref an, .ref ap, .int (nI st), .ref ak, .ref ai, .ref ad, .ref ac, .ref aw, .int (nI mn), .ref at_, .int (nI le), .int (nI 0), .int (nI sp), .ref ao, .int (nI tm)])), (an, .inl (G.2.1, 525, .inl (gn nw))), (ac, .inl (G.2.1, 256, .inl (gn pC))), (aw, .inl (G.2.1, 256, .inl (gn pW)))]) (wt := []) (wc := []) (isC := []) rfl (by decide) rfl hl.1 (Nat.le_of_ble_eq_true rfl) dX4_firstToLose_6 ⟨Nat.le_of_ble_eq_true rfl, Nat.le_of_ble_eq_true rfl⟩) hP hD hS (lit := [(mq, .inr (4, [.ref an, .ref ap, .int (nI st), .ref ak, .ref ai, .ref ad, .ref ac, .ref aw, .int (nI mn), .ref at_, .int (nI le), .int (nI 0), .int (nI sp), .ref ao, .int (nI tm)])), (an, .inl (G.2.1, 525, .inl (gn nw))), (ac, .inl (G.2.1, 256, .inl (gn pC))), (aw, .inl (G.2.1, 256, .inl (gn pW)))]) (wt := []) (wc := []) (wr := [(mq, .inr (4, [.ref an, .ref ap, .int (nI st), .ref ak, .ref ai, .ref ad, .ref ac, .ref aw, .int (nI mn), .ref at_, .int (nI le), .int (nI 0), .int (nI sp), .ref ao, .int (nI tm)])), (an, .inl (G.2.1, 525, .inl (gn nw))), (ac, .inl (G.2.1, 256, .inl (gn pC))), (aw, .inl (G.2.1, 256, .inl (gn pW)))]) (isC := []) (isR := [0, 1, 2, 3]) rfl rfl (by decide) (by decide) (fun r6 u H locs hp6 hP hD hS => ?_)
  subst hp6
  have hP : va_P G.1 vwCl [(mq, .inr (4, [.ref an, .ref ap, .int (nI st), .ref ak, .ref ai, .ref ad, .ref ac, .ref aw, .int (nI mn), .ref at_, .int (nI le), .int (nI 0), .int (nI sp), .ref ao, .int (nI tm)])), (an, .inl (G.2.1, 525, .inl (gn nw))), (ac, .inl (G.2.1, 256, .inl (gn pC))), (aw, .inl (G.2.1, 256, .inl (gn pW)))] H := hP
  have hD : va_D A [(mq, .inr (4, [.ref an, .ref ap, .int (nI st), .ref ak, .ref ai, .ref ad, .ref ac, .ref aw, .int (nI mn), .ref at_, .int (nI le), .int (nI 0), .int (nI sp), .ref ao, .int (nI tm)])), (an, .inl (G.2.1, 525, .inl (gn nw))), (ac, .inl (G.2.1, 256, .inl (gn pC))), (aw, .inl (G.2.1, 256, .inl (gn pW)))] := hD
  refine gIfB_eq (P := (1 ≤ ((o : Nat) : Int) ∧ ((o : Nat) : Int) < 8)) (tgt := 20) hx hb dX4_firstToLose_9 (by decide) (fun c9 => ?_) (fun c9 => ?_)
  · skip
    refine lv_aload_n hx hb dX4_firstToLose_20 rfl (lv_at hl 0 rfl) ?_
    refine lv_iconst (v := nI 1) hx hb dX4_firstToLose_21 (by decide) ?_
    exfalso; omega
  refine lv_aload_n hx hb dX4_firstToLose_12 rfl (lv_at hl 0 rfl) ?_
  refine lv_iload_n hx hb dX4_firstToLose_13 rfl (lv_at hl 1 rfl) ?_
  refine gCi F (gRunV (own := RX4) (C := RX4) (ci := 4) (bytes := cX4_leastOf) (n := 1) (As := [.int (nI o)]) (rest := []) F (c_X4_leastOf l G mq an ap st ak ai ad ac aw mn at_ le 0 sp ao tm nw pC pW o (by first | assumption | omega) (by first | assumption | omega) H.size) gX4_firstToLose_X4_leastOf rfl rfl rfl rfl (by decide +kernel) rfl ⟨Nat.le_of_ble_eq_true rfl, Nat.le_of_ble_eq_true rfl⟩ hP hD (lit := [(mq, .inr (4, [.ref an, .ref ap, .int (nI st), .ref ak, .ref ai, .ref ad, .ref ac, .ref aw, .int (nI mn), .ref at_, .int (nI le), .int (nI 0), .int (nI sp), .ref ao, .int (nI tm)])), (an, .inl (G.2.1, 525, .inl (gn nw))), (ac, .inl (G.2.1, 256, .inl (gn pC))), (aw, .inl (G.2.1, 256, .inl (gn pW)))]) (wt := []) (wc := [(mq, .inr (4, [.ref an, .ref ap, .int (nI st), .ref ak, .ref ai, .ref ad, .ref ac, .ref aw, .int (nI mn), .ref at_, .int (nI le), .int (nI 0), .int (nI sp), .ref ao, .int (nI tm)])), (an, .inl (G.2.1, 525, .inl (gn nw))), (ac, .inl (G.2.1, 256, .inl (gn pC))), (aw, .inl (G.2.1, 256, .inl (gn pW)))]) (isC := [0, 1, 2, 3]) rfl (by decide) rfl rfl rfl hl.1 (Nat.le_of_ble_eq_true rfl) dX4_firstToLose_14 ⟨Nat.le_of_ble_eq_true rfl, Nat.le_of_ble_eq_true rfl⟩) hP hD hS (lit := [(mq, .inr (4, [.ref an, .ref ap, .int (nI st), .ref ak, .ref ai, .ref ad, .ref ac, .ref aw, .int (nI mn), .ref at_, .int (nI le), .int (nI 0), .int (nI sp), .ref ao, .int (nI tm)])), (an, .inl (G.2.1, 525, .inl (gn nw))), (ac, .inl (G.2.1, 256, .inl (gn pC))), (aw, .inl (G.2.1, 256, .inl (gn pW)))]) (wt := []) (wc := [(mq, .inr (4, [.ref an, .ref ap, .int (nI st), .ref ak, .ref ai, .ref ad, .ref ac, .ref aw, .int (nI mn), .ref at_, .int (nI le), .int (nI 0), .int (nI sp), .ref ao, .int (nI tm)])), (an, .inl (G.2.1, 525, .inl (gn nw))), (ac, .inl (G.2.1, 256, .inl (gn pC))), (aw, .inl (G.2.1, 256, .inl (gn pW)))]) (wr := []) (isC := [0, 1, 2, 3]) (isR := []) rfl rfl (by decide) (by decide) (fun r14 u H locs hp14 hP hD hS => ?_)
  obtain ⟨pc1, pw1⟩ := u
  try dsimp only at hp14
  obtain ⟨rfl, hp14_0⟩ := hp14
  have hP : va_P G.1 vwCl [(mq, .inr (4, [.ref an, .ref ap, .int (nI st), .ref ak, .ref ai, .ref ad, .ref ac, .ref aw, .int (nI (cnt nw)), .ref at_, .int (nI le), .int (nI 0), .int (nI sp), .ref ao, .int (nI tm)])), (an, .inl (G.2.1, 525, .inl (gn nw))), (ac, .inl (G.2.1, 256, .inl (gn pc1))), (aw, .inl (G.2.1, 256, .inl (gn pw1)))] H := hP
  have hD : va_D A [(mq, .inr (4, [.ref an, .ref ap, .int (nI st), .ref ak, .ref ai, .ref ad, .ref ac, .ref aw, .int (nI (cnt nw)), .ref at_, .int (nI le), .int (nI 0), .int (nI sp), .ref ao, .int (nI tm)])), (an, .inl (G.2.1, 525, .inl (gn nw))), (ac, .inl (G.2.1, 256, .inl (gn pc1))), (aw, .inl (G.2.1, 256, .inl (gn pw1)))] := hD
  refine lv_goto (tgt := 25) hx hb dX4_firstToLose_17 (by decide) ?_
  exact gRi F dX4_firstToLose_25 (rfl) (pc1, pw1) (rfl) hP hD hS (Nat.le_refl _) (Nat.le_refl _)

set_option maxHeartbeats 4000000 in
set_option maxRecDepth 100000 in
theorem f1_X4_firstToLose (l : Launch) (G : gG) (mq : Nat) (an : Nat) (ap : Nat) (st : Nat) (ak : Nat) (ai : Nat) (ad : Nat) (ac : Nat) (aw : Nat) (mn : Nat) (at_ : Nat) (le : Nat) (th : Nat) (sp : Nat) (ao : Nat) (tm : Nat) (o : Int) (ho : -2147483648 ≤ o ∧ o < 2147483648) (hcond0 : ¬(1 ≤ o ∧ o < 8)) : gMi (S := Unit) l yX4_firstToLose wsX4_firstToLose { frames := 2, cells := 0, slots := 0, locals := 42 } G [.ref mq, .int (zI o)] [(mq, .inr (4, [.ref an, .ref ap, .int (nI st), .ref ak, .ref ai, .ref ad, .ref ac, .ref aw, .int (nI mn), .ref at_, .int (nI le), .int (nI th), .int (nI sp), .ref ao, .int (nI tm)]))] (fun (r : Int32) (u : Unit) => (r = nI 0)) (fun u => [(mq, .inr (4, [.ref an, .ref ap, .int (nI st), .ref ak, .ref ai, .ref ad, .ref ac, .ref aw, .int (nI mn), .ref at_, .int (nI le), .int (nI 1), .int (nI sp), .ref ao, .int (nI tm)]))]) 0 0 := by
  refine gMet_mk (cc := cX4_firstToLose) (nL := 2) (ret := (some .int)) (Qc := fun A => va_Qi (S := Unit) (fun (r : Int32) (u : Unit) => (r = nI 0)) (gB G A (fun (u : Unit) => [(mq, .inr (4, [.ref an, .ref ap, .int (nI st), .ref ak, .ref ai, .ref ad, .ref ac, .ref aw, .int (nI mn), .ref at_, .int (nI le), .int (nI 1), .int (nI sp), .ref ao, .int (nI tm)]))])) A) (by decide) rfl (Nat.le_of_ble_eq_true rfl) ?_
  intro p e s m args below meth c A F ls hl hP hD hS
  have hx := F.1
  have hb := F.2.1
  have hts := F.2.2.2.2.2.2.1
  have hown : s.vm.findClass RX4 = some m.cls := F.2.2.2.2.2.1
  have hKK := F.2.2.2.2.2.2.2.2.1
  have hK := hKK.1
  have hin0 := F.2.2.2.2.2.2.2.1
  have hi4 : ∀ w ∈ u_ws RX4 TX4 15, w ∈ wsX4_firstToLose := by decide +kernel
  have hl : lv_has ls 2 [(0, .ref mq), (1, .int (zI o))] := hl
  generalize hH : s.heap = H at hP ⊢
  have hS : va_S A s.heap H [] := by rw [← hH]; exact va_S.rf
  generalize hLo : ([] : List Loc) = locs at hS ⊢
  refine lv_aload_n hx hb dX4_firstToLose_0 rfl (lv_at hl 0 rfl) ?_
  refine lv_iconst (v := nI 0) hx hb dX4_firstToLose_1 (by decide) ?_
  refine va_put (D := G.1) (ci := 4) (v := .int (nI 0)) (ty := .int) (C := RX4) (T := TX4) (N := 15) hx hb hts hi4 tyX4 tyX4_ok nmX4 hown hK hP hD hS 0 rfl rfl 11 (by decide) (hts (.fieldLink RX4 37 "LandQuartersModel" "thrown" "I") (by decide +kernel)) (fun _ h9 => h9) rfl (by decide +kernel) (rfl) (rfl) (Nat.le_of_ble_eq_true rfl) dX4_firstToLose_2 (fun H locs hP hD hS => ?_)
  have hP : va_P G.1 vwCl [(mq, .inr (4, [.ref an, .ref ap, .int (nI st), .ref ak, .ref ai, .ref ad, .ref ac, .ref aw, .int (nI mn), .ref at_, .int (nI le), .int (nI 0), .int (nI sp), .ref ao, .int (nI tm)]))] H := hP
  have hD : va_D A [(mq, .inr (4, [.ref an, .ref ap, .int (nI st), .ref ak, .ref ai, .ref ad, .ref ac, .ref aw, .int (nI mn), .ref at_, .int (nI le), .int (nI 0), .int (nI sp), .ref ao, .int (nI tm)]))] := hD
  refine lv_iload_n hx hb dX4_firstToLose_5 rfl (lv_at hl 1 rfl) ?_
  refine gCi F (gRunS (own := RX4) (bytes := cX4_isPerson) (n := 1) (As := [.int (zI o)]) (rest := []) F (c_X4_isPerson l G o (by first | assumption | omega) H.size) gX4_firstToLose_X4_isPerson rfl rfl rfl rfl (by decide +kernel) rfl ⟨Nat.le_of_ble_eq_true rfl, Nat.le_of_ble_eq_true rfl⟩ hP hD (lit := [(mq, .inr (4, [.ref an, .ref ap, .int (nI st), .ref ak, .ref ai, .ref ad, .ref ac, .ref aw, .int (nI mn), .ref at_, .int (nI le), .int (nI 0), .int (nI sp), .ref ao, .int (nI tm)]))]) (wt := []) (wc := []) (isC := []) rfl (by decide) rfl hl.1 (Nat.le_of_ble_eq_true rfl) dX4_firstToLose_6 ⟨Nat.le_of_ble_eq_true rfl, Nat.le_of_ble_eq_true rfl⟩) hP hD hS (lit := [(mq, .inr (4, [.ref an, .ref ap, .int (nI st), .ref ak, .ref ai, .ref ad, .ref ac, .ref aw, .int (nI mn), .ref at_, .int (nI le), .int (nI 0), .int (nI sp), .ref ao, .int (nI tm)]))]) (wt := []) (wc := []) (wr := [(mq, .inr (4, [.ref an, .ref ap, .int (nI st), .ref ak, .ref ai, .ref ad, .ref ac, .ref aw, .int (nI mn), .ref at_, .int (nI le), .int (nI 0), .int (nI sp), .ref ao, .int (nI tm)]))]) (isC := []) (isR := [0]) rfl rfl (by decide) (by decide) (fun r6 u H locs hp6 hP hD hS => ?_)
  subst hp6
  have hP : va_P G.1 vwCl [(mq, .inr (4, [.ref an, .ref ap, .int (nI st), .ref ak, .ref ai, .ref ad, .ref ac, .ref aw, .int (nI mn), .ref at_, .int (nI le), .int (nI 0), .int (nI sp), .ref ao, .int (nI tm)]))] H := hP
  have hD : va_D A [(mq, .inr (4, [.ref an, .ref ap, .int (nI st), .ref ak, .ref ai, .ref ad, .ref ac, .ref aw, .int (nI mn), .ref at_, .int (nI le), .int (nI 0), .int (nI sp), .ref ao, .int (nI tm)]))] := hD
  refine gIfB_eq (P := (1 ≤ o ∧ o < 8)) (tgt := 20) hx hb dX4_firstToLose_9 (by decide) (fun c9 => ?_) (fun c9 => ?_)
  · skip
    refine lv_aload_n hx hb dX4_firstToLose_20 rfl (lv_at hl 0 rfl) ?_
    refine lv_iconst (v := nI 1) hx hb dX4_firstToLose_21 (by decide) ?_
    refine gCi F (gRunV (own := RX4) (C := RX4) (ci := 4) (bytes := cX4_refuses) (n := 1) (As := [.int (nI 1)]) (rest := []) F (c_X4_refuses l G mq an ap st ak ai ad ac aw mn at_ le 0 sp ao tm 1  H.size) gX4_firstToLose_X4_refuses rfl rfl rfl rfl (by decide +kernel) rfl ⟨Nat.le_of_ble_eq_true rfl, Nat.le_of_ble_eq_true rfl⟩ hP hD (lit := [(mq, .inr (4, [.ref an, .ref ap, .int (nI st), .ref ak, .ref ai, .ref ad, .ref ac, .ref aw, .int (nI mn), .ref at_, .int (nI le), .int (nI 0), .int (nI sp), .ref ao, .int (nI tm)]))]) (wt := []) (wc := [(mq, .inr (4, [.ref an, .ref ap, .int (nI st), .ref ak, .ref ai, .ref ad, .ref ac, .ref aw, .int (nI mn), .ref at_, .int (nI le), .int (nI 0), .int (nI sp), .ref ao, .int (nI tm)]))]) (isC := [0]) rfl (by decide) rfl rfl rfl hl.1 (Nat.le_of_ble_eq_true rfl) dX4_firstToLose_22 ⟨Nat.le_of_ble_eq_true rfl, Nat.le_of_ble_eq_true rfl⟩) hP hD hS (lit := [(mq, .inr (4, [.ref an, .ref ap, .int (nI st), .ref ak, .ref ai, .ref ad, .ref ac, .ref aw, .int (nI mn), .ref at_, .int (nI le), .int (nI 0), .int (nI sp), .ref ao, .int (nI tm)]))]) (wt := []) (wc := [(mq, .inr (4, [.ref an, .ref ap, .int (nI st), .ref ak, .ref ai, .ref ad, .ref ac, .ref aw, .int (nI mn), .ref at_, .int (nI le), .int (nI 0), .int (nI sp), .ref ao, .int (nI tm)]))]) (wr := []) (isC := [0]) (isR := []) rfl rfl (by decide) (by decide) (fun r22 u H locs hp22 hP hD hS => ?_)
    subst hp22
    have hP : va_P G.1 vwCl [(mq, .inr (4, [.ref an, .ref ap, .int (nI st), .ref ak, .ref ai, .ref ad, .ref ac, .ref aw, .int (nI mn), .ref at_, .int (nI le), .int (nI 1), .int (nI sp), .ref ao, .int (nI tm)]))] H := hP
    have hD : va_D A [(mq, .inr (4, [.ref an, .ref ap, .int (nI st), .ref ak, .ref ai, .ref ad, .ref ac, .ref aw, .int (nI mn), .ref at_, .int (nI le), .int (nI 1), .int (nI sp), .ref ao, .int (nI tm)]))] := hD
    exact gRi F dX4_firstToLose_25 (rfl) () (rfl) hP hD hS (Nat.le_refl _) (Nat.le_refl _)
  exfalso; omega

set_option maxHeartbeats 4000000 in
set_option maxRecDepth 100000 in
theorem c_X4_coinsOf (l : Launch) (G : gG) (mq : Nat) (an : Nat) (ap : Nat) (st : Nat) (ak : Nat) (ai : Nat) (ad : Nat) (ac : Nat) (aw : Nat) (mn : Nat) (at_ : Nat) (le : Nat) (th : Nat) (sp : Nat) (ao : Nat) (tm : Nat) (nw : Nat → Nat) (o : Nat) (how : ∀ k, k < 256 → nw k < 8) (ho : o < 8) : gMi (S := Unit) l yX4_coinsOf wsX4_coinsOf { frames := 2, cells := 0, slots := 0, locals := 42 } G [.ref mq, .int (nI o)] [(mq, .inr (4, [.ref an, .ref ap, .int (nI st), .ref ak, .ref ai, .ref ad, .ref ac, .ref aw, .int (nI mn), .ref at_, .int (nI le), .int (nI th), .int (nI sp), .ref ao, .int (nI tm)])), (an, .inl (G.2.1, 525, .inl (gn nw)))] (fun (r : Int32) (u : Unit) => (r = nI (nw (512 + o)))) (fun u => [(mq, .inr (4, [.ref an, .ref ap, .int (nI st), .ref ak, .ref ai, .ref ad, .ref ac, .ref aw, .int (nI mn), .ref at_, .int (nI le), .int (nI 0), .int (nI sp), .ref ao, .int (nI tm)])), (an, .inl (G.2.1, 525, .inl (gn nw)))]) 0 0 := by
  refine gMet_mk (cc := cX4_coinsOf) (nL := 2) (ret := (some .int)) (Qc := fun A => va_Qi (S := Unit) (fun (r : Int32) (u : Unit) => (r = nI (nw (512 + o)))) (gB G A (fun (u : Unit) => [(mq, .inr (4, [.ref an, .ref ap, .int (nI st), .ref ak, .ref ai, .ref ad, .ref ac, .ref aw, .int (nI mn), .ref at_, .int (nI le), .int (nI 0), .int (nI sp), .ref ao, .int (nI tm)])), (an, .inl (G.2.1, 525, .inl (gn nw)))])) A) (by decide) rfl (Nat.le_of_ble_eq_true rfl) ?_
  intro p e s m args below meth c A F ls hl hP hD hS
  have hx := F.1
  have hb := F.2.1
  have hts := F.2.2.2.2.2.2.1
  have hown : s.vm.findClass RX4 = some m.cls := F.2.2.2.2.2.1
  have hKK := F.2.2.2.2.2.2.2.2.1
  have hK := hKK.1
  have hin0 := F.2.2.2.2.2.2.2.1
  have hi4 : ∀ w ∈ u_ws RX4 TX4 15, w ∈ wsX4_coinsOf := by decide +kernel
  have hl : lv_has ls 2 [(0, .ref mq), (1, .int (nI o))] := hl
  generalize hH : s.heap = H at hP ⊢
  have hS : va_S A s.heap H [] := by rw [← hH]; exact va_S.rf
  generalize hLo : ([] : List Loc) = locs at hS ⊢
  refine lv_aload_n hx hb dX4_coinsOf_0 rfl (lv_at hl 0 rfl) ?_
  refine lv_iconst (v := nI 0) hx hb dX4_coinsOf_1 (by decide) ?_
  refine va_put (D := G.1) (ci := 4) (v := .int (nI 0)) (ty := .int) (C := RX4) (T := TX4) (N := 15) hx hb hts hi4 tyX4 tyX4_ok nmX4 hown hK hP hD hS 0 rfl rfl 11 (by decide) (hts (.fieldLink RX4 37 "LandQuartersModel" "thrown" "I") (by decide +kernel)) (fun _ h9 => h9) rfl (by decide +kernel) (rfl) (rfl) (Nat.le_of_ble_eq_true rfl) dX4_coinsOf_2 (fun H locs hP hD hS => ?_)
  have hP : va_P G.1 vwCl [(mq, .inr (4, [.ref an, .ref ap, .int (nI st), .ref ak, .ref ai, .ref ad, .ref ac, .ref aw, .int (nI mn), .ref at_, .int (nI le), .int (nI 0), .int (nI sp), .ref ao, .int (nI tm)])), (an, .inl (G.2.1, 525, .inl (gn nw)))] H := hP
  have hD : va_D A [(mq, .inr (4, [.ref an, .ref ap, .int (nI st), .ref ak, .ref ai, .ref ad, .ref ac, .ref aw, .int (nI mn), .ref at_, .int (nI le), .int (nI 0), .int (nI sp), .ref ao, .int (nI tm)])), (an, .inl (G.2.1, 525, .inl (gn nw)))] := hD
  refine lv_iload_n hx hb dX4_coinsOf_5 rfl (lv_at hl 1 rfl) ?_
  refine W.eq (g2 := F0 m 6 ls [.int (zI ((o : Nat) : Int))]) (by simp only [zI_nat, zI_neg1]) ?_
  refine gCi F (gRunS (own := RX4) (bytes := cX4_isOwner) (n := 1) (As := [.int (zI ((o : Nat) : Int))]) (rest := []) F (c_X4_isOwner l G ((o : Nat) : Int) (by first | assumption | omega) H.size) gX4_coinsOf_X4_isOwner rfl rfl rfl rfl (by decide +kernel) rfl ⟨Nat.le_of_ble_eq_true rfl, Nat.le_of_ble_eq_true rfl⟩ hP hD (lit := [(mq, .inr (4, [.ref an, .ref ap, .int (nI st), .ref ak, .ref ai, .ref ad, .ref ac, .ref aw, .int (nI mn), .ref at_, .int (nI le), .int (nI 0), .int (nI sp), .ref ao, .int (nI tm)])), (an, .inl (G.2.1, 525, .inl (gn nw)))]) (wt := []) (wc := []) (isC := []) rfl (by decide) rfl hl.1 (Nat.le_of_ble_eq_true rfl) dX4_coinsOf_6 ⟨Nat.le_of_ble_eq_true rfl, Nat.le_of_ble_eq_true rfl⟩) hP hD hS (lit := [(mq, .inr (4, [.ref an, .ref ap, .int (nI st), .ref ak, .ref ai, .ref ad, .ref ac, .ref aw, .int (nI mn), .ref at_, .int (nI le), .int (nI 0), .int (nI sp), .ref ao, .int (nI tm)])), (an, .inl (G.2.1, 525, .inl (gn nw)))]) (wt := []) (wc := []) (wr := [(mq, .inr (4, [.ref an, .ref ap, .int (nI st), .ref ak, .ref ai, .ref ad, .ref ac, .ref aw, .int (nI mn), .ref at_, .int (nI le), .int (nI 0), .int (nI sp), .ref ao, .int (nI tm)])), (an, .inl (G.2.1, 525, .inl (gn nw)))]) (isC := []) (isR := [0, 1]) rfl rfl (by decide) (by decide) (fun r6 u H locs hp6 hP hD hS => ?_)
  subst hp6
  have hP : va_P G.1 vwCl [(mq, .inr (4, [.ref an, .ref ap, .int (nI st), .ref ak, .ref ai, .ref ad, .ref ac, .ref aw, .int (nI mn), .ref at_, .int (nI le), .int (nI 0), .int (nI sp), .ref ao, .int (nI tm)])), (an, .inl (G.2.1, 525, .inl (gn nw)))] H := hP
  have hD : va_D A [(mq, .inr (4, [.ref an, .ref ap, .int (nI st), .ref ak, .ref ai, .ref ad, .ref ac, .ref aw, .int (nI mn), .ref at_, .int (nI le), .int (nI 0), .int (nI sp), .ref ao, .int (nI tm)])), (an, .inl (G.2.1, 525, .inl (gn nw)))] := hD
  refine gIfB_eq (P := (0 ≤ ((o : Nat) : Int) ∧ ((o : Nat) : Int) < 8)) (tgt := 25) hx hb dX4_coinsOf_9 (by decide) (fun c9 => ?_) (fun c9 => ?_)
  · skip
    refine lv_aload_n hx hb dX4_coinsOf_25 rfl (lv_at hl 0 rfl) ?_
    refine lv_iconst (v := nI 1) hx hb dX4_coinsOf_26 (by decide) ?_
    exfalso; omega
  refine lv_aload_n hx hb dX4_coinsOf_12 rfl (lv_at hl 0 rfl) ?_
  refine va_get (D := G.1) (ci := 4) (v := .ref an) (C := RX4) (T := TX4) (N := 15) hx hb hts hi4 hown hK hP 0 rfl rfl 0 (by decide) (hts (.fieldLink RX4 7 "LandQuartersModel" "now" "[I") (by decide +kernel)) (fun _ h9 => h9) rfl dX4_coinsOf_13 ?_
  refine lv_sipush (v := nI 512) hx hb dX4_coinsOf_16 (by decide) ?_
  refine lv_iload_n hx hb dX4_coinsOf_19 rfl (lv_at hl 1 rfl) ?_
  refine gIadd (a := 512) (b := o) hx hb dX4_coinsOf_20 ?_
  refine gNald (k := 512 + o) hx hb hK hP 1 0 rfl rfl (by omega) (by first | decide | omega) dX4_coinsOf_21 ?_
  refine lv_goto (tgt := 30) hx hb dX4_coinsOf_22 (by decide) ?_
  exact gRi F dX4_coinsOf_30 (rfl) () (rfl) hP hD hS (Nat.le_refl _) (Nat.le_refl _)

set_option maxHeartbeats 4000000 in
set_option maxRecDepth 100000 in
theorem f1_X4_coinsOf (l : Launch) (G : gG) (mq : Nat) (an : Nat) (ap : Nat) (st : Nat) (ak : Nat) (ai : Nat) (ad : Nat) (ac : Nat) (aw : Nat) (mn : Nat) (at_ : Nat) (le : Nat) (th : Nat) (sp : Nat) (ao : Nat) (tm : Nat) (o : Int) (ho : -2147483648 ≤ o ∧ o < 2147483648) (hcond0 : ¬(0 ≤ o ∧ o < 8)) : gMi (S := Unit) l yX4_coinsOf wsX4_coinsOf { frames := 2, cells := 0, slots := 0, locals := 42 } G [.ref mq, .int (zI o)] [(mq, .inr (4, [.ref an, .ref ap, .int (nI st), .ref ak, .ref ai, .ref ad, .ref ac, .ref aw, .int (nI mn), .ref at_, .int (nI le), .int (nI th), .int (nI sp), .ref ao, .int (nI tm)]))] (fun (r : Int32) (u : Unit) => (r = nI 0)) (fun u => [(mq, .inr (4, [.ref an, .ref ap, .int (nI st), .ref ak, .ref ai, .ref ad, .ref ac, .ref aw, .int (nI mn), .ref at_, .int (nI le), .int (nI 1), .int (nI sp), .ref ao, .int (nI tm)]))]) 0 0 := by
  refine gMet_mk (cc := cX4_coinsOf) (nL := 2) (ret := (some .int)) (Qc := fun A => va_Qi (S := Unit) (fun (r : Int32) (u : Unit) => (r = nI 0)) (gB G A (fun (u : Unit) => [(mq, .inr (4, [.ref an, .ref ap, .int (nI st), .ref ak, .ref ai, .ref ad, .ref ac, .ref aw, .int (nI mn), .ref at_, .int (nI le), .int (nI 1), .int (nI sp), .ref ao, .int (nI tm)]))])) A) (by decide) rfl (Nat.le_of_ble_eq_true rfl) ?_
  intro p e s m args below meth c A F ls hl hP hD hS
  have hx := F.1
  have hb := F.2.1
  have hts := F.2.2.2.2.2.2.1
  have hown : s.vm.findClass RX4 = some m.cls := F.2.2.2.2.2.1
  have hKK := F.2.2.2.2.2.2.2.2.1
  have hK := hKK.1
  have hin0 := F.2.2.2.2.2.2.2.1
  have hi4 : ∀ w ∈ u_ws RX4 TX4 15, w ∈ wsX4_coinsOf := by decide +kernel
  have hl : lv_has ls 2 [(0, .ref mq), (1, .int (zI o))] := hl
  generalize hH : s.heap = H at hP ⊢
  have hS : va_S A s.heap H [] := by rw [← hH]; exact va_S.rf
  generalize hLo : ([] : List Loc) = locs at hS ⊢
  refine lv_aload_n hx hb dX4_coinsOf_0 rfl (lv_at hl 0 rfl) ?_
  refine lv_iconst (v := nI 0) hx hb dX4_coinsOf_1 (by decide) ?_
  refine va_put (D := G.1) (ci := 4) (v := .int (nI 0)) (ty := .int) (C := RX4) (T := TX4) (N := 15) hx hb hts hi4 tyX4 tyX4_ok nmX4 hown hK hP hD hS 0 rfl rfl 11 (by decide) (hts (.fieldLink RX4 37 "LandQuartersModel" "thrown" "I") (by decide +kernel)) (fun _ h9 => h9) rfl (by decide +kernel) (rfl) (rfl) (Nat.le_of_ble_eq_true rfl) dX4_coinsOf_2 (fun H locs hP hD hS => ?_)
  have hP : va_P G.1 vwCl [(mq, .inr (4, [.ref an, .ref ap, .int (nI st), .ref ak, .ref ai, .ref ad, .ref ac, .ref aw, .int (nI mn), .ref at_, .int (nI le), .int (nI 0), .int (nI sp), .ref ao, .int (nI tm)]))] H := hP
  have hD : va_D A [(mq, .inr (4, [.ref an, .ref ap, .int (nI st), .ref ak, .ref ai, .ref ad, .ref ac, .ref aw, .int (nI mn), .ref at_, .int (nI le), .int (nI 0), .int (nI sp), .ref ao, .int (nI tm)]))] := hD
  refine lv_iload_n hx hb dX4_coinsOf_5 rfl (lv_at hl 1 rfl) ?_
  refine gCi F (gRunS (own := RX4) (bytes := cX4_isOwner) (n := 1) (As := [.int (zI o)]) (rest := []) F (c_X4_isOwner l G o (by first | assumption | omega) H.size) gX4_coinsOf_X4_isOwner rfl rfl rfl rfl (by decide +kernel) rfl ⟨Nat.le_of_ble_eq_true rfl, Nat.le_of_ble_eq_true rfl⟩ hP hD (lit := [(mq, .inr (4, [.ref an, .ref ap, .int (nI st), .ref ak, .ref ai, .ref ad, .ref ac, .ref aw, .int (nI mn), .ref at_, .int (nI le), .int (nI 0), .int (nI sp), .ref ao, .int (nI tm)]))]) (wt := []) (wc := []) (isC := []) rfl (by decide) rfl hl.1 (Nat.le_of_ble_eq_true rfl) dX4_coinsOf_6 ⟨Nat.le_of_ble_eq_true rfl, Nat.le_of_ble_eq_true rfl⟩) hP hD hS (lit := [(mq, .inr (4, [.ref an, .ref ap, .int (nI st), .ref ak, .ref ai, .ref ad, .ref ac, .ref aw, .int (nI mn), .ref at_, .int (nI le), .int (nI 0), .int (nI sp), .ref ao, .int (nI tm)]))]) (wt := []) (wc := []) (wr := [(mq, .inr (4, [.ref an, .ref ap, .int (nI st), .ref ak, .ref ai, .ref ad, .ref ac, .ref aw, .int (nI mn), .ref at_, .int (nI le), .int (nI 0), .int (nI sp), .ref ao, .int (nI tm)]))]) (isC := []) (isR := [0]) rfl rfl (by decide) (by decide) (fun r6 u H locs hp6 hP hD hS => ?_)
  subst hp6
  have hP : va_P G.1 vwCl [(mq, .inr (4, [.ref an, .ref ap, .int (nI st), .ref ak, .ref ai, .ref ad, .ref ac, .ref aw, .int (nI mn), .ref at_, .int (nI le), .int (nI 0), .int (nI sp), .ref ao, .int (nI tm)]))] H := hP
  have hD : va_D A [(mq, .inr (4, [.ref an, .ref ap, .int (nI st), .ref ak, .ref ai, .ref ad, .ref ac, .ref aw, .int (nI mn), .ref at_, .int (nI le), .int (nI 0), .int (nI sp), .ref ao, .int (nI tm)]))] := hD
  refine gIfB_eq (P := (0 ≤ o ∧ o < 8)) (tgt := 25) hx hb dX4_coinsOf_9 (by decide) (fun c9 => ?_) (fun c9 => ?_)
  · skip
    refine lv_aload_n hx hb dX4_coinsOf_25 rfl (lv_at hl 0 rfl) ?_
    refine lv_iconst (v := nI 1) hx hb dX4_coinsOf_26 (by decide) ?_
    refine gCi F (gRunV (own := RX4) (C := RX4) (ci := 4) (bytes := cX4_refuses) (n := 1) (As := [.int (nI 1)]) (rest := []) F (c_X4_refuses l G mq an ap st ak ai ad ac aw mn at_ le 0 sp ao tm 1  H.size) gX4_coinsOf_X4_refuses rfl rfl rfl rfl (by decide +kernel) rfl ⟨Nat.le_of_ble_eq_true rfl, Nat.le_of_ble_eq_true rfl⟩ hP hD (lit := [(mq, .inr (4, [.ref an, .ref ap, .int (nI st), .ref ak, .ref ai, .ref ad, .ref ac, .ref aw, .int (nI mn), .ref at_, .int (nI le), .int (nI 0), .int (nI sp), .ref ao, .int (nI tm)]))]) (wt := []) (wc := [(mq, .inr (4, [.ref an, .ref ap, .int (nI st), .ref ak, .ref ai, .ref ad, .ref ac, .ref aw, .int (nI mn), .ref at_, .int (nI le), .int (nI 0), .int (nI sp), .ref ao, .int (nI tm)]))]) (isC := [0]) rfl (by decide) rfl rfl rfl hl.1 (Nat.le_of_ble_eq_true rfl) dX4_coinsOf_27 ⟨Nat.le_of_ble_eq_true rfl, Nat.le_of_ble_eq_true rfl⟩) hP hD hS (lit := [(mq, .inr (4, [.ref an, .ref ap, .int (nI st), .ref ak, .ref ai, .ref ad, .ref ac, .ref aw, .int (nI mn), .ref at_, .int (nI le), .int (nI 0), .int (nI sp), .ref ao, .int (nI tm)]))]) (wt := []) (wc := [(mq, .inr (4, [.ref an, .ref ap, .int (nI st), .ref ak, .ref ai, .ref ad, .ref ac, .ref aw, .int (nI mn), .ref at_, .int (nI le), .int (nI 0), .int (nI sp), .ref ao, .int (nI tm)]))]) (wr := []) (isC := [0]) (isR := []) rfl rfl (by decide) (by decide) (fun r27 u H locs hp27 hP hD hS => ?_)
    subst hp27
    have hP : va_P G.1 vwCl [(mq, .inr (4, [.ref an, .ref ap, .int (nI st), .ref ak, .ref ai, .ref ad, .ref ac, .ref aw, .int (nI mn), .ref at_, .int (nI le), .int (nI 1), .int (nI sp), .ref ao, .int (nI tm)]))] H := hP
    have hD : va_D A [(mq, .inr (4, [.ref an, .ref ap, .int (nI st), .ref ak, .ref ai, .ref ad, .ref ac, .ref aw, .int (nI mn), .ref at_, .int (nI le), .int (nI 1), .int (nI sp), .ref ao, .int (nI tm)]))] := hD
    exact gRi F dX4_coinsOf_30 (rfl) () (rfl) hP hD hS (Nat.le_refl _) (Nat.le_refl _)
  exfalso; omega

set_option maxHeartbeats 4000000 in
set_option maxRecDepth 100000 in
theorem c_X4_nearestNeighbour (l : Launch) (G : gG) (mq : Nat) (an : Nat) (ap : Nat) (st : Nat) (ak : Nat) (ai : Nat) (ad : Nat) (ac : Nat) (aw : Nat) (mn : Nat) (at_ : Nat) (le : Nat) (th : Nat) (sp : Nat) (ao : Nat) (tm : Nat) (nw : Nat → Nat) (o : Nat) (how : ∀ k, k < 256 → nw k < 8) (ho : o < 8) : gMi (S := Unit) l yX4_nearestNeighbour wsX4_nearestNeighbour { frames := 2, cells := 0, slots := 0, locals := 51 } G [.ref mq, .int (nI o)] [(mq, .inr (4, [.ref an, .ref ap, .int (nI st), .ref ak, .ref ai, .ref ad, .ref ac, .ref aw, .int (nI mn), .ref at_, .int (nI le), .int (nI th), .int (nI sp), .ref ao, .int (nI tm)])), (an, .inl (G.2.1, 525, .inl (gn nw)))] (fun (r : Int32) (u : Unit) => (r = zI ((nbM nw o 8).1))) (fun u => [(mq, .inr (4, [.ref an, .ref ap, .int (nI st), .ref ak, .ref ai, .ref ad, .ref ac, .ref aw, .int (nI mn), .ref at_, .int (nI le), .int (nI 0), .int (nI sp), .ref ao, .int (nI tm)])), (an, .inl (G.2.1, 525, .inl (gn nw)))]) 0 0 := by
  refine gMet_mk (cc := cX4_nearestNeighbour) (nL := 2) (ret := (some .int)) (Qc := fun A => va_Qi (S := Unit) (fun (r : Int32) (u : Unit) => (r = zI ((nbM nw o 8).1))) (gB G A (fun (u : Unit) => [(mq, .inr (4, [.ref an, .ref ap, .int (nI st), .ref ak, .ref ai, .ref ad, .ref ac, .ref aw, .int (nI mn), .ref at_, .int (nI le), .int (nI 0), .int (nI sp), .ref ao, .int (nI tm)])), (an, .inl (G.2.1, 525, .inl (gn nw)))])) A) (by decide) rfl (Nat.le_of_ble_eq_true rfl) ?_
  intro p e s m args below meth c A F ls hl hP hD hS
  have hx := F.1
  have hb := F.2.1
  have hts := F.2.2.2.2.2.2.1
  have hown : s.vm.findClass RX4 = some m.cls := F.2.2.2.2.2.1
  have hKK := F.2.2.2.2.2.2.2.2.1
  have hK := hKK.1
  have hin0 := F.2.2.2.2.2.2.2.1
  have hi4 : ∀ w ∈ u_ws RX4 TX4 15, w ∈ wsX4_nearestNeighbour := by decide +kernel
  have hl : lv_has ls 2 [(0, .ref mq), (1, .int (nI o))] := hl
  generalize hH : s.heap = H at hP ⊢
  have hS : va_S A s.heap H [] := by rw [← hH]; exact va_S.rf
  generalize hLo : ([] : List Loc) = locs at hS ⊢
  refine lv_aload_n hx hb dX4_nearestNeighbour_0 rfl (lv_at hl 0 rfl) ?_
  refine lv_iconst (v := nI 0) hx hb dX4_nearestNeighbour_1 (by decide) ?_
  refine va_put (D := G.1) (ci := 4) (v := .int (nI 0)) (ty := .int) (C := RX4) (T := TX4) (N := 15) hx hb hts hi4 tyX4 tyX4_ok nmX4 hown hK hP hD hS 0 rfl rfl 11 (by decide) (hts (.fieldLink RX4 37 "LandQuartersModel" "thrown" "I") (by decide +kernel)) (fun _ h9 => h9) rfl (by decide +kernel) (rfl) (rfl) (Nat.le_of_ble_eq_true rfl) dX4_nearestNeighbour_2 (fun H locs hP hD hS => ?_)
  have hP : va_P G.1 vwCl [(mq, .inr (4, [.ref an, .ref ap, .int (nI st), .ref ak, .ref ai, .ref ad, .ref ac, .ref aw, .int (nI mn), .ref at_, .int (nI le), .int (nI 0), .int (nI sp), .ref ao, .int (nI tm)])), (an, .inl (G.2.1, 525, .inl (gn nw)))] H := hP
  have hD : va_D A [(mq, .inr (4, [.ref an, .ref ap, .int (nI st), .ref ak, .ref ai, .ref ad, .ref ac, .ref aw, .int (nI mn), .ref at_, .int (nI le), .int (nI 0), .int (nI sp), .ref ao, .int (nI tm)])), (an, .inl (G.2.1, 525, .inl (gn nw)))] := hD
  refine lv_iload_n hx hb dX4_nearestNeighbour_5 rfl (lv_at hl 1 rfl) ?_
  refine W.eq (g2 := F0 m 6 ls [.int (zI ((o : Nat) : Int))]) (by simp only [zI_nat, zI_neg1]) ?_
  refine gCi F (gRunS (own := RX4) (bytes := cX4_isOwner) (n := 1) (As := [.int (zI ((o : Nat) : Int))]) (rest := []) F (c_X4_isOwner l G ((o : Nat) : Int) (by first | assumption | omega) H.size) gX4_nearestNeighbour_X4_isOwner rfl rfl rfl rfl (by decide +kernel) rfl ⟨Nat.le_of_ble_eq_true rfl, Nat.le_of_ble_eq_true rfl⟩ hP hD (lit := [(mq, .inr (4, [.ref an, .ref ap, .int (nI st), .ref ak, .ref ai, .ref ad, .ref ac, .ref aw, .int (nI mn), .ref at_, .int (nI le), .int (nI 0), .int (nI sp), .ref ao, .int (nI tm)])), (an, .inl (G.2.1, 525, .inl (gn nw)))]) (wt := []) (wc := []) (isC := []) rfl (by decide) rfl hl.1 (Nat.le_of_ble_eq_true rfl) dX4_nearestNeighbour_6 ⟨Nat.le_of_ble_eq_true rfl, Nat.le_of_ble_eq_true rfl⟩) hP hD hS (lit := [(mq, .inr (4, [.ref an, .ref ap, .int (nI st), .ref ak, .ref ai, .ref ad, .ref ac, .ref aw, .int (nI mn), .ref at_, .int (nI le), .int (nI 0), .int (nI sp), .ref ao, .int (nI tm)])), (an, .inl (G.2.1, 525, .inl (gn nw)))]) (wt := []) (wc := []) (wr := [(mq, .inr (4, [.ref an, .ref ap, .int (nI st), .ref ak, .ref ai, .ref ad, .ref ac, .ref aw, .int (nI mn), .ref at_, .int (nI le), .int (nI 0), .int (nI sp), .ref ao, .int (nI tm)])), (an, .inl (G.2.1, 525, .inl (gn nw)))]) (isC := []) (isR := [0, 1]) rfl rfl (by decide) (by decide) (fun r6 u H locs hp6 hP hD hS => ?_)
  subst hp6
  have hP : va_P G.1 vwCl [(mq, .inr (4, [.ref an, .ref ap, .int (nI st), .ref ak, .ref ai, .ref ad, .ref ac, .ref aw, .int (nI mn), .ref at_, .int (nI le), .int (nI 0), .int (nI sp), .ref ao, .int (nI tm)])), (an, .inl (G.2.1, 525, .inl (gn nw)))] H := hP
  have hD : va_D A [(mq, .inr (4, [.ref an, .ref ap, .int (nI st), .ref ak, .ref ai, .ref ad, .ref ac, .ref aw, .int (nI mn), .ref at_, .int (nI le), .int (nI 0), .int (nI sp), .ref ao, .int (nI tm)])), (an, .inl (G.2.1, 525, .inl (gn nw)))] := hD
  refine gIfB_eq (P := (0 ≤ ((o : Nat) : Int) ∧ ((o : Nat) : Int) < 8)) (tgt := 20) hx hb dX4_nearestNeighbour_9 (by decide) (fun c9 => ?_) (fun c9 => ?_)
  · skip
    refine lv_aload_n hx hb dX4_nearestNeighbour_20 rfl (lv_at hl 0 rfl) ?_
    refine lv_iconst (v := nI 1) hx hb dX4_nearestNeighbour_21 (by decide) ?_
    exfalso; omega
  refine lv_aload_n hx hb dX4_nearestNeighbour_12 rfl (lv_at hl 0 rfl) ?_
  refine lv_iload_n hx hb dX4_nearestNeighbour_13 rfl (lv_at hl 1 rfl) ?_
  refine gCi F (gRunV (own := RX4) (C := RX4) (ci := 4) (bytes := cX4_neighbour) (n := 1) (As := [.int (nI o)]) (rest := []) F (c_X4_neighbour l G mq an ap st ak ai ad ac aw mn at_ le 0 sp ao tm nw o (by first | assumption | omega) (by first | assumption | omega) H.size) gX4_nearestNeighbour_X4_neighbour rfl rfl rfl rfl (by decide +kernel) rfl ⟨Nat.le_of_ble_eq_true rfl, Nat.le_of_ble_eq_true rfl⟩ hP hD (lit := [(mq, .inr (4, [.ref an, .ref ap, .int (nI st), .ref ak, .ref ai, .ref ad, .ref ac, .ref aw, .int (nI mn), .ref at_, .int (nI le), .int (nI 0), .int (nI sp), .ref ao, .int (nI tm)])), (an, .inl (G.2.1, 525, .inl (gn nw)))]) (wt := []) (wc := [(mq, .inr (4, [.ref an, .ref ap, .int (nI st), .ref ak, .ref ai, .ref ad, .ref ac, .ref aw, .int (nI mn), .ref at_, .int (nI le), .int (nI 0), .int (nI sp), .ref ao, .int (nI tm)])), (an, .inl (G.2.1, 525, .inl (gn nw)))]) (isC := [0, 1]) rfl (by decide) rfl rfl rfl hl.1 (Nat.le_of_ble_eq_true rfl) dX4_nearestNeighbour_14 ⟨Nat.le_of_ble_eq_true rfl, Nat.le_of_ble_eq_true rfl⟩) hP hD hS (lit := [(mq, .inr (4, [.ref an, .ref ap, .int (nI st), .ref ak, .ref ai, .ref ad, .ref ac, .ref aw, .int (nI mn), .ref at_, .int (nI le), .int (nI 0), .int (nI sp), .ref ao, .int (nI tm)])), (an, .inl (G.2.1, 525, .inl (gn nw)))]) (wt := []) (wc := [(mq, .inr (4, [.ref an, .ref ap, .int (nI st), .ref ak, .ref ai, .ref ad, .ref ac, .ref aw, .int (nI mn), .ref at_, .int (nI le), .int (nI 0), .int (nI sp), .ref ao, .int (nI tm)])), (an, .inl (G.2.1, 525, .inl (gn nw)))]) (wr := []) (isC := [0, 1]) (isR := []) rfl rfl (by decide) (by decide) (fun r14 u H locs hp14 hP hD hS => ?_)
  subst hp14
  have hP : va_P G.1 vwCl [(mq, .inr (4, [.ref an, .ref ap, .int (nI st), .ref ak, .ref ai, .ref ad, .ref ac, .ref aw, .int (nI mn), .ref at_, .int (nI le), .int (nI 0), .int (nI sp), .ref ao, .int (nI tm)])), (an, .inl (G.2.1, 525, .inl (gn nw)))] H := hP
  have hD : va_D A [(mq, .inr (4, [.ref an, .ref ap, .int (nI st), .ref ak, .ref ai, .ref ad, .ref ac, .ref aw, .int (nI mn), .ref at_, .int (nI le), .int (nI 0), .int (nI sp), .ref ao, .int (nI tm)])), (an, .inl (G.2.1, 525, .inl (gn nw)))] := hD
  refine lv_goto (tgt := 25) hx hb dX4_nearestNeighbour_17 (by decide) ?_
  exact gRi F dX4_nearestNeighbour_25 (rfl) () (rfl) hP hD hS (Nat.le_refl _) (Nat.le_refl _)

set_option maxHeartbeats 4000000 in
set_option maxRecDepth 100000 in
theorem f1_X4_nearestNeighbour (l : Launch) (G : gG) (mq : Nat) (an : Nat) (ap : Nat) (st : Nat) (ak : Nat) (ai : Nat) (ad : Nat) (ac : Nat) (aw : Nat) (mn : Nat) (at_ : Nat) (le : Nat) (th : Nat) (sp : Nat) (ao : Nat) (tm : Nat) (o : Int) (ho : -2147483648 ≤ o ∧ o < 2147483648) (hcond0 : ¬(0 ≤ o ∧ o < 8)) : gMi (S := Unit) l yX4_nearestNeighbour wsX4_nearestNeighbour { frames := 2, cells := 0, slots := 0, locals := 42 } G [.ref mq, .int (zI o)] [(mq, .inr (4, [.ref an, .ref ap, .int (nI st), .ref ak, .ref ai, .ref ad, .ref ac, .ref aw, .int (nI mn), .ref at_, .int (nI le), .int (nI th), .int (nI sp), .ref ao, .int (nI tm)]))] (fun (r : Int32) (u : Unit) => (r = nI 0)) (fun u => [(mq, .inr (4, [.ref an, .ref ap, .int (nI st), .ref ak, .ref ai, .ref ad, .ref ac, .ref aw, .int (nI mn), .ref at_, .int (nI le), .int (nI 1), .int (nI sp), .ref ao, .int (nI tm)]))]) 0 0 := by
  refine gMet_mk (cc := cX4_nearestNeighbour) (nL := 2) (ret := (some .int)) (Qc := fun A => va_Qi (S := Unit) (fun (r : Int32) (u : Unit) => (r = nI 0)) (gB G A (fun (u : Unit) => [(mq, .inr (4, [.ref an, .ref ap, .int (nI st), .ref ak, .ref ai, .ref ad, .ref ac, .ref aw, .int (nI mn), .ref at_, .int (nI le), .int (nI 1), .int (nI sp), .ref ao, .int (nI tm)]))])) A) (by decide) rfl (Nat.le_of_ble_eq_true rfl) ?_
  intro p e s m args below meth c A F ls hl hP hD hS
  have hx := F.1
  have hb := F.2.1
  have hts := F.2.2.2.2.2.2.1
  have hown : s.vm.findClass RX4 = some m.cls := F.2.2.2.2.2.1
  have hKK := F.2.2.2.2.2.2.2.2.1
  have hK := hKK.1
  have hin0 := F.2.2.2.2.2.2.2.1
  have hi4 : ∀ w ∈ u_ws RX4 TX4 15, w ∈ wsX4_nearestNeighbour := by decide +kernel
  have hl : lv_has ls 2 [(0, .ref mq), (1, .int (zI o))] := hl
  generalize hH : s.heap = H at hP ⊢
  have hS : va_S A s.heap H [] := by rw [← hH]; exact va_S.rf
  generalize hLo : ([] : List Loc) = locs at hS ⊢
  refine lv_aload_n hx hb dX4_nearestNeighbour_0 rfl (lv_at hl 0 rfl) ?_
  refine lv_iconst (v := nI 0) hx hb dX4_nearestNeighbour_1 (by decide) ?_
  refine va_put (D := G.1) (ci := 4) (v := .int (nI 0)) (ty := .int) (C := RX4) (T := TX4) (N := 15) hx hb hts hi4 tyX4 tyX4_ok nmX4 hown hK hP hD hS 0 rfl rfl 11 (by decide) (hts (.fieldLink RX4 37 "LandQuartersModel" "thrown" "I") (by decide +kernel)) (fun _ h9 => h9) rfl (by decide +kernel) (rfl) (rfl) (Nat.le_of_ble_eq_true rfl) dX4_nearestNeighbour_2 (fun H locs hP hD hS => ?_)
  have hP : va_P G.1 vwCl [(mq, .inr (4, [.ref an, .ref ap, .int (nI st), .ref ak, .ref ai, .ref ad, .ref ac, .ref aw, .int (nI mn), .ref at_, .int (nI le), .int (nI 0), .int (nI sp), .ref ao, .int (nI tm)]))] H := hP
  have hD : va_D A [(mq, .inr (4, [.ref an, .ref ap, .int (nI st), .ref ak, .ref ai, .ref ad, .ref ac, .ref aw, .int (nI mn), .ref at_, .int (nI le), .int (nI 0), .int (nI sp), .ref ao, .int (nI tm)]))] := hD
  refine lv_iload_n hx hb dX4_nearestNeighbour_5 rfl (lv_at hl 1 rfl) ?_
  refine gCi F (gRunS (own := RX4) (bytes := cX4_isOwner) (n := 1) (As := [.int (zI o)]) (rest := []) F (c_X4_isOwner l G o (by first | assumption | omega) H.size) gX4_nearestNeighbour_X4_isOwner rfl rfl rfl rfl (by decide +kernel) rfl ⟨Nat.le_of_ble_eq_true rfl, Nat.le_of_ble_eq_true rfl⟩ hP hD (lit := [(mq, .inr (4, [.ref an, .ref ap, .int (nI st), .ref ak, .ref ai, .ref ad, .ref ac, .ref aw, .int (nI mn), .ref at_, .int (nI le), .int (nI 0), .int (nI sp), .ref ao, .int (nI tm)]))]) (wt := []) (wc := []) (isC := []) rfl (by decide) rfl hl.1 (Nat.le_of_ble_eq_true rfl) dX4_nearestNeighbour_6 ⟨Nat.le_of_ble_eq_true rfl, Nat.le_of_ble_eq_true rfl⟩) hP hD hS (lit := [(mq, .inr (4, [.ref an, .ref ap, .int (nI st), .ref ak, .ref ai, .ref ad, .ref ac, .ref aw, .int (nI mn), .ref at_, .int (nI le), .int (nI 0), .int (nI sp), .ref ao, .int (nI tm)]))]) (wt := []) (wc := []) (wr := [(mq, .inr (4, [.ref an, .ref ap, .int (nI st), .ref ak, .ref ai, .ref ad, .ref ac, .ref aw, .int (nI mn), .ref at_, .int (nI le), .int (nI 0), .int (nI sp), .ref ao, .int (nI tm)]))]) (isC := []) (isR := [0]) rfl rfl (by decide) (by decide) (fun r6 u H locs hp6 hP hD hS => ?_)
  subst hp6
  have hP : va_P G.1 vwCl [(mq, .inr (4, [.ref an, .ref ap, .int (nI st), .ref ak, .ref ai, .ref ad, .ref ac, .ref aw, .int (nI mn), .ref at_, .int (nI le), .int (nI 0), .int (nI sp), .ref ao, .int (nI tm)]))] H := hP
  have hD : va_D A [(mq, .inr (4, [.ref an, .ref ap, .int (nI st), .ref ak, .ref ai, .ref ad, .ref ac, .ref aw, .int (nI mn), .ref at_, .int (nI le), .int (nI 0), .int (nI sp), .ref ao, .int (nI tm)]))] := hD
  refine gIfB_eq (P := (0 ≤ o ∧ o < 8)) (tgt := 20) hx hb dX4_nearestNeighbour_9 (by decide) (fun c9 => ?_) (fun c9 => ?_)
  · skip
    refine lv_aload_n hx hb dX4_nearestNeighbour_20 rfl (lv_at hl 0 rfl) ?_
    refine lv_iconst (v := nI 1) hx hb dX4_nearestNeighbour_21 (by decide) ?_
    refine gCi F (gRunV (own := RX4) (C := RX4) (ci := 4) (bytes := cX4_refuses) (n := 1) (As := [.int (nI 1)]) (rest := []) F (c_X4_refuses l G mq an ap st ak ai ad ac aw mn at_ le 0 sp ao tm 1  H.size) gX4_nearestNeighbour_X4_refuses rfl rfl rfl rfl (by decide +kernel) rfl ⟨Nat.le_of_ble_eq_true rfl, Nat.le_of_ble_eq_true rfl⟩ hP hD (lit := [(mq, .inr (4, [.ref an, .ref ap, .int (nI st), .ref ak, .ref ai, .ref ad, .ref ac, .ref aw, .int (nI mn), .ref at_, .int (nI le), .int (nI 0), .int (nI sp), .ref ao, .int (nI tm)]))]) (wt := []) (wc := [(mq, .inr (4, [.ref an, .ref ap, .int (nI st), .ref ak, .ref ai, .ref ad, .ref ac, .ref aw, .int (nI mn), .ref at_, .int (nI le), .int (nI 0), .int (nI sp), .ref ao, .int (nI tm)]))]) (isC := [0]) rfl (by decide) rfl rfl rfl hl.1 (Nat.le_of_ble_eq_true rfl) dX4_nearestNeighbour_22 ⟨Nat.le_of_ble_eq_true rfl, Nat.le_of_ble_eq_true rfl⟩) hP hD hS (lit := [(mq, .inr (4, [.ref an, .ref ap, .int (nI st), .ref ak, .ref ai, .ref ad, .ref ac, .ref aw, .int (nI mn), .ref at_, .int (nI le), .int (nI 0), .int (nI sp), .ref ao, .int (nI tm)]))]) (wt := []) (wc := [(mq, .inr (4, [.ref an, .ref ap, .int (nI st), .ref ak, .ref ai, .ref ad, .ref ac, .ref aw, .int (nI mn), .ref at_, .int (nI le), .int (nI 0), .int (nI sp), .ref ao, .int (nI tm)]))]) (wr := []) (isC := [0]) (isR := []) rfl rfl (by decide) (by decide) (fun r22 u H locs hp22 hP hD hS => ?_)
    subst hp22
    have hP : va_P G.1 vwCl [(mq, .inr (4, [.ref an, .ref ap, .int (nI st), .ref ak, .ref ai, .ref ad, .ref ac, .ref aw, .int (nI mn), .ref at_, .int (nI le), .int (nI 1), .int (nI sp), .ref ao, .int (nI tm)]))] H := hP
    have hD : va_D A [(mq, .inr (4, [.ref an, .ref ap, .int (nI st), .ref ak, .ref ai, .ref ad, .ref ac, .ref aw, .int (nI mn), .ref at_, .int (nI le), .int (nI 1), .int (nI sp), .ref ao, .int (nI tm)]))] := hD
    exact gRi F dX4_nearestNeighbour_25 (rfl) () (rfl) hP hD hS (Nat.le_refl _) (Nat.le_refl _)
  exfalso; omega

set_option maxHeartbeats 4000000 in
set_option maxRecDepth 100000 in
theorem c_X4_price (l : Launch) (G : gG) (mq : Nat) (an : Nat) (ap : Nat) (st : Nat) (ak : Nat) (ai : Nat) (ad : Nat) (ac : Nat) (aw : Nat) (mn : Nat) (at_ : Nat) (le : Nat) (th : Nat) (sp : Nat) (ao : Nat) (tm : Nat) (nw : Nat → Nat) : gMi (S := Unit) l yX4_price wsX4_price { frames := 0, cells := 0, slots := 0, locals := 0 } G [.ref mq] [(mq, .inr (4, [.ref an, .ref ap, .int (nI st), .ref ak, .ref ai, .ref ad, .ref ac, .ref aw, .int (nI mn), .ref at_, .int (nI le), .int (nI th), .int (nI sp), .ref ao, .int (nI tm)])), (an, .inl (G.2.1, 525, .inl (gn nw)))] (fun (r : Int32) (u : Unit) => (r = nI (nw 520))) (fun u => [(mq, .inr (4, [.ref an, .ref ap, .int (nI st), .ref ak, .ref ai, .ref ad, .ref ac, .ref aw, .int (nI mn), .ref at_, .int (nI le), .int (nI 0), .int (nI sp), .ref ao, .int (nI tm)])), (an, .inl (G.2.1, 525, .inl (gn nw)))]) 0 0 := by
  refine gMet_mk (cc := cX4_price) (nL := 1) (ret := (some .int)) (Qc := fun A => va_Qi (S := Unit) (fun (r : Int32) (u : Unit) => (r = nI (nw 520))) (gB G A (fun (u : Unit) => [(mq, .inr (4, [.ref an, .ref ap, .int (nI st), .ref ak, .ref ai, .ref ad, .ref ac, .ref aw, .int (nI mn), .ref at_, .int (nI le), .int (nI 0), .int (nI sp), .ref ao, .int (nI tm)])), (an, .inl (G.2.1, 525, .inl (gn nw)))])) A) (by decide) rfl (Nat.le_of_ble_eq_true rfl) ?_
  intro p e s m args below meth c A F ls hl hP hD hS
  have hx := F.1
  have hb := F.2.1
  have hts := F.2.2.2.2.2.2.1
  have hown : s.vm.findClass RX4 = some m.cls := F.2.2.2.2.2.1
  have hKK := F.2.2.2.2.2.2.2.2.1
  have hK := hKK.1
  have hin0 := F.2.2.2.2.2.2.2.1
  have hi4 : ∀ w ∈ u_ws RX4 TX4 15, w ∈ wsX4_price := by decide +kernel
  have hl : lv_has ls 1 [(0, .ref mq)] := hl
  generalize hH : s.heap = H at hP ⊢
  have hS : va_S A s.heap H [] := by rw [← hH]; exact va_S.rf
  generalize hLo : ([] : List Loc) = locs at hS ⊢
  refine lv_aload_n hx hb dX4_price_0 rfl (lv_at hl 0 rfl) ?_
  refine lv_iconst (v := nI 0) hx hb dX4_price_1 (by decide) ?_
  refine va_put (D := G.1) (ci := 4) (v := .int (nI 0)) (ty := .int) (C := RX4) (T := TX4) (N := 15) hx hb hts hi4 tyX4 tyX4_ok nmX4 hown hK hP hD hS 0 rfl rfl 11 (by decide) (hts (.fieldLink RX4 37 "LandQuartersModel" "thrown" "I") (by decide +kernel)) (fun _ h9 => h9) rfl (by decide +kernel) (rfl) (rfl) (Nat.le_of_ble_eq_true rfl) dX4_price_2 (fun H locs hP hD hS => ?_)
  have hP : va_P G.1 vwCl [(mq, .inr (4, [.ref an, .ref ap, .int (nI st), .ref ak, .ref ai, .ref ad, .ref ac, .ref aw, .int (nI mn), .ref at_, .int (nI le), .int (nI 0), .int (nI sp), .ref ao, .int (nI tm)])), (an, .inl (G.2.1, 525, .inl (gn nw)))] H := hP
  have hD : va_D A [(mq, .inr (4, [.ref an, .ref ap, .int (nI st), .ref ak, .ref ai, .ref ad, .ref ac, .ref aw, .int (nI mn), .ref at_, .int (nI le), .int (nI 0), .int (nI sp), .ref ao, .int (nI tm)])), (an, .inl (G.2.1, 525, .inl (gn nw)))] := hD
  refine lv_aload_n hx hb dX4_price_5 rfl (lv_at hl 0 rfl) ?_
  refine va_get (D := G.1) (ci := 4) (v := .ref an) (C := RX4) (T := TX4) (N := 15) hx hb hts hi4 hown hK hP 0 rfl rfl 0 (by decide) (hts (.fieldLink RX4 7 "LandQuartersModel" "now" "[I") (by decide +kernel)) (fun _ h9 => h9) rfl dX4_price_6 ?_
  refine lv_sipush (v := nI 520) hx hb dX4_price_9 (by decide) ?_
  refine gNald (k := 520) hx hb hK hP 1 0 rfl rfl (by omega) (by first | decide | omega) dX4_price_12 ?_
  exact gRi F dX4_price_13 (rfl) () (rfl) hP hD hS (Nat.le_refl _) (Nat.le_refl _)

set_option maxHeartbeats 4000000 in
set_option maxRecDepth 100000 in
theorem c_X4_tax (l : Launch) (G : gG) (mq : Nat) (an : Nat) (ap : Nat) (st : Nat) (ak : Nat) (ai : Nat) (ad : Nat) (ac : Nat) (aw : Nat) (mn : Nat) (at_ : Nat) (le : Nat) (th : Nat) (sp : Nat) (ao : Nat) (tm : Nat) (nw : Nat → Nat) : gMi (S := Unit) l yX4_tax wsX4_tax { frames := 0, cells := 0, slots := 0, locals := 0 } G [.ref mq] [(mq, .inr (4, [.ref an, .ref ap, .int (nI st), .ref ak, .ref ai, .ref ad, .ref ac, .ref aw, .int (nI mn), .ref at_, .int (nI le), .int (nI th), .int (nI sp), .ref ao, .int (nI tm)])), (an, .inl (G.2.1, 525, .inl (gn nw)))] (fun (r : Int32) (u : Unit) => (r = nI (nw 521))) (fun u => [(mq, .inr (4, [.ref an, .ref ap, .int (nI st), .ref ak, .ref ai, .ref ad, .ref ac, .ref aw, .int (nI mn), .ref at_, .int (nI le), .int (nI 0), .int (nI sp), .ref ao, .int (nI tm)])), (an, .inl (G.2.1, 525, .inl (gn nw)))]) 0 0 := by
  refine gMet_mk (cc := cX4_tax) (nL := 1) (ret := (some .int)) (Qc := fun A => va_Qi (S := Unit) (fun (r : Int32) (u : Unit) => (r = nI (nw 521))) (gB G A (fun (u : Unit) => [(mq, .inr (4, [.ref an, .ref ap, .int (nI st), .ref ak, .ref ai, .ref ad, .ref ac, .ref aw, .int (nI mn), .ref at_, .int (nI le), .int (nI 0), .int (nI sp), .ref ao, .int (nI tm)])), (an, .inl (G.2.1, 525, .inl (gn nw)))])) A) (by decide) rfl (Nat.le_of_ble_eq_true rfl) ?_
  intro p e s m args below meth c A F ls hl hP hD hS
  have hx := F.1
  have hb := F.2.1
  have hts := F.2.2.2.2.2.2.1
  have hown : s.vm.findClass RX4 = some m.cls := F.2.2.2.2.2.1
  have hKK := F.2.2.2.2.2.2.2.2.1
  have hK := hKK.1
  have hin0 := F.2.2.2.2.2.2.2.1
  have hi4 : ∀ w ∈ u_ws RX4 TX4 15, w ∈ wsX4_tax := by decide +kernel
  have hl : lv_has ls 1 [(0, .ref mq)] := hl
  generalize hH : s.heap = H at hP ⊢
  have hS : va_S A s.heap H [] := by rw [← hH]; exact va_S.rf
  generalize hLo : ([] : List Loc) = locs at hS ⊢
  refine lv_aload_n hx hb dX4_tax_0 rfl (lv_at hl 0 rfl) ?_
  refine lv_iconst (v := nI 0) hx hb dX4_tax_1 (by decide) ?_
  refine va_put (D := G.1) (ci := 4) (v := .int (nI 0)) (ty := .int) (C := RX4) (T := TX4) (N := 15) hx hb hts hi4 tyX4 tyX4_ok nmX4 hown hK hP hD hS 0 rfl rfl 11 (by decide) (hts (.fieldLink RX4 37 "LandQuartersModel" "thrown" "I") (by decide +kernel)) (fun _ h9 => h9) rfl (by decide +kernel) (rfl) (rfl) (Nat.le_of_ble_eq_true rfl) dX4_tax_2 (fun H locs hP hD hS => ?_)
  have hP : va_P G.1 vwCl [(mq, .inr (4, [.ref an, .ref ap, .int (nI st), .ref ak, .ref ai, .ref ad, .ref ac, .ref aw, .int (nI mn), .ref at_, .int (nI le), .int (nI 0), .int (nI sp), .ref ao, .int (nI tm)])), (an, .inl (G.2.1, 525, .inl (gn nw)))] H := hP
  have hD : va_D A [(mq, .inr (4, [.ref an, .ref ap, .int (nI st), .ref ak, .ref ai, .ref ad, .ref ac, .ref aw, .int (nI mn), .ref at_, .int (nI le), .int (nI 0), .int (nI sp), .ref ao, .int (nI tm)])), (an, .inl (G.2.1, 525, .inl (gn nw)))] := hD
  refine lv_aload_n hx hb dX4_tax_5 rfl (lv_at hl 0 rfl) ?_
  refine va_get (D := G.1) (ci := 4) (v := .ref an) (C := RX4) (T := TX4) (N := 15) hx hb hts hi4 hown hK hP 0 rfl rfl 0 (by decide) (hts (.fieldLink RX4 7 "LandQuartersModel" "now" "[I") (by decide +kernel)) (fun _ h9 => h9) rfl dX4_tax_6 ?_
  refine lv_sipush (v := nI 521) hx hb dX4_tax_9 (by decide) ?_
  refine gNald (k := 521) hx hb hK hP 1 0 rfl rfl (by omega) (by first | decide | omega) dX4_tax_12 ?_
  exact gRi F dX4_tax_13 (rfl) () (rfl) hP hD hS (Nat.le_refl _) (Nat.le_refl _)

set_option maxHeartbeats 4000000 in
set_option maxRecDepth 100000 in
theorem c_X4_sales (l : Launch) (G : gG) (mq : Nat) (an : Nat) (ap : Nat) (st : Nat) (ak : Nat) (ai : Nat) (ad : Nat) (ac : Nat) (aw : Nat) (mn : Nat) (at_ : Nat) (le : Nat) (th : Nat) (sp : Nat) (ao : Nat) (tm : Nat) (nw : Nat → Nat) : gMi (S := Unit) l yX4_sales wsX4_sales { frames := 0, cells := 0, slots := 0, locals := 0 } G [.ref mq] [(mq, .inr (4, [.ref an, .ref ap, .int (nI st), .ref ak, .ref ai, .ref ad, .ref ac, .ref aw, .int (nI mn), .ref at_, .int (nI le), .int (nI th), .int (nI sp), .ref ao, .int (nI tm)])), (an, .inl (G.2.1, 525, .inl (gn nw)))] (fun (r : Int32) (u : Unit) => (r = nI (nw 522))) (fun u => [(mq, .inr (4, [.ref an, .ref ap, .int (nI st), .ref ak, .ref ai, .ref ad, .ref ac, .ref aw, .int (nI mn), .ref at_, .int (nI le), .int (nI 0), .int (nI sp), .ref ao, .int (nI tm)])), (an, .inl (G.2.1, 525, .inl (gn nw)))]) 0 0 := by
  refine gMet_mk (cc := cX4_sales) (nL := 1) (ret := (some .int)) (Qc := fun A => va_Qi (S := Unit) (fun (r : Int32) (u : Unit) => (r = nI (nw 522))) (gB G A (fun (u : Unit) => [(mq, .inr (4, [.ref an, .ref ap, .int (nI st), .ref ak, .ref ai, .ref ad, .ref ac, .ref aw, .int (nI mn), .ref at_, .int (nI le), .int (nI 0), .int (nI sp), .ref ao, .int (nI tm)])), (an, .inl (G.2.1, 525, .inl (gn nw)))])) A) (by decide) rfl (Nat.le_of_ble_eq_true rfl) ?_
  intro p e s m args below meth c A F ls hl hP hD hS
  have hx := F.1
  have hb := F.2.1
  have hts := F.2.2.2.2.2.2.1
  have hown : s.vm.findClass RX4 = some m.cls := F.2.2.2.2.2.1
  have hKK := F.2.2.2.2.2.2.2.2.1
  have hK := hKK.1
  have hin0 := F.2.2.2.2.2.2.2.1
  have hi4 : ∀ w ∈ u_ws RX4 TX4 15, w ∈ wsX4_sales := by decide +kernel
  have hl : lv_has ls 1 [(0, .ref mq)] := hl
  generalize hH : s.heap = H at hP ⊢
  have hS : va_S A s.heap H [] := by rw [← hH]; exact va_S.rf
  generalize hLo : ([] : List Loc) = locs at hS ⊢
  refine lv_aload_n hx hb dX4_sales_0 rfl (lv_at hl 0 rfl) ?_
  refine lv_iconst (v := nI 0) hx hb dX4_sales_1 (by decide) ?_
  refine va_put (D := G.1) (ci := 4) (v := .int (nI 0)) (ty := .int) (C := RX4) (T := TX4) (N := 15) hx hb hts hi4 tyX4 tyX4_ok nmX4 hown hK hP hD hS 0 rfl rfl 11 (by decide) (hts (.fieldLink RX4 37 "LandQuartersModel" "thrown" "I") (by decide +kernel)) (fun _ h9 => h9) rfl (by decide +kernel) (rfl) (rfl) (Nat.le_of_ble_eq_true rfl) dX4_sales_2 (fun H locs hP hD hS => ?_)
  have hP : va_P G.1 vwCl [(mq, .inr (4, [.ref an, .ref ap, .int (nI st), .ref ak, .ref ai, .ref ad, .ref ac, .ref aw, .int (nI mn), .ref at_, .int (nI le), .int (nI 0), .int (nI sp), .ref ao, .int (nI tm)])), (an, .inl (G.2.1, 525, .inl (gn nw)))] H := hP
  have hD : va_D A [(mq, .inr (4, [.ref an, .ref ap, .int (nI st), .ref ak, .ref ai, .ref ad, .ref ac, .ref aw, .int (nI mn), .ref at_, .int (nI le), .int (nI 0), .int (nI sp), .ref ao, .int (nI tm)])), (an, .inl (G.2.1, 525, .inl (gn nw)))] := hD
  refine lv_aload_n hx hb dX4_sales_5 rfl (lv_at hl 0 rfl) ?_
  refine va_get (D := G.1) (ci := 4) (v := .ref an) (C := RX4) (T := TX4) (N := 15) hx hb hts hi4 hown hK hP 0 rfl rfl 0 (by decide) (hts (.fieldLink RX4 7 "LandQuartersModel" "now" "[I") (by decide +kernel)) (fun _ h9 => h9) rfl dX4_sales_6 ?_
  refine lv_sipush (v := nI 522) hx hb dX4_sales_9 (by decide) ?_
  refine gNald (k := 522) hx hb hK hP 1 0 rfl rfl (by omega) (by first | decide | omega) dX4_sales_12 ?_
  exact gRi F dX4_sales_13 (rfl) () (rfl) hP hD hS (Nat.le_refl _) (Nat.le_refl _)

set_option maxHeartbeats 4000000 in
set_option maxRecDepth 100000 in
theorem c_X4_floods (l : Launch) (G : gG) (mq : Nat) (an : Nat) (ap : Nat) (st : Nat) (ak : Nat) (ai : Nat) (ad : Nat) (ac : Nat) (aw : Nat) (mn : Nat) (at_ : Nat) (le : Nat) (th : Nat) (sp : Nat) (ao : Nat) (tm : Nat) (nw : Nat → Nat) : gMi (S := Unit) l yX4_floods wsX4_floods { frames := 0, cells := 0, slots := 0, locals := 0 } G [.ref mq] [(mq, .inr (4, [.ref an, .ref ap, .int (nI st), .ref ak, .ref ai, .ref ad, .ref ac, .ref aw, .int (nI mn), .ref at_, .int (nI le), .int (nI th), .int (nI sp), .ref ao, .int (nI tm)])), (an, .inl (G.2.1, 525, .inl (gn nw)))] (fun (r : Int32) (u : Unit) => (r = nI (nw 523))) (fun u => [(mq, .inr (4, [.ref an, .ref ap, .int (nI st), .ref ak, .ref ai, .ref ad, .ref ac, .ref aw, .int (nI mn), .ref at_, .int (nI le), .int (nI 0), .int (nI sp), .ref ao, .int (nI tm)])), (an, .inl (G.2.1, 525, .inl (gn nw)))]) 0 0 := by
  refine gMet_mk (cc := cX4_floods) (nL := 1) (ret := (some .int)) (Qc := fun A => va_Qi (S := Unit) (fun (r : Int32) (u : Unit) => (r = nI (nw 523))) (gB G A (fun (u : Unit) => [(mq, .inr (4, [.ref an, .ref ap, .int (nI st), .ref ak, .ref ai, .ref ad, .ref ac, .ref aw, .int (nI mn), .ref at_, .int (nI le), .int (nI 0), .int (nI sp), .ref ao, .int (nI tm)])), (an, .inl (G.2.1, 525, .inl (gn nw)))])) A) (by decide) rfl (Nat.le_of_ble_eq_true rfl) ?_
  intro p e s m args below meth c A F ls hl hP hD hS
  have hx := F.1
  have hb := F.2.1
  have hts := F.2.2.2.2.2.2.1
  have hown : s.vm.findClass RX4 = some m.cls := F.2.2.2.2.2.1
  have hKK := F.2.2.2.2.2.2.2.2.1
  have hK := hKK.1
  have hin0 := F.2.2.2.2.2.2.2.1
  have hi4 : ∀ w ∈ u_ws RX4 TX4 15, w ∈ wsX4_floods := by decide +kernel
  have hl : lv_has ls 1 [(0, .ref mq)] := hl
  generalize hH : s.heap = H at hP ⊢
  have hS : va_S A s.heap H [] := by rw [← hH]; exact va_S.rf
  generalize hLo : ([] : List Loc) = locs at hS ⊢
  refine lv_aload_n hx hb dX4_floods_0 rfl (lv_at hl 0 rfl) ?_
  refine lv_iconst (v := nI 0) hx hb dX4_floods_1 (by decide) ?_
  refine va_put (D := G.1) (ci := 4) (v := .int (nI 0)) (ty := .int) (C := RX4) (T := TX4) (N := 15) hx hb hts hi4 tyX4 tyX4_ok nmX4 hown hK hP hD hS 0 rfl rfl 11 (by decide) (hts (.fieldLink RX4 37 "LandQuartersModel" "thrown" "I") (by decide +kernel)) (fun _ h9 => h9) rfl (by decide +kernel) (rfl) (rfl) (Nat.le_of_ble_eq_true rfl) dX4_floods_2 (fun H locs hP hD hS => ?_)
  have hP : va_P G.1 vwCl [(mq, .inr (4, [.ref an, .ref ap, .int (nI st), .ref ak, .ref ai, .ref ad, .ref ac, .ref aw, .int (nI mn), .ref at_, .int (nI le), .int (nI 0), .int (nI sp), .ref ao, .int (nI tm)])), (an, .inl (G.2.1, 525, .inl (gn nw)))] H := hP
  have hD : va_D A [(mq, .inr (4, [.ref an, .ref ap, .int (nI st), .ref ak, .ref ai, .ref ad, .ref ac, .ref aw, .int (nI mn), .ref at_, .int (nI le), .int (nI 0), .int (nI sp), .ref ao, .int (nI tm)])), (an, .inl (G.2.1, 525, .inl (gn nw)))] := hD
  refine lv_aload_n hx hb dX4_floods_5 rfl (lv_at hl 0 rfl) ?_
  refine va_get (D := G.1) (ci := 4) (v := .ref an) (C := RX4) (T := TX4) (N := 15) hx hb hts hi4 hown hK hP 0 rfl rfl 0 (by decide) (hts (.fieldLink RX4 7 "LandQuartersModel" "now" "[I") (by decide +kernel)) (fun _ h9 => h9) rfl dX4_floods_6 ?_
  refine lv_sipush (v := nI 523) hx hb dX4_floods_9 (by decide) ?_
  refine gNald (k := 523) hx hb hK hP 1 0 rfl rfl (by omega) (by first | decide | omega) dX4_floods_12 ?_
  exact gRi F dX4_floods_13 (rfl) () (rfl) hP hD hS (Nat.le_refl _) (Nat.le_refl _)

set_option maxHeartbeats 4000000 in
set_option maxRecDepth 100000 in
theorem c_X4_plotsLost (l : Launch) (G : gG) (mq : Nat) (an : Nat) (ap : Nat) (st : Nat) (ak : Nat) (ai : Nat) (ad : Nat) (ac : Nat) (aw : Nat) (mn : Nat) (at_ : Nat) (le : Nat) (th : Nat) (sp : Nat) (ao : Nat) (tm : Nat) (nw : Nat → Nat) : gMi (S := Unit) l yX4_plotsLost wsX4_plotsLost { frames := 0, cells := 0, slots := 0, locals := 0 } G [.ref mq] [(mq, .inr (4, [.ref an, .ref ap, .int (nI st), .ref ak, .ref ai, .ref ad, .ref ac, .ref aw, .int (nI mn), .ref at_, .int (nI le), .int (nI th), .int (nI sp), .ref ao, .int (nI tm)])), (an, .inl (G.2.1, 525, .inl (gn nw)))] (fun (r : Int32) (u : Unit) => (r = nI (nw 524))) (fun u => [(mq, .inr (4, [.ref an, .ref ap, .int (nI st), .ref ak, .ref ai, .ref ad, .ref ac, .ref aw, .int (nI mn), .ref at_, .int (nI le), .int (nI 0), .int (nI sp), .ref ao, .int (nI tm)])), (an, .inl (G.2.1, 525, .inl (gn nw)))]) 0 0 := by
  refine gMet_mk (cc := cX4_plotsLost) (nL := 1) (ret := (some .int)) (Qc := fun A => va_Qi (S := Unit) (fun (r : Int32) (u : Unit) => (r = nI (nw 524))) (gB G A (fun (u : Unit) => [(mq, .inr (4, [.ref an, .ref ap, .int (nI st), .ref ak, .ref ai, .ref ad, .ref ac, .ref aw, .int (nI mn), .ref at_, .int (nI le), .int (nI 0), .int (nI sp), .ref ao, .int (nI tm)])), (an, .inl (G.2.1, 525, .inl (gn nw)))])) A) (by decide) rfl (Nat.le_of_ble_eq_true rfl) ?_
  intro p e s m args below meth c A F ls hl hP hD hS
  have hx := F.1
  have hb := F.2.1
  have hts := F.2.2.2.2.2.2.1
  have hown : s.vm.findClass RX4 = some m.cls := F.2.2.2.2.2.1
  have hKK := F.2.2.2.2.2.2.2.2.1
  have hK := hKK.1
  have hin0 := F.2.2.2.2.2.2.2.1
  have hi4 : ∀ w ∈ u_ws RX4 TX4 15, w ∈ wsX4_plotsLost := by decide +kernel
  have hl : lv_has ls 1 [(0, .ref mq)] := hl
  generalize hH : s.heap = H at hP ⊢
  have hS : va_S A s.heap H [] := by rw [← hH]; exact va_S.rf
  generalize hLo : ([] : List Loc) = locs at hS ⊢
  refine lv_aload_n hx hb dX4_plotsLost_0 rfl (lv_at hl 0 rfl) ?_
  refine lv_iconst (v := nI 0) hx hb dX4_plotsLost_1 (by decide) ?_
  refine va_put (D := G.1) (ci := 4) (v := .int (nI 0)) (ty := .int) (C := RX4) (T := TX4) (N := 15) hx hb hts hi4 tyX4 tyX4_ok nmX4 hown hK hP hD hS 0 rfl rfl 11 (by decide) (hts (.fieldLink RX4 37 "LandQuartersModel" "thrown" "I") (by decide +kernel)) (fun _ h9 => h9) rfl (by decide +kernel) (rfl) (rfl) (Nat.le_of_ble_eq_true rfl) dX4_plotsLost_2 (fun H locs hP hD hS => ?_)
  have hP : va_P G.1 vwCl [(mq, .inr (4, [.ref an, .ref ap, .int (nI st), .ref ak, .ref ai, .ref ad, .ref ac, .ref aw, .int (nI mn), .ref at_, .int (nI le), .int (nI 0), .int (nI sp), .ref ao, .int (nI tm)])), (an, .inl (G.2.1, 525, .inl (gn nw)))] H := hP
  have hD : va_D A [(mq, .inr (4, [.ref an, .ref ap, .int (nI st), .ref ak, .ref ai, .ref ad, .ref ac, .ref aw, .int (nI mn), .ref at_, .int (nI le), .int (nI 0), .int (nI sp), .ref ao, .int (nI tm)])), (an, .inl (G.2.1, 525, .inl (gn nw)))] := hD
  refine lv_aload_n hx hb dX4_plotsLost_5 rfl (lv_at hl 0 rfl) ?_
  refine va_get (D := G.1) (ci := 4) (v := .ref an) (C := RX4) (T := TX4) (N := 15) hx hb hts hi4 hown hK hP 0 rfl rfl 0 (by decide) (hts (.fieldLink RX4 7 "LandQuartersModel" "now" "[I") (by decide +kernel)) (fun _ h9 => h9) rfl dX4_plotsLost_6 ?_
  refine lv_sipush (v := nI 524) hx hb dX4_plotsLost_9 (by decide) ?_
  refine gNald (k := 524) hx hb hK hP 1 0 rfl rfl (by omega) (by first | decide | omega) dX4_plotsLost_12 ?_
  exact gRi F dX4_plotsLost_13 (rfl) () (rfl) hP hD hS (Nat.le_refl _) (Nat.le_refl _)

set_option maxHeartbeats 4000000 in
set_option maxRecDepth 100000 in
theorem c_X4_lowCells (l : Launch) (G : gG) (mq : Nat) (an : Nat) (ap : Nat) (st : Nat) (ak : Nat) (ai : Nat) (ad : Nat) (ac : Nat) (aw : Nat) (mn : Nat) (at_ : Nat) (le : Nat) (th : Nat) (sp : Nat) (ao : Nat) (tm : Nat) (nw : Nat → Nat) (o : Nat) (lv : Nat) (how : ∀ k, k < 256 → nw k < 8) (hhe : ∀ k, k < 256 → nw (256 + k) < 10) (ho : o < 8) (hlv : 1 ≤ lv ∧ lv ≤ 10) : gMi (S := Unit) l yX4_lowCells wsX4_lowCells { frames := 2, cells := 0, slots := 0, locals := 42 } G [.ref mq, .int (nI o), .int (nI lv)] [(mq, .inr (4, [.ref an, .ref ap, .int (nI st), .ref ak, .ref ai, .ref ad, .ref ac, .ref aw, .int (nI mn), .ref at_, .int (nI le), .int (nI th), .int (nI sp), .ref ao, .int (nI tm)])), (an, .inl (G.2.1, 525, .inl (gn nw)))] (fun (r : Int32) (u : Unit) => (r = nI (sBelow nw (hM nw) o lv 256))) (fun u => [(mq, .inr (4, [.ref an, .ref ap, .int (nI st), .ref ak, .ref ai, .ref ad, .ref ac, .ref aw, .int (nI mn), .ref at_, .int (nI le), .int (nI 0), .int (nI sp), .ref ao, .int (nI tm)])), (an, .inl (G.2.1, 525, .inl (gn nw)))]) 0 0 := by
  refine gMet_mk (cc := cX4_lowCells) (nL := 3) (ret := (some .int)) (Qc := fun A => va_Qi (S := Unit) (fun (r : Int32) (u : Unit) => (r = nI (sBelow nw (hM nw) o lv 256))) (gB G A (fun (u : Unit) => [(mq, .inr (4, [.ref an, .ref ap, .int (nI st), .ref ak, .ref ai, .ref ad, .ref ac, .ref aw, .int (nI mn), .ref at_, .int (nI le), .int (nI 0), .int (nI sp), .ref ao, .int (nI tm)])), (an, .inl (G.2.1, 525, .inl (gn nw)))])) A) (by decide) rfl (Nat.le_of_ble_eq_true rfl) ?_
  intro p e s m args below meth c A F ls hl hP hD hS
  have hx := F.1
  have hb := F.2.1
  have hts := F.2.2.2.2.2.2.1
  have hown : s.vm.findClass RX4 = some m.cls := F.2.2.2.2.2.1
  have hKK := F.2.2.2.2.2.2.2.2.1
  have hK := hKK.1
  have hin0 := F.2.2.2.2.2.2.2.1
  have hi4 : ∀ w ∈ u_ws RX4 TX4 15, w ∈ wsX4_lowCells := by decide +kernel
  have hl : lv_has ls 3 [(0, .ref mq), (1, .int (nI o)), (2, .int (nI lv))] := hl
  generalize hH : s.heap = H at hP ⊢
  have hS : va_S A s.heap H [] := by rw [← hH]; exact va_S.rf
  generalize hLo : ([] : List Loc) = locs at hS ⊢
  refine lv_aload_n hx hb dX4_lowCells_0 rfl (lv_at hl 0 rfl) ?_
  refine lv_iconst (v := nI 0) hx hb dX4_lowCells_1 (by decide) ?_
  refine va_put (D := G.1) (ci := 4) (v := .int (nI 0)) (ty := .int) (C := RX4) (T := TX4) (N := 15) hx hb hts hi4 tyX4 tyX4_ok nmX4 hown hK hP hD hS 0 rfl rfl 11 (by decide) (hts (.fieldLink RX4 37 "LandQuartersModel" "thrown" "I") (by decide +kernel)) (fun _ h9 => h9) rfl (by decide +kernel) (rfl) (rfl) (Nat.le_of_ble_eq_true rfl) dX4_lowCells_2 (fun H locs hP hD hS => ?_)
  have hP : va_P G.1 vwCl [(mq, .inr (4, [.ref an, .ref ap, .int (nI st), .ref ak, .ref ai, .ref ad, .ref ac, .ref aw, .int (nI mn), .ref at_, .int (nI le), .int (nI 0), .int (nI sp), .ref ao, .int (nI tm)])), (an, .inl (G.2.1, 525, .inl (gn nw)))] H := hP
  have hD : va_D A [(mq, .inr (4, [.ref an, .ref ap, .int (nI st), .ref ak, .ref ai, .ref ad, .ref ac, .ref aw, .int (nI mn), .ref at_, .int (nI le), .int (nI 0), .int (nI sp), .ref ao, .int (nI tm)])), (an, .inl (G.2.1, 525, .inl (gn nw)))] := hD
  refine lv_iload_n hx hb dX4_lowCells_5 rfl (lv_at hl 1 rfl) ?_
  refine W.eq (g2 := F0 m 6 ls [.int (zI ((o : Nat) : Int))]) (by simp only [zI_nat, zI_neg1]) ?_
  refine gCi F (gRunS (own := RX4) (bytes := cX4_isOwner) (n := 1) (As := [.int (zI ((o : Nat) : Int))]) (rest := []) F (c_X4_isOwner l G ((o : Nat) : Int) (by first | assumption | omega) H.size) gX4_lowCells_X4_isOwner rfl rfl rfl rfl (by decide +kernel) rfl ⟨Nat.le_of_ble_eq_true rfl, Nat.le_of_ble_eq_true rfl⟩ hP hD (lit := [(mq, .inr (4, [.ref an, .ref ap, .int (nI st), .ref ak, .ref ai, .ref ad, .ref ac, .ref aw, .int (nI mn), .ref at_, .int (nI le), .int (nI 0), .int (nI sp), .ref ao, .int (nI tm)])), (an, .inl (G.2.1, 525, .inl (gn nw)))]) (wt := []) (wc := []) (isC := []) rfl (by decide) rfl hl.1 (Nat.le_of_ble_eq_true rfl) dX4_lowCells_6 ⟨Nat.le_of_ble_eq_true rfl, Nat.le_of_ble_eq_true rfl⟩) hP hD hS (lit := [(mq, .inr (4, [.ref an, .ref ap, .int (nI st), .ref ak, .ref ai, .ref ad, .ref ac, .ref aw, .int (nI mn), .ref at_, .int (nI le), .int (nI 0), .int (nI sp), .ref ao, .int (nI tm)])), (an, .inl (G.2.1, 525, .inl (gn nw)))]) (wt := []) (wc := []) (wr := [(mq, .inr (4, [.ref an, .ref ap, .int (nI st), .ref ak, .ref ai, .ref ad, .ref ac, .ref aw, .int (nI mn), .ref at_, .int (nI le), .int (nI 0), .int (nI sp), .ref ao, .int (nI tm)])), (an, .inl (G.2.1, 525, .inl (gn nw)))]) (isC := []) (isR := [0, 1]) rfl rfl (by decide) (by decide) (fun r6 u H locs hp6 hP hD hS => ?_)
  subst hp6
  have hP : va_P G.1 vwCl [(mq, .inr (4, [.ref an, .ref ap, .int (nI st), .ref ak, .ref ai, .ref ad, .ref ac, .ref aw, .int (nI mn), .ref at_, .int (nI le), .int (nI 0), .int (nI sp), .ref ao, .int (nI tm)])), (an, .inl (G.2.1, 525, .inl (gn nw)))] H := hP
  have hD : va_D A [(mq, .inr (4, [.ref an, .ref ap, .int (nI st), .ref ak, .ref ai, .ref ad, .ref ac, .ref aw, .int (nI mn), .ref at_, .int (nI le), .int (nI 0), .int (nI sp), .ref ao, .int (nI tm)])), (an, .inl (G.2.1, 525, .inl (gn nw)))] := hD
  refine gIfB_ne (P := (0 ≤ ((o : Nat) : Int) ∧ ((o : Nat) : Int) < 8)) (tgt := 18) hx hb dX4_lowCells_9 (by decide) (fun c9 => ?_) (fun c9 => ?_)
  · skip
    refine lv_iload_n hx hb dX4_lowCells_18 rfl (lv_at hl 2 rfl) ?_
    refine lv_iconst (v := nI 1) hx hb dX4_lowCells_19 (by decide) ?_
    refine lv_bipush (v := nI 10) hx hb dX4_lowCells_20 (by decide) ?_
    refine W.eq (g2 := F0 m 22 ls [.int (zI ((10 : Nat) : Int)), .int (zI ((1 : Nat) : Int)), .int (zI ((lv : Nat) : Int))]) (by simp only [zI_nat, zI_neg1]) ?_
    refine gCi F (gRunS (own := RX4) (bytes := cX4_in) (n := 3) (As := [.int (zI ((lv : Nat) : Int)), .int (zI ((1 : Nat) : Int)), .int (zI ((10 : Nat) : Int))]) (rest := []) F (c_X4_in l G ((lv : Nat) : Int) ((1 : Nat) : Int) ((10 : Nat) : Int) (by first | assumption | omega) (by first | assumption | omega) (by first | assumption | omega) H.size) gX4_lowCells_X4_in rfl rfl rfl rfl (by decide +kernel) rfl ⟨Nat.le_of_ble_eq_true rfl, Nat.le_of_ble_eq_true rfl⟩ hP hD (lit := [(mq, .inr (4, [.ref an, .ref ap, .int (nI st), .ref ak, .ref ai, .ref ad, .ref ac, .ref aw, .int (nI mn), .ref at_, .int (nI le), .int (nI 0), .int (nI sp), .ref ao, .int (nI tm)])), (an, .inl (G.2.1, 525, .inl (gn nw)))]) (wt := []) (wc := []) (isC := []) rfl (by decide) rfl hl.1 (Nat.le_of_ble_eq_true rfl) dX4_lowCells_22 ⟨Nat.le_of_ble_eq_true rfl, Nat.le_of_ble_eq_true rfl⟩) hP hD hS (lit := [(mq, .inr (4, [.ref an, .ref ap, .int (nI st), .ref ak, .ref ai, .ref ad, .ref ac, .ref aw, .int (nI mn), .ref at_, .int (nI le), .int (nI 0), .int (nI sp), .ref ao, .int (nI tm)])), (an, .inl (G.2.1, 525, .inl (gn nw)))]) (wt := []) (wc := []) (wr := [(mq, .inr (4, [.ref an, .ref ap, .int (nI st), .ref ak, .ref ai, .ref ad, .ref ac, .ref aw, .int (nI mn), .ref at_, .int (nI le), .int (nI 0), .int (nI sp), .ref ao, .int (nI tm)])), (an, .inl (G.2.1, 525, .inl (gn nw)))]) (isC := []) (isR := [0, 1]) rfl rfl (by decide) (by decide) (fun r22 u H locs hp22 hP hD hS => ?_)
    subst hp22
    have hP : va_P G.1 vwCl [(mq, .inr (4, [.ref an, .ref ap, .int (nI st), .ref ak, .ref ai, .ref ad, .ref ac, .ref aw, .int (nI mn), .ref at_, .int (nI le), .int (nI 0), .int (nI sp), .ref ao, .int (nI tm)])), (an, .inl (G.2.1, 525, .inl (gn nw)))] H := hP
    have hD : va_D A [(mq, .inr (4, [.ref an, .ref ap, .int (nI st), .ref ak, .ref ai, .ref ad, .ref ac, .ref aw, .int (nI mn), .ref at_, .int (nI le), .int (nI 0), .int (nI sp), .ref ao, .int (nI tm)])), (an, .inl (G.2.1, 525, .inl (gn nw)))] := hD
    refine gIfB_eq (P := (((1 : Nat) : Int) ≤ ((lv : Nat) : Int) ∧ ((lv : Nat) : Int) ≤ ((10 : Nat) : Int))) (tgt := 37) hx hb dX4_lowCells_25 (by decide) (fun c25 => ?_) (fun c25 => ?_)
    · skip
      refine lv_aload_n hx hb dX4_lowCells_37 rfl (lv_at hl 0 rfl) ?_
      refine lv_iconst (v := nI 2) hx hb dX4_lowCells_38 (by decide) ?_
      exfalso; omega
    refine lv_aload_n hx hb dX4_lowCells_28 rfl (lv_at hl 0 rfl) ?_
    refine lv_iload_n hx hb dX4_lowCells_29 rfl (lv_at hl 1 rfl) ?_
    refine lv_iload_n hx hb dX4_lowCells_30 rfl (lv_at hl 2 rfl) ?_
    refine gCi F (gRunV (own := RX4) (C := RX4) (ci := 4) (bytes := cX4_low) (n := 2) (As := [.int (nI o), .int (nI lv)]) (rest := []) F (c_X4_low l G mq an ap st ak ai ad ac aw mn at_ le 0 sp ao tm nw o lv (by first | assumption | omega) (by first | assumption | omega) (by first | assumption | omega) (by first | assumption | omega) H.size) gX4_lowCells_X4_low rfl rfl rfl rfl (by decide +kernel) rfl ⟨Nat.le_of_ble_eq_true rfl, Nat.le_of_ble_eq_true rfl⟩ hP hD (lit := [(mq, .inr (4, [.ref an, .ref ap, .int (nI st), .ref ak, .ref ai, .ref ad, .ref ac, .ref aw, .int (nI mn), .ref at_, .int (nI le), .int (nI 0), .int (nI sp), .ref ao, .int (nI tm)])), (an, .inl (G.2.1, 525, .inl (gn nw)))]) (wt := []) (wc := [(mq, .inr (4, [.ref an, .ref ap, .int (nI st), .ref ak, .ref ai, .ref ad, .ref ac, .ref aw, .int (nI mn), .ref at_, .int (nI le), .int (nI 0), .int (nI sp), .ref ao, .int (nI tm)])), (an, .inl (G.2.1, 525, .inl (gn nw)))]) (isC := [0, 1]) rfl (by decide) rfl rfl rfl hl.1 (Nat.le_of_ble_eq_true rfl) dX4_lowCells_31 ⟨Nat.le_of_ble_eq_true rfl, Nat.le_of_ble_eq_true rfl⟩) hP hD hS (lit := [(mq, .inr (4, [.ref an, .ref ap, .int (nI st), .ref ak, .ref ai, .ref ad, .ref ac, .ref aw, .int (nI mn), .ref at_, .int (nI le), .int (nI 0), .int (nI sp), .ref ao, .int (nI tm)])), (an, .inl (G.2.1, 525, .inl (gn nw)))]) (wt := []) (wc := [(mq, .inr (4, [.ref an, .ref ap, .int (nI st), .ref ak, .ref ai, .ref ad, .ref ac, .ref aw, .int (nI mn), .ref at_, .int (nI le), .int (nI 0), .int (nI sp), .ref ao, .int (nI tm)])), (an, .inl (G.2.1, 525, .inl (gn nw)))]) (wr := []) (isC := [0, 1]) (isR := []) rfl rfl (by decide) (by decide) (fun r31 u H locs hp31 hP hD hS => ?_)
    subst hp31
    have hP : va_P G.1 vwCl [(mq, .inr (4, [.ref an, .ref ap, .int (nI st), .ref ak, .ref ai, .ref ad, .ref ac, .ref aw, .int (nI mn), .ref at_, .int (nI le), .int (nI 0), .int (nI sp), .ref ao, .int (nI tm)])), (an, .inl (G.2.1, 525, .inl (gn nw)))] H := hP
    have hD : va_D A [(mq, .inr (4, [.ref an, .ref ap, .int (nI st), .ref ak, .ref ai, .ref ad, .ref ac, .ref aw, .int (nI mn), .ref at_, .int (nI le), .int (nI 0), .int (nI sp), .ref ao, .int (nI tm)])), (an, .inl (G.2.1, 525, .inl (gn nw)))] := hD
    refine lv_goto (tgt := 42) hx hb dX4_lowCells_34 (by decide) ?_
    exact gRi F dX4_lowCells_42 (rfl) () (rfl) hP hD hS (Nat.le_refl _) (Nat.le_refl _)
  refine lv_aload_n hx hb dX4_lowCells_12 rfl (lv_at hl 0 rfl) ?_
  refine lv_iconst (v := nI 1) hx hb dX4_lowCells_13 (by decide) ?_
  exfalso; omega

set_option maxHeartbeats 4000000 in
set_option maxRecDepth 100000 in
theorem f1_X4_lowCells (l : Launch) (G : gG) (mq : Nat) (an : Nat) (ap : Nat) (st : Nat) (ak : Nat) (ai : Nat) (ad : Nat) (ac : Nat) (aw : Nat) (mn : Nat) (at_ : Nat) (le : Nat) (th : Nat) (sp : Nat) (ao : Nat) (tm : Nat) (o : Int) (lv : Int) (ho : -2147483648 ≤ o ∧ o < 2147483648) (hlv : -2147483648 ≤ lv ∧ lv < 2147483648) (hcond0 : ¬(0 ≤ o ∧ o < 8)) : gMi (S := Unit) l yX4_lowCells wsX4_lowCells { frames := 2, cells := 0, slots := 0, locals := 42 } G [.ref mq, .int (zI o), .int (zI lv)] [(mq, .inr (4, [.ref an, .ref ap, .int (nI st), .ref ak, .ref ai, .ref ad, .ref ac, .ref aw, .int (nI mn), .ref at_, .int (nI le), .int (nI th), .int (nI sp), .ref ao, .int (nI tm)]))] (fun (r : Int32) (u : Unit) => (r = nI 0)) (fun u => [(mq, .inr (4, [.ref an, .ref ap, .int (nI st), .ref ak, .ref ai, .ref ad, .ref ac, .ref aw, .int (nI mn), .ref at_, .int (nI le), .int (nI 1), .int (nI sp), .ref ao, .int (nI tm)]))]) 0 0 := by
  refine gMet_mk (cc := cX4_lowCells) (nL := 3) (ret := (some .int)) (Qc := fun A => va_Qi (S := Unit) (fun (r : Int32) (u : Unit) => (r = nI 0)) (gB G A (fun (u : Unit) => [(mq, .inr (4, [.ref an, .ref ap, .int (nI st), .ref ak, .ref ai, .ref ad, .ref ac, .ref aw, .int (nI mn), .ref at_, .int (nI le), .int (nI 1), .int (nI sp), .ref ao, .int (nI tm)]))])) A) (by decide) rfl (Nat.le_of_ble_eq_true rfl) ?_
  intro p e s m args below meth c A F ls hl hP hD hS
  have hx := F.1
  have hb := F.2.1
  have hts := F.2.2.2.2.2.2.1
  have hown : s.vm.findClass RX4 = some m.cls := F.2.2.2.2.2.1
  have hKK := F.2.2.2.2.2.2.2.2.1
  have hK := hKK.1
  have hin0 := F.2.2.2.2.2.2.2.1
  have hi4 : ∀ w ∈ u_ws RX4 TX4 15, w ∈ wsX4_lowCells := by decide +kernel
  have hl : lv_has ls 3 [(0, .ref mq), (1, .int (zI o)), (2, .int (zI lv))] := hl
  generalize hH : s.heap = H at hP ⊢
  have hS : va_S A s.heap H [] := by rw [← hH]; exact va_S.rf
  generalize hLo : ([] : List Loc) = locs at hS ⊢
  refine lv_aload_n hx hb dX4_lowCells_0 rfl (lv_at hl 0 rfl) ?_
  refine lv_iconst (v := nI 0) hx hb dX4_lowCells_1 (by decide) ?_
  refine va_put (D := G.1) (ci := 4) (v := .int (nI 0)) (ty := .int) (C := RX4) (T := TX4) (N := 15) hx hb hts hi4 tyX4 tyX4_ok nmX4 hown hK hP hD hS 0 rfl rfl 11 (by decide) (hts (.fieldLink RX4 37 "LandQuartersModel" "thrown" "I") (by decide +kernel)) (fun _ h9 => h9) rfl (by decide +kernel) (rfl) (rfl) (Nat.le_of_ble_eq_true rfl) dX4_lowCells_2 (fun H locs hP hD hS => ?_)
  have hP : va_P G.1 vwCl [(mq, .inr (4, [.ref an, .ref ap, .int (nI st), .ref ak, .ref ai, .ref ad, .ref ac, .ref aw, .int (nI mn), .ref at_, .int (nI le), .int (nI 0), .int (nI sp), .ref ao, .int (nI tm)]))] H := hP
  have hD : va_D A [(mq, .inr (4, [.ref an, .ref ap, .int (nI st), .ref ak, .ref ai, .ref ad, .ref ac, .ref aw, .int (nI mn), .ref at_, .int (nI le), .int (nI 0), .int (nI sp), .ref ao, .int (nI tm)]))] := hD
  refine lv_iload_n hx hb dX4_lowCells_5 rfl (lv_at hl 1 rfl) ?_
  refine gCi F (gRunS (own := RX4) (bytes := cX4_isOwner) (n := 1) (As := [.int (zI o)]) (rest := []) F (c_X4_isOwner l G o (by first | assumption | omega) H.size) gX4_lowCells_X4_isOwner rfl rfl rfl rfl (by decide +kernel) rfl ⟨Nat.le_of_ble_eq_true rfl, Nat.le_of_ble_eq_true rfl⟩ hP hD (lit := [(mq, .inr (4, [.ref an, .ref ap, .int (nI st), .ref ak, .ref ai, .ref ad, .ref ac, .ref aw, .int (nI mn), .ref at_, .int (nI le), .int (nI 0), .int (nI sp), .ref ao, .int (nI tm)]))]) (wt := []) (wc := []) (isC := []) rfl (by decide) rfl hl.1 (Nat.le_of_ble_eq_true rfl) dX4_lowCells_6 ⟨Nat.le_of_ble_eq_true rfl, Nat.le_of_ble_eq_true rfl⟩) hP hD hS (lit := [(mq, .inr (4, [.ref an, .ref ap, .int (nI st), .ref ak, .ref ai, .ref ad, .ref ac, .ref aw, .int (nI mn), .ref at_, .int (nI le), .int (nI 0), .int (nI sp), .ref ao, .int (nI tm)]))]) (wt := []) (wc := []) (wr := [(mq, .inr (4, [.ref an, .ref ap, .int (nI st), .ref ak, .ref ai, .ref ad, .ref ac, .ref aw, .int (nI mn), .ref at_, .int (nI le), .int (nI 0), .int (nI sp), .ref ao, .int (nI tm)]))]) (isC := []) (isR := [0]) rfl rfl (by decide) (by decide) (fun r6 u H locs hp6 hP hD hS => ?_)
  subst hp6
  have hP : va_P G.1 vwCl [(mq, .inr (4, [.ref an, .ref ap, .int (nI st), .ref ak, .ref ai, .ref ad, .ref ac, .ref aw, .int (nI mn), .ref at_, .int (nI le), .int (nI 0), .int (nI sp), .ref ao, .int (nI tm)]))] H := hP
  have hD : va_D A [(mq, .inr (4, [.ref an, .ref ap, .int (nI st), .ref ak, .ref ai, .ref ad, .ref ac, .ref aw, .int (nI mn), .ref at_, .int (nI le), .int (nI 0), .int (nI sp), .ref ao, .int (nI tm)]))] := hD
  refine gIfB_ne (P := (0 ≤ o ∧ o < 8)) (tgt := 18) hx hb dX4_lowCells_9 (by decide) (fun c9 => ?_) (fun c9 => ?_)
  · skip
    refine lv_iload_n hx hb dX4_lowCells_18 rfl (lv_at hl 2 rfl) ?_
    refine lv_iconst (v := nI 1) hx hb dX4_lowCells_19 (by decide) ?_
    refine lv_bipush (v := nI 10) hx hb dX4_lowCells_20 (by decide) ?_
    refine W.eq (g2 := F0 m 22 ls [.int (zI ((10 : Nat) : Int)), .int (zI ((1 : Nat) : Int)), .int (zI lv)]) (by simp only [zI_nat, zI_neg1]) ?_
    refine gCi F (gRunS (own := RX4) (bytes := cX4_in) (n := 3) (As := [.int (zI lv), .int (zI ((1 : Nat) : Int)), .int (zI ((10 : Nat) : Int))]) (rest := []) F (c_X4_in l G lv ((1 : Nat) : Int) ((10 : Nat) : Int) (by first | assumption | omega) (by first | assumption | omega) (by first | assumption | omega) H.size) gX4_lowCells_X4_in rfl rfl rfl rfl (by decide +kernel) rfl ⟨Nat.le_of_ble_eq_true rfl, Nat.le_of_ble_eq_true rfl⟩ hP hD (lit := [(mq, .inr (4, [.ref an, .ref ap, .int (nI st), .ref ak, .ref ai, .ref ad, .ref ac, .ref aw, .int (nI mn), .ref at_, .int (nI le), .int (nI 0), .int (nI sp), .ref ao, .int (nI tm)]))]) (wt := []) (wc := []) (isC := []) rfl (by decide) rfl hl.1 (Nat.le_of_ble_eq_true rfl) dX4_lowCells_22 ⟨Nat.le_of_ble_eq_true rfl, Nat.le_of_ble_eq_true rfl⟩) hP hD hS (lit := [(mq, .inr (4, [.ref an, .ref ap, .int (nI st), .ref ak, .ref ai, .ref ad, .ref ac, .ref aw, .int (nI mn), .ref at_, .int (nI le), .int (nI 0), .int (nI sp), .ref ao, .int (nI tm)]))]) (wt := []) (wc := []) (wr := [(mq, .inr (4, [.ref an, .ref ap, .int (nI st), .ref ak, .ref ai, .ref ad, .ref ac, .ref aw, .int (nI mn), .ref at_, .int (nI le), .int (nI 0), .int (nI sp), .ref ao, .int (nI tm)]))]) (isC := []) (isR := [0]) rfl rfl (by decide) (by decide) (fun r22 u H locs hp22 hP hD hS => ?_)
    subst hp22
    have hP : va_P G.1 vwCl [(mq, .inr (4, [.ref an, .ref ap, .int (nI st), .ref ak, .ref ai, .ref ad, .ref ac, .ref aw, .int (nI mn), .ref at_, .int (nI le), .int (nI 0), .int (nI sp), .ref ao, .int (nI tm)]))] H := hP
    have hD : va_D A [(mq, .inr (4, [.ref an, .ref ap, .int (nI st), .ref ak, .ref ai, .ref ad, .ref ac, .ref aw, .int (nI mn), .ref at_, .int (nI le), .int (nI 0), .int (nI sp), .ref ao, .int (nI tm)]))] := hD
    refine gIfB_eq (P := (((1 : Nat) : Int) ≤ lv ∧ lv ≤ ((10 : Nat) : Int))) (tgt := 37) hx hb dX4_lowCells_25 (by decide) (fun c25 => ?_) (fun c25 => ?_)
    · skip
      refine lv_aload_n hx hb dX4_lowCells_37 rfl (lv_at hl 0 rfl) ?_
      refine lv_iconst (v := nI 2) hx hb dX4_lowCells_38 (by decide) ?_
      exfalso; omega
    refine lv_aload_n hx hb dX4_lowCells_28 rfl (lv_at hl 0 rfl) ?_
    refine lv_iload_n hx hb dX4_lowCells_29 rfl (lv_at hl 1 rfl) ?_
    refine lv_iload_n hx hb dX4_lowCells_30 rfl (lv_at hl 2 rfl) ?_
    exfalso; omega
  refine lv_aload_n hx hb dX4_lowCells_12 rfl (lv_at hl 0 rfl) ?_
  refine lv_iconst (v := nI 1) hx hb dX4_lowCells_13 (by decide) ?_
  refine gCi F (gRunV (own := RX4) (C := RX4) (ci := 4) (bytes := cX4_refuses) (n := 1) (As := [.int (nI 1)]) (rest := []) F (c_X4_refuses l G mq an ap st ak ai ad ac aw mn at_ le 0 sp ao tm 1  H.size) gX4_lowCells_X4_refuses rfl rfl rfl rfl (by decide +kernel) rfl ⟨Nat.le_of_ble_eq_true rfl, Nat.le_of_ble_eq_true rfl⟩ hP hD (lit := [(mq, .inr (4, [.ref an, .ref ap, .int (nI st), .ref ak, .ref ai, .ref ad, .ref ac, .ref aw, .int (nI mn), .ref at_, .int (nI le), .int (nI 0), .int (nI sp), .ref ao, .int (nI tm)]))]) (wt := []) (wc := [(mq, .inr (4, [.ref an, .ref ap, .int (nI st), .ref ak, .ref ai, .ref ad, .ref ac, .ref aw, .int (nI mn), .ref at_, .int (nI le), .int (nI 0), .int (nI sp), .ref ao, .int (nI tm)]))]) (isC := [0]) rfl (by decide) rfl rfl rfl hl.1 (Nat.le_of_ble_eq_true rfl) dX4_lowCells_14 ⟨Nat.le_of_ble_eq_true rfl, Nat.le_of_ble_eq_true rfl⟩) hP hD hS (lit := [(mq, .inr (4, [.ref an, .ref ap, .int (nI st), .ref ak, .ref ai, .ref ad, .ref ac, .ref aw, .int (nI mn), .ref at_, .int (nI le), .int (nI 0), .int (nI sp), .ref ao, .int (nI tm)]))]) (wt := []) (wc := [(mq, .inr (4, [.ref an, .ref ap, .int (nI st), .ref ak, .ref ai, .ref ad, .ref ac, .ref aw, .int (nI mn), .ref at_, .int (nI le), .int (nI 0), .int (nI sp), .ref ao, .int (nI tm)]))]) (wr := []) (isC := [0]) (isR := []) rfl rfl (by decide) (by decide) (fun r14 u H locs hp14 hP hD hS => ?_)
  subst hp14
  have hP : va_P G.1 vwCl [(mq, .inr (4, [.ref an, .ref ap, .int (nI st), .ref ak, .ref ai, .ref ad, .ref ac, .ref aw, .int (nI mn), .ref at_, .int (nI le), .int (nI 1), .int (nI sp), .ref ao, .int (nI tm)]))] H := hP
  have hD : va_D A [(mq, .inr (4, [.ref an, .ref ap, .int (nI st), .ref ak, .ref ai, .ref ad, .ref ac, .ref aw, .int (nI mn), .ref at_, .int (nI le), .int (nI 1), .int (nI sp), .ref ao, .int (nI tm)]))] := hD
  exact gRi F dX4_lowCells_17 (rfl) () (rfl) hP hD hS (Nat.le_refl _) (Nat.le_refl _)

set_option maxHeartbeats 4000000 in
set_option maxRecDepth 100000 in
theorem f2_X4_lowCells (l : Launch) (G : gG) (mq : Nat) (an : Nat) (ap : Nat) (st : Nat) (ak : Nat) (ai : Nat) (ad : Nat) (ac : Nat) (aw : Nat) (mn : Nat) (at_ : Nat) (le : Nat) (th : Nat) (sp : Nat) (ao : Nat) (tm : Nat) (o : Int) (lv : Int) (ho : -2147483648 ≤ o ∧ o < 2147483648) (hlv : -2147483648 ≤ lv ∧ lv < 2147483648) (hcond0 : 0 ≤ o ∧ o < 8) (hcond1 : ¬(1 ≤ lv ∧ lv ≤ 10)) : gMi (S := Unit) l yX4_lowCells wsX4_lowCells { frames := 2, cells := 0, slots := 0, locals := 42 } G [.ref mq, .int (zI o), .int (zI lv)] [(mq, .inr (4, [.ref an, .ref ap, .int (nI st), .ref ak, .ref ai, .ref ad, .ref ac, .ref aw, .int (nI mn), .ref at_, .int (nI le), .int (nI th), .int (nI sp), .ref ao, .int (nI tm)]))] (fun (r : Int32) (u : Unit) => (r = nI 0)) (fun u => [(mq, .inr (4, [.ref an, .ref ap, .int (nI st), .ref ak, .ref ai, .ref ad, .ref ac, .ref aw, .int (nI mn), .ref at_, .int (nI le), .int (nI 2), .int (nI sp), .ref ao, .int (nI tm)]))]) 0 0 := by
  refine gMet_mk (cc := cX4_lowCells) (nL := 3) (ret := (some .int)) (Qc := fun A => va_Qi (S := Unit) (fun (r : Int32) (u : Unit) => (r = nI 0)) (gB G A (fun (u : Unit) => [(mq, .inr (4, [.ref an, .ref ap, .int (nI st), .ref ak, .ref ai, .ref ad, .ref ac, .ref aw, .int (nI mn), .ref at_, .int (nI le), .int (nI 2), .int (nI sp), .ref ao, .int (nI tm)]))])) A) (by decide) rfl (Nat.le_of_ble_eq_true rfl) ?_
  intro p e s m args below meth c A F ls hl hP hD hS
  have hx := F.1
  have hb := F.2.1
  have hts := F.2.2.2.2.2.2.1
  have hown : s.vm.findClass RX4 = some m.cls := F.2.2.2.2.2.1
  have hKK := F.2.2.2.2.2.2.2.2.1
  have hK := hKK.1
  have hin0 := F.2.2.2.2.2.2.2.1
  have hi4 : ∀ w ∈ u_ws RX4 TX4 15, w ∈ wsX4_lowCells := by decide +kernel
  have hl : lv_has ls 3 [(0, .ref mq), (1, .int (zI o)), (2, .int (zI lv))] := hl
  generalize hH : s.heap = H at hP ⊢
  have hS : va_S A s.heap H [] := by rw [← hH]; exact va_S.rf
  generalize hLo : ([] : List Loc) = locs at hS ⊢
  refine lv_aload_n hx hb dX4_lowCells_0 rfl (lv_at hl 0 rfl) ?_
  refine lv_iconst (v := nI 0) hx hb dX4_lowCells_1 (by decide) ?_
  refine va_put (D := G.1) (ci := 4) (v := .int (nI 0)) (ty := .int) (C := RX4) (T := TX4) (N := 15) hx hb hts hi4 tyX4 tyX4_ok nmX4 hown hK hP hD hS 0 rfl rfl 11 (by decide) (hts (.fieldLink RX4 37 "LandQuartersModel" "thrown" "I") (by decide +kernel)) (fun _ h9 => h9) rfl (by decide +kernel) (rfl) (rfl) (Nat.le_of_ble_eq_true rfl) dX4_lowCells_2 (fun H locs hP hD hS => ?_)
  have hP : va_P G.1 vwCl [(mq, .inr (4, [.ref an, .ref ap, .int (nI st), .ref ak, .ref ai, .ref ad, .ref ac, .ref aw, .int (nI mn), .ref at_, .int (nI le), .int (nI 0), .int (nI sp), .ref ao, .int (nI tm)]))] H := hP
  have hD : va_D A [(mq, .inr (4, [.ref an, .ref ap, .int (nI st), .ref ak, .ref ai, .ref ad, .ref ac, .ref aw, .int (nI mn), .ref at_, .int (nI le), .int (nI 0), .int (nI sp), .ref ao, .int (nI tm)]))] := hD
  refine lv_iload_n hx hb dX4_lowCells_5 rfl (lv_at hl 1 rfl) ?_
  refine gCi F (gRunS (own := RX4) (bytes := cX4_isOwner) (n := 1) (As := [.int (zI o)]) (rest := []) F (c_X4_isOwner l G o (by first | assumption | omega) H.size) gX4_lowCells_X4_isOwner rfl rfl rfl rfl (by decide +kernel) rfl ⟨Nat.le_of_ble_eq_true rfl, Nat.le_of_ble_eq_true rfl⟩ hP hD (lit := [(mq, .inr (4, [.ref an, .ref ap, .int (nI st), .ref ak, .ref ai, .ref ad, .ref ac, .ref aw, .int (nI mn), .ref at_, .int (nI le), .int (nI 0), .int (nI sp), .ref ao, .int (nI tm)]))]) (wt := []) (wc := []) (isC := []) rfl (by decide) rfl hl.1 (Nat.le_of_ble_eq_true rfl) dX4_lowCells_6 ⟨Nat.le_of_ble_eq_true rfl, Nat.le_of_ble_eq_true rfl⟩) hP hD hS (lit := [(mq, .inr (4, [.ref an, .ref ap, .int (nI st), .ref ak, .ref ai, .ref ad, .ref ac, .ref aw, .int (nI mn), .ref at_, .int (nI le), .int (nI 0), .int (nI sp), .ref ao, .int (nI tm)]))]) (wt := []) (wc := []) (wr := [(mq, .inr (4, [.ref an, .ref ap, .int (nI st), .ref ak, .ref ai, .ref ad, .ref ac, .ref aw, .int (nI mn), .ref at_, .int (nI le), .int (nI 0), .int (nI sp), .ref ao, .int (nI tm)]))]) (isC := []) (isR := [0]) rfl rfl (by decide) (by decide) (fun r6 u H locs hp6 hP hD hS => ?_)
  subst hp6
  have hP : va_P G.1 vwCl [(mq, .inr (4, [.ref an, .ref ap, .int (nI st), .ref ak, .ref ai, .ref ad, .ref ac, .ref aw, .int (nI mn), .ref at_, .int (nI le), .int (nI 0), .int (nI sp), .ref ao, .int (nI tm)]))] H := hP
  have hD : va_D A [(mq, .inr (4, [.ref an, .ref ap, .int (nI st), .ref ak, .ref ai, .ref ad, .ref ac, .ref aw, .int (nI mn), .ref at_, .int (nI le), .int (nI 0), .int (nI sp), .ref ao, .int (nI tm)]))] := hD
  refine gIfB_ne (P := (0 ≤ o ∧ o < 8)) (tgt := 18) hx hb dX4_lowCells_9 (by decide) (fun c9 => ?_) (fun c9 => ?_)
  · skip
    refine lv_iload_n hx hb dX4_lowCells_18 rfl (lv_at hl 2 rfl) ?_
    refine lv_iconst (v := nI 1) hx hb dX4_lowCells_19 (by decide) ?_
    refine lv_bipush (v := nI 10) hx hb dX4_lowCells_20 (by decide) ?_
    refine W.eq (g2 := F0 m 22 ls [.int (zI ((10 : Nat) : Int)), .int (zI ((1 : Nat) : Int)), .int (zI lv)]) (by simp only [zI_nat, zI_neg1]) ?_
    refine gCi F (gRunS (own := RX4) (bytes := cX4_in) (n := 3) (As := [.int (zI lv), .int (zI ((1 : Nat) : Int)), .int (zI ((10 : Nat) : Int))]) (rest := []) F (c_X4_in l G lv ((1 : Nat) : Int) ((10 : Nat) : Int) (by first | assumption | omega) (by first | assumption | omega) (by first | assumption | omega) H.size) gX4_lowCells_X4_in rfl rfl rfl rfl (by decide +kernel) rfl ⟨Nat.le_of_ble_eq_true rfl, Nat.le_of_ble_eq_true rfl⟩ hP hD (lit := [(mq, .inr (4, [.ref an, .ref ap, .int (nI st), .ref ak, .ref ai, .ref ad, .ref ac, .ref aw, .int (nI mn), .ref at_, .int (nI le), .int (nI 0), .int (nI sp), .ref ao, .int (nI tm)]))]) (wt := []) (wc := []) (isC := []) rfl (by decide) rfl hl.1 (Nat.le_of_ble_eq_true rfl) dX4_lowCells_22 ⟨Nat.le_of_ble_eq_true rfl, Nat.le_of_ble_eq_true rfl⟩) hP hD hS (lit := [(mq, .inr (4, [.ref an, .ref ap, .int (nI st), .ref ak, .ref ai, .ref ad, .ref ac, .ref aw, .int (nI mn), .ref at_, .int (nI le), .int (nI 0), .int (nI sp), .ref ao, .int (nI tm)]))]) (wt := []) (wc := []) (wr := [(mq, .inr (4, [.ref an, .ref ap, .int (nI st), .ref ak, .ref ai, .ref ad, .ref ac, .ref aw, .int (nI mn), .ref at_, .int (nI le), .int (nI 0), .int (nI sp), .ref ao, .int (nI tm)]))]) (isC := []) (isR := [0]) rfl rfl (by decide) (by decide) (fun r22 u H locs hp22 hP hD hS => ?_)
    subst hp22
    have hP : va_P G.1 vwCl [(mq, .inr (4, [.ref an, .ref ap, .int (nI st), .ref ak, .ref ai, .ref ad, .ref ac, .ref aw, .int (nI mn), .ref at_, .int (nI le), .int (nI 0), .int (nI sp), .ref ao, .int (nI tm)]))] H := hP
    have hD : va_D A [(mq, .inr (4, [.ref an, .ref ap, .int (nI st), .ref ak, .ref ai, .ref ad, .ref ac, .ref aw, .int (nI mn), .ref at_, .int (nI le), .int (nI 0), .int (nI sp), .ref ao, .int (nI tm)]))] := hD
    refine gIfB_eq (P := (((1 : Nat) : Int) ≤ lv ∧ lv ≤ ((10 : Nat) : Int))) (tgt := 37) hx hb dX4_lowCells_25 (by decide) (fun c25 => ?_) (fun c25 => ?_)
    · skip
      refine lv_aload_n hx hb dX4_lowCells_37 rfl (lv_at hl 0 rfl) ?_
      refine lv_iconst (v := nI 2) hx hb dX4_lowCells_38 (by decide) ?_
      refine gCi F (gRunV (own := RX4) (C := RX4) (ci := 4) (bytes := cX4_refuses) (n := 1) (As := [.int (nI 2)]) (rest := []) F (c_X4_refuses l G mq an ap st ak ai ad ac aw mn at_ le 0 sp ao tm 2  H.size) gX4_lowCells_X4_refuses rfl rfl rfl rfl (by decide +kernel) rfl ⟨Nat.le_of_ble_eq_true rfl, Nat.le_of_ble_eq_true rfl⟩ hP hD (lit := [(mq, .inr (4, [.ref an, .ref ap, .int (nI st), .ref ak, .ref ai, .ref ad, .ref ac, .ref aw, .int (nI mn), .ref at_, .int (nI le), .int (nI 0), .int (nI sp), .ref ao, .int (nI tm)]))]) (wt := []) (wc := [(mq, .inr (4, [.ref an, .ref ap, .int (nI st), .ref ak, .ref ai, .ref ad, .ref ac, .ref aw, .int (nI mn), .ref at_, .int (nI le), .int (nI 0), .int (nI sp), .ref ao, .int (nI tm)]))]) (isC := [0]) rfl (by decide) rfl rfl rfl hl.1 (Nat.le_of_ble_eq_true rfl) dX4_lowCells_39 ⟨Nat.le_of_ble_eq_true rfl, Nat.le_of_ble_eq_true rfl⟩) hP hD hS (lit := [(mq, .inr (4, [.ref an, .ref ap, .int (nI st), .ref ak, .ref ai, .ref ad, .ref ac, .ref aw, .int (nI mn), .ref at_, .int (nI le), .int (nI 0), .int (nI sp), .ref ao, .int (nI tm)]))]) (wt := []) (wc := [(mq, .inr (4, [.ref an, .ref ap, .int (nI st), .ref ak, .ref ai, .ref ad, .ref ac, .ref aw, .int (nI mn), .ref at_, .int (nI le), .int (nI 0), .int (nI sp), .ref ao, .int (nI tm)]))]) (wr := []) (isC := [0]) (isR := []) rfl rfl (by decide) (by decide) (fun r39 u H locs hp39 hP hD hS => ?_)
      subst hp39
      have hP : va_P G.1 vwCl [(mq, .inr (4, [.ref an, .ref ap, .int (nI st), .ref ak, .ref ai, .ref ad, .ref ac, .ref aw, .int (nI mn), .ref at_, .int (nI le), .int (nI 2), .int (nI sp), .ref ao, .int (nI tm)]))] H := hP
      have hD : va_D A [(mq, .inr (4, [.ref an, .ref ap, .int (nI st), .ref ak, .ref ai, .ref ad, .ref ac, .ref aw, .int (nI mn), .ref at_, .int (nI le), .int (nI 2), .int (nI sp), .ref ao, .int (nI tm)]))] := hD
      exact gRi F dX4_lowCells_42 (rfl) () (rfl) hP hD hS (Nat.le_refl _) (Nat.le_refl _)
    exfalso; omega
  refine lv_aload_n hx hb dX4_lowCells_12 rfl (lv_at hl 0 rfl) ?_
  refine lv_iconst (v := nI 1) hx hb dX4_lowCells_13 (by decide) ?_
  exfalso; omega

set_option maxHeartbeats 4000000 in
set_option maxRecDepth 100000 in
theorem c_X4_wouldBePlots (l : Launch) (G : gG) (mq : Nat) (an : Nat) (ap : Nat) (st : Nat) (ak : Nat) (ai : Nat) (ad : Nat) (ac : Nat) (aw : Nat) (mn : Nat) (at_ : Nat) (le : Nat) (th : Nat) (sp : Nat) (ao : Nat) (tm : Nat) (nw : Nat → Nat) (as_ : Nat → Nat) (pC : Nat → Nat) (pW : Nat → Nat) (lv : Nat) (how : ∀ k, k < 256 → nw k < 8) (hhe : ∀ k, k < 256 → nw (256 + k) < 10) (hlv : 1 ≤ lv ∧ lv ≤ 10) : gMi (S := (Nat) × (Nat → Nat) × (Nat → Nat) × (Nat → Nat)) l yX4_wouldBePlots wsX4_wouldBePlots { frames := 3, cells := 0, slots := 0, locals := 66 } G [.ref mq, .int (nI lv)] [(mq, .inr (4, [.ref an, .ref ap, .int (nI st), .ref ak, .ref ai, .ref ad, .ref ac, .ref aw, .int (nI mn), .ref at_, .int (nI le), .int (nI th), .int (nI sp), .ref ao, .int (nI tm)])), (an, .inl (G.2.1, 525, .inl (gn nw))), (ad, .inl (G.2.1, 525, .inl (gn as_))), (ac, .inl (G.2.1, 256, .inl (gn pC))), (aw, .inl (G.2.1, 256, .inl (gn pW)))] (fun (r : Int32) (u : (Nat) × (Nat → Nat) × (Nat → Nat) × (Nat → Nat)) => (r = nI (cnt (flM nw lv)))) (fun u => [(mq, .inr (4, [.ref an, .ref ap, .int (nI st), .ref ak, .ref ai, .ref ad, .ref ac, .ref aw, .int (nI u.1), .ref at_, .int (nI le), .int (nI th), .int (nI sp), .ref ao, .int (nI tm)])), (an, .inl (G.2.1, 525, .inl (gn nw))), (ad, .inl (G.2.1, 525, .inl (gn u.2.1))), (ac, .inl (G.2.1, 256, .inl (gn u.2.2.1))), (aw, .inl (G.2.1, 256, .inl (gn u.2.2.2)))]) 0 0 := by
  refine gMet_mk (cc := cX4_wouldBePlots) (nL := 4) (ret := (some .int)) (Qc := fun A => va_Qi (S := (Nat) × (Nat → Nat) × (Nat → Nat) × (Nat → Nat)) (fun (r : Int32) (u : (Nat) × (Nat → Nat) × (Nat → Nat) × (Nat → Nat)) => (r = nI (cnt (flM nw lv)))) (gB G A (fun (u : (Nat) × (Nat → Nat) × (Nat → Nat) × (Nat → Nat)) => [(mq, .inr (4, [.ref an, .ref ap, .int (nI st), .ref ak, .ref ai, .ref ad, .ref ac, .ref aw, .int (nI u.1), .ref at_, .int (nI le), .int (nI th), .int (nI sp), .ref ao, .int (nI tm)])), (an, .inl (G.2.1, 525, .inl (gn nw))), (ad, .inl (G.2.1, 525, .inl (gn u.2.1))), (ac, .inl (G.2.1, 256, .inl (gn u.2.2.1))), (aw, .inl (G.2.1, 256, .inl (gn u.2.2.2)))])) A) (by decide) rfl (Nat.le_of_ble_eq_true rfl) ?_
  intro p e s m args below meth c A F ls hl hP hD hS
  have hx := F.1
  have hb := F.2.1
  have hts := F.2.2.2.2.2.2.1
  have hown : s.vm.findClass RX4 = some m.cls := F.2.2.2.2.2.1
  have hKK := F.2.2.2.2.2.2.2.2.1
  have hK := hKK.1
  have hin0 := F.2.2.2.2.2.2.2.1
  have hi4 : ∀ w ∈ u_ws RX4 TX4 15, w ∈ wsX4_wouldBePlots := by decide +kernel
  have hl : lv_has ls 4 [(0, .ref mq), (1, .int (nI lv))] := hl
  have hfl := (by intro k hk; show va_up _ 523 _ k < 8; rw [gu_n _ _ (by omega)]; show (if k < 256 then _ else _) < 8; rw [if_pos hk]; unfold drOw; split; (omega); (exact how k hk) : ∀ k, k < 256 → flM nw lv k < 8)
  generalize hH : s.heap = H at hP ⊢
  have hS : va_S A s.heap H [] := by rw [← hH]; exact va_S.rf
  generalize hLo : ([] : List Loc) = locs at hS ⊢
  refine lv_aload_n hx hb dX4_wouldBePlots_0 rfl (lv_at hl 0 rfl) ?_
  refine va_get (D := G.1) (ci := 4) (v := .ref an) (C := RX4) (T := TX4) (N := 15) hx hb hts hi4 hown hK hP 0 rfl rfl 0 (by decide) (hts (.fieldLink RX4 7 "LandQuartersModel" "now" "[I") (by decide +kernel)) (fun _ h9 => h9) rfl dX4_wouldBePlots_1 ?_
  refine lv_iconst (v := nI 0) hx hb dX4_wouldBePlots_4 (by decide) ?_
  refine lv_aload_n hx hb dX4_wouldBePlots_5 rfl (lv_at hl 0 rfl) ?_
  refine va_get (D := G.1) (ci := 4) (v := .ref ad) (C := RX4) (T := TX4) (N := 15) hx hb hts hi4 hown hK hP 0 rfl rfl 5 (by decide) (hts (.fieldLink RX4 22 "LandQuartersModel" "aside" "[I") (by decide +kernel)) (fun _ h9 => h9) rfl dX4_wouldBePlots_6 ?_
  refine lv_iconst (v := nI 0) hx hb dX4_wouldBePlots_9 (by decide) ?_
  refine gCv F (gRunS (own := RX4) (bytes := cX4_lays) (n := 4) (As := [.ref an, .int (nI 0), .ref ad, .int (nI 0)]) (rest := []) F (c_X4_lays l G an 525 nw 0 ad 525 as_ 0 (by first | assumption | omega) (by first | assumption | omega) (by first | assumption | omega) (by first | assumption | omega) H.size) gX4_wouldBePlots_X4_lays rfl rfl rfl rfl (by decide +kernel) rfl ⟨Nat.le_of_ble_eq_true rfl, Nat.le_of_ble_eq_true rfl⟩ hP hD (lit := [(mq, .inr (4, [.ref an, .ref ap, .int (nI st), .ref ak, .ref ai, .ref ad, .ref ac, .ref aw, .int (nI mn), .ref at_, .int (nI le), .int (nI th), .int (nI sp), .ref ao, .int (nI tm)])), (an, .inl (G.2.1, 525, .inl (gn nw))), (ad, .inl (G.2.1, 525, .inl (gn as_))), (ac, .inl (G.2.1, 256, .inl (gn pC))), (aw, .inl (G.2.1, 256, .inl (gn pW)))]) (wt := []) (wc := [(an, .inl (G.2.1, 525, .inl (gn nw))), (ad, .inl (G.2.1, 525, .inl (gn as_)))]) (isC := [1, 2]) rfl (by decide) rfl hl.1 (Nat.le_of_ble_eq_true rfl) dX4_wouldBePlots_10 ⟨Nat.le_of_ble_eq_true rfl, Nat.le_of_ble_eq_true rfl⟩) hP hD hS (lit := [(mq, .inr (4, [.ref an, .ref ap, .int (nI st), .ref ak, .ref ai, .ref ad, .ref ac, .ref aw, .int (nI mn), .ref at_, .int (nI le), .int (nI th), .int (nI sp), .ref ao, .int (nI tm)])), (an, .inl (G.2.1, 525, .inl (gn nw))), (ad, .inl (G.2.1, 525, .inl (gn as_))), (ac, .inl (G.2.1, 256, .inl (gn pC))), (aw, .inl (G.2.1, 256, .inl (gn pW)))]) (wt := []) (wc := [(an, .inl (G.2.1, 525, .inl (gn nw))), (ad, .inl (G.2.1, 525, .inl (gn as_)))]) (wr := [(mq, .inr (4, [.ref an, .ref ap, .int (nI st), .ref ak, .ref ai, .ref ad, .ref ac, .ref aw, .int (nI mn), .ref at_, .int (nI le), .int (nI th), .int (nI sp), .ref ao, .int (nI tm)])), (ac, .inl (G.2.1, 256, .inl (gn pC))), (aw, .inl (G.2.1, 256, .inl (gn pW)))]) (isC := [1, 2]) (isR := [0, 3, 4]) rfl rfl (by decide) (by decide) (fun u H locs hp10 hP hD hS => ?_)
  have hP : va_P G.1 vwCl [(mq, .inr (4, [.ref an, .ref ap, .int (nI st), .ref ak, .ref ai, .ref ad, .ref ac, .ref aw, .int (nI mn), .ref at_, .int (nI le), .int (nI th), .int (nI sp), .ref ao, .int (nI tm)])), (ac, .inl (G.2.1, 256, .inl (gn pC))), (aw, .inl (G.2.1, 256, .inl (gn pW))), (an, .inl (G.2.1, 525, .inl (gn nw))), (ad, .inl (G.2.1, 525, .inl (gn (layF nw 0 as_ 0))))] H := hP
  have hD : va_D A [(mq, .inr (4, [.ref an, .ref ap, .int (nI st), .ref ak, .ref ai, .ref ad, .ref ac, .ref aw, .int (nI mn), .ref at_, .int (nI le), .int (nI th), .int (nI sp), .ref ao, .int (nI tm)])), (ac, .inl (G.2.1, 256, .inl (gn pC))), (aw, .inl (G.2.1, 256, .inl (gn pW))), (an, .inl (G.2.1, 525, .inl (gn nw))), (ad, .inl (G.2.1, 525, .inl (gn (layF nw 0 as_ 0))))] := hD
  refine lv_aload_n hx hb dX4_wouldBePlots_13 rfl (lv_at hl 0 rfl) ?_
  refine lv_iload_n hx hb dX4_wouldBePlots_14 rfl (lv_at hl 1 rfl) ?_
  refine gCi F (gRunV (own := RX4) (C := RX4) (ci := 4) (bytes := cX4_floodsTo) (n := 1) (As := [.int (nI lv)]) (rest := []) F (c_X4_floodsTo l G mq an ap st ak ai ad ac aw mn at_ le th sp ao tm nw lv (by first | assumption | omega) (by first | assumption | omega) (by first | assumption | omega) H.size) gX4_wouldBePlots_X4_floodsTo rfl rfl rfl rfl (by decide +kernel) rfl ⟨Nat.le_of_ble_eq_true rfl, Nat.le_of_ble_eq_true rfl⟩ hP hD (lit := [(mq, .inr (4, [.ref an, .ref ap, .int (nI st), .ref ak, .ref ai, .ref ad, .ref ac, .ref aw, .int (nI mn), .ref at_, .int (nI le), .int (nI th), .int (nI sp), .ref ao, .int (nI tm)])), (ac, .inl (G.2.1, 256, .inl (gn pC))), (aw, .inl (G.2.1, 256, .inl (gn pW))), (an, .inl (G.2.1, 525, .inl (gn nw))), (ad, .inl (G.2.1, 525, .inl (gn (layF nw 0 as_ 0))))]) (wt := []) (wc := [(mq, .inr (4, [.ref an, .ref ap, .int (nI st), .ref ak, .ref ai, .ref ad, .ref ac, .ref aw, .int (nI mn), .ref at_, .int (nI le), .int (nI th), .int (nI sp), .ref ao, .int (nI tm)])), (an, .inl (G.2.1, 525, .inl (gn nw)))]) (isC := [0, 3]) rfl (by decide) rfl rfl rfl hl.1 (Nat.le_of_ble_eq_true rfl) dX4_wouldBePlots_15 ⟨Nat.le_of_ble_eq_true rfl, Nat.le_of_ble_eq_true rfl⟩) hP hD hS (lit := [(mq, .inr (4, [.ref an, .ref ap, .int (nI st), .ref ak, .ref ai, .ref ad, .ref ac, .ref aw, .int (nI mn), .ref at_, .int (nI le), .int (nI th), .int (nI sp), .ref ao, .int (nI tm)])), (ac, .inl (G.2.1, 256, .inl (gn pC))), (aw, .inl (G.2.1, 256, .inl (gn pW))), (an, .inl (G.2.1, 525, .inl (gn nw))), (ad, .inl (G.2.1, 525, .inl (gn (layF nw 0 as_ 0))))]) (wt := []) (wc := [(mq, .inr (4, [.ref an, .ref ap, .int (nI st), .ref ak, .ref ai, .ref ad, .ref ac, .ref aw, .int (nI mn), .ref at_, .int (nI le), .int (nI th), .int (nI sp), .ref ao, .int (nI tm)])), (an, .inl (G.2.1, 525, .inl (gn nw)))]) (wr := [(ac, .inl (G.2.1, 256, .inl (gn pC))), (aw, .inl (G.2.1, 256, .inl (gn pW))), (ad, .inl (G.2.1, 525, .inl (gn (layF nw 0 as_ 0))))]) (isC := [0, 3]) (isR := [1, 2, 4]) rfl rfl (by decide) (by decide) (fun r15 u H locs hp15 hP hD hS => ?_)
  subst hp15
  have hP : va_P G.1 vwCl [(ac, .inl (G.2.1, 256, .inl (gn pC))), (aw, .inl (G.2.1, 256, .inl (gn pW))), (ad, .inl (G.2.1, 525, .inl (gn (layF nw 0 as_ 0)))), (mq, .inr (4, [.ref an, .ref ap, .int (nI st), .ref ak, .ref ai, .ref ad, .ref ac, .ref aw, .int (nI mn), .ref at_, .int (nI le), .int (nI th), .int (nI sp), .ref ao, .int (nI tm)])), (an, .inl (G.2.1, 525, .inl (gn (flM nw lv))))] H := hP
  have hD : va_D A [(ac, .inl (G.2.1, 256, .inl (gn pC))), (aw, .inl (G.2.1, 256, .inl (gn pW))), (ad, .inl (G.2.1, 525, .inl (gn (layF nw 0 as_ 0)))), (mq, .inr (4, [.ref an, .ref ap, .int (nI st), .ref ak, .ref ai, .ref ad, .ref ac, .ref aw, .int (nI mn), .ref at_, .int (nI le), .int (nI th), .int (nI sp), .ref ao, .int (nI tm)])), (an, .inl (G.2.1, 525, .inl (gn (flM nw lv))))] := hD
  refine lv_istore_n (lv' := [(2, .int (nI (drLost nw (hM nw) lv 256))), (0, .ref mq), (1, .int (nI lv))]) hx hb dX4_wouldBePlots_18 rfl hl (by decide) rfl (fun ls hl => ?_)
  refine lv_aload_n hx hb dX4_wouldBePlots_19 rfl (lv_at hl 1 rfl) ?_
  refine gCi F (gRunV (own := RX4) (C := RX4) (ci := 4) (bytes := cX4_allPlots) (n := 0) (As := []) (rest := []) F (c_X4_allPlots l G mq an ap st ak ai ad ac aw mn at_ le th sp ao tm (flM nw lv) pC pW (hfl) H.size) gX4_wouldBePlots_X4_allPlots rfl rfl rfl rfl (by decide +kernel) rfl ⟨Nat.le_of_ble_eq_true rfl, Nat.le_of_ble_eq_true rfl⟩ hP hD (lit := [(ac, .inl (G.2.1, 256, .inl (gn pC))), (aw, .inl (G.2.1, 256, .inl (gn pW))), (ad, .inl (G.2.1, 525, .inl (gn (layF nw 0 as_ 0)))), (mq, .inr (4, [.ref an, .ref ap, .int (nI st), .ref ak, .ref ai, .ref ad, .ref ac, .ref aw, .int (nI mn), .ref at_, .int (nI le), .int (nI th), .int (nI sp), .ref ao, .int (nI tm)])), (an, .inl (G.2.1, 525, .inl (gn (flM nw lv))))]) (wt := []) (wc := [(mq, .inr (4, [.ref an, .ref ap, .int (nI st), .ref ak, .ref ai, .ref ad, .ref ac, .ref aw, .int (nI mn), .ref at_, .int (nI le), .int (nI th), .int (nI sp), .ref ao, .int (nI tm)])), (an, .inl (G.2.1, 525, .inl (gn (flM nw lv)))), (ac, .inl (G.2.1, 256, .inl (gn pC))), (aw, .inl (G.2.1, 256, .inl (gn pW)))]) (isC := [3, 4, 0, 1]) rfl (by decide) rfl rfl rfl hl.1 (Nat.le_of_ble_eq_true rfl) dX4_wouldBePlots_20 ⟨Nat.le_of_ble_eq_true rfl, Nat.le_of_ble_eq_true rfl⟩) hP hD hS (lit := [(ac, .inl (G.2.1, 256, .inl (gn pC))), (aw, .inl (G.2.1, 256, .inl (gn pW))), (ad, .inl (G.2.1, 525, .inl (gn (layF nw 0 as_ 0)))), (mq, .inr (4, [.ref an, .ref ap, .int (nI st), .ref ak, .ref ai, .ref ad, .ref ac, .ref aw, .int (nI mn), .ref at_, .int (nI le), .int (nI th), .int (nI sp), .ref ao, .int (nI tm)])), (an, .inl (G.2.1, 525, .inl (gn (flM nw lv))))]) (wt := []) (wc := [(mq, .inr (4, [.ref an, .ref ap, .int (nI st), .ref ak, .ref ai, .ref ad, .ref ac, .ref aw, .int (nI mn), .ref at_, .int (nI le), .int (nI th), .int (nI sp), .ref ao, .int (nI tm)])), (an, .inl (G.2.1, 525, .inl (gn (flM nw lv)))), (ac, .inl (G.2.1, 256, .inl (gn pC))), (aw, .inl (G.2.1, 256, .inl (gn pW)))]) (wr := [(ad, .inl (G.2.1, 525, .inl (gn (layF nw 0 as_ 0))))]) (isC := [3, 4, 0, 1]) (isR := [2]) rfl rfl (by decide) (by decide) (fun r20 u H locs hp20 hP hD hS => ?_)
  obtain ⟨pc1, pw1⟩ := u
  try dsimp only at hp20
  obtain ⟨rfl, hp20_0⟩ := hp20
  have hP : va_P G.1 vwCl [(ad, .inl (G.2.1, 525, .inl (gn (layF nw 0 as_ 0)))), (mq, .inr (4, [.ref an, .ref ap, .int (nI st), .ref ak, .ref ai, .ref ad, .ref ac, .ref aw, .int (nI (cnt (flM nw lv))), .ref at_, .int (nI le), .int (nI th), .int (nI sp), .ref ao, .int (nI tm)])), (an, .inl (G.2.1, 525, .inl (gn (flM nw lv)))), (ac, .inl (G.2.1, 256, .inl (gn pc1))), (aw, .inl (G.2.1, 256, .inl (gn pw1)))] H := hP
  have hD : va_D A [(ad, .inl (G.2.1, 525, .inl (gn (layF nw 0 as_ 0)))), (mq, .inr (4, [.ref an, .ref ap, .int (nI st), .ref ak, .ref ai, .ref ad, .ref ac, .ref aw, .int (nI (cnt (flM nw lv))), .ref at_, .int (nI le), .int (nI th), .int (nI sp), .ref ao, .int (nI tm)])), (an, .inl (G.2.1, 525, .inl (gn (flM nw lv)))), (ac, .inl (G.2.1, 256, .inl (gn pc1))), (aw, .inl (G.2.1, 256, .inl (gn pw1)))] := hD
  refine lv_istore_n (lv' := [(3, .int (nI (cnt (flM nw lv)))), (2, .int (nI (drLost nw (hM nw) lv 256))), (0, .ref mq), (1, .int (nI lv))]) hx hb dX4_wouldBePlots_23 rfl hl (by decide) rfl (fun ls hl => ?_)
  refine lv_aload_n hx hb dX4_wouldBePlots_24 rfl (lv_at hl 2 rfl) ?_
  refine va_get (D := G.1) (ci := 4) (v := .ref ad) (C := RX4) (T := TX4) (N := 15) hx hb hts hi4 hown hK hP 1 rfl rfl 5 (by decide) (hts (.fieldLink RX4 22 "LandQuartersModel" "aside" "[I") (by decide +kernel)) (fun _ h9 => h9) rfl dX4_wouldBePlots_25 ?_
  refine lv_iconst (v := nI 0) hx hb dX4_wouldBePlots_28 (by decide) ?_
  refine lv_aload_n hx hb dX4_wouldBePlots_29 rfl (lv_at hl 2 rfl) ?_
  refine va_get (D := G.1) (ci := 4) (v := .ref an) (C := RX4) (T := TX4) (N := 15) hx hb hts hi4 hown hK hP 1 rfl rfl 0 (by decide) (hts (.fieldLink RX4 7 "LandQuartersModel" "now" "[I") (by decide +kernel)) (fun _ h9 => h9) rfl dX4_wouldBePlots_30 ?_
  refine lv_iconst (v := nI 0) hx hb dX4_wouldBePlots_33 (by decide) ?_
  refine gCv F (gRunS (own := RX4) (bytes := cX4_lays) (n := 4) (As := [.ref ad, .int (nI 0), .ref an, .int (nI 0)]) (rest := []) F (c_X4_lays l G ad 525 (layF nw 0 as_ 0) 0 an 525 (flM nw lv) 0 (by first | assumption | omega) (by first | assumption | omega) (by first | assumption | omega) (by first | assumption | omega) H.size) gX4_wouldBePlots_X4_lays rfl rfl rfl rfl (by decide +kernel) rfl ⟨Nat.le_of_ble_eq_true rfl, Nat.le_of_ble_eq_true rfl⟩ hP hD (lit := [(ad, .inl (G.2.1, 525, .inl (gn (layF nw 0 as_ 0)))), (mq, .inr (4, [.ref an, .ref ap, .int (nI st), .ref ak, .ref ai, .ref ad, .ref ac, .ref aw, .int (nI (cnt (flM nw lv))), .ref at_, .int (nI le), .int (nI th), .int (nI sp), .ref ao, .int (nI tm)])), (an, .inl (G.2.1, 525, .inl (gn (flM nw lv)))), (ac, .inl (G.2.1, 256, .inl (gn pc1))), (aw, .inl (G.2.1, 256, .inl (gn pw1)))]) (wt := []) (wc := [(ad, .inl (G.2.1, 525, .inl (gn (layF nw 0 as_ 0)))), (an, .inl (G.2.1, 525, .inl (gn (flM nw lv))))]) (isC := [0, 2]) rfl (by decide) rfl hl.1 (Nat.le_of_ble_eq_true rfl) dX4_wouldBePlots_34 ⟨Nat.le_of_ble_eq_true rfl, Nat.le_of_ble_eq_true rfl⟩) hP hD hS (lit := [(ad, .inl (G.2.1, 525, .inl (gn (layF nw 0 as_ 0)))), (mq, .inr (4, [.ref an, .ref ap, .int (nI st), .ref ak, .ref ai, .ref ad, .ref ac, .ref aw, .int (nI (cnt (flM nw lv))), .ref at_, .int (nI le), .int (nI th), .int (nI sp), .ref ao, .int (nI tm)])), (an, .inl (G.2.1, 525, .inl (gn (flM nw lv)))), (ac, .inl (G.2.1, 256, .inl (gn pc1))), (aw, .inl (G.2.1, 256, .inl (gn pw1)))]) (wt := []) (wc := [(ad, .inl (G.2.1, 525, .inl (gn (layF nw 0 as_ 0)))), (an, .inl (G.2.1, 525, .inl (gn (flM nw lv))))]) (wr := [(mq, .inr (4, [.ref an, .ref ap, .int (nI st), .ref ak, .ref ai, .ref ad, .ref ac, .ref aw, .int (nI (cnt (flM nw lv))), .ref at_, .int (nI le), .int (nI th), .int (nI sp), .ref ao, .int (nI tm)])), (ac, .inl (G.2.1, 256, .inl (gn pc1))), (aw, .inl (G.2.1, 256, .inl (gn pw1)))]) (isC := [0, 2]) (isR := [1, 3, 4]) rfl rfl (by decide) (by decide) (fun u H locs hp34 hP hD hS => ?_)
  have hP : va_P G.1 vwCl [(mq, .inr (4, [.ref an, .ref ap, .int (nI st), .ref ak, .ref ai, .ref ad, .ref ac, .ref aw, .int (nI (cnt (flM nw lv))), .ref at_, .int (nI le), .int (nI th), .int (nI sp), .ref ao, .int (nI tm)])), (ac, .inl (G.2.1, 256, .inl (gn pc1))), (aw, .inl (G.2.1, 256, .inl (gn pw1))), (ad, .inl (G.2.1, 525, .inl (gn (layF nw 0 as_ 0)))), (an, .inl (G.2.1, 525, .inl (gn (layF (layF nw 0 as_ 0) 0 (flM nw lv) 0))))] H := hP
  have hD : va_D A [(mq, .inr (4, [.ref an, .ref ap, .int (nI st), .ref ak, .ref ai, .ref ad, .ref ac, .ref aw, .int (nI (cnt (flM nw lv))), .ref at_, .int (nI le), .int (nI th), .int (nI sp), .ref ao, .int (nI tm)])), (ac, .inl (G.2.1, 256, .inl (gn pc1))), (aw, .inl (G.2.1, 256, .inl (gn pw1))), (ad, .inl (G.2.1, 525, .inl (gn (layF nw 0 as_ 0)))), (an, .inl (G.2.1, 525, .inl (gn (layF (layF nw 0 as_ 0) 0 (flM nw lv) 0))))] := hD
  refine lv_iload_n hx hb dX4_wouldBePlots_37 rfl (lv_at hl 1 rfl) ?_
  refine gIf_ge (a := drLost nw (hM nw) lv 256) (tgt := 45) hx hb dX4_wouldBePlots_38 (by decide) (by have := drLost_le nw (hM nw) lv 256; omega) (fun c38 => ?_) (fun c38 => ?_)
  · skip
    refine lv_iload_n hx hb dX4_wouldBePlots_45 rfl (lv_at hl 0 rfl) ?_
    have hP : va_P G.1 vwCl [(mq, .inr (4, [.ref an, .ref ap, .int (nI st), .ref ak, .ref ai, .ref ad, .ref ac, .ref aw, .int (nI (cnt (flM nw lv))), .ref at_, .int (nI le), .int (nI th), .int (nI sp), .ref ao, .int (nI tm)])), (an, .inl (G.2.1, 525, .inl (gn (layF (layF nw 0 as_ 0) 0 (flM nw lv) 0)))), (ad, .inl (G.2.1, 525, .inl (gn (layF nw 0 as_ 0)))), (ac, .inl (G.2.1, 256, .inl (gn pc1))), (aw, .inl (G.2.1, 256, .inl (gn pw1)))] H := hP.sub (ws' := [(mq, .inr (4, [.ref an, .ref ap, .int (nI st), .ref ak, .ref ai, .ref ad, .ref ac, .ref aw, .int (nI (cnt (flM nw lv))), .ref at_, .int (nI le), .int (nI th), .int (nI sp), .ref ao, .int (nI tm)])), (an, .inl (G.2.1, 525, .inl (gn (layF (layF nw 0 as_ 0) 0 (flM nw lv) 0)))), (ad, .inl (G.2.1, 525, .inl (gn (layF nw 0 as_ 0)))), (ac, .inl (G.2.1, 256, .inl (gn pc1))), (aw, .inl (G.2.1, 256, .inl (gn pw1)))]) [0, 4, 3, 1, 2] rfl
    have hD : va_D A [(mq, .inr (4, [.ref an, .ref ap, .int (nI st), .ref ak, .ref ai, .ref ad, .ref ac, .ref aw, .int (nI (cnt (flM nw lv))), .ref at_, .int (nI le), .int (nI th), .int (nI sp), .ref ao, .int (nI tm)])), (an, .inl (G.2.1, 525, .inl (gn (layF (layF nw 0 as_ 0) 0 (flM nw lv) 0)))), (ad, .inl (G.2.1, 525, .inl (gn (layF nw 0 as_ 0)))), (ac, .inl (G.2.1, 256, .inl (gn pc1))), (aw, .inl (G.2.1, 256, .inl (gn pw1)))] := hD.sub (ws' := [(mq, .inr (4, [.ref an, .ref ap, .int (nI st), .ref ak, .ref ai, .ref ad, .ref ac, .ref aw, .int (nI (cnt (flM nw lv))), .ref at_, .int (nI le), .int (nI th), .int (nI sp), .ref ao, .int (nI tm)])), (an, .inl (G.2.1, 525, .inl (gn (layF (layF nw 0 as_ 0) 0 (flM nw lv) 0)))), (ad, .inl (G.2.1, 525, .inl (gn (layF nw 0 as_ 0)))), (ac, .inl (G.2.1, 256, .inl (gn pc1))), (aw, .inl (G.2.1, 256, .inl (gn pw1)))]) [0, 4, 3, 1, 2] (by decide) rfl
    have hP := gEqN (q0 := 1) (f := layF (layF nw 0 as_ 0) 0 (flM nw lv) 0) (g := nw) rfl (by intro j hj; unfold layF; rw [if_pos (by omega), if_pos (by omega)]; congr 1; omega) hP
    have hD := va_D.set (p := 1) (e := .inl (G.2.1, 525, .inl (gn nw))) hD rfl
    have hP : va_P G.1 vwCl [(mq, .inr (4, [.ref an, .ref ap, .int (nI st), .ref ak, .ref ai, .ref ad, .ref ac, .ref aw, .int (nI (cnt (flM nw lv))), .ref at_, .int (nI le), .int (nI th), .int (nI sp), .ref ao, .int (nI tm)])), (an, .inl (G.2.1, 525, .inl (gn nw))), (ad, .inl (G.2.1, 525, .inl (gn (layF nw 0 as_ 0)))), (ac, .inl (G.2.1, 256, .inl (gn pc1))), (aw, .inl (G.2.1, 256, .inl (gn pw1)))] H := hP
    have hD : va_D A [(mq, .inr (4, [.ref an, .ref ap, .int (nI st), .ref ak, .ref ai, .ref ad, .ref ac, .ref aw, .int (nI (cnt (flM nw lv))), .ref at_, .int (nI le), .int (nI th), .int (nI sp), .ref ao, .int (nI tm)])), (an, .inl (G.2.1, 525, .inl (gn nw))), (ad, .inl (G.2.1, 525, .inl (gn (layF nw 0 as_ 0)))), (ac, .inl (G.2.1, 256, .inl (gn pc1))), (aw, .inl (G.2.1, 256, .inl (gn pw1)))] := hD
    exact gRi F dX4_wouldBePlots_46 (rfl) (cnt (flM nw lv), (layF nw 0 as_ 0), pc1, pw1) (rfl) hP hD hS (Nat.le_refl _) (Nat.le_refl _)
  exfalso; omega

set_option maxHeartbeats 4000000 in
set_option maxRecDepth 100000 in
theorem c_X4_plotsIfFlooded (l : Launch) (G : gG) (mq : Nat) (an : Nat) (ap : Nat) (st : Nat) (ak : Nat) (ai : Nat) (ad : Nat) (ac : Nat) (aw : Nat) (mn : Nat) (at_ : Nat) (le : Nat) (th : Nat) (sp : Nat) (ao : Nat) (tm : Nat) (nw : Nat → Nat) (as_ : Nat → Nat) (pC : Nat → Nat) (pW : Nat → Nat) (lv : Nat) (how : ∀ k, k < 256 → nw k < 8) (hhe : ∀ k, k < 256 → nw (256 + k) < 10) (hlv : 1 ≤ lv ∧ lv ≤ 10) : gMi (S := (Nat) × (Nat → Nat) × (Nat → Nat) × (Nat → Nat)) l yX4_plotsIfFlooded wsX4_plotsIfFlooded { frames := 4, cells := 0, slots := 0, locals := 89 } G [.ref mq, .int (nI lv)] [(mq, .inr (4, [.ref an, .ref ap, .int (nI st), .ref ak, .ref ai, .ref ad, .ref ac, .ref aw, .int (nI mn), .ref at_, .int (nI le), .int (nI th), .int (nI sp), .ref ao, .int (nI tm)])), (an, .inl (G.2.1, 525, .inl (gn nw))), (ad, .inl (G.2.1, 525, .inl (gn as_))), (ac, .inl (G.2.1, 256, .inl (gn pC))), (aw, .inl (G.2.1, 256, .inl (gn pW)))] (fun (r : Int32) (u : (Nat) × (Nat → Nat) × (Nat → Nat) × (Nat → Nat)) => (r = nI (cnt (flM nw lv)))) (fun u => [(mq, .inr (4, [.ref an, .ref ap, .int (nI st), .ref ak, .ref ai, .ref ad, .ref ac, .ref aw, .int (nI u.1), .ref at_, .int (nI le), .int (nI 0), .int (nI sp), .ref ao, .int (nI tm)])), (an, .inl (G.2.1, 525, .inl (gn nw))), (ad, .inl (G.2.1, 525, .inl (gn u.2.1))), (ac, .inl (G.2.1, 256, .inl (gn u.2.2.1))), (aw, .inl (G.2.1, 256, .inl (gn u.2.2.2)))]) 0 0 := by
  refine gMet_mk (cc := cX4_plotsIfFlooded) (nL := 2) (ret := (some .int)) (Qc := fun A => va_Qi (S := (Nat) × (Nat → Nat) × (Nat → Nat) × (Nat → Nat)) (fun (r : Int32) (u : (Nat) × (Nat → Nat) × (Nat → Nat) × (Nat → Nat)) => (r = nI (cnt (flM nw lv)))) (gB G A (fun (u : (Nat) × (Nat → Nat) × (Nat → Nat) × (Nat → Nat)) => [(mq, .inr (4, [.ref an, .ref ap, .int (nI st), .ref ak, .ref ai, .ref ad, .ref ac, .ref aw, .int (nI u.1), .ref at_, .int (nI le), .int (nI 0), .int (nI sp), .ref ao, .int (nI tm)])), (an, .inl (G.2.1, 525, .inl (gn nw))), (ad, .inl (G.2.1, 525, .inl (gn u.2.1))), (ac, .inl (G.2.1, 256, .inl (gn u.2.2.1))), (aw, .inl (G.2.1, 256, .inl (gn u.2.2.2)))])) A) (by decide) rfl (Nat.le_of_ble_eq_true rfl) ?_
  intro p e s m args below meth c A F ls hl hP hD hS
  have hx := F.1
  have hb := F.2.1
  have hts := F.2.2.2.2.2.2.1
  have hown : s.vm.findClass RX4 = some m.cls := F.2.2.2.2.2.1
  have hKK := F.2.2.2.2.2.2.2.2.1
  have hK := hKK.1
  have hin0 := F.2.2.2.2.2.2.2.1
  have hi4 : ∀ w ∈ u_ws RX4 TX4 15, w ∈ wsX4_plotsIfFlooded := by decide +kernel
  have hl : lv_has ls 2 [(0, .ref mq), (1, .int (nI lv))] := hl
  generalize hH : s.heap = H at hP ⊢
  have hS : va_S A s.heap H [] := by rw [← hH]; exact va_S.rf
  generalize hLo : ([] : List Loc) = locs at hS ⊢
  refine lv_aload_n hx hb dX4_plotsIfFlooded_0 rfl (lv_at hl 0 rfl) ?_
  refine lv_iconst (v := nI 0) hx hb dX4_plotsIfFlooded_1 (by decide) ?_
  refine va_put (D := G.1) (ci := 4) (v := .int (nI 0)) (ty := .int) (C := RX4) (T := TX4) (N := 15) hx hb hts hi4 tyX4 tyX4_ok nmX4 hown hK hP hD hS 0 rfl rfl 11 (by decide) (hts (.fieldLink RX4 37 "LandQuartersModel" "thrown" "I") (by decide +kernel)) (fun _ h9 => h9) rfl (by decide +kernel) (rfl) (rfl) (Nat.le_of_ble_eq_true rfl) dX4_plotsIfFlooded_2 (fun H locs hP hD hS => ?_)
  have hP : va_P G.1 vwCl [(mq, .inr (4, [.ref an, .ref ap, .int (nI st), .ref ak, .ref ai, .ref ad, .ref ac, .ref aw, .int (nI mn), .ref at_, .int (nI le), .int (nI 0), .int (nI sp), .ref ao, .int (nI tm)])), (an, .inl (G.2.1, 525, .inl (gn nw))), (ad, .inl (G.2.1, 525, .inl (gn as_))), (ac, .inl (G.2.1, 256, .inl (gn pC))), (aw, .inl (G.2.1, 256, .inl (gn pW)))] H := hP
  have hD : va_D A [(mq, .inr (4, [.ref an, .ref ap, .int (nI st), .ref ak, .ref ai, .ref ad, .ref ac, .ref aw, .int (nI mn), .ref at_, .int (nI le), .int (nI 0), .int (nI sp), .ref ao, .int (nI tm)])), (an, .inl (G.2.1, 525, .inl (gn nw))), (ad, .inl (G.2.1, 525, .inl (gn as_))), (ac, .inl (G.2.1, 256, .inl (gn pC))), (aw, .inl (G.2.1, 256, .inl (gn pW)))] := hD
  refine lv_iload_n hx hb dX4_plotsIfFlooded_5 rfl (lv_at hl 1 rfl) ?_
  refine lv_iconst (v := nI 1) hx hb dX4_plotsIfFlooded_6 (by decide) ?_
  refine lv_bipush (v := nI 10) hx hb dX4_plotsIfFlooded_7 (by decide) ?_
  refine W.eq (g2 := F0 m 9 ls [.int (zI ((10 : Nat) : Int)), .int (zI ((1 : Nat) : Int)), .int (zI ((lv : Nat) : Int))]) (by simp only [zI_nat, zI_neg1]) ?_
  refine gCi F (gRunS (own := RX4) (bytes := cX4_in) (n := 3) (As := [.int (zI ((lv : Nat) : Int)), .int (zI ((1 : Nat) : Int)), .int (zI ((10 : Nat) : Int))]) (rest := []) F (c_X4_in l G ((lv : Nat) : Int) ((1 : Nat) : Int) ((10 : Nat) : Int) (by first | assumption | omega) (by first | assumption | omega) (by first | assumption | omega) H.size) gX4_plotsIfFlooded_X4_in rfl rfl rfl rfl (by decide +kernel) rfl ⟨Nat.le_of_ble_eq_true rfl, Nat.le_of_ble_eq_true rfl⟩ hP hD (lit := [(mq, .inr (4, [.ref an, .ref ap, .int (nI st), .ref ak, .ref ai, .ref ad, .ref ac, .ref aw, .int (nI mn), .ref at_, .int (nI le), .int (nI 0), .int (nI sp), .ref ao, .int (nI tm)])), (an, .inl (G.2.1, 525, .inl (gn nw))), (ad, .inl (G.2.1, 525, .inl (gn as_))), (ac, .inl (G.2.1, 256, .inl (gn pC))), (aw, .inl (G.2.1, 256, .inl (gn pW)))]) (wt := []) (wc := []) (isC := []) rfl (by decide) rfl hl.1 (Nat.le_of_ble_eq_true rfl) dX4_plotsIfFlooded_9 ⟨Nat.le_of_ble_eq_true rfl, Nat.le_of_ble_eq_true rfl⟩) hP hD hS (lit := [(mq, .inr (4, [.ref an, .ref ap, .int (nI st), .ref ak, .ref ai, .ref ad, .ref ac, .ref aw, .int (nI mn), .ref at_, .int (nI le), .int (nI 0), .int (nI sp), .ref ao, .int (nI tm)])), (an, .inl (G.2.1, 525, .inl (gn nw))), (ad, .inl (G.2.1, 525, .inl (gn as_))), (ac, .inl (G.2.1, 256, .inl (gn pC))), (aw, .inl (G.2.1, 256, .inl (gn pW)))]) (wt := []) (wc := []) (wr := [(mq, .inr (4, [.ref an, .ref ap, .int (nI st), .ref ak, .ref ai, .ref ad, .ref ac, .ref aw, .int (nI mn), .ref at_, .int (nI le), .int (nI 0), .int (nI sp), .ref ao, .int (nI tm)])), (an, .inl (G.2.1, 525, .inl (gn nw))), (ad, .inl (G.2.1, 525, .inl (gn as_))), (ac, .inl (G.2.1, 256, .inl (gn pC))), (aw, .inl (G.2.1, 256, .inl (gn pW)))]) (isC := []) (isR := [0, 1, 2, 3, 4]) rfl rfl (by decide) (by decide) (fun r9 u H locs hp9 hP hD hS => ?_)
  subst hp9
  have hP : va_P G.1 vwCl [(mq, .inr (4, [.ref an, .ref ap, .int (nI st), .ref ak, .ref ai, .ref ad, .ref ac, .ref aw, .int (nI mn), .ref at_, .int (nI le), .int (nI 0), .int (nI sp), .ref ao, .int (nI tm)])), (an, .inl (G.2.1, 525, .inl (gn nw))), (ad, .inl (G.2.1, 525, .inl (gn as_))), (ac, .inl (G.2.1, 256, .inl (gn pC))), (aw, .inl (G.2.1, 256, .inl (gn pW)))] H := hP
  have hD : va_D A [(mq, .inr (4, [.ref an, .ref ap, .int (nI st), .ref ak, .ref ai, .ref ad, .ref ac, .ref aw, .int (nI mn), .ref at_, .int (nI le), .int (nI 0), .int (nI sp), .ref ao, .int (nI tm)])), (an, .inl (G.2.1, 525, .inl (gn nw))), (ad, .inl (G.2.1, 525, .inl (gn as_))), (ac, .inl (G.2.1, 256, .inl (gn pC))), (aw, .inl (G.2.1, 256, .inl (gn pW)))] := hD
  refine gIfB_eq (P := (((1 : Nat) : Int) ≤ ((lv : Nat) : Int) ∧ ((lv : Nat) : Int) ≤ ((10 : Nat) : Int))) (tgt := 23) hx hb dX4_plotsIfFlooded_12 (by decide) (fun c12 => ?_) (fun c12 => ?_)
  · skip
    refine lv_aload_n hx hb dX4_plotsIfFlooded_23 rfl (lv_at hl 0 rfl) ?_
    refine lv_iconst (v := nI 1) hx hb dX4_plotsIfFlooded_24 (by decide) ?_
    exfalso; omega
  refine lv_aload_n hx hb dX4_plotsIfFlooded_15 rfl (lv_at hl 0 rfl) ?_
  refine lv_iload_n hx hb dX4_plotsIfFlooded_16 rfl (lv_at hl 1 rfl) ?_
  refine gCi F (gRunV (own := RX4) (C := RX4) (ci := 4) (bytes := cX4_wouldBePlots) (n := 1) (As := [.int (nI lv)]) (rest := []) F (c_X4_wouldBePlots l G mq an ap st ak ai ad ac aw mn at_ le 0 sp ao tm nw as_ pC pW lv (by first | assumption | omega) (by first | assumption | omega) (by first | assumption | omega) H.size) gX4_plotsIfFlooded_X4_wouldBePlots rfl rfl rfl rfl (by decide +kernel) rfl ⟨Nat.le_of_ble_eq_true rfl, Nat.le_of_ble_eq_true rfl⟩ hP hD (lit := [(mq, .inr (4, [.ref an, .ref ap, .int (nI st), .ref ak, .ref ai, .ref ad, .ref ac, .ref aw, .int (nI mn), .ref at_, .int (nI le), .int (nI 0), .int (nI sp), .ref ao, .int (nI tm)])), (an, .inl (G.2.1, 525, .inl (gn nw))), (ad, .inl (G.2.1, 525, .inl (gn as_))), (ac, .inl (G.2.1, 256, .inl (gn pC))), (aw, .inl (G.2.1, 256, .inl (gn pW)))]) (wt := []) (wc := [(mq, .inr (4, [.ref an, .ref ap, .int (nI st), .ref ak, .ref ai, .ref ad, .ref ac, .ref aw, .int (nI mn), .ref at_, .int (nI le), .int (nI 0), .int (nI sp), .ref ao, .int (nI tm)])), (an, .inl (G.2.1, 525, .inl (gn nw))), (ad, .inl (G.2.1, 525, .inl (gn as_))), (ac, .inl (G.2.1, 256, .inl (gn pC))), (aw, .inl (G.2.1, 256, .inl (gn pW)))]) (isC := [0, 1, 2, 3, 4]) rfl (by decide) rfl rfl rfl hl.1 (Nat.le_of_ble_eq_true rfl) dX4_plotsIfFlooded_17 ⟨Nat.le_of_ble_eq_true rfl, Nat.le_of_ble_eq_true rfl⟩) hP hD hS (lit := [(mq, .inr (4, [.ref an, .ref ap, .int (nI st), .ref ak, .ref ai, .ref ad, .ref ac, .ref aw, .int (nI mn), .ref at_, .int (nI le), .int (nI 0), .int (nI sp), .ref ao, .int (nI tm)])), (an, .inl (G.2.1, 525, .inl (gn nw))), (ad, .inl (G.2.1, 525, .inl (gn as_))), (ac, .inl (G.2.1, 256, .inl (gn pC))), (aw, .inl (G.2.1, 256, .inl (gn pW)))]) (wt := []) (wc := [(mq, .inr (4, [.ref an, .ref ap, .int (nI st), .ref ak, .ref ai, .ref ad, .ref ac, .ref aw, .int (nI mn), .ref at_, .int (nI le), .int (nI 0), .int (nI sp), .ref ao, .int (nI tm)])), (an, .inl (G.2.1, 525, .inl (gn nw))), (ad, .inl (G.2.1, 525, .inl (gn as_))), (ac, .inl (G.2.1, 256, .inl (gn pC))), (aw, .inl (G.2.1, 256, .inl (gn pW)))]) (wr := []) (isC := [0, 1, 2, 3, 4]) (isR := []) rfl rfl (by decide) (by decide) (fun r17 u H locs hp17 hP hD hS => ?_)
  obtain ⟨mn9, as9, pc1, pw1⟩ := u
  try dsimp only at hp17
  subst hp17
  have hP : va_P G.1 vwCl [(mq, .inr (4, [.ref an, .ref ap, .int (nI st), .ref ak, .ref ai, .ref ad, .ref ac, .ref aw, .int (nI mn9), .ref at_, .int (nI le), .int (nI 0), .int (nI sp), .ref ao, .int (nI tm)])), (an, .inl (G.2.1, 525, .inl (gn nw))), (ad, .inl (G.2.1, 525, .inl (gn as9))), (ac, .inl (G.2.1, 256, .inl (gn pc1))), (aw, .inl (G.2.1, 256, .inl (gn pw1)))] H := hP
  have hD : va_D A [(mq, .inr (4, [.ref an, .ref ap, .int (nI st), .ref ak, .ref ai, .ref ad, .ref ac, .ref aw, .int (nI mn9), .ref at_, .int (nI le), .int (nI 0), .int (nI sp), .ref ao, .int (nI tm)])), (an, .inl (G.2.1, 525, .inl (gn nw))), (ad, .inl (G.2.1, 525, .inl (gn as9))), (ac, .inl (G.2.1, 256, .inl (gn pc1))), (aw, .inl (G.2.1, 256, .inl (gn pw1)))] := hD
  refine lv_goto (tgt := 28) hx hb dX4_plotsIfFlooded_20 (by decide) ?_
  exact gRi F dX4_plotsIfFlooded_28 (rfl) (mn9, as9, pc1, pw1) (rfl) hP hD hS (Nat.le_refl _) (Nat.le_refl _)

set_option maxHeartbeats 4000000 in
set_option maxRecDepth 100000 in
theorem f1_X4_plotsIfFlooded (l : Launch) (G : gG) (mq : Nat) (an : Nat) (ap : Nat) (st : Nat) (ak : Nat) (ai : Nat) (ad : Nat) (ac : Nat) (aw : Nat) (mn : Nat) (at_ : Nat) (le : Nat) (th : Nat) (sp : Nat) (ao : Nat) (tm : Nat) (lv : Int) (hlv : -2147483648 ≤ lv ∧ lv < 2147483648) (hcond0 : ¬(1 ≤ lv ∧ lv ≤ 10)) : gMi (S := Unit) l yX4_plotsIfFlooded wsX4_plotsIfFlooded { frames := 1, cells := 0, slots := 0, locals := 22 } G [.ref mq, .int (zI lv)] [(mq, .inr (4, [.ref an, .ref ap, .int (nI st), .ref ak, .ref ai, .ref ad, .ref ac, .ref aw, .int (nI mn), .ref at_, .int (nI le), .int (nI th), .int (nI sp), .ref ao, .int (nI tm)]))] (fun (r : Int32) (u : Unit) => (r = nI 0)) (fun u => [(mq, .inr (4, [.ref an, .ref ap, .int (nI st), .ref ak, .ref ai, .ref ad, .ref ac, .ref aw, .int (nI mn), .ref at_, .int (nI le), .int (nI 1), .int (nI sp), .ref ao, .int (nI tm)]))]) 0 0 := by
  refine gMet_mk (cc := cX4_plotsIfFlooded) (nL := 2) (ret := (some .int)) (Qc := fun A => va_Qi (S := Unit) (fun (r : Int32) (u : Unit) => (r = nI 0)) (gB G A (fun (u : Unit) => [(mq, .inr (4, [.ref an, .ref ap, .int (nI st), .ref ak, .ref ai, .ref ad, .ref ac, .ref aw, .int (nI mn), .ref at_, .int (nI le), .int (nI 1), .int (nI sp), .ref ao, .int (nI tm)]))])) A) (by decide) rfl (Nat.le_of_ble_eq_true rfl) ?_
  intro p e s m args below meth c A F ls hl hP hD hS
  have hx := F.1
  have hb := F.2.1
  have hts := F.2.2.2.2.2.2.1
  have hown : s.vm.findClass RX4 = some m.cls := F.2.2.2.2.2.1
  have hKK := F.2.2.2.2.2.2.2.2.1
  have hK := hKK.1
  have hin0 := F.2.2.2.2.2.2.2.1
  have hi4 : ∀ w ∈ u_ws RX4 TX4 15, w ∈ wsX4_plotsIfFlooded := by decide +kernel
  have hl : lv_has ls 2 [(0, .ref mq), (1, .int (zI lv))] := hl
  generalize hH : s.heap = H at hP ⊢
  have hS : va_S A s.heap H [] := by rw [← hH]; exact va_S.rf
  generalize hLo : ([] : List Loc) = locs at hS ⊢
  refine lv_aload_n hx hb dX4_plotsIfFlooded_0 rfl (lv_at hl 0 rfl) ?_
  refine lv_iconst (v := nI 0) hx hb dX4_plotsIfFlooded_1 (by decide) ?_
  refine va_put (D := G.1) (ci := 4) (v := .int (nI 0)) (ty := .int) (C := RX4) (T := TX4) (N := 15) hx hb hts hi4 tyX4 tyX4_ok nmX4 hown hK hP hD hS 0 rfl rfl 11 (by decide) (hts (.fieldLink RX4 37 "LandQuartersModel" "thrown" "I") (by decide +kernel)) (fun _ h9 => h9) rfl (by decide +kernel) (rfl) (rfl) (Nat.le_of_ble_eq_true rfl) dX4_plotsIfFlooded_2 (fun H locs hP hD hS => ?_)
  have hP : va_P G.1 vwCl [(mq, .inr (4, [.ref an, .ref ap, .int (nI st), .ref ak, .ref ai, .ref ad, .ref ac, .ref aw, .int (nI mn), .ref at_, .int (nI le), .int (nI 0), .int (nI sp), .ref ao, .int (nI tm)]))] H := hP
  have hD : va_D A [(mq, .inr (4, [.ref an, .ref ap, .int (nI st), .ref ak, .ref ai, .ref ad, .ref ac, .ref aw, .int (nI mn), .ref at_, .int (nI le), .int (nI 0), .int (nI sp), .ref ao, .int (nI tm)]))] := hD
  refine lv_iload_n hx hb dX4_plotsIfFlooded_5 rfl (lv_at hl 1 rfl) ?_
  refine lv_iconst (v := nI 1) hx hb dX4_plotsIfFlooded_6 (by decide) ?_
  refine lv_bipush (v := nI 10) hx hb dX4_plotsIfFlooded_7 (by decide) ?_
  refine W.eq (g2 := F0 m 9 ls [.int (zI ((10 : Nat) : Int)), .int (zI ((1 : Nat) : Int)), .int (zI lv)]) (by simp only [zI_nat, zI_neg1]) ?_
  refine gCi F (gRunS (own := RX4) (bytes := cX4_in) (n := 3) (As := [.int (zI lv), .int (zI ((1 : Nat) : Int)), .int (zI ((10 : Nat) : Int))]) (rest := []) F (c_X4_in l G lv ((1 : Nat) : Int) ((10 : Nat) : Int) (by first | assumption | omega) (by first | assumption | omega) (by first | assumption | omega) H.size) gX4_plotsIfFlooded_X4_in rfl rfl rfl rfl (by decide +kernel) rfl ⟨Nat.le_of_ble_eq_true rfl, Nat.le_of_ble_eq_true rfl⟩ hP hD (lit := [(mq, .inr (4, [.ref an, .ref ap, .int (nI st), .ref ak, .ref ai, .ref ad, .ref ac, .ref aw, .int (nI mn), .ref at_, .int (nI le), .int (nI 0), .int (nI sp), .ref ao, .int (nI tm)]))]) (wt := []) (wc := []) (isC := []) rfl (by decide) rfl hl.1 (Nat.le_of_ble_eq_true rfl) dX4_plotsIfFlooded_9 ⟨Nat.le_of_ble_eq_true rfl, Nat.le_of_ble_eq_true rfl⟩) hP hD hS (lit := [(mq, .inr (4, [.ref an, .ref ap, .int (nI st), .ref ak, .ref ai, .ref ad, .ref ac, .ref aw, .int (nI mn), .ref at_, .int (nI le), .int (nI 0), .int (nI sp), .ref ao, .int (nI tm)]))]) (wt := []) (wc := []) (wr := [(mq, .inr (4, [.ref an, .ref ap, .int (nI st), .ref ak, .ref ai, .ref ad, .ref ac, .ref aw, .int (nI mn), .ref at_, .int (nI le), .int (nI 0), .int (nI sp), .ref ao, .int (nI tm)]))]) (isC := []) (isR := [0]) rfl rfl (by decide) (by decide) (fun r9 u H locs hp9 hP hD hS => ?_)
  subst hp9
  have hP : va_P G.1 vwCl [(mq, .inr (4, [.ref an, .ref ap, .int (nI st), .ref ak, .ref ai, .ref ad, .ref ac, .ref aw, .int (nI mn), .ref at_, .int (nI le), .int (nI 0), .int (nI sp), .ref ao, .int (nI tm)]))] H := hP
  have hD : va_D A [(mq, .inr (4, [.ref an, .ref ap, .int (nI st), .ref ak, .ref ai, .ref ad, .ref ac, .ref aw, .int (nI mn), .ref at_, .int (nI le), .int (nI 0), .int (nI sp), .ref ao, .int (nI tm)]))] := hD
  refine gIfB_eq (P := (((1 : Nat) : Int) ≤ lv ∧ lv ≤ ((10 : Nat) : Int))) (tgt := 23) hx hb dX4_plotsIfFlooded_12 (by decide) (fun c12 => ?_) (fun c12 => ?_)
  · skip
    refine lv_aload_n hx hb dX4_plotsIfFlooded_23 rfl (lv_at hl 0 rfl) ?_
    refine lv_iconst (v := nI 1) hx hb dX4_plotsIfFlooded_24 (by decide) ?_
    refine gCi F (gRunV (own := RX4) (C := RX4) (ci := 4) (bytes := cX4_refuses) (n := 1) (As := [.int (nI 1)]) (rest := []) F (c_X4_refuses l G mq an ap st ak ai ad ac aw mn at_ le 0 sp ao tm 1  H.size) gX4_plotsIfFlooded_X4_refuses rfl rfl rfl rfl (by decide +kernel) rfl ⟨Nat.le_of_ble_eq_true rfl, Nat.le_of_ble_eq_true rfl⟩ hP hD (lit := [(mq, .inr (4, [.ref an, .ref ap, .int (nI st), .ref ak, .ref ai, .ref ad, .ref ac, .ref aw, .int (nI mn), .ref at_, .int (nI le), .int (nI 0), .int (nI sp), .ref ao, .int (nI tm)]))]) (wt := []) (wc := [(mq, .inr (4, [.ref an, .ref ap, .int (nI st), .ref ak, .ref ai, .ref ad, .ref ac, .ref aw, .int (nI mn), .ref at_, .int (nI le), .int (nI 0), .int (nI sp), .ref ao, .int (nI tm)]))]) (isC := [0]) rfl (by decide) rfl rfl rfl hl.1 (Nat.le_of_ble_eq_true rfl) dX4_plotsIfFlooded_25 ⟨Nat.le_of_ble_eq_true rfl, Nat.le_of_ble_eq_true rfl⟩) hP hD hS (lit := [(mq, .inr (4, [.ref an, .ref ap, .int (nI st), .ref ak, .ref ai, .ref ad, .ref ac, .ref aw, .int (nI mn), .ref at_, .int (nI le), .int (nI 0), .int (nI sp), .ref ao, .int (nI tm)]))]) (wt := []) (wc := [(mq, .inr (4, [.ref an, .ref ap, .int (nI st), .ref ak, .ref ai, .ref ad, .ref ac, .ref aw, .int (nI mn), .ref at_, .int (nI le), .int (nI 0), .int (nI sp), .ref ao, .int (nI tm)]))]) (wr := []) (isC := [0]) (isR := []) rfl rfl (by decide) (by decide) (fun r25 u H locs hp25 hP hD hS => ?_)
    subst hp25
    have hP : va_P G.1 vwCl [(mq, .inr (4, [.ref an, .ref ap, .int (nI st), .ref ak, .ref ai, .ref ad, .ref ac, .ref aw, .int (nI mn), .ref at_, .int (nI le), .int (nI 1), .int (nI sp), .ref ao, .int (nI tm)]))] H := hP
    have hD : va_D A [(mq, .inr (4, [.ref an, .ref ap, .int (nI st), .ref ak, .ref ai, .ref ad, .ref ac, .ref aw, .int (nI mn), .ref at_, .int (nI le), .int (nI 1), .int (nI sp), .ref ao, .int (nI tm)]))] := hD
    exact gRi F dX4_plotsIfFlooded_28 (rfl) () (rfl) hP hD hS (Nat.le_refl _) (Nat.le_refl _)
  exfalso; omega
