set_option maxHeartbeats 4000000 in
set_option maxRecDepth 100000 in
theorem c_X4_thrown (l : Launch) (G : gG) (mq : Nat) (an : Nat) (ap : Nat) (st : Nat) (ak : Nat) (ai : Nat) (ad : Nat) (ac : Nat) (aw : Nat) (mn : Nat) (at_ : Nat) (le : Nat) (th : Nat) (sp : Nat) (ao : Nat) (tm : Nat) : gMi (S := Unit) l yX4_thrown wsX4_thrown { frames := 0, cells := 0, slots := 0, locals := 0 } G [.ref mq] [(mq, .inr (4, [.ref an, .ref ap, .int (nI st), .ref ak, .ref ai, .ref ad, .ref ac, .ref aw, .int (nI mn), .ref at_, .int (nI le), .int (nI th), .int (nI sp), .ref ao, .int (nI tm)]))] (fun (r : Int32) (u : Unit) => (r = nI th)) (fun u => [(mq, .inr (4, [.ref an, .ref ap, .int (nI st), .ref ak, .ref ai, .ref ad, .ref ac, .ref aw, .int (nI mn), .ref at_, .int (nI le), .int (nI th), .int (nI sp), .ref ao, .int (nI tm)]))]) 0 0 := by
  refine gMet_mk (cc := cX4_thrown) (nL := 1) (ret := (some .int)) (Qc := fun A => va_Qi (S := Unit) (fun (r : Int32) (u : Unit) => (r = nI th)) (gB G A (fun (u : Unit) => [(mq, .inr (4, [.ref an, .ref ap, .int (nI st), .ref ak, .ref ai, .ref ad, .ref ac, .ref aw, .int (nI mn), .ref at_, .int (nI le), .int (nI th), .int (nI sp), .ref ao, .int (nI tm)]))])) A) (by decide) rfl (Nat.le_of_ble_eq_true rfl) ?_
  intro p e s m args below meth c A F ls hl hP hD hS
  have hx := F.1
  have hb := F.2.1
  have hts := F.2.2.2.2.2.2.1
  have hown : s.vm.findClass RX4 = some m.cls := F.2.2.2.2.2.1
  have hKK := F.2.2.2.2.2.2.2.2.1
  have hK := hKK.1
  have hin0 := F.2.2.2.2.2.2.2.1
  have hi4 : ∀ w ∈ u_ws RX4 TX4 15, w ∈ wsX4_thrown := by decide +kernel
  have hl : lv_has ls 1 [(0, .ref mq)] := hl
  generalize hH : s.heap = H at hP ⊢
  have hS : va_S A s.heap H [] := by rw [← hH]; exact va_S.rf
  generalize hLo : ([] : List Loc) = locs at hS ⊢
  refine lv_aload_n hx hb dX4_thrown_0 rfl (lv_at hl 0 rfl) ?_
  refine va_get (D := G.1) (ci := 4) (v := .int (nI th)) (C := RX4) (T := TX4) (N := 15) hx hb hts hi4 hown hK hP 0 rfl rfl 11 (by decide) (hts (.fieldLink RX4 37 "LandQuartersModel" "thrown" "I") (by decide +kernel)) (fun _ h9 => h9) rfl dX4_thrown_1 ?_
  exact gRi F dX4_thrown_4 (rfl) () (rfl) hP hD hS (Nat.le_refl _) (Nat.le_refl _)

set_option maxHeartbeats 4000000 in
set_option maxRecDepth 100000 in
theorem c_X4_refuses (l : Launch) (G : gG) (mq : Nat) (an : Nat) (ap : Nat) (st : Nat) (ak : Nat) (ai : Nat) (ad : Nat) (ac : Nat) (aw : Nat) (mn : Nat) (at_ : Nat) (le : Nat) (th : Nat) (sp : Nat) (ao : Nat) (tm : Nat) (k : Nat) : gMi (S := Unit) l yX4_refuses wsX4_refuses { frames := 0, cells := 0, slots := 0, locals := 0 } G [.ref mq, .int (nI k)] [(mq, .inr (4, [.ref an, .ref ap, .int (nI st), .ref ak, .ref ai, .ref ad, .ref ac, .ref aw, .int (nI mn), .ref at_, .int (nI le), .int (nI th), .int (nI sp), .ref ao, .int (nI tm)]))] (fun (r : Int32) (u : Unit) => (r = nI 0)) (fun u => [(mq, .inr (4, [.ref an, .ref ap, .int (nI st), .ref ak, .ref ai, .ref ad, .ref ac, .ref aw, .int (nI mn), .ref at_, .int (nI le), .int (nI k), .int (nI sp), .ref ao, .int (nI tm)]))]) 0 0 := by
  refine gMet_mk (cc := cX4_refuses) (nL := 2) (ret := (some .int)) (Qc := fun A => va_Qi (S := Unit) (fun (r : Int32) (u : Unit) => (r = nI 0)) (gB G A (fun (u : Unit) => [(mq, .inr (4, [.ref an, .ref ap, .int (nI st), .ref ak, .ref ai, .ref ad, .ref ac, .ref aw, .int (nI mn), .ref at_, .int (nI le), .int (nI k), .int (nI sp), .ref ao, .int (nI tm)]))])) A) (by decide) rfl (Nat.le_of_ble_eq_true rfl) ?_
  intro p e s m args below meth c A F ls hl hP hD hS
  have hx := F.1
  have hb := F.2.1
  have hts := F.2.2.2.2.2.2.1
  have hown : s.vm.findClass RX4 = some m.cls := F.2.2.2.2.2.1
  have hKK := F.2.2.2.2.2.2.2.2.1
  have hK := hKK.1
  have hin0 := F.2.2.2.2.2.2.2.1
  have hi4 : ∀ w ∈ u_ws RX4 TX4 15, w ∈ wsX4_refuses := by decide +kernel
  have hl : lv_has ls 2 [(0, .ref mq), (1, .int (nI k))] := hl
  generalize hH : s.heap = H at hP ⊢
  have hS : va_S A s.heap H [] := by rw [← hH]; exact va_S.rf
  generalize hLo : ([] : List Loc) = locs at hS ⊢
  refine lv_aload_n hx hb dX4_refuses_0 rfl (lv_at hl 0 rfl) ?_
  refine lv_iload_n hx hb dX4_refuses_1 rfl (lv_at hl 1 rfl) ?_
  refine va_put (D := G.1) (ci := 4) (v := .int (nI k)) (ty := .int) (C := RX4) (T := TX4) (N := 15) hx hb hts hi4 tyX4 tyX4_ok nmX4 hown hK hP hD hS 0 rfl rfl 11 (by decide) (hts (.fieldLink RX4 37 "LandQuartersModel" "thrown" "I") (by decide +kernel)) (fun _ h9 => h9) rfl (by decide +kernel) (rfl) (rfl) (Nat.le_of_ble_eq_true rfl) dX4_refuses_2 (fun H locs hP hD hS => ?_)
  have hP : va_P G.1 vwCl [(mq, .inr (4, [.ref an, .ref ap, .int (nI st), .ref ak, .ref ai, .ref ad, .ref ac, .ref aw, .int (nI mn), .ref at_, .int (nI le), .int (nI k), .int (nI sp), .ref ao, .int (nI tm)]))] H := hP
  have hD : va_D A [(mq, .inr (4, [.ref an, .ref ap, .int (nI st), .ref ak, .ref ai, .ref ad, .ref ac, .ref aw, .int (nI mn), .ref at_, .int (nI le), .int (nI k), .int (nI sp), .ref ao, .int (nI tm)]))] := hD
  refine lv_iconst (v := nI 0) hx hb dX4_refuses_5 (by decide) ?_
  exact gRi F dX4_refuses_6 (rfl) () (rfl) hP hD hS (Nat.le_refl _) (Nat.le_refl _)

set_option maxHeartbeats 4000000 in
set_option maxRecDepth 100000 in
theorem c_X4_in (l : Launch) (G : gG) (v : Int) (a : Int) (b : Int) (hv : -2147483648 ≤ v ∧ v < 2147483648) (ha : -2147483648 ≤ a ∧ a < 2147483648) (hb : -2147483648 ≤ b ∧ b < 2147483648) : gMi (S := Unit) l yX4_in wsX4_in { frames := 0, cells := 0, slots := 0, locals := 0 } G [.int (zI v), .int (zI a), .int (zI b)] [] (fun (r : Int32) (u : Unit) => (r = nI (if (a ≤ v ∧ v ≤ b) then 1 else 0))) (fun u => []) 0 0 := by
  refine gMet_mk (cc := cX4_in) (nL := 3) (ret := (some .boolean)) (Qc := fun A => va_Qi (S := Unit) (fun (r : Int32) (u : Unit) => (r = nI (if (a ≤ v ∧ v ≤ b) then 1 else 0))) (gB G A (fun (u : Unit) => [])) A) (by decide) rfl (Nat.le_of_ble_eq_true rfl) ?_
  intro p e s m args below meth c A F ls hl hP hD hS
  have hx := F.1
  have hb := F.2.1
  have hts := F.2.2.2.2.2.2.1
  have hown : s.vm.findClass RX4 = some m.cls := F.2.2.2.2.2.1
  have hKK := F.2.2.2.2.2.2.2.2.1
  have hK := hKK.1
  have hin0 := F.2.2.2.2.2.2.2.1
  have hl : lv_has ls 3 [(0, .int (zI v)), (1, .int (zI a)), (2, .int (zI b))] := hl
  generalize hH : s.heap = H at hP ⊢
  have hS : va_S A s.heap H [] := by rw [← hH]; exact va_S.rf
  generalize hLo : ([] : List Loc) = locs at hS ⊢
  refine lv_iload_n hx hb dX4_in_0 rfl (lv_at hl 0 rfl) ?_
  refine lv_iload_n hx hb dX4_in_1 rfl (lv_at hl 1 rfl) ?_
  refine gZcmp_lt (a := v) (b := a) (tgt := 14) hx hb dX4_in_2 (by decide) (by omega) (by omega) (fun c2 => ?_) (fun c2 => ?_)
  · skip
    refine lv_iconst (v := nI 0) hx hb dX4_in_14 (by decide) ?_
    exact gRi F dX4_in_15 (gNarZ (by decide)) () (by first | rfl | (rw [if_pos (by omega)]) | (rw [if_neg (by omega)])) hP hD hS (Nat.le_refl _) (Nat.le_refl _)
  refine lv_iload_n hx hb dX4_in_5 rfl (lv_at hl 0 rfl) ?_
  refine lv_iload_n hx hb dX4_in_6 rfl (lv_at hl 2 rfl) ?_
  refine gZcmp_gt (a := v) (b := b) (tgt := 14) hx hb dX4_in_7 (by decide) (by omega) (by omega) (fun c7 => ?_) (fun c7 => ?_)
  · skip
    refine lv_iconst (v := nI 0) hx hb dX4_in_14 (by decide) ?_
    exact gRi F dX4_in_15 (gNarZ (by decide)) () (by first | rfl | (rw [if_pos (by omega)]) | (rw [if_neg (by omega)])) hP hD hS (Nat.le_refl _) (Nat.le_refl _)
  refine lv_iconst (v := nI 1) hx hb dX4_in_10 (by decide) ?_
  refine lv_goto (tgt := 15) hx hb dX4_in_11 (by decide) ?_
  exact gRi F dX4_in_15 (gNarZ (by decide)) () (by first | rfl | (rw [if_pos (by omega)]) | (rw [if_neg (by omega)])) hP hD hS (Nat.le_refl _) (Nat.le_refl _)

def layF (f : Nat → Nat) (o1 : Nat) (t : Nat → Nat) (o2 : Nat) : Nat → Nat := fun k => if o2 ≤ k ∧ k < o2 + 525 then f (o1 + (k - o2)) else t k
def savP (nw pa : Nat → Nat) (st : Nat) : Nat → Nat := if st < 6 then layF nw 0 pa (525 * st) else layF nw 0 (fun j => if j < 2625 then pa (j + 525) else pa j) 2625
theorem cellQ {z k : Nat} (hz : 0 < z) (hk : k < z * z) : k / z < z ∧ k % z < z := ⟨Nat.div_lt_of_lt_mul hk, Nat.mod_lt _ hz⟩
/-- the first k cells of a square have its corner's owner -/
abbrev uK (nw : Nat → Nat) (c z k : Nat) : Prop := ∀ j, j < k → nw (c + 16 * (j / z) + j % z) = nw c
theorem uK_s {nw : Nat → Nat} {c z k : Nat} : uK nw c z (k + 1) ↔ (uK nw c z k ∧ nw (c + 16 * (k / z) + k % z) = nw c) := by
  constructor
  · intro h; exact ⟨fun j hj => h j (by omega), h k (by omega)⟩
  · rintro ⟨h1, h2⟩ j hj
    by_cases e : j = k
    · subst e; exact h2
    · exact h1 j (by omega)

set_option maxHeartbeats 4000000 in
set_option maxRecDepth 100000 in
theorem c_X4_lays (l : Launch) (G : gG) (fa : Nat) (fn : Nat) (fs : Nat → Nat) (o1 : Nat) (ta : Nat) (tn : Nat) (ts : Nat → Nat) (o2 : Nat) (h1 : o1 + 525 ≤ fn) (h2 : o2 + 525 ≤ tn) (h3 : fn ≤ 65536) (h4 : tn ≤ 65536) : gMv (S := Unit) l yX4_lays wsX4_lays { frames := 0, cells := 0, slots := 0, locals := 0 } G [.ref fa, .int (nI o1), .ref ta, .int (nI o2)] [(fa, .inl (G.2.1, fn, .inl (gn fs))), (ta, .inl (G.2.1, tn, .inl (gn ts)))] (fun (u : Unit) => True) (fun u => [(fa, .inl (G.2.1, fn, .inl (gn fs))), (ta, .inl (G.2.1, tn, .inl (gn (layF fs o1 ts o2))))]) 0 0 := by
  refine gMet_mk (cc := cX4_lays) (nL := 5) (ret := none) (Qc := fun A => va_Qv (S := Unit) (fun (u : Unit) => True) (gB G A (fun (u : Unit) => [(fa, .inl (G.2.1, fn, .inl (gn fs))), (ta, .inl (G.2.1, tn, .inl (gn (layF fs o1 ts o2))))])) A) (by decide) rfl (Nat.le_of_ble_eq_true rfl) ?_
  intro p e s m args below meth c A F ls hl hP hD hS
  have hx := F.1
  have hb := F.2.1
  have hts := F.2.2.2.2.2.2.1
  have hown : s.vm.findClass RX4 = some m.cls := F.2.2.2.2.2.1
  have hKK := F.2.2.2.2.2.2.2.2.1
  have hK := hKK.1
  have hin0 := F.2.2.2.2.2.2.2.1
  have hl : lv_has ls 5 [(0, .ref fa), (1, .int (nI o1)), (2, .ref ta), (3, .int (nI o2))] := hl
  generalize hH : s.heap = H at hP ⊢
  have hS : va_S A s.heap H [] := by rw [← hH]; exact va_S.rf
  generalize hLo : ([] : List Loc) = locs at hS ⊢
  refine lv_iconst (v := nI 0) hx hb dX4_lays_0 (by decide) ?_
  refine lv_istore (lv' := [(4, .int (nI 0)), (0, .ref fa), (1, .int (nI o1)), (2, .ref ta), (3, .int (nI o2))]) hx hb dX4_lays_1 hl (by decide) rfl (fun ls hl => ?_)
  have L3 : ∀ (fuel : Nat) (k : Nat), 525 - k < fuel → (k ≤ 525) → ∀ (H : Heap) (locs : List Loc), va_P G.1 vwCl [(fa, .inl (G.2.1, fn, .inl (gn fs))), (ta, .inl (G.2.1, tn, .inl (gn (fun j => if o2 ≤ j ∧ j < o2 + k then fs (o1 + (j - o2)) else ts j))))] H → va_D A [(fa, .inl (G.2.1, fn, .inl (gn fs))), (ta, .inl (G.2.1, tn, .inl (gn (fun j => if o2 ≤ j ∧ j < o2 + k then fs (o1 + (j - o2)) else ts j))))] → va_S A s.heap H locs → ∀ (ls : Array Slot), lv_has ls 5 [(4, .int (nI k)), (0, .ref fa), (1, .int (nI o1)), (2, .ref ta), (3, .int (nI o2))] → W p l e ({ frames := 0, cells := 0, slots := 0, locals := 0 } : Room) s m args below meth c H locs 0 0 (MQ below (va_Qv (S := Unit) (fun (u : Unit) => True) (gB G A (fun (u : Unit) => [(fa, .inl (G.2.1, fn, .inl (gn fs))), (ta, .inl (G.2.1, tn, .inl (gn (layF fs o1 ts o2))))])) A) args s 0 0 A) (F0 m 3 ls []) := by
    intro fuel
    induction fuel with
    | zero => intro k hme; exact absurd hme (Nat.not_lt_zero _)
    | succ fuel ih3 =>
      intro k hme hk H locs hP hD hS ls hl
      refine lv_iload hx hb dX4_lays_3 (lv_at hl 0 rfl) ?_
      refine lv_sipush (v := nI 525) hx hb dX4_lays_5 (by decide) ?_
      refine gIcmp_ge (a := k) (b := 525) (tgt := 29) hx hb dX4_lays_8 (by decide) (by omega) (by omega) (fun c8 => ?_) (fun c8 => ?_)
      · skip
        have hP := gEqN (q0 := 1) (f := fun j => if o2 ≤ j ∧ j < o2 + k then fs (o1 + (j - o2)) else ts j) (g := layF fs o1 ts o2) rfl (by intro j hj; unfold layF; rw [show k = 525 by omega]) hP
        have hD := va_D.set (p := 1) (e := .inl (G.2.1, tn, .inl (gn (layF fs o1 ts o2)))) hD rfl
        have hP : va_P G.1 vwCl [(fa, .inl (G.2.1, fn, .inl (gn fs))), (ta, .inl (G.2.1, tn, .inl (gn (layF fs o1 ts o2))))] H := hP
        have hD : va_D A [(fa, .inl (G.2.1, fn, .inl (gn fs))), (ta, .inl (G.2.1, tn, .inl (gn (layF fs o1 ts o2))))] := hD
        exact gRv F dX4_lays_29 () (trivial) hP hD hS (Nat.le_refl _) (Nat.le_refl _)
      refine lv_aload_n hx hb dX4_lays_11 rfl (lv_at hl 3 rfl) ?_
      refine lv_iload_n hx hb dX4_lays_12 rfl (lv_at hl 4 rfl) ?_
      refine lv_iload hx hb dX4_lays_13 (lv_at hl 0 rfl) ?_
      refine gIadd (a := o2) (b := k) hx hb dX4_lays_15 ?_
      refine lv_aload_n hx hb dX4_lays_16 rfl (lv_at hl 1 rfl) ?_
      refine lv_iload_n hx hb dX4_lays_17 rfl (lv_at hl 2 rfl) ?_
      refine lv_iload hx hb dX4_lays_18 (lv_at hl 0 rfl) ?_
      refine gIadd (a := o1) (b := k) hx hb dX4_lays_20 ?_
      refine gNald (k := o1 + k) hx hb hK hP 0 0 rfl rfl (by omega) (by first | decide | omega) dX4_lays_21 ?_
      refine gNast (k := o2 + k) (v := fs (o1 + k)) hx hb hK hP hD hS 1 0 rfl rfl (by omega) (by first | decide | omega) dX4_lays_22 (fun H locs hP hD hS => ?_)
      have hP : va_P G.1 vwCl [(fa, .inl (G.2.1, fn, .inl (gn fs))), (ta, .inl (G.2.1, tn, .inl (gn (va_up (fun j => if o2 ≤ j ∧ j < o2 + k then fs (o1 + (j - o2)) else ts j) (o2 + k) (fs (o1 + k))))))] H := hP
      have hD : va_D A [(fa, .inl (G.2.1, fn, .inl (gn fs))), (ta, .inl (G.2.1, tn, .inl (gn (va_up (fun j => if o2 ≤ j ∧ j < o2 + k then fs (o1 + (j - o2)) else ts j) (o2 + k) (fs (o1 + k))))))] := hD
      refine lv_iinc (v := nI (k + 1)) (lv' := [(4, .int (nI (k + 1))), (0, .ref fa), (1, .int (nI o1)), (2, .ref ta), (3, .int (nI o2))]) hx hb dX4_lays_23 hl (k := 0) rfl (gInc_p _ rfl) (by decide) rfl (fun ls hl => ?_)
      refine lv_goto (tgt := 3) hx hb dX4_lays_26 (by decide) ?_
      have hP := gEqN (q0 := 1) (f := va_up (fun j => if o2 ≤ j ∧ j < o2 + k then fs (o1 + (j - o2)) else ts j) (o2 + k) (fs (o1 + k))) (g := fun j => if o2 ≤ j ∧ j < o2 + (k + 1) then fs (o1 + (j - o2)) else ts j) rfl (by intro j hj; simp only [gu_if]; by_cases e : j = o2 + k; (subst e; rw [if_pos rfl, if_pos (by omega)]; congr 1; omega); (rw [if_neg e]; by_cases e2 : o2 ≤ j ∧ j < o2 + k; (rw [if_pos e2, if_pos (by omega)]); (rw [if_neg e2, if_neg (by omega)]))) hP
      have hD := va_D.set (p := 1) (e := .inl (G.2.1, tn, .inl (gn (fun j => if o2 ≤ j ∧ j < o2 + (k + 1) then fs (o1 + (j - o2)) else ts j)))) hD rfl
      have hP : va_P G.1 vwCl [(fa, .inl (G.2.1, fn, .inl (gn fs))), (ta, .inl (G.2.1, tn, .inl (gn (fun j => if o2 ≤ j ∧ j < o2 + (k + 1) then fs (o1 + (j - o2)) else ts j))))] H := hP
      have hD : va_D A [(fa, .inl (G.2.1, fn, .inl (gn fs))), (ta, .inl (G.2.1, tn, .inl (gn (fun j => if o2 ≤ j ∧ j < o2 + (k + 1) then fs (o1 + (j - o2)) else ts j))))] := hD
      have hl : lv_has ls 5 [(4, .int (nI (k + 1))), (0, .ref fa), (1, .int (nI o1)), (2, .ref ta), (3, .int (nI o2))] := lv_sub hl [0, 1, 2, 3, 4] rfl
      have hy_1 : (k + 1) ≤ 525 := by omega
      exact ih3 (k + 1) (by omega) hy_1 H locs hP hD hS ls hl
  have hP := gEqN (q0 := 1) (f := ts) (g := fun j => if o2 ≤ j ∧ j < o2 + 0 then fs (o1 + (j - o2)) else ts j) rfl (by intro j hj; rw [if_neg (by omega)]) hP
  have hD := va_D.set (p := 1) (e := .inl (G.2.1, tn, .inl (gn (fun j => if o2 ≤ j ∧ j < o2 + 0 then fs (o1 + (j - o2)) else ts j)))) hD rfl
  have hP : va_P G.1 vwCl [(fa, .inl (G.2.1, fn, .inl (gn fs))), (ta, .inl (G.2.1, tn, .inl (gn (fun j => if o2 ≤ j ∧ j < o2 + 0 then fs (o1 + (j - o2)) else ts j))))] H := hP
  have hD : va_D A [(fa, .inl (G.2.1, fn, .inl (gn fs))), (ta, .inl (G.2.1, tn, .inl (gn (fun j => if o2 ≤ j ∧ j < o2 + 0 then fs (o1 + (j - o2)) else ts j))))] := hD
  have hl : lv_has ls 5 [(4, .int (nI 0)), (0, .ref fa), (1, .int (nI o1)), (2, .ref ta), (3, .int (nI o2))] := lv_sub hl [0, 1, 2, 3, 4] rfl
  have hy_2 : 0 ≤ 525 := by omega
  exact L3 _ 0 (Nat.lt_succ_self _) hy_2 H locs hP hD hS ls hl

set_option maxHeartbeats 4000000 in
set_option maxRecDepth 100000 in
theorem c_saves_lt (l : Launch) (G : gG) (mq : Nat) (an : Nat) (ap : Nat) (st : Nat) (ak : Nat) (ai : Nat) (ad : Nat) (ac : Nat) (aw : Nat) (mn : Nat) (at_ : Nat) (le : Nat) (th : Nat) (sp : Nat) (ao : Nat) (tm : Nat) (nw : Nat → Nat) (pa : Nat → Nat) (hs : st < 6) : gMv (S := Unit) l yX4_saves wsX4_saves { frames := 2, cells := 0, slots := 0, locals := 60 } G [.ref mq] [(mq, .inr (4, [.ref an, .ref ap, .int (nI st), .ref ak, .ref ai, .ref ad, .ref ac, .ref aw, .int (nI mn), .ref at_, .int (nI le), .int (nI th), .int (nI sp), .ref ao, .int (nI tm)])), (an, .inl (G.2.1, 525, .inl (gn nw))), (ap, .inl (G.2.1, 3150, .inl (gn pa)))] (fun (u : Unit) => True) (fun u => [(mq, .inr (4, [.ref an, .ref ap, .int (nI (st + 1)), .ref ak, .ref ai, .ref ad, .ref ac, .ref aw, .int (nI mn), .ref at_, .int (nI le), .int (nI th), .int (nI sp), .ref ao, .int (nI tm)])), (an, .inl (G.2.1, 525, .inl (gn nw))), (ap, .inl (G.2.1, 3150, .inl (gn (layF nw 0 pa (525 * st)))))]) 0 0 := by
  refine gMet_mk (cc := cX4_saves) (nL := 2) (ret := none) (Qc := fun A => va_Qv (S := Unit) (fun (u : Unit) => True) (gB G A (fun (u : Unit) => [(mq, .inr (4, [.ref an, .ref ap, .int (nI (st + 1)), .ref ak, .ref ai, .ref ad, .ref ac, .ref aw, .int (nI mn), .ref at_, .int (nI le), .int (nI th), .int (nI sp), .ref ao, .int (nI tm)])), (an, .inl (G.2.1, 525, .inl (gn nw))), (ap, .inl (G.2.1, 3150, .inl (gn (layF nw 0 pa (525 * st)))))])) A) (by decide) rfl (Nat.le_of_ble_eq_true rfl) ?_
  intro p e s m args below meth c A F ls hl hP hD hS
  have hx := F.1
  have hb := F.2.1
  have hts := F.2.2.2.2.2.2.1
  have hown : s.vm.findClass RX4 = some m.cls := F.2.2.2.2.2.1
  have hKK := F.2.2.2.2.2.2.2.2.1
  have hK := hKK.1
  have hin0 := F.2.2.2.2.2.2.2.1
  have hi4 : ∀ w ∈ u_ws RX4 TX4 15, w ∈ wsX4_saves := by decide +kernel
  have hl : lv_has ls 2 [(0, .ref mq)] := hl
  generalize hH : s.heap = H at hP ⊢
  have hS : va_S A s.heap H [] := by rw [← hH]; exact va_S.rf
  generalize hLo : ([] : List Loc) = locs at hS ⊢
  refine lv_aload_n hx hb dX4_saves_0 rfl (lv_at hl 0 rfl) ?_
  refine va_get (D := G.1) (ci := 4) (v := .int (nI st)) (C := RX4) (T := TX4) (N := 15) hx hb hts hi4 hown hK hP 0 rfl rfl 2 (by decide) (hts (.fieldLink RX4 41 "LandQuartersModel" "states" "I") (by decide +kernel)) (fun _ h9 => h9) rfl dX4_saves_1 ?_
  refine lv_bipush (v := nI 6) hx hb dX4_saves_4 (by decide) ?_
  refine gIcmp_ne (a := st) (b := 6) (tgt := 50) hx hb dX4_saves_6 (by decide) (by omega) (by omega) (fun c6 => ?_) (fun c6 => ?_)
  · skip
    refine lv_aload_n hx hb dX4_saves_50 rfl (lv_at hl 0 rfl) ?_
    refine va_get (D := G.1) (ci := 4) (v := .ref an) (C := RX4) (T := TX4) (N := 15) hx hb hts hi4 hown hK hP 0 rfl rfl 0 (by decide) (hts (.fieldLink RX4 7 "LandQuartersModel" "now" "[I") (by decide +kernel)) (fun _ h9 => h9) rfl dX4_saves_51 ?_
    refine lv_iconst (v := nI 0) hx hb dX4_saves_54 (by decide) ?_
    refine lv_aload_n hx hb dX4_saves_55 rfl (lv_at hl 0 rfl) ?_
    refine va_get (D := G.1) (ci := 4) (v := .ref ap) (C := RX4) (T := TX4) (N := 15) hx hb hts hi4 hown hK hP 0 rfl rfl 1 (by decide) (hts (.fieldLink RX4 13 "LandQuartersModel" "past" "[I") (by decide +kernel)) (fun _ h9 => h9) rfl dX4_saves_56 ?_
    refine lv_sipush (v := nI 525) hx hb dX4_saves_59 (by decide) ?_
    refine lv_aload_n hx hb dX4_saves_62 rfl (lv_at hl 0 rfl) ?_
    refine va_get (D := G.1) (ci := 4) (v := .int (nI st)) (C := RX4) (T := TX4) (N := 15) hx hb hts hi4 hown hK hP 0 rfl rfl 2 (by decide) (hts (.fieldLink RX4 41 "LandQuartersModel" "states" "I") (by decide +kernel)) (fun _ h9 => h9) rfl dX4_saves_63 ?_
    refine gImul (a := 525) (b := st) hx hb dX4_saves_66 ?_
    refine gCv F (gRunS (own := RX4) (bytes := cX4_lays) (n := 4) (As := [.ref an, .int (nI 0), .ref ap, .int (nI (525 * st))]) (rest := []) F (c_X4_lays l G an 525 nw 0 ap 3150 pa (525 * st) (by first | assumption | omega) (by first | assumption | omega) (by first | assumption | omega) (by first | assumption | omega) H.size) gX4_saves_X4_lays rfl rfl rfl rfl (by decide +kernel) rfl ⟨Nat.le_of_ble_eq_true rfl, Nat.le_of_ble_eq_true rfl⟩ hP hD (lit := [(mq, .inr (4, [.ref an, .ref ap, .int (nI st), .ref ak, .ref ai, .ref ad, .ref ac, .ref aw, .int (nI mn), .ref at_, .int (nI le), .int (nI th), .int (nI sp), .ref ao, .int (nI tm)])), (an, .inl (G.2.1, 525, .inl (gn nw))), (ap, .inl (G.2.1, 3150, .inl (gn pa)))]) (wt := []) (wc := [(an, .inl (G.2.1, 525, .inl (gn nw))), (ap, .inl (G.2.1, 3150, .inl (gn pa)))]) (isC := [1, 2]) rfl (by decide) rfl hl.1 (Nat.le_of_ble_eq_true rfl) dX4_saves_67 ⟨Nat.le_of_ble_eq_true rfl, Nat.le_of_ble_eq_true rfl⟩) hP hD hS (lit := [(mq, .inr (4, [.ref an, .ref ap, .int (nI st), .ref ak, .ref ai, .ref ad, .ref ac, .ref aw, .int (nI mn), .ref at_, .int (nI le), .int (nI th), .int (nI sp), .ref ao, .int (nI tm)])), (an, .inl (G.2.1, 525, .inl (gn nw))), (ap, .inl (G.2.1, 3150, .inl (gn pa)))]) (wt := []) (wc := [(an, .inl (G.2.1, 525, .inl (gn nw))), (ap, .inl (G.2.1, 3150, .inl (gn pa)))]) (wr := [(mq, .inr (4, [.ref an, .ref ap, .int (nI st), .ref ak, .ref ai, .ref ad, .ref ac, .ref aw, .int (nI mn), .ref at_, .int (nI le), .int (nI th), .int (nI sp), .ref ao, .int (nI tm)]))]) (isC := [1, 2]) (isR := [0]) rfl rfl (by decide) (by decide) (fun u H locs hp67 hP hD hS => ?_)
    have hP : va_P G.1 vwCl [(mq, .inr (4, [.ref an, .ref ap, .int (nI st), .ref ak, .ref ai, .ref ad, .ref ac, .ref aw, .int (nI mn), .ref at_, .int (nI le), .int (nI th), .int (nI sp), .ref ao, .int (nI tm)])), (an, .inl (G.2.1, 525, .inl (gn nw))), (ap, .inl (G.2.1, 3150, .inl (gn (layF nw 0 pa (525 * st)))))] H := hP
    have hD : va_D A [(mq, .inr (4, [.ref an, .ref ap, .int (nI st), .ref ak, .ref ai, .ref ad, .ref ac, .ref aw, .int (nI mn), .ref at_, .int (nI le), .int (nI th), .int (nI sp), .ref ao, .int (nI tm)])), (an, .inl (G.2.1, 525, .inl (gn nw))), (ap, .inl (G.2.1, 3150, .inl (gn (layF nw 0 pa (525 * st)))))] := hD
    refine lv_aload_n hx hb dX4_saves_70 rfl (lv_at hl 0 rfl) ?_
    refine lv_dup hx hb dX4_saves_71 rfl ?_
    refine va_get (D := G.1) (ci := 4) (v := .int (nI st)) (C := RX4) (T := TX4) (N := 15) hx hb hts hi4 hown hK hP 0 rfl rfl 2 (by decide) (hts (.fieldLink RX4 41 "LandQuartersModel" "states" "I") (by decide +kernel)) (fun _ h9 => h9) rfl dX4_saves_72 ?_
    refine lv_iconst (v := nI 1) hx hb dX4_saves_75 (by decide) ?_
    refine gIadd (a := st) (b := 1) hx hb dX4_saves_76 ?_
    refine va_put (D := G.1) (ci := 4) (v := .int (nI (st + 1))) (ty := .int) (C := RX4) (T := TX4) (N := 15) hx hb hts hi4 tyX4 tyX4_ok nmX4 hown hK hP hD hS 0 rfl rfl 2 (by decide) (hts (.fieldLink RX4 41 "LandQuartersModel" "states" "I") (by decide +kernel)) (fun _ h9 => h9) rfl (by decide +kernel) (rfl) (rfl) (Nat.le_of_ble_eq_true rfl) dX4_saves_77 (fun H locs hP hD hS => ?_)
    have hP : va_P G.1 vwCl [(mq, .inr (4, [.ref an, .ref ap, .int (nI (st + 1)), .ref ak, .ref ai, .ref ad, .ref ac, .ref aw, .int (nI mn), .ref at_, .int (nI le), .int (nI th), .int (nI sp), .ref ao, .int (nI tm)])), (an, .inl (G.2.1, 525, .inl (gn nw))), (ap, .inl (G.2.1, 3150, .inl (gn (layF nw 0 pa (525 * st)))))] H := hP
    have hD : va_D A [(mq, .inr (4, [.ref an, .ref ap, .int (nI (st + 1)), .ref ak, .ref ai, .ref ad, .ref ac, .ref aw, .int (nI mn), .ref at_, .int (nI le), .int (nI th), .int (nI sp), .ref ao, .int (nI tm)])), (an, .inl (G.2.1, 525, .inl (gn nw))), (ap, .inl (G.2.1, 3150, .inl (gn (layF nw 0 pa (525 * st)))))] := hD
    exact gRv F dX4_saves_80 () (trivial) hP hD hS (Nat.le_refl _) (Nat.le_refl _)
  exfalso; omega

set_option maxHeartbeats 4000000 in
set_option maxRecDepth 100000 in
theorem c_saves_full (l : Launch) (G : gG) (mq : Nat) (an : Nat) (ap : Nat) (ak : Nat) (ai : Nat) (ad : Nat) (ac : Nat) (aw : Nat) (mn : Nat) (at_ : Nat) (le : Nat) (th : Nat) (sp : Nat) (ao : Nat) (tm : Nat) (nw : Nat → Nat) (pa : Nat → Nat) : gMv (S := Unit) l yX4_saves wsX4_saves { frames := 2, cells := 0, slots := 0, locals := 60 } G [.ref mq] [(mq, .inr (4, [.ref an, .ref ap, .int (nI 6), .ref ak, .ref ai, .ref ad, .ref ac, .ref aw, .int (nI mn), .ref at_, .int (nI le), .int (nI th), .int (nI sp), .ref ao, .int (nI tm)])), (an, .inl (G.2.1, 525, .inl (gn nw))), (ap, .inl (G.2.1, 3150, .inl (gn pa)))] (fun (u : Unit) => True) (fun u => [(mq, .inr (4, [.ref an, .ref ap, .int (nI 6), .ref ak, .ref ai, .ref ad, .ref ac, .ref aw, .int (nI mn), .ref at_, .int (nI le), .int (nI th), .int (nI sp), .ref ao, .int (nI tm)])), (an, .inl (G.2.1, 525, .inl (gn nw))), (ap, .inl (G.2.1, 3150, .inl (gn (layF nw 0 (fun j => if j < 2625 then pa (j + 525) else pa j) 2625))))]) 0 0 := by
  refine gMet_mk (cc := cX4_saves) (nL := 2) (ret := none) (Qc := fun A => va_Qv (S := Unit) (fun (u : Unit) => True) (gB G A (fun (u : Unit) => [(mq, .inr (4, [.ref an, .ref ap, .int (nI 6), .ref ak, .ref ai, .ref ad, .ref ac, .ref aw, .int (nI mn), .ref at_, .int (nI le), .int (nI th), .int (nI sp), .ref ao, .int (nI tm)])), (an, .inl (G.2.1, 525, .inl (gn nw))), (ap, .inl (G.2.1, 3150, .inl (gn (layF nw 0 (fun j => if j < 2625 then pa (j + 525) else pa j) 2625))))])) A) (by decide) rfl (Nat.le_of_ble_eq_true rfl) ?_
  intro p e s m args below meth c A F ls hl hP hD hS
  have hx := F.1
  have hb := F.2.1
  have hts := F.2.2.2.2.2.2.1
  have hown : s.vm.findClass RX4 = some m.cls := F.2.2.2.2.2.1
  have hKK := F.2.2.2.2.2.2.2.2.1
  have hK := hKK.1
  have hin0 := F.2.2.2.2.2.2.2.1
  have hi4 : ∀ w ∈ u_ws RX4 TX4 15, w ∈ wsX4_saves := by decide +kernel
  have hl : lv_has ls 2 [(0, .ref mq)] := hl
  generalize hH : s.heap = H at hP ⊢
  have hS : va_S A s.heap H [] := by rw [← hH]; exact va_S.rf
  generalize hLo : ([] : List Loc) = locs at hS ⊢
  refine lv_aload_n hx hb dX4_saves_0 rfl (lv_at hl 0 rfl) ?_
  refine va_get (D := G.1) (ci := 4) (v := .int (nI 6)) (C := RX4) (T := TX4) (N := 15) hx hb hts hi4 hown hK hP 0 rfl rfl 2 (by decide) (hts (.fieldLink RX4 41 "LandQuartersModel" "states" "I") (by decide +kernel)) (fun _ h9 => h9) rfl dX4_saves_1 ?_
  refine lv_bipush (v := nI 6) hx hb dX4_saves_4 (by decide) ?_
  refine gIcmp_ne (a := 6) (b := 6) (tgt := 50) hx hb dX4_saves_6 (by decide) (by omega) (by omega) (fun c6 => ?_) (fun c6 => ?_)
  · skip
    exfalso; omega
  refine lv_iconst (v := nI 0) hx hb dX4_saves_9 (by decide) ?_
  refine lv_istore_n (lv' := [(1, .int (nI 0)), (0, .ref mq)]) hx hb dX4_saves_10 rfl hl (by decide) rfl (fun ls hl => ?_)
  have L11 : ∀ (fuel : Nat) (k : Nat), 2625 - k < fuel → (k ≤ 2625) → ∀ (H : Heap) (locs : List Loc), va_P G.1 vwCl [(mq, .inr (4, [.ref an, .ref ap, .int (nI 6), .ref ak, .ref ai, .ref ad, .ref ac, .ref aw, .int (nI mn), .ref at_, .int (nI le), .int (nI th), .int (nI sp), .ref ao, .int (nI tm)])), (an, .inl (G.2.1, 525, .inl (gn nw))), (ap, .inl (G.2.1, 3150, .inl (gn (fun j => if j < k then pa (j + 525) else pa j))))] H → va_D A [(mq, .inr (4, [.ref an, .ref ap, .int (nI 6), .ref ak, .ref ai, .ref ad, .ref ac, .ref aw, .int (nI mn), .ref at_, .int (nI le), .int (nI th), .int (nI sp), .ref ao, .int (nI tm)])), (an, .inl (G.2.1, 525, .inl (gn nw))), (ap, .inl (G.2.1, 3150, .inl (gn (fun j => if j < k then pa (j + 525) else pa j))))] → va_S A s.heap H locs → ∀ (ls : Array Slot), lv_has ls 2 [(1, .int (nI k)), (0, .ref mq)] → W p l e ({ frames := 2, cells := 0, slots := 0, locals := 60 } : Room) s m args below meth c H locs 0 0 (MQ below (va_Qv (S := Unit) (fun (u : Unit) => True) (gB G A (fun (u : Unit) => [(mq, .inr (4, [.ref an, .ref ap, .int (nI 6), .ref ak, .ref ai, .ref ad, .ref ac, .ref aw, .int (nI mn), .ref at_, .int (nI le), .int (nI th), .int (nI sp), .ref ao, .int (nI tm)])), (an, .inl (G.2.1, 525, .inl (gn nw))), (ap, .inl (G.2.1, 3150, .inl (gn (layF nw 0 (fun j => if j < 2625 then pa (j + 525) else pa j) 2625))))])) A) args s 0 0 A) (F0 m 11 ls []) := by
    intro fuel
    induction fuel with
    | zero => intro k hme; exact absurd hme (Nat.not_lt_zero _)
    | succ fuel ih11 =>
      intro k hme hk H locs hP hD hS ls hl
      refine lv_iload_n hx hb dX4_saves_11 rfl (lv_at hl 0 rfl) ?_
      refine lv_sipush (v := nI 2625) hx hb dX4_saves_12 (by decide) ?_
      refine gIcmp_ge (a := k) (b := 2625) (tgt := 40) hx hb dX4_saves_15 (by decide) (by omega) (by omega) (fun c15 => ?_) (fun c15 => ?_)
      · skip
        refine lv_aload_n hx hb dX4_saves_40 rfl (lv_at hl 1 rfl) ?_
        refine lv_dup hx hb dX4_saves_41 rfl ?_
        refine va_get (D := G.1) (ci := 4) (v := .int (nI 6)) (C := RX4) (T := TX4) (N := 15) hx hb hts hi4 hown hK hP 0 rfl rfl 2 (by decide) (hts (.fieldLink RX4 41 "LandQuartersModel" "states" "I") (by decide +kernel)) (fun _ h9 => h9) rfl dX4_saves_42 ?_
        refine lv_iconst (v := nI 1) hx hb dX4_saves_45 (by decide) ?_
        refine gIsub (a := 6) (b := 1) hx hb dX4_saves_46 (by omega) ?_
        refine W.eq (g2 := F0 m 47 ls [.int (nI 5), .ref mq]) rfl ?_
        refine va_put (D := G.1) (ci := 4) (v := .int (nI 5)) (ty := .int) (C := RX4) (T := TX4) (N := 15) hx hb hts hi4 tyX4 tyX4_ok nmX4 hown hK hP hD hS 0 rfl rfl 2 (by decide) (hts (.fieldLink RX4 41 "LandQuartersModel" "states" "I") (by decide +kernel)) (fun _ h9 => h9) rfl (by decide +kernel) (rfl) (rfl) (Nat.le_of_ble_eq_true rfl) dX4_saves_47 (fun H locs hP hD hS => ?_)
        have hP : va_P G.1 vwCl [(mq, .inr (4, [.ref an, .ref ap, .int (nI 5), .ref ak, .ref ai, .ref ad, .ref ac, .ref aw, .int (nI mn), .ref at_, .int (nI le), .int (nI th), .int (nI sp), .ref ao, .int (nI tm)])), (an, .inl (G.2.1, 525, .inl (gn nw))), (ap, .inl (G.2.1, 3150, .inl (gn (fun j => if j < k then pa (j + 525) else pa j))))] H := hP
        have hD : va_D A [(mq, .inr (4, [.ref an, .ref ap, .int (nI 5), .ref ak, .ref ai, .ref ad, .ref ac, .ref aw, .int (nI mn), .ref at_, .int (nI le), .int (nI th), .int (nI sp), .ref ao, .int (nI tm)])), (an, .inl (G.2.1, 525, .inl (gn nw))), (ap, .inl (G.2.1, 3150, .inl (gn (fun j => if j < k then pa (j + 525) else pa j))))] := hD
        refine lv_aload_n hx hb dX4_saves_50 rfl (lv_at hl 1 rfl) ?_
        refine va_get (D := G.1) (ci := 4) (v := .ref an) (C := RX4) (T := TX4) (N := 15) hx hb hts hi4 hown hK hP 0 rfl rfl 0 (by decide) (hts (.fieldLink RX4 7 "LandQuartersModel" "now" "[I") (by decide +kernel)) (fun _ h9 => h9) rfl dX4_saves_51 ?_
        refine lv_iconst (v := nI 0) hx hb dX4_saves_54 (by decide) ?_
        refine lv_aload_n hx hb dX4_saves_55 rfl (lv_at hl 1 rfl) ?_
        refine va_get (D := G.1) (ci := 4) (v := .ref ap) (C := RX4) (T := TX4) (N := 15) hx hb hts hi4 hown hK hP 0 rfl rfl 1 (by decide) (hts (.fieldLink RX4 13 "LandQuartersModel" "past" "[I") (by decide +kernel)) (fun _ h9 => h9) rfl dX4_saves_56 ?_
        refine lv_sipush (v := nI 525) hx hb dX4_saves_59 (by decide) ?_
        refine lv_aload_n hx hb dX4_saves_62 rfl (lv_at hl 1 rfl) ?_
        refine va_get (D := G.1) (ci := 4) (v := .int (nI 5)) (C := RX4) (T := TX4) (N := 15) hx hb hts hi4 hown hK hP 0 rfl rfl 2 (by decide) (hts (.fieldLink RX4 41 "LandQuartersModel" "states" "I") (by decide +kernel)) (fun _ h9 => h9) rfl dX4_saves_63 ?_
        refine gImul (a := 525) (b := 5) hx hb dX4_saves_66 ?_
        refine W.eq (g2 := F0 m 67 ls [.int (nI 2625), .ref ap, .int (nI 0), .ref an]) rfl ?_
        refine gCv F (gRunS (own := RX4) (bytes := cX4_lays) (n := 4) (As := [.ref an, .int (nI 0), .ref ap, .int (nI 2625)]) (rest := []) F (c_X4_lays l G an 525 nw 0 ap 3150 (fun j => if j < k then pa (j + 525) else pa j) 2625 (by first | assumption | omega) (by first | assumption | omega) (by first | assumption | omega) (by first | assumption | omega) H.size) gX4_saves_X4_lays rfl rfl rfl rfl (by decide +kernel) rfl ⟨Nat.le_of_ble_eq_true rfl, Nat.le_of_ble_eq_true rfl⟩ hP hD (lit := [(mq, .inr (4, [.ref an, .ref ap, .int (nI 5), .ref ak, .ref ai, .ref ad, .ref ac, .ref aw, .int (nI mn), .ref at_, .int (nI le), .int (nI th), .int (nI sp), .ref ao, .int (nI tm)])), (an, .inl (G.2.1, 525, .inl (gn nw))), (ap, .inl (G.2.1, 3150, .inl (gn (fun j => if j < k then pa (j + 525) else pa j))))]) (wt := []) (wc := [(an, .inl (G.2.1, 525, .inl (gn nw))), (ap, .inl (G.2.1, 3150, .inl (gn (fun j => if j < k then pa (j + 525) else pa j))))]) (isC := [1, 2]) rfl (by decide) rfl hl.1 (Nat.le_of_ble_eq_true rfl) dX4_saves_67 ⟨Nat.le_of_ble_eq_true rfl, Nat.le_of_ble_eq_true rfl⟩) hP hD hS (lit := [(mq, .inr (4, [.ref an, .ref ap, .int (nI 5), .ref ak, .ref ai, .ref ad, .ref ac, .ref aw, .int (nI mn), .ref at_, .int (nI le), .int (nI th), .int (nI sp), .ref ao, .int (nI tm)])), (an, .inl (G.2.1, 525, .inl (gn nw))), (ap, .inl (G.2.1, 3150, .inl (gn (fun j => if j < k then pa (j + 525) else pa j))))]) (wt := []) (wc := [(an, .inl (G.2.1, 525, .inl (gn nw))), (ap, .inl (G.2.1, 3150, .inl (gn (fun j => if j < k then pa (j + 525) else pa j))))]) (wr := [(mq, .inr (4, [.ref an, .ref ap, .int (nI 5), .ref ak, .ref ai, .ref ad, .ref ac, .ref aw, .int (nI mn), .ref at_, .int (nI le), .int (nI th), .int (nI sp), .ref ao, .int (nI tm)]))]) (isC := [1, 2]) (isR := [0]) rfl rfl (by decide) (by decide) (fun u H locs hp67 hP hD hS => ?_)
        have hP : va_P G.1 vwCl [(mq, .inr (4, [.ref an, .ref ap, .int (nI 5), .ref ak, .ref ai, .ref ad, .ref ac, .ref aw, .int (nI mn), .ref at_, .int (nI le), .int (nI th), .int (nI sp), .ref ao, .int (nI tm)])), (an, .inl (G.2.1, 525, .inl (gn nw))), (ap, .inl (G.2.1, 3150, .inl (gn (layF nw 0 (fun j => if j < k then pa (j + 525) else pa j) 2625))))] H := hP
        have hD : va_D A [(mq, .inr (4, [.ref an, .ref ap, .int (nI 5), .ref ak, .ref ai, .ref ad, .ref ac, .ref aw, .int (nI mn), .ref at_, .int (nI le), .int (nI th), .int (nI sp), .ref ao, .int (nI tm)])), (an, .inl (G.2.1, 525, .inl (gn nw))), (ap, .inl (G.2.1, 3150, .inl (gn (layF nw 0 (fun j => if j < k then pa (j + 525) else pa j) 2625))))] := hD
        refine lv_aload_n hx hb dX4_saves_70 rfl (lv_at hl 1 rfl) ?_
        refine lv_dup hx hb dX4_saves_71 rfl ?_
        refine va_get (D := G.1) (ci := 4) (v := .int (nI 5)) (C := RX4) (T := TX4) (N := 15) hx hb hts hi4 hown hK hP 0 rfl rfl 2 (by decide) (hts (.fieldLink RX4 41 "LandQuartersModel" "states" "I") (by decide +kernel)) (fun _ h9 => h9) rfl dX4_saves_72 ?_
        refine lv_iconst (v := nI 1) hx hb dX4_saves_75 (by decide) ?_
        refine gIadd (a := 5) (b := 1) hx hb dX4_saves_76 ?_
        refine W.eq (g2 := F0 m 77 ls [.int (nI 6), .ref mq]) rfl ?_
        refine va_put (D := G.1) (ci := 4) (v := .int (nI 6)) (ty := .int) (C := RX4) (T := TX4) (N := 15) hx hb hts hi4 tyX4 tyX4_ok nmX4 hown hK hP hD hS 0 rfl rfl 2 (by decide) (hts (.fieldLink RX4 41 "LandQuartersModel" "states" "I") (by decide +kernel)) (fun _ h9 => h9) rfl (by decide +kernel) (rfl) (rfl) (Nat.le_of_ble_eq_true rfl) dX4_saves_77 (fun H locs hP hD hS => ?_)
        have hP : va_P G.1 vwCl [(mq, .inr (4, [.ref an, .ref ap, .int (nI 6), .ref ak, .ref ai, .ref ad, .ref ac, .ref aw, .int (nI mn), .ref at_, .int (nI le), .int (nI th), .int (nI sp), .ref ao, .int (nI tm)])), (an, .inl (G.2.1, 525, .inl (gn nw))), (ap, .inl (G.2.1, 3150, .inl (gn (layF nw 0 (fun j => if j < k then pa (j + 525) else pa j) 2625))))] H := hP
        have hD : va_D A [(mq, .inr (4, [.ref an, .ref ap, .int (nI 6), .ref ak, .ref ai, .ref ad, .ref ac, .ref aw, .int (nI mn), .ref at_, .int (nI le), .int (nI th), .int (nI sp), .ref ao, .int (nI tm)])), (an, .inl (G.2.1, 525, .inl (gn nw))), (ap, .inl (G.2.1, 3150, .inl (gn (layF nw 0 (fun j => if j < k then pa (j + 525) else pa j) 2625))))] := hD
        have hP := gEqN (q0 := 2) (f := layF nw 0 (fun j => if j < k then pa (j + 525) else pa j) 2625) (g := layF nw 0 (fun j => if j < 2625 then pa (j + 525) else pa j) 2625) rfl (by intro j hj; rw [show k = 2625 by omega]) hP
        have hD := va_D.set (p := 2) (e := .inl (G.2.1, 3150, .inl (gn (layF nw 0 (fun j => if j < 2625 then pa (j + 525) else pa j) 2625)))) hD rfl
        have hP : va_P G.1 vwCl [(mq, .inr (4, [.ref an, .ref ap, .int (nI 6), .ref ak, .ref ai, .ref ad, .ref ac, .ref aw, .int (nI mn), .ref at_, .int (nI le), .int (nI th), .int (nI sp), .ref ao, .int (nI tm)])), (an, .inl (G.2.1, 525, .inl (gn nw))), (ap, .inl (G.2.1, 3150, .inl (gn (layF nw 0 (fun j => if j < 2625 then pa (j + 525) else pa j) 2625))))] H := hP
        have hD : va_D A [(mq, .inr (4, [.ref an, .ref ap, .int (nI 6), .ref ak, .ref ai, .ref ad, .ref ac, .ref aw, .int (nI mn), .ref at_, .int (nI le), .int (nI th), .int (nI sp), .ref ao, .int (nI tm)])), (an, .inl (G.2.1, 525, .inl (gn nw))), (ap, .inl (G.2.1, 3150, .inl (gn (layF nw 0 (fun j => if j < 2625 then pa (j + 525) else pa j) 2625))))] := hD
        exact gRv F dX4_saves_80 () (trivial) hP hD hS (Nat.le_refl _) (Nat.le_refl _)
      refine lv_aload_n hx hb dX4_saves_18 rfl (lv_at hl 1 rfl) ?_
      refine va_get (D := G.1) (ci := 4) (v := .ref ap) (C := RX4) (T := TX4) (N := 15) hx hb hts hi4 hown hK hP 0 rfl rfl 1 (by decide) (hts (.fieldLink RX4 13 "LandQuartersModel" "past" "[I") (by decide +kernel)) (fun _ h9 => h9) rfl dX4_saves_19 ?_
      refine lv_iload_n hx hb dX4_saves_22 rfl (lv_at hl 0 rfl) ?_
      refine lv_aload_n hx hb dX4_saves_23 rfl (lv_at hl 1 rfl) ?_
      refine va_get (D := G.1) (ci := 4) (v := .ref ap) (C := RX4) (T := TX4) (N := 15) hx hb hts hi4 hown hK hP 0 rfl rfl 1 (by decide) (hts (.fieldLink RX4 13 "LandQuartersModel" "past" "[I") (by decide +kernel)) (fun _ h9 => h9) rfl dX4_saves_24 ?_
      refine lv_iload_n hx hb dX4_saves_27 rfl (lv_at hl 0 rfl) ?_
      refine lv_sipush (v := nI 525) hx hb dX4_saves_28 (by decide) ?_
      refine gIadd (a := k) (b := 525) hx hb dX4_saves_31 ?_
      refine gNald (k := k + 525) hx hb hK hP 2 0 rfl rfl (by omega) (by first | decide | omega) dX4_saves_32 ?_
      refine W.eq (g2 := F0 m 33 ls [.int (nI (pa (k + 525))), .int (nI k), .ref ap]) (by rw [show (nI ((fun j => if j < k then pa (j + 525) else pa j) (k + 525)) : Int32) = nI (pa (k + 525)) from by congr 1; exact if_neg (by omega)]) ?_
      refine gNast (k := k) (v := pa (k + 525)) hx hb hK hP hD hS 2 0 rfl rfl (by omega) (by first | decide | omega) dX4_saves_33 (fun H locs hP hD hS => ?_)
      have hP : va_P G.1 vwCl [(mq, .inr (4, [.ref an, .ref ap, .int (nI 6), .ref ak, .ref ai, .ref ad, .ref ac, .ref aw, .int (nI mn), .ref at_, .int (nI le), .int (nI th), .int (nI sp), .ref ao, .int (nI tm)])), (an, .inl (G.2.1, 525, .inl (gn nw))), (ap, .inl (G.2.1, 3150, .inl (gn (va_up (fun j => if j < k then pa (j + 525) else pa j) k (pa (k + 525))))))] H := hP
      have hD : va_D A [(mq, .inr (4, [.ref an, .ref ap, .int (nI 6), .ref ak, .ref ai, .ref ad, .ref ac, .ref aw, .int (nI mn), .ref at_, .int (nI le), .int (nI th), .int (nI sp), .ref ao, .int (nI tm)])), (an, .inl (G.2.1, 525, .inl (gn nw))), (ap, .inl (G.2.1, 3150, .inl (gn (va_up (fun j => if j < k then pa (j + 525) else pa j) k (pa (k + 525))))))] := hD
      refine lv_iinc (v := nI (k + 1)) (lv' := [(1, .int (nI (k + 1))), (0, .ref mq)]) hx hb dX4_saves_34 hl (k := 0) rfl (gInc_p _ rfl) (by decide) rfl (fun ls hl => ?_)
      refine lv_goto (tgt := 11) hx hb dX4_saves_37 (by decide) ?_
      have hP := gEqN (q0 := 2) (f := va_up (fun j => if j < k then pa (j + 525) else pa j) k (pa (k + 525))) (g := fun j => if j < (k + 1) then pa (j + 525) else pa j) rfl (by intro j hj; simp only [gu_if]; by_cases e : j = k; (subst e; rw [if_pos rfl, if_pos (by omega)]); (rw [if_neg e]; by_cases e2 : j < k; (rw [if_pos e2, if_pos (by omega)]); (rw [if_neg e2, if_neg (by omega)]))) hP
      have hD := va_D.set (p := 2) (e := .inl (G.2.1, 3150, .inl (gn (fun j => if j < (k + 1) then pa (j + 525) else pa j)))) hD rfl
      have hP : va_P G.1 vwCl [(mq, .inr (4, [.ref an, .ref ap, .int (nI 6), .ref ak, .ref ai, .ref ad, .ref ac, .ref aw, .int (nI mn), .ref at_, .int (nI le), .int (nI th), .int (nI sp), .ref ao, .int (nI tm)])), (an, .inl (G.2.1, 525, .inl (gn nw))), (ap, .inl (G.2.1, 3150, .inl (gn (fun j => if j < (k + 1) then pa (j + 525) else pa j))))] H := hP
      have hD : va_D A [(mq, .inr (4, [.ref an, .ref ap, .int (nI 6), .ref ak, .ref ai, .ref ad, .ref ac, .ref aw, .int (nI mn), .ref at_, .int (nI le), .int (nI th), .int (nI sp), .ref ao, .int (nI tm)])), (an, .inl (G.2.1, 525, .inl (gn nw))), (ap, .inl (G.2.1, 3150, .inl (gn (fun j => if j < (k + 1) then pa (j + 525) else pa j))))] := hD
      have hl : lv_has ls 2 [(1, .int (nI (k + 1))), (0, .ref mq)] := lv_sub hl [0, 1] rfl
      have hy_1 : (k + 1) ≤ 2625 := by omega
      exact ih11 (k + 1) (by omega) hy_1 H locs hP hD hS ls hl
  have hP := gEqN (q0 := 2) (f := pa) (g := fun j => if j < 0 then pa (j + 525) else pa j) rfl (by intro j hj; rw [if_neg (by omega)]) hP
  have hD := va_D.set (p := 2) (e := .inl (G.2.1, 3150, .inl (gn (fun j => if j < 0 then pa (j + 525) else pa j)))) hD rfl
  have hP : va_P G.1 vwCl [(mq, .inr (4, [.ref an, .ref ap, .int (nI 6), .ref ak, .ref ai, .ref ad, .ref ac, .ref aw, .int (nI mn), .ref at_, .int (nI le), .int (nI th), .int (nI sp), .ref ao, .int (nI tm)])), (an, .inl (G.2.1, 525, .inl (gn nw))), (ap, .inl (G.2.1, 3150, .inl (gn (fun j => if j < 0 then pa (j + 525) else pa j))))] H := hP
  have hD : va_D A [(mq, .inr (4, [.ref an, .ref ap, .int (nI 6), .ref ak, .ref ai, .ref ad, .ref ac, .ref aw, .int (nI mn), .ref at_, .int (nI le), .int (nI th), .int (nI sp), .ref ao, .int (nI tm)])), (an, .inl (G.2.1, 525, .inl (gn nw))), (ap, .inl (G.2.1, 3150, .inl (gn (fun j => if j < 0 then pa (j + 525) else pa j))))] := hD
  have hl : lv_has ls 2 [(1, .int (nI 0)), (0, .ref mq)] := lv_sub hl [0, 1] rfl
  have hy_2 : 0 ≤ 2625 := by omega
  exact L11 _ 0 (Nat.lt_succ_self _) hy_2 H locs hP hD hS ls hl

theorem c_X4_saves (l : Launch) (G : gG) (mq : Nat) (an : Nat) (ap : Nat) (st : Nat) (ak : Nat) (ai : Nat) (ad : Nat) (ac : Nat) (aw : Nat) (mn : Nat) (at_ : Nat) (le : Nat) (th : Nat) (sp : Nat) (ao : Nat) (tm : Nat) (nw : Nat → Nat) (pa : Nat → Nat) (hs : st ≤ 6) : gMv (S := Unit) l yX4_saves wsX4_saves { frames := 2, cells := 0, slots := 0, locals := 60 } G [.ref mq] [(mq, .inr (4, [.ref an, .ref ap, .int (nI st), .ref ak, .ref ai, .ref ad, .ref ac, .ref aw, .int (nI mn), .ref at_, .int (nI le), .int (nI th), .int (nI sp), .ref ao, .int (nI tm)])), (an, .inl (G.2.1, 525, .inl (gn nw))), (ap, .inl (G.2.1, 3150, .inl (gn pa)))] (fun (u : Unit) => True) (fun u => [(mq, .inr (4, [.ref an, .ref ap, .int (nI (svN st)), .ref ak, .ref ai, .ref ad, .ref ac, .ref aw, .int (nI mn), .ref at_, .int (nI le), .int (nI th), .int (nI sp), .ref ao, .int (nI tm)])), (an, .inl (G.2.1, 525, .inl (gn nw))), (ap, .inl (G.2.1, 3150, .inl (gn (savP nw pa st))))]) 0 0 := by
  by_cases h : st < 6
  · rw [show svN st = st + 1 from if_pos h, show savP nw pa st = layF nw 0 pa (525 * st) from if_pos h]
    exact c_saves_lt l G mq an ap st ak ai ad ac aw mn at_ le th sp ao tm nw pa h
  · obtain rfl : st = 6 := by omega
    rw [show svN 6 = 6 from rfl, show savP nw pa 6 = layF nw 0 (fun j => if j < 2625 then pa (j + 525) else pa j) 2625 from rfl]
    exact c_saves_full l G mq an ap ak ai ad ac aw mn at_ le th sp ao tm nw pa

set_option maxHeartbeats 4000000 in
set_option maxRecDepth 100000 in
theorem c_X4_isCell (l : Launch) (G : gG) (x : Int) (y : Int) (hx : -2147483648 ≤ x ∧ x < 2147483648) (hy : -2147483648 ≤ y ∧ y < 2147483648) : gMi (S := Unit) l yX4_isCell wsX4_isCell { frames := 1, cells := 0, slots := 0, locals := 22 } G [.int (zI x), .int (zI y)] [] (fun (r : Int32) (u : Unit) => (r = nI (if (0 ≤ x ∧ x < 16 ∧ 0 ≤ y ∧ y < 16) then 1 else 0))) (fun u => []) 0 0 := by
  refine gMet_mk (cc := cX4_isCell) (nL := 2) (ret := (some .boolean)) (Qc := fun A => va_Qi (S := Unit) (fun (r : Int32) (u : Unit) => (r = nI (if (0 ≤ x ∧ x < 16 ∧ 0 ≤ y ∧ y < 16) then 1 else 0))) (gB G A (fun (u : Unit) => [])) A) (by decide) rfl (Nat.le_of_ble_eq_true rfl) ?_
  intro p e s m args below meth c A F ls hl hP hD hS
  have hx := F.1
  have hb := F.2.1
  have hts := F.2.2.2.2.2.2.1
  have hown : s.vm.findClass RX4 = some m.cls := F.2.2.2.2.2.1
  have hKK := F.2.2.2.2.2.2.2.2.1
  have hK := hKK.1
  have hin0 := F.2.2.2.2.2.2.2.1
  have hl : lv_has ls 2 [(0, .int (zI x)), (1, .int (zI y))] := hl
  generalize hH : s.heap = H at hP ⊢
  have hS : va_S A s.heap H [] := by rw [← hH]; exact va_S.rf
  generalize hLo : ([] : List Loc) = locs at hS ⊢
  refine lv_iload_n hx hb dX4_isCell_0 rfl (lv_at hl 0 rfl) ?_
  refine lv_iconst (v := nI 0) hx hb dX4_isCell_1 (by decide) ?_
  refine lv_bipush (v := nI 15) hx hb dX4_isCell_2 (by decide) ?_
  refine W.eq (g2 := F0 m 4 ls [.int (zI ((15 : Nat) : Int)), .int (zI ((0 : Nat) : Int)), .int (zI x)]) (by simp only [zI_nat, zI_neg1]) ?_
  refine gCi F (gRunS (own := RX4) (bytes := cX4_in) (n := 3) (As := [.int (zI x), .int (zI ((0 : Nat) : Int)), .int (zI ((15 : Nat) : Int))]) (rest := []) F (c_X4_in l G x ((0 : Nat) : Int) ((15 : Nat) : Int) (by first | assumption | omega) (by first | assumption | omega) (by first | assumption | omega) H.size) gX4_isCell_X4_in rfl rfl rfl rfl (by decide +kernel) rfl ⟨Nat.le_of_ble_eq_true rfl, Nat.le_of_ble_eq_true rfl⟩ hP hD (lit := []) (wt := []) (wc := []) (isC := []) rfl (by decide) rfl hl.1 (Nat.le_of_ble_eq_true rfl) dX4_isCell_4 ⟨Nat.le_of_ble_eq_true rfl, Nat.le_of_ble_eq_true rfl⟩) hP hD hS (lit := []) (wt := []) (wc := []) (wr := []) (isC := []) (isR := []) rfl rfl (by decide) (by decide) (fun r4 u H locs hp4 hP hD hS => ?_)
  subst hp4
  have hP : va_P G.1 vwCl [] H := hP
  have hD : va_D A [] := hD
  refine gIfB_eq (P := (((0 : Nat) : Int) ≤ x ∧ x ≤ ((15 : Nat) : Int))) (tgt := 24) hx hb dX4_isCell_7 (by decide) (fun c7 => ?_) (fun c7 => ?_)
  · skip
    refine lv_iconst (v := nI 0) hx hb dX4_isCell_24 (by decide) ?_
    exact gRi F dX4_isCell_25 (gNarZ (by decide)) () (by first | rfl | (rw [if_pos (by omega)]) | (rw [if_neg (by omega)])) hP hD hS (Nat.le_refl _) (Nat.le_refl _)
  refine lv_iload_n hx hb dX4_isCell_10 rfl (lv_at hl 1 rfl) ?_
  refine lv_iconst (v := nI 0) hx hb dX4_isCell_11 (by decide) ?_
  refine lv_bipush (v := nI 15) hx hb dX4_isCell_12 (by decide) ?_
  refine W.eq (g2 := F0 m 14 ls [.int (zI ((15 : Nat) : Int)), .int (zI ((0 : Nat) : Int)), .int (zI y)]) (by simp only [zI_nat, zI_neg1]) ?_
  refine gCi F (gRunS (own := RX4) (bytes := cX4_in) (n := 3) (As := [.int (zI y), .int (zI ((0 : Nat) : Int)), .int (zI ((15 : Nat) : Int))]) (rest := []) F (c_X4_in l G y ((0 : Nat) : Int) ((15 : Nat) : Int) (by first | assumption | omega) (by first | assumption | omega) (by first | assumption | omega) H.size) gX4_isCell_X4_in rfl rfl rfl rfl (by decide +kernel) rfl ⟨Nat.le_of_ble_eq_true rfl, Nat.le_of_ble_eq_true rfl⟩ hP hD (lit := []) (wt := []) (wc := []) (isC := []) rfl (by decide) rfl hl.1 (Nat.le_of_ble_eq_true rfl) dX4_isCell_14 ⟨Nat.le_of_ble_eq_true rfl, Nat.le_of_ble_eq_true rfl⟩) hP hD hS (lit := []) (wt := []) (wc := []) (wr := []) (isC := []) (isR := []) rfl rfl (by decide) (by decide) (fun r14 u H locs hp14 hP hD hS => ?_)
  subst hp14
  have hP : va_P G.1 vwCl [] H := hP
  have hD : va_D A [] := hD
  refine gIfB_eq (P := (((0 : Nat) : Int) ≤ y ∧ y ≤ ((15 : Nat) : Int))) (tgt := 24) hx hb dX4_isCell_17 (by decide) (fun c17 => ?_) (fun c17 => ?_)
  · skip
    refine lv_iconst (v := nI 0) hx hb dX4_isCell_24 (by decide) ?_
    exact gRi F dX4_isCell_25 (gNarZ (by decide)) () (by first | rfl | (rw [if_pos (by omega)]) | (rw [if_neg (by omega)])) hP hD hS (Nat.le_refl _) (Nat.le_refl _)
  refine lv_iconst (v := nI 1) hx hb dX4_isCell_20 (by decide) ?_
  refine lv_goto (tgt := 25) hx hb dX4_isCell_21 (by decide) ?_
  exact gRi F dX4_isCell_25 (gNarZ (by decide)) () (by first | rfl | (rw [if_pos (by omega)]) | (rw [if_neg (by omega)])) hP hD hS (Nat.le_refl _) (Nat.le_refl _)

set_option maxHeartbeats 4000000 in
set_option maxRecDepth 100000 in
theorem c_X4_isOwner (l : Launch) (G : gG) (o : Int) (ho : -2147483648 ≤ o ∧ o < 2147483648) : gMi (S := Unit) l yX4_isOwner wsX4_isOwner { frames := 1, cells := 0, slots := 0, locals := 22 } G [.int (zI o)] [] (fun (r : Int32) (u : Unit) => (r = nI (if (0 ≤ o ∧ o < 8) then 1 else 0))) (fun u => []) 0 0 := by
  refine gMet_mk (cc := cX4_isOwner) (nL := 1) (ret := (some .boolean)) (Qc := fun A => va_Qi (S := Unit) (fun (r : Int32) (u : Unit) => (r = nI (if (0 ≤ o ∧ o < 8) then 1 else 0))) (gB G A (fun (u : Unit) => [])) A) (by decide) rfl (Nat.le_of_ble_eq_true rfl) ?_
  intro p e s m args below meth c A F ls hl hP hD hS
  have hx := F.1
  have hb := F.2.1
  have hts := F.2.2.2.2.2.2.1
  have hown : s.vm.findClass RX4 = some m.cls := F.2.2.2.2.2.1
  have hKK := F.2.2.2.2.2.2.2.2.1
  have hK := hKK.1
  have hin0 := F.2.2.2.2.2.2.2.1
  have hl : lv_has ls 1 [(0, .int (zI o))] := hl
  generalize hH : s.heap = H at hP ⊢
  have hS : va_S A s.heap H [] := by rw [← hH]; exact va_S.rf
  generalize hLo : ([] : List Loc) = locs at hS ⊢
  refine lv_iload_n hx hb dX4_isOwner_0 rfl (lv_at hl 0 rfl) ?_
  refine lv_iconst (v := nI 0) hx hb dX4_isOwner_1 (by decide) ?_
  refine lv_bipush (v := nI 7) hx hb dX4_isOwner_2 (by decide) ?_
  refine W.eq (g2 := F0 m 4 ls [.int (zI ((7 : Nat) : Int)), .int (zI ((0 : Nat) : Int)), .int (zI o)]) (by simp only [zI_nat, zI_neg1]) ?_
  refine gCi F (gRunS (own := RX4) (bytes := cX4_in) (n := 3) (As := [.int (zI o), .int (zI ((0 : Nat) : Int)), .int (zI ((7 : Nat) : Int))]) (rest := []) F (c_X4_in l G o ((0 : Nat) : Int) ((7 : Nat) : Int) (by first | assumption | omega) (by first | assumption | omega) (by first | assumption | omega) H.size) gX4_isOwner_X4_in rfl rfl rfl rfl (by decide +kernel) rfl ⟨Nat.le_of_ble_eq_true rfl, Nat.le_of_ble_eq_true rfl⟩ hP hD (lit := []) (wt := []) (wc := []) (isC := []) rfl (by decide) rfl hl.1 (Nat.le_of_ble_eq_true rfl) dX4_isOwner_4 ⟨Nat.le_of_ble_eq_true rfl, Nat.le_of_ble_eq_true rfl⟩) hP hD hS (lit := []) (wt := []) (wc := []) (wr := []) (isC := []) (isR := []) rfl rfl (by decide) (by decide) (fun r4 u H locs hp4 hP hD hS => ?_)
  subst hp4
  have hP : va_P G.1 vwCl [] H := hP
  have hD : va_D A [] := hD
  exact gRi F dX4_isOwner_7 (gNarZb _) () (by congr 1; exact ite01 (by omega)) hP hD hS (Nat.le_refl _) (Nat.le_refl _)

set_option maxHeartbeats 4000000 in
set_option maxRecDepth 100000 in
theorem c_X4_isPerson (l : Launch) (G : gG) (o : Int) (ho : -2147483648 ≤ o ∧ o < 2147483648) : gMi (S := Unit) l yX4_isPerson wsX4_isPerson { frames := 1, cells := 0, slots := 0, locals := 22 } G [.int (zI o)] [] (fun (r : Int32) (u : Unit) => (r = nI (if (1 ≤ o ∧ o < 8) then 1 else 0))) (fun u => []) 0 0 := by
  refine gMet_mk (cc := cX4_isPerson) (nL := 1) (ret := (some .boolean)) (Qc := fun A => va_Qi (S := Unit) (fun (r : Int32) (u : Unit) => (r = nI (if (1 ≤ o ∧ o < 8) then 1 else 0))) (gB G A (fun (u : Unit) => [])) A) (by decide) rfl (Nat.le_of_ble_eq_true rfl) ?_
  intro p e s m args below meth c A F ls hl hP hD hS
  have hx := F.1
  have hb := F.2.1
  have hts := F.2.2.2.2.2.2.1
  have hown : s.vm.findClass RX4 = some m.cls := F.2.2.2.2.2.1
  have hKK := F.2.2.2.2.2.2.2.2.1
  have hK := hKK.1
  have hin0 := F.2.2.2.2.2.2.2.1
  have hl : lv_has ls 1 [(0, .int (zI o))] := hl
  generalize hH : s.heap = H at hP ⊢
  have hS : va_S A s.heap H [] := by rw [← hH]; exact va_S.rf
  generalize hLo : ([] : List Loc) = locs at hS ⊢
  refine lv_iload_n hx hb dX4_isPerson_0 rfl (lv_at hl 0 rfl) ?_
  refine lv_iconst (v := nI 1) hx hb dX4_isPerson_1 (by decide) ?_
  refine lv_bipush (v := nI 7) hx hb dX4_isPerson_2 (by decide) ?_
  refine W.eq (g2 := F0 m 4 ls [.int (zI ((7 : Nat) : Int)), .int (zI ((1 : Nat) : Int)), .int (zI o)]) (by simp only [zI_nat, zI_neg1]) ?_
  refine gCi F (gRunS (own := RX4) (bytes := cX4_in) (n := 3) (As := [.int (zI o), .int (zI ((1 : Nat) : Int)), .int (zI ((7 : Nat) : Int))]) (rest := []) F (c_X4_in l G o ((1 : Nat) : Int) ((7 : Nat) : Int) (by first | assumption | omega) (by first | assumption | omega) (by first | assumption | omega) H.size) gX4_isPerson_X4_in rfl rfl rfl rfl (by decide +kernel) rfl ⟨Nat.le_of_ble_eq_true rfl, Nat.le_of_ble_eq_true rfl⟩ hP hD (lit := []) (wt := []) (wc := []) (isC := []) rfl (by decide) rfl hl.1 (Nat.le_of_ble_eq_true rfl) dX4_isPerson_4 ⟨Nat.le_of_ble_eq_true rfl, Nat.le_of_ble_eq_true rfl⟩) hP hD hS (lit := []) (wt := []) (wc := []) (wr := []) (isC := []) (isR := []) rfl rfl (by decide) (by decide) (fun r4 u H locs hp4 hP hD hS => ?_)
  subst hp4
  have hP : va_P G.1 vwCl [] H := hP
  have hD : va_D A [] := hD
  exact gRi F dX4_isPerson_7 (gNarZb _) () (by congr 1; exact ite01 (by omega)) hP hD hS (Nat.le_refl _) (Nat.le_refl _)

set_option maxHeartbeats 4000000 in
set_option maxRecDepth 100000 in
theorem c_X4_isSquare (l : Launch) (G : gG) (x : Int) (y : Int) (z : Int) (hx : 0 ≤ x ∧ x < 16) (hy : 0 ≤ y ∧ y < 16) (hz : -2147483648 ≤ z ∧ z < 2147483648) : gMi (S := Unit) l yX4_isSquare wsX4_isSquare { frames := 0, cells := 0, slots := 0, locals := 0 } G [.int (zI x), .int (zI y), .int (zI z)] [] (fun (r : Int32) (u : Unit) => (r = nI (if ((z = 1 ∨ z = 2 ∨ z = 4 ∨ z = 8 ∨ z = 16) ∧ 0 ≤ x ∧ x < 16 ∧ 0 ≤ y ∧ y < 16 ∧ x % z = 0 ∧ y % z = 0) then 1 else 0))) (fun u => []) 0 0 := by
  refine gMet_mk (cc := cX4_isSquare) (nL := 4) (ret := (some .boolean)) (Qc := fun A => va_Qi (S := Unit) (fun (r : Int32) (u : Unit) => (r = nI (if ((z = 1 ∨ z = 2 ∨ z = 4 ∨ z = 8 ∨ z = 16) ∧ 0 ≤ x ∧ x < 16 ∧ 0 ≤ y ∧ y < 16 ∧ x % z = 0 ∧ y % z = 0) then 1 else 0))) (gB G A (fun (u : Unit) => [])) A) (by decide) rfl (Nat.le_of_ble_eq_true rfl) ?_
  intro p e s m args below meth c A F ls hl hP hD hS
  have hx := F.1
  have hb := F.2.1
  have hts := F.2.2.2.2.2.2.1
  have hown : s.vm.findClass RX4 = some m.cls := F.2.2.2.2.2.1
  have hKK := F.2.2.2.2.2.2.2.2.1
  have hK := hKK.1
  have hin0 := F.2.2.2.2.2.2.2.1
  have hl : lv_has ls 4 [(0, .int (zI x)), (1, .int (zI y)), (2, .int (zI z))] := hl
  generalize hH : s.heap = H at hP ⊢
  have hS : va_S A s.heap H [] := by rw [← hH]; exact va_S.rf
  generalize hLo : ([] : List Loc) = locs at hS ⊢
  have J32 : ∀  (H : Heap) (locs : List Loc), va_P G.1 vwCl [] H → va_D A [] → va_S A s.heap H locs → ∀ (ls : Array Slot), lv_has ls 4 [(0, .int (zI x)), (1, .int (zI y)), (2, .int (zI z))] → W p l e ({ frames := 0, cells := 0, slots := 0, locals := 0 } : Room) s m args below meth c H locs 0 0 (MQ below (va_Qi (S := Unit) (fun (r : Int32) (u : Unit) => (r = nI (if ((z = 1 ∨ z = 2 ∨ z = 4 ∨ z = 8 ∨ z = 16) ∧ 0 ≤ x ∧ x < 16 ∧ 0 ≤ y ∧ y < 16 ∧ x % z = 0 ∧ y % z = 0) then 1 else 0))) (gB G A (fun (u : Unit) => [])) A) args s 0 0 A) (F0 m 32 ls [.int (nI (if ((z = 1 ∨ z = 2 ∨ z = 4 ∨ z = 8 ∨ z = 16)) then 1 else 0))]) := by
    intro  H locs hP hD hS ls hl
    refine lv_istore_n (lv' := [(3, .int (nI (if ((z = 1 ∨ z = 2 ∨ z = 4 ∨ z = 8 ∨ z = 16)) then 1 else 0))), (0, .int (zI x)), (1, .int (zI y)), (2, .int (zI z))]) hx hb dX4_isSquare_32 rfl hl (by decide) rfl (fun ls hl => ?_)
    refine lv_iload_n hx hb dX4_isSquare_33 rfl (lv_at hl 0 rfl) ?_
    refine gIfB_eq (P := ((z = 1 ∨ z = 2 ∨ z = 4 ∨ z = 8 ∨ z = 16))) (tgt := 53) hx hb dX4_isSquare_34 (by decide) (fun c34 => ?_) (fun c34 => ?_)
    · skip
      refine lv_iconst (v := nI 0) hx hb dX4_isSquare_53 (by decide) ?_
      exact gRi F dX4_isSquare_54 (gNarZ (by decide)) () (by first | rfl | (rw [if_pos (by omega)]) | (rw [if_neg (by omega)])) hP hD hS (Nat.le_refl _) (Nat.le_refl _)
    refine lv_iload_n hx hb dX4_isSquare_37 rfl (lv_at hl 1 rfl) ?_
    refine lv_iload_n hx hb dX4_isSquare_38 rfl (lv_at hl 3 rfl) ?_
    refine gZrem (a := x) (b := z) hx hb dX4_isSquare_39 (by omega) (by omega) (by omega) ?_
    refine gZf_ne (a := x % z) (tgt := 53) hx hb dX4_isSquare_40 (by decide) (by have := Int.emod_nonneg x (show z ≠ 0 by omega); have := Int.emod_lt_of_pos x (show 0 < z by omega); omega) (fun c40 => ?_) (fun c40 => ?_)
    · skip
      refine lv_iconst (v := nI 0) hx hb dX4_isSquare_53 (by decide) ?_
      exact gRi F dX4_isSquare_54 (gNarZ (by decide)) () (by first | rfl | (rw [if_pos (by omega)]) | (rw [if_neg (by omega)])) hP hD hS (Nat.le_refl _) (Nat.le_refl _)
    refine lv_iload_n hx hb dX4_isSquare_43 rfl (lv_at hl 2 rfl) ?_
    refine lv_iload_n hx hb dX4_isSquare_44 rfl (lv_at hl 3 rfl) ?_
    refine gZrem (a := y) (b := z) hx hb dX4_isSquare_45 (by omega) (by omega) (by omega) ?_
    refine gZf_ne (a := y % z) (tgt := 53) hx hb dX4_isSquare_46 (by decide) (by have := Int.emod_nonneg y (show z ≠ 0 by omega); have := Int.emod_lt_of_pos y (show 0 < z by omega); omega) (fun c46 => ?_) (fun c46 => ?_)
    · skip
      refine lv_iconst (v := nI 0) hx hb dX4_isSquare_53 (by decide) ?_
      exact gRi F dX4_isSquare_54 (gNarZ (by decide)) () (by first | rfl | (rw [if_pos (by omega)]) | (rw [if_neg (by omega)])) hP hD hS (Nat.le_refl _) (Nat.le_refl _)
    refine lv_iconst (v := nI 1) hx hb dX4_isSquare_49 (by decide) ?_
    refine lv_goto (tgt := 54) hx hb dX4_isSquare_50 (by decide) ?_
    exact gRi F dX4_isSquare_54 (gNarZ (by decide)) () (by first | rfl | (rw [if_pos (by omega)]) | (rw [if_neg (by omega)])) hP hD hS (Nat.le_refl _) (Nat.le_refl _)
  refine lv_iload_n hx hb dX4_isSquare_0 rfl (lv_at hl 2 rfl) ?_
  refine lv_iconst (v := nI 1) hx hb dX4_isSquare_1 (by decide) ?_
  refine W.eq (g2 := F0 m 2 ls [.int (zI ((1 : Nat) : Int)), .int (zI z)]) (by simp only [zI_nat]) ?_
  refine gZcmp_eq (a := z) (b := ((1 : Nat) : Int)) (tgt := 27) hx hb dX4_isSquare_2 (by decide) (by omega) (by omega) (fun c2 => ?_) (fun c2 => ?_)
  · skip
    refine lv_iconst (v := nI 1) hx hb dX4_isSquare_27 (by decide) ?_
    refine lv_goto (tgt := 32) hx hb dX4_isSquare_28 (by decide) ?_
    have hl : lv_has ls 4 [(0, .int (zI x)), (1, .int (zI y)), (2, .int (zI z))] := lv_sub hl [0, 1, 2] rfl
    have hse : (.int (nI 1) : Value) = .int (nI (if ((z = 1 ∨ z = 2 ∨ z = 4 ∨ z = 8 ∨ z = 16)) then 1 else 0)) := by first | rfl | (rw [if_pos (by omega)]) | (rw [if_neg (by omega)])
    refine W.eq (g2 := F0 m 32 ls [.int (nI (if ((z = 1 ∨ z = 2 ∨ z = 4 ∨ z = 8 ∨ z = 16)) then 1 else 0))]) (congrArg (fun v_ => F0 m 32 ls [v_]) hse) ?_
    exact J32  H locs hP hD hS ls hl
  refine lv_iload_n hx hb dX4_isSquare_5 rfl (lv_at hl 2 rfl) ?_
  refine lv_iconst (v := nI 2) hx hb dX4_isSquare_6 (by decide) ?_
  refine W.eq (g2 := F0 m 7 ls [.int (zI ((2 : Nat) : Int)), .int (zI z)]) (by simp only [zI_nat]) ?_
  refine gZcmp_eq (a := z) (b := ((2 : Nat) : Int)) (tgt := 27) hx hb dX4_isSquare_7 (by decide) (by omega) (by omega) (fun c7 => ?_) (fun c7 => ?_)
  · skip
    refine lv_iconst (v := nI 1) hx hb dX4_isSquare_27 (by decide) ?_
    refine lv_goto (tgt := 32) hx hb dX4_isSquare_28 (by decide) ?_
    have hl : lv_has ls 4 [(0, .int (zI x)), (1, .int (zI y)), (2, .int (zI z))] := lv_sub hl [0, 1, 2] rfl
    have hse : (.int (nI 1) : Value) = .int (nI (if ((z = 1 ∨ z = 2 ∨ z = 4 ∨ z = 8 ∨ z = 16)) then 1 else 0)) := by first | rfl | (rw [if_pos (by omega)]) | (rw [if_neg (by omega)])
    refine W.eq (g2 := F0 m 32 ls [.int (nI (if ((z = 1 ∨ z = 2 ∨ z = 4 ∨ z = 8 ∨ z = 16)) then 1 else 0))]) (congrArg (fun v_ => F0 m 32 ls [v_]) hse) ?_
    exact J32  H locs hP hD hS ls hl
  refine lv_iload_n hx hb dX4_isSquare_10 rfl (lv_at hl 2 rfl) ?_
  refine lv_iconst (v := nI 4) hx hb dX4_isSquare_11 (by decide) ?_
  refine W.eq (g2 := F0 m 12 ls [.int (zI ((4 : Nat) : Int)), .int (zI z)]) (by simp only [zI_nat]) ?_
  refine gZcmp_eq (a := z) (b := ((4 : Nat) : Int)) (tgt := 27) hx hb dX4_isSquare_12 (by decide) (by omega) (by omega) (fun c12 => ?_) (fun c12 => ?_)
  · skip
    refine lv_iconst (v := nI 1) hx hb dX4_isSquare_27 (by decide) ?_
    refine lv_goto (tgt := 32) hx hb dX4_isSquare_28 (by decide) ?_
    have hl : lv_has ls 4 [(0, .int (zI x)), (1, .int (zI y)), (2, .int (zI z))] := lv_sub hl [0, 1, 2] rfl
    have hse : (.int (nI 1) : Value) = .int (nI (if ((z = 1 ∨ z = 2 ∨ z = 4 ∨ z = 8 ∨ z = 16)) then 1 else 0)) := by first | rfl | (rw [if_pos (by omega)]) | (rw [if_neg (by omega)])
    refine W.eq (g2 := F0 m 32 ls [.int (nI (if ((z = 1 ∨ z = 2 ∨ z = 4 ∨ z = 8 ∨ z = 16)) then 1 else 0))]) (congrArg (fun v_ => F0 m 32 ls [v_]) hse) ?_
    exact J32  H locs hP hD hS ls hl
  refine lv_iload_n hx hb dX4_isSquare_15 rfl (lv_at hl 2 rfl) ?_
  refine lv_bipush (v := nI 8) hx hb dX4_isSquare_16 (by decide) ?_
  refine W.eq (g2 := F0 m 18 ls [.int (zI ((8 : Nat) : Int)), .int (zI z)]) (by simp only [zI_nat]) ?_
  refine gZcmp_eq (a := z) (b := ((8 : Nat) : Int)) (tgt := 27) hx hb dX4_isSquare_18 (by decide) (by omega) (by omega) (fun c18 => ?_) (fun c18 => ?_)
  · skip
    refine lv_iconst (v := nI 1) hx hb dX4_isSquare_27 (by decide) ?_
    refine lv_goto (tgt := 32) hx hb dX4_isSquare_28 (by decide) ?_
    have hl : lv_has ls 4 [(0, .int (zI x)), (1, .int (zI y)), (2, .int (zI z))] := lv_sub hl [0, 1, 2] rfl
    have hse : (.int (nI 1) : Value) = .int (nI (if ((z = 1 ∨ z = 2 ∨ z = 4 ∨ z = 8 ∨ z = 16)) then 1 else 0)) := by first | rfl | (rw [if_pos (by omega)]) | (rw [if_neg (by omega)])
    refine W.eq (g2 := F0 m 32 ls [.int (nI (if ((z = 1 ∨ z = 2 ∨ z = 4 ∨ z = 8 ∨ z = 16)) then 1 else 0))]) (congrArg (fun v_ => F0 m 32 ls [v_]) hse) ?_
    exact J32  H locs hP hD hS ls hl
  refine lv_iload_n hx hb dX4_isSquare_21 rfl (lv_at hl 2 rfl) ?_
  refine lv_bipush (v := nI 16) hx hb dX4_isSquare_22 (by decide) ?_
  refine W.eq (g2 := F0 m 24 ls [.int (zI ((16 : Nat) : Int)), .int (zI z)]) (by simp only [zI_nat]) ?_
  refine gZcmp_ne (a := z) (b := ((16 : Nat) : Int)) (tgt := 31) hx hb dX4_isSquare_24 (by decide) (by omega) (by omega) (fun c24 => ?_) (fun c24 => ?_)
  · skip
    refine lv_iconst (v := nI 0) hx hb dX4_isSquare_31 (by decide) ?_
    have hl : lv_has ls 4 [(0, .int (zI x)), (1, .int (zI y)), (2, .int (zI z))] := lv_sub hl [0, 1, 2] rfl
    have hse : (.int (nI 0) : Value) = .int (nI (if ((z = 1 ∨ z = 2 ∨ z = 4 ∨ z = 8 ∨ z = 16)) then 1 else 0)) := by first | rfl | (rw [if_pos (by omega)]) | (rw [if_neg (by omega)])
    refine W.eq (g2 := F0 m 32 ls [.int (nI (if ((z = 1 ∨ z = 2 ∨ z = 4 ∨ z = 8 ∨ z = 16)) then 1 else 0))]) (congrArg (fun v_ => F0 m 32 ls [v_]) hse) ?_
    exact J32  H locs hP hD hS ls hl
  refine lv_iconst (v := nI 1) hx hb dX4_isSquare_27 (by decide) ?_
  refine lv_goto (tgt := 32) hx hb dX4_isSquare_28 (by decide) ?_
  have hl : lv_has ls 4 [(0, .int (zI x)), (1, .int (zI y)), (2, .int (zI z))] := lv_sub hl [0, 1, 2] rfl
  have hse : (.int (nI 1) : Value) = .int (nI (if ((z = 1 ∨ z = 2 ∨ z = 4 ∨ z = 8 ∨ z = 16)) then 1 else 0)) := by first | rfl | (rw [if_pos (by omega)]) | (rw [if_neg (by omega)])
  refine W.eq (g2 := F0 m 32 ls [.int (nI (if ((z = 1 ∨ z = 2 ∨ z = 4 ∨ z = 8 ∨ z = 16)) then 1 else 0))]) (congrArg (fun v_ => F0 m 32 ls [v_]) hse) ?_
  exact J32  H locs hP hD hS ls hl

set_option maxHeartbeats 4000000 in
set_option maxRecDepth 100000 in
theorem c_X4_cellOf (l : Launch) (G : gG) (pp : Nat) (hp : pp < 256) : gMi (S := Unit) l yX4_cellOf wsX4_cellOf { frames := 0, cells := 0, slots := 0, locals := 0 } G [.int (nI pp)] [] (fun (r : Int32) (u : Unit) => (r = nI (mc pp))) (fun u => []) 0 0 := by
  refine gMet_mk (cc := cX4_cellOf) (nL := 4) (ret := (some .int)) (Qc := fun A => va_Qi (S := Unit) (fun (r : Int32) (u : Unit) => (r = nI (mc pp))) (gB G A (fun (u : Unit) => [])) A) (by decide) rfl (Nat.le_of_ble_eq_true rfl) ?_
  intro p e s m args below meth c A F ls hl hP hD hS
  have hx := F.1
  have hb := F.2.1
  have hts := F.2.2.2.2.2.2.1
  have hown : s.vm.findClass RX4 = some m.cls := F.2.2.2.2.2.1
  have hKK := F.2.2.2.2.2.2.2.2.1
  have hK := hKK.1
  have hin0 := F.2.2.2.2.2.2.2.1
  have hl : lv_has ls 4 [(0, .int (nI pp))] := hl
  generalize hH : s.heap = H at hP ⊢
  have hS : va_S A s.heap H [] := by rw [← hH]; exact va_S.rf
  generalize hLo : ([] : List Loc) = locs at hS ⊢
  refine lv_iconst (v := nI 0) hx hb dX4_cellOf_0 (by decide) ?_
  refine lv_istore_n (lv' := [(1, .int (nI 0)), (0, .int (nI pp))]) hx hb dX4_cellOf_1 rfl hl (by decide) rfl (fun ls hl => ?_)
  refine lv_iconst (v := nI 0) hx hb dX4_cellOf_2 (by decide) ?_
  refine lv_istore_n (lv' := [(2, .int (nI 0)), (1, .int (nI 0)), (0, .int (nI pp))]) hx hb dX4_cellOf_3 rfl hl (by decide) rfl (fun ls hl => ?_)
  refine lv_iconst (v := nI 0) hx hb dX4_cellOf_4 (by decide) ?_
  refine lv_istore_n (lv' := [(3, .int (nI 0)), (2, .int (nI 0)), (1, .int (nI 0)), (0, .int (nI pp))]) hx hb dX4_cellOf_5 rfl hl (by decide) rfl (fun ls hl => ?_)
  refine lv_iload_n hx hb dX4_cellOf_6 rfl (lv_at hl 0 rfl) ?_
  refine lv_iconst (v := nI 4) hx hb dX4_cellOf_7 (by decide) ?_
  refine gIcmp_ge (a := 0) (b := 4) (tgt := 43) hx hb dX4_cellOf_8 (by decide) (by omega) (by omega) (fun c8 => ?_) (fun c8 => ?_)
  · skip
    exfalso; omega
  refine lv_iload_n hx hb dX4_cellOf_11 rfl (lv_at hl 2 rfl) ?_
  refine lv_iload_n hx hb dX4_cellOf_12 rfl (lv_at hl 3 rfl) ?_
  refine lv_iconst (v := nI 2) hx hb dX4_cellOf_13 (by decide) ?_
  refine lv_iload_n hx hb dX4_cellOf_14 rfl (lv_at hl 0 rfl) ?_
  refine gImul (a := 2) (b := 0) hx hb dX4_cellOf_15 ?_
  refine W.eq (g2 := F0 m 16 ls [.int (nI 0), .int (nI pp), .int (nI 0)]) rfl ?_
  refine lv_ishr hx hb dX4_cellOf_16 ?_
  refine lv_iconst (v := nI 1) hx hb dX4_cellOf_17 (by decide) ?_
  refine lv_iand hx hb dX4_cellOf_18 ?_
  refine lv_iload_n hx hb dX4_cellOf_19 rfl (lv_at hl 0 rfl) ?_
  refine lv_ishl hx hb dX4_cellOf_20 ?_
  refine lv_iadd hx hb dX4_cellOf_21 ?_
  refine lv_istore_n (lv' := [(1, .int ((nI 0) + ((((nI pp) >>> ((nI 0) &&& 31)) &&& (nI 1)) <<< ((nI 0) &&& 31)))), (3, .int (nI 0)), (2, .int (nI 0)), (0, .int (nI pp))]) hx hb dX4_cellOf_22 rfl hl (by decide) rfl (fun ls hl => ?_)
  refine lv_iload_n hx hb dX4_cellOf_23 rfl (lv_at hl 2 rfl) ?_
  refine lv_iload_n hx hb dX4_cellOf_24 rfl (lv_at hl 3 rfl) ?_
  refine lv_iconst (v := nI 2) hx hb dX4_cellOf_25 (by decide) ?_
  refine lv_iload_n hx hb dX4_cellOf_26 rfl (lv_at hl 1 rfl) ?_
  refine gImul (a := 2) (b := 0) hx hb dX4_cellOf_27 ?_
  refine W.eq (g2 := F0 m 28 ls [.int (nI 0), .int (nI pp), .int (nI 0)]) rfl ?_
  refine lv_iconst (v := nI 1) hx hb dX4_cellOf_28 (by decide) ?_
  refine gIadd (a := 0) (b := 1) hx hb dX4_cellOf_29 ?_
  refine W.eq (g2 := F0 m 30 ls [.int (nI 1), .int (nI pp), .int (nI 0)]) rfl ?_
  refine lv_ishr hx hb dX4_cellOf_30 ?_
  refine lv_iconst (v := nI 1) hx hb dX4_cellOf_31 (by decide) ?_
  refine lv_iand hx hb dX4_cellOf_32 ?_
  refine lv_iload_n hx hb dX4_cellOf_33 rfl (lv_at hl 1 rfl) ?_
  refine lv_ishl hx hb dX4_cellOf_34 ?_
  refine lv_iadd hx hb dX4_cellOf_35 ?_
  refine lv_istore_n (lv' := [(2, .int ((nI 0) + ((((nI pp) >>> ((nI 1) &&& 31)) &&& (nI 1)) <<< ((nI 0) &&& 31)))), (1, .int ((nI 0) + ((((nI pp) >>> ((nI 0) &&& 31)) &&& (nI 1)) <<< ((nI 0) &&& 31)))), (3, .int (nI 0)), (0, .int (nI pp))]) hx hb dX4_cellOf_36 rfl hl (by decide) rfl (fun ls hl => ?_)
  refine lv_iinc (v := nI 1) (lv' := [(3, .int (nI 1)), (2, .int ((nI 0) + ((((nI pp) >>> ((nI 1) &&& 31)) &&& (nI 1)) <<< ((nI 0) &&& 31)))), (1, .int ((nI 0) + ((((nI pp) >>> ((nI 0) &&& 31)) &&& (nI 1)) <<< ((nI 0) &&& 31)))), (0, .int (nI pp))]) hx hb dX4_cellOf_37 hl (k := 2) rfl (by rfl) (by decide) rfl (fun ls hl => ?_)
  refine lv_goto (tgt := 6) hx hb dX4_cellOf_40 (by decide) ?_
  refine lv_iload_n hx hb dX4_cellOf_6 rfl (lv_at hl 0 rfl) ?_
  refine lv_iconst (v := nI 4) hx hb dX4_cellOf_7 (by decide) ?_
  refine gIcmp_ge (a := 1) (b := 4) (tgt := 43) hx hb dX4_cellOf_8 (by decide) (by omega) (by omega) (fun c8' => ?_) (fun c8' => ?_)
  · skip
    exfalso; omega
  refine lv_iload_n hx hb dX4_cellOf_11 rfl (lv_at hl 2 rfl) ?_
  refine lv_iload_n hx hb dX4_cellOf_12 rfl (lv_at hl 3 rfl) ?_
  refine lv_iconst (v := nI 2) hx hb dX4_cellOf_13 (by decide) ?_
  refine lv_iload_n hx hb dX4_cellOf_14 rfl (lv_at hl 0 rfl) ?_
  refine gImul (a := 2) (b := 1) hx hb dX4_cellOf_15 ?_
  refine W.eq (g2 := F0 m 16 ls [.int (nI 2), .int (nI pp), .int ((nI 0) + ((((nI pp) >>> ((nI 0) &&& 31)) &&& (nI 1)) <<< ((nI 0) &&& 31)))]) rfl ?_
  refine lv_ishr hx hb dX4_cellOf_16 ?_
  refine lv_iconst (v := nI 1) hx hb dX4_cellOf_17 (by decide) ?_
  refine lv_iand hx hb dX4_cellOf_18 ?_
  refine lv_iload_n hx hb dX4_cellOf_19 rfl (lv_at hl 0 rfl) ?_
  refine lv_ishl hx hb dX4_cellOf_20 ?_
  refine lv_iadd hx hb dX4_cellOf_21 ?_
  refine lv_istore_n (lv' := [(1, .int (((nI 0) + ((((nI pp) >>> ((nI 0) &&& 31)) &&& (nI 1)) <<< ((nI 0) &&& 31))) + ((((nI pp) >>> ((nI 2) &&& 31)) &&& (nI 1)) <<< ((nI 1) &&& 31)))), (3, .int (nI 1)), (2, .int ((nI 0) + ((((nI pp) >>> ((nI 1) &&& 31)) &&& (nI 1)) <<< ((nI 0) &&& 31)))), (0, .int (nI pp))]) hx hb dX4_cellOf_22 rfl hl (by decide) rfl (fun ls hl => ?_)
  refine lv_iload_n hx hb dX4_cellOf_23 rfl (lv_at hl 2 rfl) ?_
  refine lv_iload_n hx hb dX4_cellOf_24 rfl (lv_at hl 3 rfl) ?_
  refine lv_iconst (v := nI 2) hx hb dX4_cellOf_25 (by decide) ?_
  refine lv_iload_n hx hb dX4_cellOf_26 rfl (lv_at hl 1 rfl) ?_
  refine gImul (a := 2) (b := 1) hx hb dX4_cellOf_27 ?_
  refine W.eq (g2 := F0 m 28 ls [.int (nI 2), .int (nI pp), .int ((nI 0) + ((((nI pp) >>> ((nI 1) &&& 31)) &&& (nI 1)) <<< ((nI 0) &&& 31)))]) rfl ?_
  refine lv_iconst (v := nI 1) hx hb dX4_cellOf_28 (by decide) ?_
  refine gIadd (a := 2) (b := 1) hx hb dX4_cellOf_29 ?_
  refine W.eq (g2 := F0 m 30 ls [.int (nI 3), .int (nI pp), .int ((nI 0) + ((((nI pp) >>> ((nI 1) &&& 31)) &&& (nI 1)) <<< ((nI 0) &&& 31)))]) rfl ?_
  refine lv_ishr hx hb dX4_cellOf_30 ?_
  refine lv_iconst (v := nI 1) hx hb dX4_cellOf_31 (by decide) ?_
  refine lv_iand hx hb dX4_cellOf_32 ?_
  refine lv_iload_n hx hb dX4_cellOf_33 rfl (lv_at hl 1 rfl) ?_
  refine lv_ishl hx hb dX4_cellOf_34 ?_
  refine lv_iadd hx hb dX4_cellOf_35 ?_
  refine lv_istore_n (lv' := [(2, .int (((nI 0) + ((((nI pp) >>> ((nI 1) &&& 31)) &&& (nI 1)) <<< ((nI 0) &&& 31))) + ((((nI pp) >>> ((nI 3) &&& 31)) &&& (nI 1)) <<< ((nI 1) &&& 31)))), (1, .int (((nI 0) + ((((nI pp) >>> ((nI 0) &&& 31)) &&& (nI 1)) <<< ((nI 0) &&& 31))) + ((((nI pp) >>> ((nI 2) &&& 31)) &&& (nI 1)) <<< ((nI 1) &&& 31)))), (3, .int (nI 1)), (0, .int (nI pp))]) hx hb dX4_cellOf_36 rfl hl (by decide) rfl (fun ls hl => ?_)
  refine lv_iinc (v := nI 2) (lv' := [(3, .int (nI 2)), (2, .int (((nI 0) + ((((nI pp) >>> ((nI 1) &&& 31)) &&& (nI 1)) <<< ((nI 0) &&& 31))) + ((((nI pp) >>> ((nI 3) &&& 31)) &&& (nI 1)) <<< ((nI 1) &&& 31)))), (1, .int (((nI 0) + ((((nI pp) >>> ((nI 0) &&& 31)) &&& (nI 1)) <<< ((nI 0) &&& 31))) + ((((nI pp) >>> ((nI 2) &&& 31)) &&& (nI 1)) <<< ((nI 1) &&& 31)))), (0, .int (nI pp))]) hx hb dX4_cellOf_37 hl (k := 2) rfl (by rfl) (by decide) rfl (fun ls hl => ?_)
  refine lv_goto (tgt := 6) hx hb dX4_cellOf_40 (by decide) ?_
  refine lv_iload_n hx hb dX4_cellOf_6 rfl (lv_at hl 0 rfl) ?_
  refine lv_iconst (v := nI 4) hx hb dX4_cellOf_7 (by decide) ?_
  refine gIcmp_ge (a := 2) (b := 4) (tgt := 43) hx hb dX4_cellOf_8 (by decide) (by omega) (by omega) (fun c8'' => ?_) (fun c8'' => ?_)
  · skip
    exfalso; omega
  refine lv_iload_n hx hb dX4_cellOf_11 rfl (lv_at hl 2 rfl) ?_
  refine lv_iload_n hx hb dX4_cellOf_12 rfl (lv_at hl 3 rfl) ?_
  refine lv_iconst (v := nI 2) hx hb dX4_cellOf_13 (by decide) ?_
  refine lv_iload_n hx hb dX4_cellOf_14 rfl (lv_at hl 0 rfl) ?_
  refine gImul (a := 2) (b := 2) hx hb dX4_cellOf_15 ?_
  refine W.eq (g2 := F0 m 16 ls [.int (nI 4), .int (nI pp), .int (((nI 0) + ((((nI pp) >>> ((nI 0) &&& 31)) &&& (nI 1)) <<< ((nI 0) &&& 31))) + ((((nI pp) >>> ((nI 2) &&& 31)) &&& (nI 1)) <<< ((nI 1) &&& 31)))]) rfl ?_
  refine lv_ishr hx hb dX4_cellOf_16 ?_
  refine lv_iconst (v := nI 1) hx hb dX4_cellOf_17 (by decide) ?_
  refine lv_iand hx hb dX4_cellOf_18 ?_
  refine lv_iload_n hx hb dX4_cellOf_19 rfl (lv_at hl 0 rfl) ?_
  refine lv_ishl hx hb dX4_cellOf_20 ?_
  refine lv_iadd hx hb dX4_cellOf_21 ?_
  refine lv_istore_n (lv' := [(1, .int ((((nI 0) + ((((nI pp) >>> ((nI 0) &&& 31)) &&& (nI 1)) <<< ((nI 0) &&& 31))) + ((((nI pp) >>> ((nI 2) &&& 31)) &&& (nI 1)) <<< ((nI 1) &&& 31))) + ((((nI pp) >>> ((nI 4) &&& 31)) &&& (nI 1)) <<< ((nI 2) &&& 31)))), (3, .int (nI 2)), (2, .int (((nI 0) + ((((nI pp) >>> ((nI 1) &&& 31)) &&& (nI 1)) <<< ((nI 0) &&& 31))) + ((((nI pp) >>> ((nI 3) &&& 31)) &&& (nI 1)) <<< ((nI 1) &&& 31)))), (0, .int (nI pp))]) hx hb dX4_cellOf_22 rfl hl (by decide) rfl (fun ls hl => ?_)
  refine lv_iload_n hx hb dX4_cellOf_23 rfl (lv_at hl 2 rfl) ?_
  refine lv_iload_n hx hb dX4_cellOf_24 rfl (lv_at hl 3 rfl) ?_
  refine lv_iconst (v := nI 2) hx hb dX4_cellOf_25 (by decide) ?_
  refine lv_iload_n hx hb dX4_cellOf_26 rfl (lv_at hl 1 rfl) ?_
  refine gImul (a := 2) (b := 2) hx hb dX4_cellOf_27 ?_
  refine W.eq (g2 := F0 m 28 ls [.int (nI 4), .int (nI pp), .int (((nI 0) + ((((nI pp) >>> ((nI 1) &&& 31)) &&& (nI 1)) <<< ((nI 0) &&& 31))) + ((((nI pp) >>> ((nI 3) &&& 31)) &&& (nI 1)) <<< ((nI 1) &&& 31)))]) rfl ?_
  refine lv_iconst (v := nI 1) hx hb dX4_cellOf_28 (by decide) ?_
  refine gIadd (a := 4) (b := 1) hx hb dX4_cellOf_29 ?_
  refine W.eq (g2 := F0 m 30 ls [.int (nI 5), .int (nI pp), .int (((nI 0) + ((((nI pp) >>> ((nI 1) &&& 31)) &&& (nI 1)) <<< ((nI 0) &&& 31))) + ((((nI pp) >>> ((nI 3) &&& 31)) &&& (nI 1)) <<< ((nI 1) &&& 31)))]) rfl ?_
  refine lv_ishr hx hb dX4_cellOf_30 ?_
  refine lv_iconst (v := nI 1) hx hb dX4_cellOf_31 (by decide) ?_
  refine lv_iand hx hb dX4_cellOf_32 ?_
  refine lv_iload_n hx hb dX4_cellOf_33 rfl (lv_at hl 1 rfl) ?_
  refine lv_ishl hx hb dX4_cellOf_34 ?_
  refine lv_iadd hx hb dX4_cellOf_35 ?_
  refine lv_istore_n (lv' := [(2, .int ((((nI 0) + ((((nI pp) >>> ((nI 1) &&& 31)) &&& (nI 1)) <<< ((nI 0) &&& 31))) + ((((nI pp) >>> ((nI 3) &&& 31)) &&& (nI 1)) <<< ((nI 1) &&& 31))) + ((((nI pp) >>> ((nI 5) &&& 31)) &&& (nI 1)) <<< ((nI 2) &&& 31)))), (1, .int ((((nI 0) + ((((nI pp) >>> ((nI 0) &&& 31)) &&& (nI 1)) <<< ((nI 0) &&& 31))) + ((((nI pp) >>> ((nI 2) &&& 31)) &&& (nI 1)) <<< ((nI 1) &&& 31))) + ((((nI pp) >>> ((nI 4) &&& 31)) &&& (nI 1)) <<< ((nI 2) &&& 31)))), (3, .int (nI 2)), (0, .int (nI pp))]) hx hb dX4_cellOf_36 rfl hl (by decide) rfl (fun ls hl => ?_)
  refine lv_iinc (v := nI 3) (lv' := [(3, .int (nI 3)), (2, .int ((((nI 0) + ((((nI pp) >>> ((nI 1) &&& 31)) &&& (nI 1)) <<< ((nI 0) &&& 31))) + ((((nI pp) >>> ((nI 3) &&& 31)) &&& (nI 1)) <<< ((nI 1) &&& 31))) + ((((nI pp) >>> ((nI 5) &&& 31)) &&& (nI 1)) <<< ((nI 2) &&& 31)))), (1, .int ((((nI 0) + ((((nI pp) >>> ((nI 0) &&& 31)) &&& (nI 1)) <<< ((nI 0) &&& 31))) + ((((nI pp) >>> ((nI 2) &&& 31)) &&& (nI 1)) <<< ((nI 1) &&& 31))) + ((((nI pp) >>> ((nI 4) &&& 31)) &&& (nI 1)) <<< ((nI 2) &&& 31)))), (0, .int (nI pp))]) hx hb dX4_cellOf_37 hl (k := 2) rfl (by rfl) (by decide) rfl (fun ls hl => ?_)
  refine lv_goto (tgt := 6) hx hb dX4_cellOf_40 (by decide) ?_
  refine lv_iload_n hx hb dX4_cellOf_6 rfl (lv_at hl 0 rfl) ?_
  refine lv_iconst (v := nI 4) hx hb dX4_cellOf_7 (by decide) ?_
  refine gIcmp_ge (a := 3) (b := 4) (tgt := 43) hx hb dX4_cellOf_8 (by decide) (by omega) (by omega) (fun c8''' => ?_) (fun c8''' => ?_)
  · skip
    exfalso; omega
  refine lv_iload_n hx hb dX4_cellOf_11 rfl (lv_at hl 2 rfl) ?_
  refine lv_iload_n hx hb dX4_cellOf_12 rfl (lv_at hl 3 rfl) ?_
  refine lv_iconst (v := nI 2) hx hb dX4_cellOf_13 (by decide) ?_
  refine lv_iload_n hx hb dX4_cellOf_14 rfl (lv_at hl 0 rfl) ?_
  refine gImul (a := 2) (b := 3) hx hb dX4_cellOf_15 ?_
  refine W.eq (g2 := F0 m 16 ls [.int (nI 6), .int (nI pp), .int ((((nI 0) + ((((nI pp) >>> ((nI 0) &&& 31)) &&& (nI 1)) <<< ((nI 0) &&& 31))) + ((((nI pp) >>> ((nI 2) &&& 31)) &&& (nI 1)) <<< ((nI 1) &&& 31))) + ((((nI pp) >>> ((nI 4) &&& 31)) &&& (nI 1)) <<< ((nI 2) &&& 31)))]) rfl ?_
  refine lv_ishr hx hb dX4_cellOf_16 ?_
  refine lv_iconst (v := nI 1) hx hb dX4_cellOf_17 (by decide) ?_
  refine lv_iand hx hb dX4_cellOf_18 ?_
  refine lv_iload_n hx hb dX4_cellOf_19 rfl (lv_at hl 0 rfl) ?_
  refine lv_ishl hx hb dX4_cellOf_20 ?_
  refine lv_iadd hx hb dX4_cellOf_21 ?_
  refine lv_istore_n (lv' := [(1, .int (((((nI 0) + ((((nI pp) >>> ((nI 0) &&& 31)) &&& (nI 1)) <<< ((nI 0) &&& 31))) + ((((nI pp) >>> ((nI 2) &&& 31)) &&& (nI 1)) <<< ((nI 1) &&& 31))) + ((((nI pp) >>> ((nI 4) &&& 31)) &&& (nI 1)) <<< ((nI 2) &&& 31))) + ((((nI pp) >>> ((nI 6) &&& 31)) &&& (nI 1)) <<< ((nI 3) &&& 31)))), (3, .int (nI 3)), (2, .int ((((nI 0) + ((((nI pp) >>> ((nI 1) &&& 31)) &&& (nI 1)) <<< ((nI 0) &&& 31))) + ((((nI pp) >>> ((nI 3) &&& 31)) &&& (nI 1)) <<< ((nI 1) &&& 31))) + ((((nI pp) >>> ((nI 5) &&& 31)) &&& (nI 1)) <<< ((nI 2) &&& 31)))), (0, .int (nI pp))]) hx hb dX4_cellOf_22 rfl hl (by decide) rfl (fun ls hl => ?_)
  refine lv_iload_n hx hb dX4_cellOf_23 rfl (lv_at hl 2 rfl) ?_
  refine lv_iload_n hx hb dX4_cellOf_24 rfl (lv_at hl 3 rfl) ?_
  refine lv_iconst (v := nI 2) hx hb dX4_cellOf_25 (by decide) ?_
  refine lv_iload_n hx hb dX4_cellOf_26 rfl (lv_at hl 1 rfl) ?_
  refine gImul (a := 2) (b := 3) hx hb dX4_cellOf_27 ?_
  refine W.eq (g2 := F0 m 28 ls [.int (nI 6), .int (nI pp), .int ((((nI 0) + ((((nI pp) >>> ((nI 1) &&& 31)) &&& (nI 1)) <<< ((nI 0) &&& 31))) + ((((nI pp) >>> ((nI 3) &&& 31)) &&& (nI 1)) <<< ((nI 1) &&& 31))) + ((((nI pp) >>> ((nI 5) &&& 31)) &&& (nI 1)) <<< ((nI 2) &&& 31)))]) rfl ?_
  refine lv_iconst (v := nI 1) hx hb dX4_cellOf_28 (by decide) ?_
  refine gIadd (a := 6) (b := 1) hx hb dX4_cellOf_29 ?_
  refine W.eq (g2 := F0 m 30 ls [.int (nI 7), .int (nI pp), .int ((((nI 0) + ((((nI pp) >>> ((nI 1) &&& 31)) &&& (nI 1)) <<< ((nI 0) &&& 31))) + ((((nI pp) >>> ((nI 3) &&& 31)) &&& (nI 1)) <<< ((nI 1) &&& 31))) + ((((nI pp) >>> ((nI 5) &&& 31)) &&& (nI 1)) <<< ((nI 2) &&& 31)))]) rfl ?_
  refine lv_ishr hx hb dX4_cellOf_30 ?_
  refine lv_iconst (v := nI 1) hx hb dX4_cellOf_31 (by decide) ?_
  refine lv_iand hx hb dX4_cellOf_32 ?_
  refine lv_iload_n hx hb dX4_cellOf_33 rfl (lv_at hl 1 rfl) ?_
  refine lv_ishl hx hb dX4_cellOf_34 ?_
  refine lv_iadd hx hb dX4_cellOf_35 ?_
  refine lv_istore_n (lv' := [(2, .int (((((nI 0) + ((((nI pp) >>> ((nI 1) &&& 31)) &&& (nI 1)) <<< ((nI 0) &&& 31))) + ((((nI pp) >>> ((nI 3) &&& 31)) &&& (nI 1)) <<< ((nI 1) &&& 31))) + ((((nI pp) >>> ((nI 5) &&& 31)) &&& (nI 1)) <<< ((nI 2) &&& 31))) + ((((nI pp) >>> ((nI 7) &&& 31)) &&& (nI 1)) <<< ((nI 3) &&& 31)))), (1, .int (((((nI 0) + ((((nI pp) >>> ((nI 0) &&& 31)) &&& (nI 1)) <<< ((nI 0) &&& 31))) + ((((nI pp) >>> ((nI 2) &&& 31)) &&& (nI 1)) <<< ((nI 1) &&& 31))) + ((((nI pp) >>> ((nI 4) &&& 31)) &&& (nI 1)) <<< ((nI 2) &&& 31))) + ((((nI pp) >>> ((nI 6) &&& 31)) &&& (nI 1)) <<< ((nI 3) &&& 31)))), (3, .int (nI 3)), (0, .int (nI pp))]) hx hb dX4_cellOf_36 rfl hl (by decide) rfl (fun ls hl => ?_)
  refine lv_iinc (v := nI 4) (lv' := [(3, .int (nI 4)), (2, .int (((((nI 0) + ((((nI pp) >>> ((nI 1) &&& 31)) &&& (nI 1)) <<< ((nI 0) &&& 31))) + ((((nI pp) >>> ((nI 3) &&& 31)) &&& (nI 1)) <<< ((nI 1) &&& 31))) + ((((nI pp) >>> ((nI 5) &&& 31)) &&& (nI 1)) <<< ((nI 2) &&& 31))) + ((((nI pp) >>> ((nI 7) &&& 31)) &&& (nI 1)) <<< ((nI 3) &&& 31)))), (1, .int (((((nI 0) + ((((nI pp) >>> ((nI 0) &&& 31)) &&& (nI 1)) <<< ((nI 0) &&& 31))) + ((((nI pp) >>> ((nI 2) &&& 31)) &&& (nI 1)) <<< ((nI 1) &&& 31))) + ((((nI pp) >>> ((nI 4) &&& 31)) &&& (nI 1)) <<< ((nI 2) &&& 31))) + ((((nI pp) >>> ((nI 6) &&& 31)) &&& (nI 1)) <<< ((nI 3) &&& 31)))), (0, .int (nI pp))]) hx hb dX4_cellOf_37 hl (k := 2) rfl (by rfl) (by decide) rfl (fun ls hl => ?_)
  refine lv_goto (tgt := 6) hx hb dX4_cellOf_40 (by decide) ?_
  refine lv_iload_n hx hb dX4_cellOf_6 rfl (lv_at hl 0 rfl) ?_
  refine lv_iconst (v := nI 4) hx hb dX4_cellOf_7 (by decide) ?_
  refine gIcmp_ge (a := 4) (b := 4) (tgt := 43) hx hb dX4_cellOf_8 (by decide) (by omega) (by omega) (fun c8'''' => ?_) (fun c8'''' => ?_)
  · skip
    refine lv_bipush (v := nI 16) hx hb dX4_cellOf_43 (by decide) ?_
    refine lv_iload_n hx hb dX4_cellOf_45 rfl (lv_at hl 1 rfl) ?_
    refine lv_imul hx hb dX4_cellOf_46 ?_
    refine lv_iload_n hx hb dX4_cellOf_47 rfl (lv_at hl 2 rfl) ?_
    refine lv_iadd hx hb dX4_cellOf_48 ?_
    exact gRi F dX4_cellOf_49 (rfl) () ((show ∀ pp, pp < 256 → ((nI 16) * (((((nI 0) + ((((nI pp) >>> ((nI 1) &&& 31)) &&& (nI 1)) <<< ((nI 0) &&& 31))) + ((((nI pp) >>> ((nI 3) &&& 31)) &&& (nI 1)) <<< ((nI 1) &&& 31))) + ((((nI pp) >>> ((nI 5) &&& 31)) &&& (nI 1)) <<< ((nI 2) &&& 31))) + ((((nI pp) >>> ((nI 7) &&& 31)) &&& (nI 1)) <<< ((nI 3) &&& 31)))) + (((((nI 0) + ((((nI pp) >>> ((nI 0) &&& 31)) &&& (nI 1)) <<< ((nI 0) &&& 31))) + ((((nI pp) >>> ((nI 2) &&& 31)) &&& (nI 1)) <<< ((nI 1) &&& 31))) + ((((nI pp) >>> ((nI 4) &&& 31)) &&& (nI 1)) <<< ((nI 2) &&& 31))) + ((((nI pp) >>> ((nI 6) &&& 31)) &&& (nI 1)) <<< ((nI 3) &&& 31))) = nI (mc pp) by decide +kernel) pp hp) hP hD hS (Nat.le_refl _) (Nat.le_refl _)
  exfalso; omega
