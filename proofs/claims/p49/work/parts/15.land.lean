set_option maxHeartbeats 4000000 in
set_option maxRecDepth 100000 in
theorem c_fill_N (l : Launch) (G : gG) (a : Nat) (n : Nat) (f : Nat → Nat) (v : Nat) (hn : n ≤ 65536) : gMv (S := Unit) l yJ7_fill_53178 wsJ7_fill_53178 { frames := 0, cells := 0, slots := 0, locals := 0 } G [.ref a, .int (nI v)] [(a, .inl (G.2.1, n, .inl (gn f)))] (fun (u : Unit) => True) (fun u => [(a, .inl (G.2.1, n, .inl (gn (fun _ => v))))]) 0 0 := by
  refine gMet_mk (cc := cJ7_fill_53178) (nL := 4) (ret := none) (Qc := fun A => va_Qv (S := Unit) (fun (u : Unit) => True) (gB G A (fun u => [(a, .inl (G.2.1, n, .inl (gn (fun _ => v))))])) A) (by decide) rfl (Nat.le_of_ble_eq_true rfl) ?_
  intro p e s m args below meth c A F ls hl hP hD hS
  have hx := F.1
  have hb := F.2.1
  have hts := F.2.2.2.2.2.2.1
  have hown : s.vm.findClass RJ7 = some m.cls := F.2.2.2.2.2.1
  have hKK := F.2.2.2.2.2.2.2.2.1
  have hK := hKK.1
  have hin0 := F.2.2.2.2.2.2.2.1
  have hl : lv_has ls 4 [(0, .ref a), (1, .int (nI v))] := hl
  generalize hH : s.heap = H at hP ⊢
  have hS : va_S A s.heap H [] := by rw [← hH]; exact va_S.rf
  generalize hLo : ([] : List Loc) = locs at hS ⊢
  refine lv_iconst (v := nI 0) hx hb dJ7_fill_53178_0 (by decide) ?_
  refine lv_istore_n (lv' := [(2, .int (nI 0)), (0, .ref a), (1, .int (nI v))]) hx hb dJ7_fill_53178_1 rfl hl (by decide) rfl (fun ls hl => ?_)
  refine lv_aload_n hx hb dJ7_fill_53178_2 rfl (lv_at hl 1 rfl) ?_
  refine va_alen (v := nI n) hx hb hK hP 0 0 rfl rfl rfl dJ7_fill_53178_3 ?_
  refine lv_istore_n (lv' := [(3, .int (nI n)), (2, .int (nI 0)), (0, .ref a), (1, .int (nI v))]) hx hb dJ7_fill_53178_4 rfl hl (by decide) rfl (fun ls hl => ?_)
  have L5 : ∀ (fuel : Nat) (i : Nat), n - i < fuel → (i ≤ n) → ∀ (H : Heap) (locs : List Loc), va_P G.1 vwCl [(a, .inl (G.2.1, n, .inl (gn (fun k => if k < i then v else f k))))] H → va_D A [(a, .inl (G.2.1, n, .inl (gn (fun k => if k < i then v else f k))))] → va_S A s.heap H locs → ∀ (ls : Array Slot), lv_has ls 4 [(3, .int (nI n)), (2, .int (nI i)), (0, .ref a), (1, .int (nI v))] → W p l e ({ frames := 0, cells := 0, slots := 0, locals := 0 } : Room) s m args below meth c H locs 0 0 (MQ below (va_Qv (S := Unit) (fun (u : Unit) => True) (gB G A (fun u => [(a, .inl (G.2.1, n, .inl (gn (fun _ => v))))])) A) args s 0 0 A) (F0 m 5 ls []) := by
    intro fuel
    induction fuel with
    | zero => intro i hme; exact absurd hme (Nat.not_lt_zero _)
    | succ fuel ih5 =>
      intro i hme hi H locs hP hD hS ls hl
      refine lv_iload_n hx hb dJ7_fill_53178_5 rfl (lv_at hl 1 rfl) ?_
      refine lv_iload_n hx hb dJ7_fill_53178_6 rfl (lv_at hl 0 rfl) ?_
      refine gIcmp_ge (a := i) (b := n) (tgt := 20) hx hb dJ7_fill_53178_7 (by decide) (by omega) (by omega) (fun c7 => ?_) (fun c7 => ?_)
      · skip
        have hP := gEqN (q0 := 0) (f := fun k => if k < i then v else f k) (g := fun _ => v) rfl (by intro j hj; (try simp only [gu_if, ]); all_goals ((repeat' split) <;> first | rfl | omega)) hP
        have hD := va_D.set (p := 0) (e := .inl (G.2.1, n, .inl (gn (fun _ => v)))) hD rfl
        have hP : va_P G.1 vwCl [(a, .inl (G.2.1, n, .inl (gn (fun _ => v))))] H := hP
        have hD : va_D A [(a, .inl (G.2.1, n, .inl (gn (fun _ => v))))] := hD
        exact gRv F dJ7_fill_53178_20 () (trivial) hP hD hS (Nat.le_refl _) (Nat.le_refl _)
      refine lv_aload_n hx hb dJ7_fill_53178_10 rfl (lv_at hl 2 rfl) ?_
      refine lv_iload_n hx hb dJ7_fill_53178_11 rfl (lv_at hl 1 rfl) ?_
      refine lv_iload_n hx hb dJ7_fill_53178_12 rfl (lv_at hl 3 rfl) ?_
      refine gNast (k := i) (v := v) hx hb hK hP hD hS 0 0 rfl rfl (by omega) (by first | decide | omega) dJ7_fill_53178_13 (fun H locs hP hD hS => ?_)
      have hP : va_P G.1 vwCl [(a, .inl (G.2.1, n, .inl (gn (va_up (fun k => if k < i then v else f k) i v))))] H := hP
      have hD : va_D A [(a, .inl (G.2.1, n, .inl (gn (va_up (fun k => if k < i then v else f k) i v))))] := hD
      refine lv_iinc (v := nI (i + 1)) (lv' := [(2, .int (nI (i + 1))), (3, .int (nI n)), (0, .ref a), (1, .int (nI v))]) hx hb dJ7_fill_53178_14 hl (k := 1) rfl (gInc_p _ rfl) (by decide) rfl (fun ls hl => ?_)
      refine lv_goto (tgt := 5) hx hb dJ7_fill_53178_17 (by decide) ?_
      have hP := gEqN (q0 := 0) (f := va_up (fun k => if k < i then v else f k) i v) (g := fun k => if k < (i + 1) then v else f k) rfl (by intro j hj; (try simp only [gu_if, ]); all_goals ((repeat' split) <;> first | rfl | omega)) hP
      have hD := va_D.set (p := 0) (e := .inl (G.2.1, n, .inl (gn (fun k => if k < (i + 1) then v else f k)))) hD rfl
      have hP : va_P G.1 vwCl [(a, .inl (G.2.1, n, .inl (gn (fun k => if k < (i + 1) then v else f k))))] H := hP
      have hD : va_D A [(a, .inl (G.2.1, n, .inl (gn (fun k => if k < (i + 1) then v else f k))))] := hD
      have hl : lv_has ls 4 [(3, .int (nI n)), (2, .int (nI (i + 1))), (0, .ref a), (1, .int (nI v))] := lv_sub hl [1, 0, 2, 3] rfl
      have hy_1 : (i + 1) ≤ n := by omega
      exact ih5 (i + 1) (by omega) hy_1 H locs hP hD hS ls hl
  have hP := gEqN (q0 := 0) (f := f) (g := fun k => if k < 0 then v else f k) rfl (by intro j hj; (try simp only [gu_if, ]); all_goals ((repeat' split) <;> first | rfl | omega)) hP
  have hD := va_D.set (p := 0) (e := .inl (G.2.1, n, .inl (gn (fun k => if k < 0 then v else f k)))) hD rfl
  have hP : va_P G.1 vwCl [(a, .inl (G.2.1, n, .inl (gn (fun k => if k < 0 then v else f k))))] H := hP
  have hD : va_D A [(a, .inl (G.2.1, n, .inl (gn (fun k => if k < 0 then v else f k))))] := hD
  have hl : lv_has ls 4 [(3, .int (nI n)), (2, .int (nI 0)), (0, .ref a), (1, .int (nI v))] := lv_sub hl [0, 1, 2, 3] rfl
  have hy_2 : 0 ≤ n := by omega
  exact L5 _ 0 (Nat.lt_succ_self _) hy_2 H locs hP hD hS ls hl

set_option maxHeartbeats 4000000 in
set_option maxRecDepth 100000 in
theorem c_fill_I (l : Launch) (G : gG) (a : Nat) (n : Nat) (f : Nat → Int32) (v : Int32) (hn : n ≤ 65536) : gMv (S := Unit) l yJ7_fill_53178 wsJ7_fill_53178 { frames := 0, cells := 0, slots := 0, locals := 0 } G [.ref a, .int v] [(a, .inl (G.2.1, n, .inl f))] (fun (u : Unit) => True) (fun u => [(a, .inl (G.2.1, n, .inl (fun _ => v)))]) 0 0 := by
  refine gMet_mk (cc := cJ7_fill_53178) (nL := 4) (ret := none) (Qc := fun A => va_Qv (S := Unit) (fun (u : Unit) => True) (gB G A (fun u => [(a, .inl (G.2.1, n, .inl (fun _ => v)))])) A) (by decide) rfl (Nat.le_of_ble_eq_true rfl) ?_
  intro p e s m args below meth c A F ls hl hP hD hS
  have hx := F.1
  have hb := F.2.1
  have hts := F.2.2.2.2.2.2.1
  have hown : s.vm.findClass RJ7 = some m.cls := F.2.2.2.2.2.1
  have hKK := F.2.2.2.2.2.2.2.2.1
  have hK := hKK.1
  have hin0 := F.2.2.2.2.2.2.2.1
  have hl : lv_has ls 4 [(0, .ref a), (1, .int v)] := hl
  generalize hH : s.heap = H at hP ⊢
  have hS : va_S A s.heap H [] := by rw [← hH]; exact va_S.rf
  generalize hLo : ([] : List Loc) = locs at hS ⊢
  refine lv_iconst (v := nI 0) hx hb dJ7_fill_53178_0 (by decide) ?_
  refine lv_istore_n (lv' := [(2, .int (nI 0)), (0, .ref a), (1, .int v)]) hx hb dJ7_fill_53178_1 rfl hl (by decide) rfl (fun ls hl => ?_)
  refine lv_aload_n hx hb dJ7_fill_53178_2 rfl (lv_at hl 1 rfl) ?_
  refine va_alen (v := nI n) hx hb hK hP 0 0 rfl rfl rfl dJ7_fill_53178_3 ?_
  refine lv_istore_n (lv' := [(3, .int (nI n)), (2, .int (nI 0)), (0, .ref a), (1, .int v)]) hx hb dJ7_fill_53178_4 rfl hl (by decide) rfl (fun ls hl => ?_)
  have L5 : ∀ (fuel : Nat) (i : Nat), n - i < fuel → (i ≤ n) → ∀ (H : Heap) (locs : List Loc), va_P G.1 vwCl [(a, .inl (G.2.1, n, .inl (fun k => if k < i then v else f k)))] H → va_D A [(a, .inl (G.2.1, n, .inl (fun k => if k < i then v else f k)))] → va_S A s.heap H locs → ∀ (ls : Array Slot), lv_has ls 4 [(3, .int (nI n)), (2, .int (nI i)), (0, .ref a), (1, .int v)] → W p l e ({ frames := 0, cells := 0, slots := 0, locals := 0 } : Room) s m args below meth c H locs 0 0 (MQ below (va_Qv (S := Unit) (fun (u : Unit) => True) (gB G A (fun u => [(a, .inl (G.2.1, n, .inl (fun _ => v)))])) A) args s 0 0 A) (F0 m 5 ls []) := by
    intro fuel
    induction fuel with
    | zero => intro i hme; exact absurd hme (Nat.not_lt_zero _)
    | succ fuel ih5 =>
      intro i hme hi H locs hP hD hS ls hl
      refine lv_iload_n hx hb dJ7_fill_53178_5 rfl (lv_at hl 1 rfl) ?_
      refine lv_iload_n hx hb dJ7_fill_53178_6 rfl (lv_at hl 0 rfl) ?_
      refine gIcmp_ge (a := i) (b := n) (tgt := 20) hx hb dJ7_fill_53178_7 (by decide) (by omega) (by omega) (fun c7 => ?_) (fun c7 => ?_)
      · skip
        have hP := gEqP (q0 := 0) (f := fun k => if k < i then v else f k) (g := fun _ => v) rfl (by intro j hj; (try simp only [gu_if, ]); all_goals ((repeat' split) <;> first | rfl | omega)) hP
        have hD := va_D.set (p := 0) (e := .inl (G.2.1, n, .inl (fun _ => v))) hD rfl
        have hP : va_P G.1 vwCl [(a, .inl (G.2.1, n, .inl (fun _ => v)))] H := hP
        have hD : va_D A [(a, .inl (G.2.1, n, .inl (fun _ => v)))] := hD
        exact gRv F dJ7_fill_53178_20 () (trivial) hP hD hS (Nat.le_refl _) (Nat.le_refl _)
      refine lv_aload_n hx hb dJ7_fill_53178_10 rfl (lv_at hl 2 rfl) ?_
      refine lv_iload_n hx hb dJ7_fill_53178_11 rfl (lv_at hl 1 rfl) ?_
      refine lv_iload_n hx hb dJ7_fill_53178_12 rfl (lv_at hl 3 rfl) ?_
      refine gIast (k := i) (x := v) hx hb hK hP hD hS 0 0 rfl rfl (by omega) (by first | decide | omega) dJ7_fill_53178_13 (fun H locs hP hD hS => ?_)
      have hP : va_P G.1 vwCl [(a, .inl (G.2.1, n, .inl (va_up (fun k => if k < i then v else f k) i v)))] H := hP
      have hD : va_D A [(a, .inl (G.2.1, n, .inl (va_up (fun k => if k < i then v else f k) i v)))] := hD
      refine lv_iinc (v := nI (i + 1)) (lv' := [(2, .int (nI (i + 1))), (3, .int (nI n)), (0, .ref a), (1, .int v)]) hx hb dJ7_fill_53178_14 hl (k := 1) rfl (gInc_p _ rfl) (by decide) rfl (fun ls hl => ?_)
      refine lv_goto (tgt := 5) hx hb dJ7_fill_53178_17 (by decide) ?_
      have hP := gEqP (q0 := 0) (f := va_up (fun k => if k < i then v else f k) i v) (g := fun k => if k < (i + 1) then v else f k) rfl (by intro j hj; (try simp only [gu_if, ]); all_goals ((repeat' split) <;> first | rfl | omega)) hP
      have hD := va_D.set (p := 0) (e := .inl (G.2.1, n, .inl (fun k => if k < (i + 1) then v else f k))) hD rfl
      have hP : va_P G.1 vwCl [(a, .inl (G.2.1, n, .inl (fun k => if k < (i + 1) then v else f k)))] H := hP
      have hD : va_D A [(a, .inl (G.2.1, n, .inl (fun k => if k < (i + 1) then v else f k)))] := hD
      have hl : lv_has ls 4 [(3, .int (nI n)), (2, .int (nI (i + 1))), (0, .ref a), (1, .int v)] := lv_sub hl [1, 0, 2, 3] rfl
      have hy_1 : (i + 1) ≤ n := by omega
      exact ih5 (i + 1) (by omega) hy_1 H locs hP hD hS ls hl
  have hP := gEqP (q0 := 0) (f := f) (g := fun k => if k < 0 then v else f k) rfl (by intro j hj; (try simp only [gu_if, ]); all_goals ((repeat' split) <;> first | rfl | omega)) hP
  have hD := va_D.set (p := 0) (e := .inl (G.2.1, n, .inl (fun k => if k < 0 then v else f k))) hD rfl
  have hP : va_P G.1 vwCl [(a, .inl (G.2.1, n, .inl (fun k => if k < 0 then v else f k)))] H := hP
  have hD : va_D A [(a, .inl (G.2.1, n, .inl (fun k => if k < 0 then v else f k)))] := hD
  have hl : lv_has ls 4 [(3, .int (nI n)), (2, .int (nI 0)), (0, .ref a), (1, .int v)] := lv_sub hl [0, 1, 2, 3] rfl
  have hy_2 : 0 ≤ n := by omega
  exact L5 _ 0 (Nat.lt_succ_self _) hy_2 H locs hP hD hS ls hl

def sBelow (ow he : Nat → Nat) (o lv : Nat) : Nat → Nat
  | 0 => 0
  | k + 1 => sBelow ow he o lv k + (if ow k = o ∧ he k < lv then 1 else 0)
theorem sBelow_le (ow he : Nat → Nat) (o lv : Nat) : ∀ k, sBelow ow he o lv k ≤ k
  | 0 => Nat.le_refl _
  | k + 1 => by have := sBelow_le ow he o lv k; simp only [sBelow]; split <;> omega
def sSumH (he : Nat → Nat) : Nat → Nat
  | 0 => 0
  | k + 1 => sSumH he k + he k

set_option maxHeartbeats 4000000 in
set_option maxRecDepth 100000 in
theorem c_X1_cellsBelow (l : Launch) (G : gG) (h : Nat) (a1 : Nat) (a2 : Nat) (a3 : Nat) (ow : Nat → Nat) (he : Nat → Nat) (co : Nat → Nat) (pr : Nat) (tx : Nat) (sa : Nat) (fl : Nat) (lo : Nat) (o : Nat) (lv : Nat) (hw : ∀ k, ow k < 8) (hh : ∀ k, he k < 10) (ho : o < 2 ^ 31) (hv : lv < 2 ^ 31) : gMi (S := Unit) l yX1_cellsBelow wsX1_cellsBelow { frames := 0, cells := 0, slots := 0, locals := 0 } G [.ref h, .int (nI o), .int (nI lv)] [(h, .inr (1, [.ref a1, .ref a2, .ref a3, .int (nI pr), .int (nI tx), .int (nI sa), .int (nI fl), .int (nI lo)])), (a1, .inl (G.2.1, 256, .inl (gn ow))), (a2, .inl (G.2.1, 256, .inl (gn he))), (a3, .inl (G.2.1, 8, .inl (gn co)))] (fun (r : Int32) (u : Unit) => (r = nI (sBelow ow he o lv 256))) (fun u => [(h, .inr (1, [.ref a1, .ref a2, .ref a3, .int (nI pr), .int (nI tx), .int (nI sa), .int (nI fl), .int (nI lo)])), (a1, .inl (G.2.1, 256, .inl (gn ow))), (a2, .inl (G.2.1, 256, .inl (gn he))), (a3, .inl (G.2.1, 8, .inl (gn co)))]) 0 0 := by
  refine gMet_mk (cc := cX1_cellsBelow) (nL := 5) (ret := (some .int)) (Qc := fun A => va_Qi (S := Unit) (fun (r : Int32) (u : Unit) => (r = nI (sBelow ow he o lv 256))) (gB G A (fun u => [(h, .inr (1, [.ref a1, .ref a2, .ref a3, .int (nI pr), .int (nI tx), .int (nI sa), .int (nI fl), .int (nI lo)])), (a1, .inl (G.2.1, 256, .inl (gn ow))), (a2, .inl (G.2.1, 256, .inl (gn he))), (a3, .inl (G.2.1, 8, .inl (gn co)))])) A) (by decide) rfl (Nat.le_of_ble_eq_true rfl) ?_
  intro p e s m args below meth c A F ls hl hP hD hS
  have hx := F.1
  have hb := F.2.1
  have hts := F.2.2.2.2.2.2.1
  have hown : s.vm.findClass RX1 = some m.cls := F.2.2.2.2.2.1
  have hKK := F.2.2.2.2.2.2.2.2.1
  have hK := hKK.1
  have hin0 := F.2.2.2.2.2.2.2.1
  have hi1 : ∀ w ∈ u_ws RX1 TX1 8, w ∈ wsX1_cellsBelow := by decide +kernel
  have hl : lv_has ls 5 [(0, .ref h), (1, .int (nI o)), (2, .int (nI lv))] := hl
  generalize hH : s.heap = H at hP ⊢
  have hS : va_S A s.heap H [] := by rw [← hH]; exact va_S.rf
  generalize hLo : ([] : List Loc) = locs at hS ⊢
  refine lv_iconst (v := nI 0) hx hb dX1_cellsBelow_0 (by decide) ?_
  refine lv_istore_n (lv' := [(3, .int (nI 0)), (0, .ref h), (1, .int (nI o)), (2, .int (nI lv))]) hx hb dX1_cellsBelow_1 rfl hl (by decide) rfl (fun ls hl => ?_)
  refine lv_iconst (v := nI 0) hx hb dX1_cellsBelow_2 (by decide) ?_
  refine lv_istore (lv' := [(4, .int (nI 0)), (3, .int (nI 0)), (0, .ref h), (1, .int (nI o)), (2, .int (nI lv))]) hx hb dX1_cellsBelow_3 hl (by decide) rfl (fun ls hl => ?_)
  have L5 : ∀ (fuel : Nat) (k : Nat), 256 - k < fuel → (k ≤ 256) → ∀ (H : Heap) (locs : List Loc), va_P G.1 vwCl [(h, .inr (1, [.ref a1, .ref a2, .ref a3, .int (nI pr), .int (nI tx), .int (nI sa), .int (nI fl), .int (nI lo)])), (a1, .inl (G.2.1, 256, .inl (gn ow))), (a2, .inl (G.2.1, 256, .inl (gn he))), (a3, .inl (G.2.1, 8, .inl (gn co)))] H → va_D A [(h, .inr (1, [.ref a1, .ref a2, .ref a3, .int (nI pr), .int (nI tx), .int (nI sa), .int (nI fl), .int (nI lo)])), (a1, .inl (G.2.1, 256, .inl (gn ow))), (a2, .inl (G.2.1, 256, .inl (gn he))), (a3, .inl (G.2.1, 8, .inl (gn co)))] → va_S A s.heap H locs → ∀ (ls : Array Slot), lv_has ls 5 [(4, .int (nI k)), (3, .int (nI (sBelow ow he o lv k))), (0, .ref h), (1, .int (nI o)), (2, .int (nI lv))] → W p l e ({ frames := 0, cells := 0, slots := 0, locals := 0 } : Room) s m args below meth c H locs 0 0 (MQ below (va_Qi (S := Unit) (fun (r : Int32) (u : Unit) => (r = nI (sBelow ow he o lv 256))) (gB G A (fun u => [(h, .inr (1, [.ref a1, .ref a2, .ref a3, .int (nI pr), .int (nI tx), .int (nI sa), .int (nI fl), .int (nI lo)])), (a1, .inl (G.2.1, 256, .inl (gn ow))), (a2, .inl (G.2.1, 256, .inl (gn he))), (a3, .inl (G.2.1, 8, .inl (gn co)))])) A) args s 0 0 A) (F0 m 5 ls []) := by
    intro fuel
    induction fuel with
    | zero => intro k hme; exact absurd hme (Nat.not_lt_zero _)
    | succ fuel ih5 =>
      intro k hme hk H locs hP hD hS ls hl
      refine lv_iload hx hb dX1_cellsBelow_5 (lv_at hl 0 rfl) ?_
      refine lv_sipush (v := nI 256) hx hb dX1_cellsBelow_7 (by decide) ?_
      refine gIcmp_ge (a := k) (b := 256) (tgt := 44) hx hb dX1_cellsBelow_10 (by decide) (by omega) (by omega) (fun c10 => ?_) (fun c10 => ?_)
      · skip
        refine lv_iload_n hx hb dX1_cellsBelow_44 rfl (lv_at hl 1 rfl) ?_
        exact gRi F dX1_cellsBelow_45 (rfl) () (by rw [show k = 256 by omega]) hP hD hS (Nat.le_refl _) (Nat.le_refl _)
      refine lv_aload_n hx hb dX1_cellsBelow_13 rfl (lv_at hl 2 rfl) ?_
      refine va_get (D := G.1) (ci := 1) (v := .ref a1) (C := RX1) (T := TX1) (N := 8) hx hb hts hi1 hown hK hP 0 rfl rfl 0 (by decide) (hts (.fieldLink RX1 9 "LandQuarters$Land" "owners" "[I") (by decide +kernel)) (fun _ h9 => h9) rfl dX1_cellsBelow_14 ?_
      refine lv_iload hx hb dX1_cellsBelow_17 (lv_at hl 0 rfl) ?_
      refine gNald (k := k) hx hb hK hP 1 0 rfl rfl (by omega) (by first | decide | omega) dX1_cellsBelow_19 ?_
      refine lv_iload_n hx hb dX1_cellsBelow_20 rfl (lv_at hl 3 rfl) ?_
      refine gIcmp_ne (a := ow k) (b := o) (tgt := 38) hx hb dX1_cellsBelow_21 (by decide) (by have := hw k; omega) (by omega) (fun c21 => ?_) (fun c21 => ?_)
      · skip
        refine lv_iinc (v := nI (k + 1)) (lv' := [(4, .int (nI (k + 1))), (3, .int (nI (sBelow ow he o lv k))), (0, .ref h), (1, .int (nI o)), (2, .int (nI lv))]) hx hb dX1_cellsBelow_38 hl (k := 0) rfl (gInc_p _ rfl) (by decide) rfl (fun ls hl => ?_)
        refine lv_goto (tgt := 5) hx hb dX1_cellsBelow_41 (by decide) ?_
        have hl : lv_has ls 5 [(4, .int (nI (k + 1))), (3, .int (nI (sBelow ow he o lv k))), (0, .ref h), (1, .int (nI o)), (2, .int (nI lv))] := lv_sub hl [0, 1, 2, 3, 4] rfl
        have hle : (.int (nI (sBelow ow he o lv k)) : Value) = .int (nI (sBelow ow he o lv (k + 1))) := by first | rfl | (congr 2; (try simp only [sBelow]); (repeat' split) <;> omega)
        rw [hle] at hl
        have hy_1 : (k + 1) ≤ 256 := by omega
        exact ih5 (k + 1) (by omega) hy_1 H locs hP hD hS ls hl
      refine lv_aload_n hx hb dX1_cellsBelow_24 rfl (lv_at hl 2 rfl) ?_
      refine va_get (D := G.1) (ci := 1) (v := .ref a2) (C := RX1) (T := TX1) (N := 8) hx hb hts hi1 hown hK hP 0 rfl rfl 1 (by decide) (hts (.fieldLink RX1 15 "LandQuarters$Land" "heights" "[I") (by decide +kernel)) (fun _ h9 => h9) rfl dX1_cellsBelow_25 ?_
      refine lv_iload hx hb dX1_cellsBelow_28 (lv_at hl 0 rfl) ?_
      refine gNald (k := k) hx hb hK hP 2 0 rfl rfl (by omega) (by first | decide | omega) dX1_cellsBelow_30 ?_
      refine lv_iload_n hx hb dX1_cellsBelow_31 rfl (lv_at hl 4 rfl) ?_
      refine gIcmp_ge (a := he k) (b := lv) (tgt := 38) hx hb dX1_cellsBelow_32 (by decide) (by have := hh k; omega) (by omega) (fun c32 => ?_) (fun c32 => ?_)
      · skip
        refine lv_iinc (v := nI (k + 1)) (lv' := [(4, .int (nI (k + 1))), (3, .int (nI (sBelow ow he o lv k))), (0, .ref h), (1, .int (nI o)), (2, .int (nI lv))]) hx hb dX1_cellsBelow_38 hl (k := 0) rfl (gInc_p _ rfl) (by decide) rfl (fun ls hl => ?_)
        refine lv_goto (tgt := 5) hx hb dX1_cellsBelow_41 (by decide) ?_
        have hl : lv_has ls 5 [(4, .int (nI (k + 1))), (3, .int (nI (sBelow ow he o lv k))), (0, .ref h), (1, .int (nI o)), (2, .int (nI lv))] := lv_sub hl [0, 1, 2, 3, 4] rfl
        have hle : (.int (nI (sBelow ow he o lv k)) : Value) = .int (nI (sBelow ow he o lv (k + 1))) := by first | rfl | (congr 2; (try simp only [sBelow]); (repeat' split) <;> omega)
        rw [hle] at hl
        have hy_2 : (k + 1) ≤ 256 := by omega
        exact ih5 (k + 1) (by omega) hy_2 H locs hP hD hS ls hl
      refine lv_iinc (v := nI (sBelow ow he o lv k + 1)) (lv' := [(3, .int (nI (sBelow ow he o lv k + 1))), (4, .int (nI k)), (0, .ref h), (1, .int (nI o)), (2, .int (nI lv))]) hx hb dX1_cellsBelow_35 hl (k := 1) rfl (gInc_p _ rfl) (by decide) rfl (fun ls hl => ?_)
      refine lv_iinc (v := nI (k + 1)) (lv' := [(4, .int (nI (k + 1))), (3, .int (nI (sBelow ow he o lv k + 1))), (0, .ref h), (1, .int (nI o)), (2, .int (nI lv))]) hx hb dX1_cellsBelow_38 hl (k := 1) rfl (gInc_p _ rfl) (by decide) rfl (fun ls hl => ?_)
      refine lv_goto (tgt := 5) hx hb dX1_cellsBelow_41 (by decide) ?_
      have hl : lv_has ls 5 [(4, .int (nI (k + 1))), (3, .int (nI (sBelow ow he o lv k + 1))), (0, .ref h), (1, .int (nI o)), (2, .int (nI lv))] := lv_sub hl [0, 1, 2, 3, 4] rfl
      have hle : (.int (nI (sBelow ow he o lv k + 1)) : Value) = .int (nI (sBelow ow he o lv (k + 1))) := by first | rfl | (congr 2; (try simp only [sBelow]); (repeat' split) <;> omega)
      rw [hle] at hl
      have hy_3 : (k + 1) ≤ 256 := by omega
      exact ih5 (k + 1) (by omega) hy_3 H locs hP hD hS ls hl
  have hl : lv_has ls 5 [(4, .int (nI 0)), (3, .int (nI 0)), (0, .ref h), (1, .int (nI o)), (2, .int (nI lv))] := lv_sub hl [0, 1, 2, 3, 4] rfl
  have hle : (.int (nI 0) : Value) = .int (nI (sBelow ow he o lv 0)) := by first | rfl | (congr 2; (try simp only [sBelow]); (repeat' split) <;> omega)
  rw [hle] at hl
  have hy_4 : 0 ≤ 256 := by omega
  exact L5 _ 0 (Nat.lt_succ_self _) hy_4 H locs hP hD hS ls hl

set_option maxHeartbeats 4000000 in
set_option maxRecDepth 100000 in
theorem c_X1_sumOfHeights (l : Launch) (G : gG) (h : Nat) (a1 : Nat) (a2 : Nat) (a3 : Nat) (ow : Nat → Nat) (he : Nat → Nat) (co : Nat → Nat) (pr : Nat) (tx : Nat) (sa : Nat) (fl : Nat) (lo : Nat) : gMi (S := Unit) l yX1_sumOfHeights wsX1_sumOfHeights { frames := 0, cells := 0, slots := 0, locals := 0 } G [.ref h] [(h, .inr (1, [.ref a1, .ref a2, .ref a3, .int (nI pr), .int (nI tx), .int (nI sa), .int (nI fl), .int (nI lo)])), (a1, .inl (G.2.1, 256, .inl (gn ow))), (a2, .inl (G.2.1, 256, .inl (gn he))), (a3, .inl (G.2.1, 8, .inl (gn co)))] (fun (r : Int32) (u : Unit) => (r = nI (sSumH he 256))) (fun u => [(h, .inr (1, [.ref a1, .ref a2, .ref a3, .int (nI pr), .int (nI tx), .int (nI sa), .int (nI fl), .int (nI lo)])), (a1, .inl (G.2.1, 256, .inl (gn ow))), (a2, .inl (G.2.1, 256, .inl (gn he))), (a3, .inl (G.2.1, 8, .inl (gn co)))]) 0 0 := by
  refine gMet_mk (cc := cX1_sumOfHeights) (nL := 3) (ret := (some .int)) (Qc := fun A => va_Qi (S := Unit) (fun (r : Int32) (u : Unit) => (r = nI (sSumH he 256))) (gB G A (fun u => [(h, .inr (1, [.ref a1, .ref a2, .ref a3, .int (nI pr), .int (nI tx), .int (nI sa), .int (nI fl), .int (nI lo)])), (a1, .inl (G.2.1, 256, .inl (gn ow))), (a2, .inl (G.2.1, 256, .inl (gn he))), (a3, .inl (G.2.1, 8, .inl (gn co)))])) A) (by decide) rfl (Nat.le_of_ble_eq_true rfl) ?_
  intro p e s m args below meth c A F ls hl hP hD hS
  have hx := F.1
  have hb := F.2.1
  have hts := F.2.2.2.2.2.2.1
  have hown : s.vm.findClass RX1 = some m.cls := F.2.2.2.2.2.1
  have hKK := F.2.2.2.2.2.2.2.2.1
  have hK := hKK.1
  have hin0 := F.2.2.2.2.2.2.2.1
  have hi1 : ∀ w ∈ u_ws RX1 TX1 8, w ∈ wsX1_sumOfHeights := by decide +kernel
  have hl : lv_has ls 3 [(0, .ref h)] := hl
  generalize hH : s.heap = H at hP ⊢
  have hS : va_S A s.heap H [] := by rw [← hH]; exact va_S.rf
  generalize hLo : ([] : List Loc) = locs at hS ⊢
  refine lv_iconst (v := nI 0) hx hb dX1_sumOfHeights_0 (by decide) ?_
  refine lv_istore_n (lv' := [(1, .int (nI 0)), (0, .ref h)]) hx hb dX1_sumOfHeights_1 rfl hl (by decide) rfl (fun ls hl => ?_)
  refine lv_iconst (v := nI 0) hx hb dX1_sumOfHeights_2 (by decide) ?_
  refine lv_istore_n (lv' := [(2, .int (nI 0)), (1, .int (nI 0)), (0, .ref h)]) hx hb dX1_sumOfHeights_3 rfl hl (by decide) rfl (fun ls hl => ?_)
  have L4 : ∀ (fuel : Nat) (k : Nat), 256 - k < fuel → (k ≤ 256) → ∀ (H : Heap) (locs : List Loc), va_P G.1 vwCl [(h, .inr (1, [.ref a1, .ref a2, .ref a3, .int (nI pr), .int (nI tx), .int (nI sa), .int (nI fl), .int (nI lo)])), (a1, .inl (G.2.1, 256, .inl (gn ow))), (a2, .inl (G.2.1, 256, .inl (gn he))), (a3, .inl (G.2.1, 8, .inl (gn co)))] H → va_D A [(h, .inr (1, [.ref a1, .ref a2, .ref a3, .int (nI pr), .int (nI tx), .int (nI sa), .int (nI fl), .int (nI lo)])), (a1, .inl (G.2.1, 256, .inl (gn ow))), (a2, .inl (G.2.1, 256, .inl (gn he))), (a3, .inl (G.2.1, 8, .inl (gn co)))] → va_S A s.heap H locs → ∀ (ls : Array Slot), lv_has ls 3 [(2, .int (nI k)), (1, .int (nI (sSumH he k))), (0, .ref h)] → W p l e ({ frames := 0, cells := 0, slots := 0, locals := 0 } : Room) s m args below meth c H locs 0 0 (MQ below (va_Qi (S := Unit) (fun (r : Int32) (u : Unit) => (r = nI (sSumH he 256))) (gB G A (fun u => [(h, .inr (1, [.ref a1, .ref a2, .ref a3, .int (nI pr), .int (nI tx), .int (nI sa), .int (nI fl), .int (nI lo)])), (a1, .inl (G.2.1, 256, .inl (gn ow))), (a2, .inl (G.2.1, 256, .inl (gn he))), (a3, .inl (G.2.1, 8, .inl (gn co)))])) A) args s 0 0 A) (F0 m 4 ls []) := by
    intro fuel
    induction fuel with
    | zero => intro k hme; exact absurd hme (Nat.not_lt_zero _)
    | succ fuel ih4 =>
      intro k hme hk H locs hP hD hS ls hl
      refine lv_iload_n hx hb dX1_sumOfHeights_4 rfl (lv_at hl 0 rfl) ?_
      refine lv_sipush (v := nI 256) hx hb dX1_sumOfHeights_5 (by decide) ?_
      refine gIcmp_ge (a := k) (b := 256) (tgt := 26) hx hb dX1_sumOfHeights_8 (by decide) (by omega) (by omega) (fun c8 => ?_) (fun c8 => ?_)
      · skip
        refine lv_iload_n hx hb dX1_sumOfHeights_26 rfl (lv_at hl 1 rfl) ?_
        exact gRi F dX1_sumOfHeights_27 (rfl) () (by rw [show k = 256 by omega]) hP hD hS (Nat.le_refl _) (Nat.le_refl _)
      refine lv_iload_n hx hb dX1_sumOfHeights_11 rfl (lv_at hl 1 rfl) ?_
      refine lv_aload_n hx hb dX1_sumOfHeights_12 rfl (lv_at hl 2 rfl) ?_
      refine va_get (D := G.1) (ci := 1) (v := .ref a2) (C := RX1) (T := TX1) (N := 8) hx hb hts hi1 hown hK hP 0 rfl rfl 1 (by decide) (hts (.fieldLink RX1 15 "LandQuarters$Land" "heights" "[I") (by decide +kernel)) (fun _ h9 => h9) rfl dX1_sumOfHeights_13 ?_
      refine lv_iload_n hx hb dX1_sumOfHeights_16 rfl (lv_at hl 0 rfl) ?_
      refine gNald (k := k) hx hb hK hP 2 0 rfl rfl (by omega) (by first | decide | omega) dX1_sumOfHeights_17 ?_
      refine gIadd (a := sSumH he k) (b := he k) hx hb dX1_sumOfHeights_18 ?_
      refine lv_istore_n (lv' := [(1, .int (nI (sSumH he k + (he k)))), (2, .int (nI k)), (0, .ref h)]) hx hb dX1_sumOfHeights_19 rfl hl (by decide) rfl (fun ls hl => ?_)
      refine lv_iinc (v := nI (k + 1)) (lv' := [(2, .int (nI (k + 1))), (1, .int (nI (sSumH he k + (he k)))), (0, .ref h)]) hx hb dX1_sumOfHeights_20 hl (k := 1) rfl (gInc_p _ rfl) (by decide) rfl (fun ls hl => ?_)
      refine lv_goto (tgt := 4) hx hb dX1_sumOfHeights_23 (by decide) ?_
      have hl : lv_has ls 3 [(2, .int (nI (k + 1))), (1, .int (nI (sSumH he k + (he k)))), (0, .ref h)] := lv_sub hl [0, 1, 2] rfl
      have hle : (.int (nI (sSumH he k + (he k))) : Value) = .int (nI (sSumH he (k + 1))) := by first | rfl | (congr 2; (try simp only [sSumH]); (repeat' split) <;> omega)
      rw [hle] at hl
      have hy_1 : (k + 1) ≤ 256 := by omega
      exact ih4 (k + 1) (by omega) hy_1 H locs hP hD hS ls hl
  have hl : lv_has ls 3 [(2, .int (nI 0)), (1, .int (nI 0)), (0, .ref h)] := lv_sub hl [0, 1, 2] rfl
  have hle : (.int (nI 0) : Value) = .int (nI (sSumH he 0)) := by first | rfl | (congr 2; (try simp only [sSumH]); (repeat' split) <;> omega)
  rw [hle] at hl
  have hy_2 : 0 ≤ 256 := by omega
  exact L4 _ 0 (Nat.lt_succ_self _) hy_2 H locs hP hD hS ls hl

set_option maxHeartbeats 4000000 in
set_option maxRecDepth 100000 in
theorem c_X1_costOf (l : Launch) (G : gG) (h : Nat) (a1 : Nat) (a2 : Nat) (a3 : Nat) (ow : Nat → Nat) (he : Nat → Nat) (co : Nat → Nat) (pr : Nat) (tx : Nat) (sa : Nat) (fl : Nat) (lo : Nat) (z : Nat) : gMi (S := Unit) l yX1_costOf wsX1_costOf { frames := 0, cells := 0, slots := 0, locals := 0 } G [.ref h, .int (nI z)] [(h, .inr (1, [.ref a1, .ref a2, .ref a3, .int (nI pr), .int (nI tx), .int (nI sa), .int (nI fl), .int (nI lo)])), (a1, .inl (G.2.1, 256, .inl (gn ow))), (a2, .inl (G.2.1, 256, .inl (gn he))), (a3, .inl (G.2.1, 8, .inl (gn co)))] (fun (r : Int32) (u : Unit) => (r = nI (pr * z * z))) (fun u => [(h, .inr (1, [.ref a1, .ref a2, .ref a3, .int (nI pr), .int (nI tx), .int (nI sa), .int (nI fl), .int (nI lo)])), (a1, .inl (G.2.1, 256, .inl (gn ow))), (a2, .inl (G.2.1, 256, .inl (gn he))), (a3, .inl (G.2.1, 8, .inl (gn co)))]) 0 0 := by
  refine gMet_mk (cc := cX1_costOf) (nL := 2) (ret := (some .int)) (Qc := fun A => va_Qi (S := Unit) (fun (r : Int32) (u : Unit) => (r = nI (pr * z * z))) (gB G A (fun u => [(h, .inr (1, [.ref a1, .ref a2, .ref a3, .int (nI pr), .int (nI tx), .int (nI sa), .int (nI fl), .int (nI lo)])), (a1, .inl (G.2.1, 256, .inl (gn ow))), (a2, .inl (G.2.1, 256, .inl (gn he))), (a3, .inl (G.2.1, 8, .inl (gn co)))])) A) (by decide) rfl (Nat.le_of_ble_eq_true rfl) ?_
  intro p e s m args below meth c A F ls hl hP hD hS
  have hx := F.1
  have hb := F.2.1
  have hts := F.2.2.2.2.2.2.1
  have hown : s.vm.findClass RX1 = some m.cls := F.2.2.2.2.2.1
  have hKK := F.2.2.2.2.2.2.2.2.1
  have hK := hKK.1
  have hin0 := F.2.2.2.2.2.2.2.1
  have hi1 : ∀ w ∈ u_ws RX1 TX1 8, w ∈ wsX1_costOf := by decide +kernel
  have hl : lv_has ls 2 [(0, .ref h), (1, .int (nI z))] := hl
  generalize hH : s.heap = H at hP ⊢
  have hS : va_S A s.heap H [] := by rw [← hH]; exact va_S.rf
  generalize hLo : ([] : List Loc) = locs at hS ⊢
  refine lv_aload_n hx hb dX1_costOf_0 rfl (lv_at hl 0 rfl) ?_
  refine va_get (D := G.1) (ci := 1) (v := .int (nI pr)) (C := RX1) (T := TX1) (N := 8) hx hb hts hi1 hown hK hP 0 rfl rfl 3 (by decide) (hts (.fieldLink RX1 21 "LandQuarters$Land" "cellPrice" "I") (by decide +kernel)) (fun _ h9 => h9) rfl dX1_costOf_1 ?_
  refine lv_iload_n hx hb dX1_costOf_4 rfl (lv_at hl 1 rfl) ?_
  refine gImul (a := pr) (b := z) hx hb dX1_costOf_5 ?_
  refine lv_iload_n hx hb dX1_costOf_6 rfl (lv_at hl 1 rfl) ?_
  refine gImul (a := pr * z) (b := z) hx hb dX1_costOf_7 ?_
  exact gRi F dX1_costOf_8 (rfl) () (by simp []) hP hD hS (Nat.le_refl _) (Nat.le_refl _)

set_option maxHeartbeats 4000000 in
set_option maxRecDepth 100000 in
theorem c_X1_init (l : Launch) (G : gG) (h : Nat) : gMv (S := (Nat) × (Nat) × (Nat)) l yX1_init wsX1_init { frames := 1, cells := 3, slots := 520, locals := 23 } G [.ref h] [(h, .inr (1, [.null, .null, .null, .int (nI 0), .int (nI 0), .int (nI 0), .int (nI 0), .int (nI 0)]))] (fun (u : (Nat) × (Nat) × (Nat)) => True) (fun u => [(h, .inr (1, [.ref u.1, .ref u.2.1, .ref u.2.2, .int (nI 2), .int (nI 1), .int (nI 0), .int (nI 0), .int (nI 0)])), (u.1, .inl (G.2.1, 256, .inl (gn (fun _ => 0)))), (u.2.1, .inl (G.2.1, 256, .inl (gn (fun _ => 5)))), (u.2.2, .inl (G.2.1, 8, .inl (gn (fun k => if k = 0 then 0 else 100))))]) 3 520 := by
  refine gMet_mk (cc := cX1_init) (nL := 1) (ret := none) (Qc := fun A => va_Qv (S := (Nat) × (Nat) × (Nat)) (fun (u : (Nat) × (Nat) × (Nat)) => True) (gB G A (fun u => [(h, .inr (1, [.ref u.1, .ref u.2.1, .ref u.2.2, .int (nI 2), .int (nI 1), .int (nI 0), .int (nI 0), .int (nI 0)])), (u.1, .inl (G.2.1, 256, .inl (gn (fun _ => 0)))), (u.2.1, .inl (G.2.1, 256, .inl (gn (fun _ => 5)))), (u.2.2, .inl (G.2.1, 8, .inl (gn (fun k => if k = 0 then 0 else 100))))])) A) (by decide) rfl (Nat.le_of_ble_eq_true rfl) ?_
  intro p e s m args below meth c A F ls hl hP hD hS
  have hx := F.1
  have hb := F.2.1
  have hts := F.2.2.2.2.2.2.1
  have hown : s.vm.findClass RX1 = some m.cls := F.2.2.2.2.2.1
  have hKK := F.2.2.2.2.2.2.2.2.1
  have hK := hKK.1
  have hin0 := F.2.2.2.2.2.2.2.1
  have hi1 : ∀ w ∈ u_ws RX1 TX1 8, w ∈ wsX1_init := by decide +kernel
  have hl : lv_has ls 1 [(0, .ref h)] := hl
  generalize hH : s.heap = H at hP ⊢
  have hS : va_S A s.heap H [] := by rw [← hH]; exact va_S.rf
  generalize hLo : ([] : List Loc) = locs at hS ⊢
  refine lv_aload_n hx hb dX1_init_0 rfl (lv_at hl 0 rfl) ?_
  refine W.objInit hx hb hown (hts (.methodLink RX1 3 objectInit) (by decide +kernel)) (hts (.instanceMethod objectInit) (by decide +kernel)) (hts (.code objectInit ⟨#[0xb1]⟩ 1 none) (by decide +kernel)) rfl (by rw [F.2.2.1]; exact hl.1) rfl dX1_init_1 (Nat.le_of_ble_eq_true rfl) (Nat.le_of_ble_eq_true rfl) ?_
  refine W.eq (g2 := F0 m 4 ls []) rfl ?_
  refine lv_aload_n hx hb dX1_init_4 rfl (lv_at hl 0 rfl) ?_
  refine lv_sipush (v := nI 256) hx hb dX1_init_5 (by decide) ?_
  refine gNewI F (by decide +kernel) hP hD hS (by decide) (Nat.le_of_ble_eq_true rfl) (Nat.le_of_ble_eq_true rfl) dX1_init_8 (fun q_1 H hP hD hS => ?_)
  have hP : va_P G.1 vwCl [(h, .inr (1, [.null, .null, .null, .int (nI 0), .int (nI 0), .int (nI 0), .int (nI 0), .int (nI 0)])), (q_1, .inl (G.2.1, 256, .inl (gn (fun _ => 0))))] H := hP
  have hD : va_D A [(h, .inr (1, [.null, .null, .null, .int (nI 0), .int (nI 0), .int (nI 0), .int (nI 0), .int (nI 0)])), (q_1, .inl (G.2.1, 256, .inl (gn (fun _ => 0))))] := hD
  refine va_putF (D := G.1) (ci := 1) (v := .ref q_1) (ty := .array .int) (C := RX1) (T := TX1) (N := 8) hx hb hts hi1 tyX1 tyX1_ok nmX1 hown hK hP hD hS 0 rfl rfl 0 (by decide) (hts (.fieldLink RX1 9 "LandQuarters$Land" "owners" "[I") (by decide +kernel)) (fun _ h9 => h9) rfl hin0 rfl (by decide +kernel) (rfl) (rfl) (Nat.le_of_ble_eq_true rfl) dX1_init_10 (fun H locs hP hD hS => ?_)
  have hP : va_P G.1 vwCl [(h, .inr (1, [.ref q_1, .null, .null, .int (nI 0), .int (nI 0), .int (nI 0), .int (nI 0), .int (nI 0)])), (q_1, .inl (G.2.1, 256, .inl (gn (fun _ => 0))))] H := hP
  have hD : va_D A [(h, .inr (1, [.ref q_1, .null, .null, .int (nI 0), .int (nI 0), .int (nI 0), .int (nI 0), .int (nI 0)])), (q_1, .inl (G.2.1, 256, .inl (gn (fun _ => 0))))] := hD
  refine lv_aload_n hx hb dX1_init_13 rfl (lv_at hl 0 rfl) ?_
  refine lv_sipush (v := nI 256) hx hb dX1_init_14 (by decide) ?_
  refine gNewI F (by decide +kernel) hP hD hS (by decide) (Nat.le_of_ble_eq_true rfl) (Nat.le_of_ble_eq_true rfl) dX1_init_17 (fun q_2 H hP hD hS => ?_)
  have hP : va_P G.1 vwCl [(h, .inr (1, [.ref q_1, .null, .null, .int (nI 0), .int (nI 0), .int (nI 0), .int (nI 0), .int (nI 0)])), (q_1, .inl (G.2.1, 256, .inl (gn (fun _ => 0)))), (q_2, .inl (G.2.1, 256, .inl (gn (fun _ => 0))))] H := hP
  have hD : va_D A [(h, .inr (1, [.ref q_1, .null, .null, .int (nI 0), .int (nI 0), .int (nI 0), .int (nI 0), .int (nI 0)])), (q_1, .inl (G.2.1, 256, .inl (gn (fun _ => 0)))), (q_2, .inl (G.2.1, 256, .inl (gn (fun _ => 0))))] := hD
  refine va_putF (D := G.1) (ci := 1) (v := .ref q_2) (ty := .array .int) (C := RX1) (T := TX1) (N := 8) hx hb hts hi1 tyX1 tyX1_ok nmX1 hown hK hP hD hS 0 rfl rfl 1 (by decide) (hts (.fieldLink RX1 15 "LandQuarters$Land" "heights" "[I") (by decide +kernel)) (fun _ h9 => h9) rfl hin0 rfl (by decide +kernel) (rfl) (rfl) (Nat.le_of_ble_eq_true rfl) dX1_init_19 (fun H locs hP hD hS => ?_)
  have hP : va_P G.1 vwCl [(h, .inr (1, [.ref q_1, .ref q_2, .null, .int (nI 0), .int (nI 0), .int (nI 0), .int (nI 0), .int (nI 0)])), (q_1, .inl (G.2.1, 256, .inl (gn (fun _ => 0)))), (q_2, .inl (G.2.1, 256, .inl (gn (fun _ => 0))))] H := hP
  have hD : va_D A [(h, .inr (1, [.ref q_1, .ref q_2, .null, .int (nI 0), .int (nI 0), .int (nI 0), .int (nI 0), .int (nI 0)])), (q_1, .inl (G.2.1, 256, .inl (gn (fun _ => 0)))), (q_2, .inl (G.2.1, 256, .inl (gn (fun _ => 0))))] := hD
  refine lv_aload_n hx hb dX1_init_22 rfl (lv_at hl 0 rfl) ?_
  refine lv_bipush (v := nI 8) hx hb dX1_init_23 (by decide) ?_
  refine gNewI F (by decide +kernel) hP hD hS (by decide) (Nat.le_of_ble_eq_true rfl) (Nat.le_of_ble_eq_true rfl) dX1_init_25 (fun q_3 H hP hD hS => ?_)
  have hP : va_P G.1 vwCl [(h, .inr (1, [.ref q_1, .ref q_2, .null, .int (nI 0), .int (nI 0), .int (nI 0), .int (nI 0), .int (nI 0)])), (q_1, .inl (G.2.1, 256, .inl (gn (fun _ => 0)))), (q_2, .inl (G.2.1, 256, .inl (gn (fun _ => 0)))), (q_3, .inl (G.2.1, 8, .inl (gn (fun _ => 0))))] H := hP
  have hD : va_D A [(h, .inr (1, [.ref q_1, .ref q_2, .null, .int (nI 0), .int (nI 0), .int (nI 0), .int (nI 0), .int (nI 0)])), (q_1, .inl (G.2.1, 256, .inl (gn (fun _ => 0)))), (q_2, .inl (G.2.1, 256, .inl (gn (fun _ => 0)))), (q_3, .inl (G.2.1, 8, .inl (gn (fun _ => 0))))] := hD
  refine va_putF (D := G.1) (ci := 1) (v := .ref q_3) (ty := .array .int) (C := RX1) (T := TX1) (N := 8) hx hb hts hi1 tyX1 tyX1_ok nmX1 hown hK hP hD hS 0 rfl rfl 2 (by decide) (hts (.fieldLink RX1 18 "LandQuarters$Land" "coins" "[I") (by decide +kernel)) (fun _ h9 => h9) rfl hin0 rfl (by decide +kernel) (rfl) (rfl) (Nat.le_of_ble_eq_true rfl) dX1_init_27 (fun H locs hP hD hS => ?_)
  have hP : va_P G.1 vwCl [(h, .inr (1, [.ref q_1, .ref q_2, .ref q_3, .int (nI 0), .int (nI 0), .int (nI 0), .int (nI 0), .int (nI 0)])), (q_1, .inl (G.2.1, 256, .inl (gn (fun _ => 0)))), (q_2, .inl (G.2.1, 256, .inl (gn (fun _ => 0)))), (q_3, .inl (G.2.1, 8, .inl (gn (fun _ => 0))))] H := hP
  have hD : va_D A [(h, .inr (1, [.ref q_1, .ref q_2, .ref q_3, .int (nI 0), .int (nI 0), .int (nI 0), .int (nI 0), .int (nI 0)])), (q_1, .inl (G.2.1, 256, .inl (gn (fun _ => 0)))), (q_2, .inl (G.2.1, 256, .inl (gn (fun _ => 0)))), (q_3, .inl (G.2.1, 8, .inl (gn (fun _ => 0))))] := hD
  refine lv_aload_n hx hb dX1_init_30 rfl (lv_at hl 0 rfl) ?_
  refine lv_iconst (v := nI 2) hx hb dX1_init_31 (by decide) ?_
  refine va_put (D := G.1) (ci := 1) (v := .int (nI 2)) (ty := .int) (C := RX1) (T := TX1) (N := 8) hx hb hts hi1 tyX1 tyX1_ok nmX1 hown hK hP hD hS 0 rfl rfl 3 (by decide) (hts (.fieldLink RX1 21 "LandQuarters$Land" "cellPrice" "I") (by decide +kernel)) (fun _ h9 => h9) rfl (by decide +kernel) (rfl) (rfl) (Nat.le_of_ble_eq_true rfl) dX1_init_32 (fun H locs hP hD hS => ?_)
  have hP : va_P G.1 vwCl [(h, .inr (1, [.ref q_1, .ref q_2, .ref q_3, .int (nI 2), .int (nI 0), .int (nI 0), .int (nI 0), .int (nI 0)])), (q_1, .inl (G.2.1, 256, .inl (gn (fun _ => 0)))), (q_2, .inl (G.2.1, 256, .inl (gn (fun _ => 0)))), (q_3, .inl (G.2.1, 8, .inl (gn (fun _ => 0))))] H := hP
  have hD : va_D A [(h, .inr (1, [.ref q_1, .ref q_2, .ref q_3, .int (nI 2), .int (nI 0), .int (nI 0), .int (nI 0), .int (nI 0)])), (q_1, .inl (G.2.1, 256, .inl (gn (fun _ => 0)))), (q_2, .inl (G.2.1, 256, .inl (gn (fun _ => 0)))), (q_3, .inl (G.2.1, 8, .inl (gn (fun _ => 0))))] := hD
  refine lv_aload_n hx hb dX1_init_35 rfl (lv_at hl 0 rfl) ?_
  refine lv_iconst (v := nI 1) hx hb dX1_init_36 (by decide) ?_
  refine va_put (D := G.1) (ci := 1) (v := .int (nI 1)) (ty := .int) (C := RX1) (T := TX1) (N := 8) hx hb hts hi1 tyX1 tyX1_ok nmX1 hown hK hP hD hS 0 rfl rfl 4 (by decide) (hts (.fieldLink RX1 25 "LandQuarters$Land" "plotTax" "I") (by decide +kernel)) (fun _ h9 => h9) rfl (by decide +kernel) (rfl) (rfl) (Nat.le_of_ble_eq_true rfl) dX1_init_37 (fun H locs hP hD hS => ?_)
  have hP : va_P G.1 vwCl [(h, .inr (1, [.ref q_1, .ref q_2, .ref q_3, .int (nI 2), .int (nI 1), .int (nI 0), .int (nI 0), .int (nI 0)])), (q_1, .inl (G.2.1, 256, .inl (gn (fun _ => 0)))), (q_2, .inl (G.2.1, 256, .inl (gn (fun _ => 0)))), (q_3, .inl (G.2.1, 8, .inl (gn (fun _ => 0))))] H := hP
  have hD : va_D A [(h, .inr (1, [.ref q_1, .ref q_2, .ref q_3, .int (nI 2), .int (nI 1), .int (nI 0), .int (nI 0), .int (nI 0)])), (q_1, .inl (G.2.1, 256, .inl (gn (fun _ => 0)))), (q_2, .inl (G.2.1, 256, .inl (gn (fun _ => 0)))), (q_3, .inl (G.2.1, 8, .inl (gn (fun _ => 0))))] := hD
  refine lv_aload_n hx hb dX1_init_40 rfl (lv_at hl 0 rfl) ?_
  refine lv_iconst (v := nI 0) hx hb dX1_init_41 (by decide) ?_
  refine va_put (D := G.1) (ci := 1) (v := .int (nI 0)) (ty := .int) (C := RX1) (T := TX1) (N := 8) hx hb hts hi1 tyX1 tyX1_ok nmX1 hown hK hP hD hS 0 rfl rfl 5 (by decide) (hts (.fieldLink RX1 28 "LandQuarters$Land" "salesSoFar" "I") (by decide +kernel)) (fun _ h9 => h9) rfl (by decide +kernel) (rfl) (rfl) (Nat.le_of_ble_eq_true rfl) dX1_init_42 (fun H locs hP hD hS => ?_)
  have hP : va_P G.1 vwCl [(h, .inr (1, [.ref q_1, .ref q_2, .ref q_3, .int (nI 2), .int (nI 1), .int (nI 0), .int (nI 0), .int (nI 0)])), (q_1, .inl (G.2.1, 256, .inl (gn (fun _ => 0)))), (q_2, .inl (G.2.1, 256, .inl (gn (fun _ => 0)))), (q_3, .inl (G.2.1, 8, .inl (gn (fun _ => 0))))] H := hP
  have hD : va_D A [(h, .inr (1, [.ref q_1, .ref q_2, .ref q_3, .int (nI 2), .int (nI 1), .int (nI 0), .int (nI 0), .int (nI 0)])), (q_1, .inl (G.2.1, 256, .inl (gn (fun _ => 0)))), (q_2, .inl (G.2.1, 256, .inl (gn (fun _ => 0)))), (q_3, .inl (G.2.1, 8, .inl (gn (fun _ => 0))))] := hD
  refine lv_aload_n hx hb dX1_init_45 rfl (lv_at hl 0 rfl) ?_
  refine lv_iconst (v := nI 0) hx hb dX1_init_46 (by decide) ?_
  refine va_put (D := G.1) (ci := 1) (v := .int (nI 0)) (ty := .int) (C := RX1) (T := TX1) (N := 8) hx hb hts hi1 tyX1 tyX1_ok nmX1 hown hK hP hD hS 0 rfl rfl 6 (by decide) (hts (.fieldLink RX1 31 "LandQuarters$Land" "floodsSoFar" "I") (by decide +kernel)) (fun _ h9 => h9) rfl (by decide +kernel) (rfl) (rfl) (Nat.le_of_ble_eq_true rfl) dX1_init_47 (fun H locs hP hD hS => ?_)
  have hP : va_P G.1 vwCl [(h, .inr (1, [.ref q_1, .ref q_2, .ref q_3, .int (nI 2), .int (nI 1), .int (nI 0), .int (nI 0), .int (nI 0)])), (q_1, .inl (G.2.1, 256, .inl (gn (fun _ => 0)))), (q_2, .inl (G.2.1, 256, .inl (gn (fun _ => 0)))), (q_3, .inl (G.2.1, 8, .inl (gn (fun _ => 0))))] H := hP
  have hD : va_D A [(h, .inr (1, [.ref q_1, .ref q_2, .ref q_3, .int (nI 2), .int (nI 1), .int (nI 0), .int (nI 0), .int (nI 0)])), (q_1, .inl (G.2.1, 256, .inl (gn (fun _ => 0)))), (q_2, .inl (G.2.1, 256, .inl (gn (fun _ => 0)))), (q_3, .inl (G.2.1, 8, .inl (gn (fun _ => 0))))] := hD
  refine lv_aload_n hx hb dX1_init_50 rfl (lv_at hl 0 rfl) ?_
  refine lv_iconst (v := nI 0) hx hb dX1_init_51 (by decide) ?_
  refine va_put (D := G.1) (ci := 1) (v := .int (nI 0)) (ty := .int) (C := RX1) (T := TX1) (N := 8) hx hb hts hi1 tyX1 tyX1_ok nmX1 hown hK hP hD hS 0 rfl rfl 7 (by decide) (hts (.fieldLink RX1 34 "LandQuarters$Land" "lostSoFar" "I") (by decide +kernel)) (fun _ h9 => h9) rfl (by decide +kernel) (rfl) (rfl) (Nat.le_of_ble_eq_true rfl) dX1_init_52 (fun H locs hP hD hS => ?_)
  have hP : va_P G.1 vwCl [(h, .inr (1, [.ref q_1, .ref q_2, .ref q_3, .int (nI 2), .int (nI 1), .int (nI 0), .int (nI 0), .int (nI 0)])), (q_1, .inl (G.2.1, 256, .inl (gn (fun _ => 0)))), (q_2, .inl (G.2.1, 256, .inl (gn (fun _ => 0)))), (q_3, .inl (G.2.1, 8, .inl (gn (fun _ => 0))))] H := hP
  have hD : va_D A [(h, .inr (1, [.ref q_1, .ref q_2, .ref q_3, .int (nI 2), .int (nI 1), .int (nI 0), .int (nI 0), .int (nI 0)])), (q_1, .inl (G.2.1, 256, .inl (gn (fun _ => 0)))), (q_2, .inl (G.2.1, 256, .inl (gn (fun _ => 0)))), (q_3, .inl (G.2.1, 8, .inl (gn (fun _ => 0))))] := hD
  refine lv_aload_n hx hb dX1_init_55 rfl (lv_at hl 0 rfl) ?_
  refine va_get (D := G.1) (ci := 1) (v := .ref q_1) (C := RX1) (T := TX1) (N := 8) hx hb hts hi1 hown hK hP 0 rfl rfl 0 (by decide) (hts (.fieldLink RX1 9 "LandQuarters$Land" "owners" "[I") (by decide +kernel)) (fun _ h9 => h9) rfl dX1_init_56 ?_
  refine lv_iconst (v := nI 0) hx hb dX1_init_59 (by decide) ?_
  refine gCv F (gRunS (own := RX1) (bytes := cJ7_fill_53178) (n := 2) (As := [.ref q_1, .int (nI 0)]) (rest := []) F (c_fill_N l G q_1 256 (fun _ => 0) 0 (by first | assumption | omega) H.size) gX1_init_J7_fill_53178 rfl rfl rfl rfl (by decide +kernel) rfl ⟨Nat.le_of_ble_eq_true rfl, Nat.le_of_ble_eq_true rfl⟩ hP hD (lit := [(h, .inr (1, [.ref q_1, .ref q_2, .ref q_3, .int (nI 2), .int (nI 1), .int (nI 0), .int (nI 0), .int (nI 0)])), (q_1, .inl (G.2.1, 256, .inl (gn (fun _ => 0)))), (q_2, .inl (G.2.1, 256, .inl (gn (fun _ => 0)))), (q_3, .inl (G.2.1, 8, .inl (gn (fun _ => 0))))]) (wt := []) (wc := [(q_1, .inl (G.2.1, 256, .inl (gn (fun _ => 0))))]) (isC := [1]) rfl (by decide) rfl hl.1 (Nat.le_of_ble_eq_true rfl) dX1_init_60 ⟨Nat.le_of_ble_eq_true rfl, Nat.le_of_ble_eq_true rfl⟩) hP hD hS (lit := [(h, .inr (1, [.ref q_1, .ref q_2, .ref q_3, .int (nI 2), .int (nI 1), .int (nI 0), .int (nI 0), .int (nI 0)])), (q_1, .inl (G.2.1, 256, .inl (gn (fun _ => 0)))), (q_2, .inl (G.2.1, 256, .inl (gn (fun _ => 0)))), (q_3, .inl (G.2.1, 8, .inl (gn (fun _ => 0))))]) (wt := []) (wc := [(q_1, .inl (G.2.1, 256, .inl (gn (fun _ => 0))))]) (wr := [(h, .inr (1, [.ref q_1, .ref q_2, .ref q_3, .int (nI 2), .int (nI 1), .int (nI 0), .int (nI 0), .int (nI 0)])), (q_2, .inl (G.2.1, 256, .inl (gn (fun _ => 0)))), (q_3, .inl (G.2.1, 8, .inl (gn (fun _ => 0))))]) (isC := [1]) (isR := [0, 2, 3]) rfl rfl (by decide) (by decide) (fun u H locs hp60 hP hD hS => ?_)
  have hP : va_P G.1 vwCl [(h, .inr (1, [.ref q_1, .ref q_2, .ref q_3, .int (nI 2), .int (nI 1), .int (nI 0), .int (nI 0), .int (nI 0)])), (q_2, .inl (G.2.1, 256, .inl (gn (fun _ => 0)))), (q_3, .inl (G.2.1, 8, .inl (gn (fun _ => 0)))), (q_1, .inl (G.2.1, 256, .inl (gn (fun _ => 0))))] H := hP
  have hD : va_D A [(h, .inr (1, [.ref q_1, .ref q_2, .ref q_3, .int (nI 2), .int (nI 1), .int (nI 0), .int (nI 0), .int (nI 0)])), (q_2, .inl (G.2.1, 256, .inl (gn (fun _ => 0)))), (q_3, .inl (G.2.1, 8, .inl (gn (fun _ => 0)))), (q_1, .inl (G.2.1, 256, .inl (gn (fun _ => 0))))] := hD
  refine lv_aload_n hx hb dX1_init_63 rfl (lv_at hl 0 rfl) ?_
  refine va_get (D := G.1) (ci := 1) (v := .ref q_2) (C := RX1) (T := TX1) (N := 8) hx hb hts hi1 hown hK hP 0 rfl rfl 1 (by decide) (hts (.fieldLink RX1 15 "LandQuarters$Land" "heights" "[I") (by decide +kernel)) (fun _ h9 => h9) rfl dX1_init_64 ?_
  refine lv_iconst (v := nI 5) hx hb dX1_init_67 (by decide) ?_
  refine gCv F (gRunS (own := RX1) (bytes := cJ7_fill_53178) (n := 2) (As := [.ref q_2, .int (nI 5)]) (rest := []) F (c_fill_N l G q_2 256 (fun _ => 0) 5 (by first | assumption | omega) H.size) gX1_init_J7_fill_53178 rfl rfl rfl rfl (by decide +kernel) rfl ⟨Nat.le_of_ble_eq_true rfl, Nat.le_of_ble_eq_true rfl⟩ hP hD (lit := [(h, .inr (1, [.ref q_1, .ref q_2, .ref q_3, .int (nI 2), .int (nI 1), .int (nI 0), .int (nI 0), .int (nI 0)])), (q_2, .inl (G.2.1, 256, .inl (gn (fun _ => 0)))), (q_3, .inl (G.2.1, 8, .inl (gn (fun _ => 0)))), (q_1, .inl (G.2.1, 256, .inl (gn (fun _ => 0))))]) (wt := []) (wc := [(q_2, .inl (G.2.1, 256, .inl (gn (fun _ => 0))))]) (isC := [1]) rfl (by decide) rfl hl.1 (Nat.le_of_ble_eq_true rfl) dX1_init_68 ⟨Nat.le_of_ble_eq_true rfl, Nat.le_of_ble_eq_true rfl⟩) hP hD hS (lit := [(h, .inr (1, [.ref q_1, .ref q_2, .ref q_3, .int (nI 2), .int (nI 1), .int (nI 0), .int (nI 0), .int (nI 0)])), (q_2, .inl (G.2.1, 256, .inl (gn (fun _ => 0)))), (q_3, .inl (G.2.1, 8, .inl (gn (fun _ => 0)))), (q_1, .inl (G.2.1, 256, .inl (gn (fun _ => 0))))]) (wt := []) (wc := [(q_2, .inl (G.2.1, 256, .inl (gn (fun _ => 0))))]) (wr := [(h, .inr (1, [.ref q_1, .ref q_2, .ref q_3, .int (nI 2), .int (nI 1), .int (nI 0), .int (nI 0), .int (nI 0)])), (q_3, .inl (G.2.1, 8, .inl (gn (fun _ => 0)))), (q_1, .inl (G.2.1, 256, .inl (gn (fun _ => 0))))]) (isC := [1]) (isR := [0, 2, 3]) rfl rfl (by decide) (by decide) (fun u H locs hp68 hP hD hS => ?_)
  have hP : va_P G.1 vwCl [(h, .inr (1, [.ref q_1, .ref q_2, .ref q_3, .int (nI 2), .int (nI 1), .int (nI 0), .int (nI 0), .int (nI 0)])), (q_3, .inl (G.2.1, 8, .inl (gn (fun _ => 0)))), (q_1, .inl (G.2.1, 256, .inl (gn (fun _ => 0)))), (q_2, .inl (G.2.1, 256, .inl (gn (fun _ => 5))))] H := hP
  have hD : va_D A [(h, .inr (1, [.ref q_1, .ref q_2, .ref q_3, .int (nI 2), .int (nI 1), .int (nI 0), .int (nI 0), .int (nI 0)])), (q_3, .inl (G.2.1, 8, .inl (gn (fun _ => 0)))), (q_1, .inl (G.2.1, 256, .inl (gn (fun _ => 0)))), (q_2, .inl (G.2.1, 256, .inl (gn (fun _ => 5))))] := hD
  refine lv_aload_n hx hb dX1_init_71 rfl (lv_at hl 0 rfl) ?_
  refine va_get (D := G.1) (ci := 1) (v := .ref q_3) (C := RX1) (T := TX1) (N := 8) hx hb hts hi1 hown hK hP 0 rfl rfl 2 (by decide) (hts (.fieldLink RX1 18 "LandQuarters$Land" "coins" "[I") (by decide +kernel)) (fun _ h9 => h9) rfl dX1_init_72 ?_
  refine lv_bipush (v := nI 100) hx hb dX1_init_75 (by decide) ?_
  refine gCv F (gRunS (own := RX1) (bytes := cJ7_fill_53178) (n := 2) (As := [.ref q_3, .int (nI 100)]) (rest := []) F (c_fill_N l G q_3 8 (fun _ => 0) 100 (by first | assumption | omega) H.size) gX1_init_J7_fill_53178 rfl rfl rfl rfl (by decide +kernel) rfl ⟨Nat.le_of_ble_eq_true rfl, Nat.le_of_ble_eq_true rfl⟩ hP hD (lit := [(h, .inr (1, [.ref q_1, .ref q_2, .ref q_3, .int (nI 2), .int (nI 1), .int (nI 0), .int (nI 0), .int (nI 0)])), (q_3, .inl (G.2.1, 8, .inl (gn (fun _ => 0)))), (q_1, .inl (G.2.1, 256, .inl (gn (fun _ => 0)))), (q_2, .inl (G.2.1, 256, .inl (gn (fun _ => 5))))]) (wt := []) (wc := [(q_3, .inl (G.2.1, 8, .inl (gn (fun _ => 0))))]) (isC := [1]) rfl (by decide) rfl hl.1 (Nat.le_of_ble_eq_true rfl) dX1_init_77 ⟨Nat.le_of_ble_eq_true rfl, Nat.le_of_ble_eq_true rfl⟩) hP hD hS (lit := [(h, .inr (1, [.ref q_1, .ref q_2, .ref q_3, .int (nI 2), .int (nI 1), .int (nI 0), .int (nI 0), .int (nI 0)])), (q_3, .inl (G.2.1, 8, .inl (gn (fun _ => 0)))), (q_1, .inl (G.2.1, 256, .inl (gn (fun _ => 0)))), (q_2, .inl (G.2.1, 256, .inl (gn (fun _ => 5))))]) (wt := []) (wc := [(q_3, .inl (G.2.1, 8, .inl (gn (fun _ => 0))))]) (wr := [(h, .inr (1, [.ref q_1, .ref q_2, .ref q_3, .int (nI 2), .int (nI 1), .int (nI 0), .int (nI 0), .int (nI 0)])), (q_1, .inl (G.2.1, 256, .inl (gn (fun _ => 0)))), (q_2, .inl (G.2.1, 256, .inl (gn (fun _ => 5))))]) (isC := [1]) (isR := [0, 2, 3]) rfl rfl (by decide) (by decide) (fun u H locs hp77 hP hD hS => ?_)
  have hP : va_P G.1 vwCl [(h, .inr (1, [.ref q_1, .ref q_2, .ref q_3, .int (nI 2), .int (nI 1), .int (nI 0), .int (nI 0), .int (nI 0)])), (q_1, .inl (G.2.1, 256, .inl (gn (fun _ => 0)))), (q_2, .inl (G.2.1, 256, .inl (gn (fun _ => 5)))), (q_3, .inl (G.2.1, 8, .inl (gn (fun _ => 100))))] H := hP
  have hD : va_D A [(h, .inr (1, [.ref q_1, .ref q_2, .ref q_3, .int (nI 2), .int (nI 1), .int (nI 0), .int (nI 0), .int (nI 0)])), (q_1, .inl (G.2.1, 256, .inl (gn (fun _ => 0)))), (q_2, .inl (G.2.1, 256, .inl (gn (fun _ => 5)))), (q_3, .inl (G.2.1, 8, .inl (gn (fun _ => 100))))] := hD
  refine lv_aload_n hx hb dX1_init_80 rfl (lv_at hl 0 rfl) ?_
  refine va_get (D := G.1) (ci := 1) (v := .ref q_3) (C := RX1) (T := TX1) (N := 8) hx hb hts hi1 hown hK hP 0 rfl rfl 2 (by decide) (hts (.fieldLink RX1 18 "LandQuarters$Land" "coins" "[I") (by decide +kernel)) (fun _ h9 => h9) rfl dX1_init_81 ?_
  refine lv_iconst (v := nI 0) hx hb dX1_init_84 (by decide) ?_
  refine lv_iconst (v := nI 0) hx hb dX1_init_85 (by decide) ?_
  refine gNast (k := 0) (v := 0) hx hb hK hP hD hS 3 0 rfl rfl (by omega) (by first | decide | omega) dX1_init_86 (fun H locs hP hD hS => ?_)
  have hP : va_P G.1 vwCl [(h, .inr (1, [.ref q_1, .ref q_2, .ref q_3, .int (nI 2), .int (nI 1), .int (nI 0), .int (nI 0), .int (nI 0)])), (q_1, .inl (G.2.1, 256, .inl (gn (fun _ => 0)))), (q_2, .inl (G.2.1, 256, .inl (gn (fun _ => 5)))), (q_3, .inl (G.2.1, 8, .inl (gn (va_up (fun _ => 100) 0 0))))] H := hP
  have hD : va_D A [(h, .inr (1, [.ref q_1, .ref q_2, .ref q_3, .int (nI 2), .int (nI 1), .int (nI 0), .int (nI 0), .int (nI 0)])), (q_1, .inl (G.2.1, 256, .inl (gn (fun _ => 0)))), (q_2, .inl (G.2.1, 256, .inl (gn (fun _ => 5)))), (q_3, .inl (G.2.1, 8, .inl (gn (va_up (fun _ => 100) 0 0))))] := hD
  have hP := gEqN (q0 := 3) (f := va_up (fun _ => 100) 0 0) (g := fun k => if k = 0 then 0 else 100) rfl (by intro j hj; (try simp only [gu_if, ]); all_goals ((repeat' split) <;> first | rfl | omega)) hP
  have hD := va_D.set (p := 3) (e := .inl (G.2.1, 8, .inl (gn (fun k => if k = 0 then 0 else 100)))) hD rfl
  have hP : va_P G.1 vwCl [(h, .inr (1, [.ref q_1, .ref q_2, .ref q_3, .int (nI 2), .int (nI 1), .int (nI 0), .int (nI 0), .int (nI 0)])), (q_1, .inl (G.2.1, 256, .inl (gn (fun _ => 0)))), (q_2, .inl (G.2.1, 256, .inl (gn (fun _ => 5)))), (q_3, .inl (G.2.1, 8, .inl (gn (fun k => if k = 0 then 0 else 100))))] H := hP
  have hD : va_D A [(h, .inr (1, [.ref q_1, .ref q_2, .ref q_3, .int (nI 2), .int (nI 1), .int (nI 0), .int (nI 0), .int (nI 0)])), (q_1, .inl (G.2.1, 256, .inl (gn (fun _ => 0)))), (q_2, .inl (G.2.1, 256, .inl (gn (fun _ => 5)))), (q_3, .inl (G.2.1, 8, .inl (gn (fun k => if k = 0 then 0 else 100))))] := hD
  exact gRv F dX1_init_87 (q_1, q_2, q_3) (trivial) hP hD hS (Nat.le_refl _) (Nat.le_refl _)

set_option maxHeartbeats 4000000 in
set_option maxRecDepth 100000 in
theorem c_X1_become (l : Launch) (G : gG) (h : Nat) (a1 : Nat) (a2 : Nat) (a3 : Nat) (ow : Nat → Nat) (he : Nat → Nat) (co : Nat → Nat) (pr : Nat) (tx : Nat) (sa : Nat) (fl : Nat) (lo : Nat) (g : Nat) (b1 : Nat) (b2 : Nat) (b3 : Nat) (ow2 : Nat → Nat) (he2 : Nat → Nat) (co2 : Nat → Nat) (pr2 : Nat) (tx2 : Nat) (sa2 : Nat) (fl2 : Nat) (lo2 : Nat) : gMv (S := Unit) l yX1_become wsX1_become { frames := 1, cells := 0, slots := 0, locals := 40 } G [.ref h, .ref g] [(h, .inr (1, [.ref a1, .ref a2, .ref a3, .int (nI pr), .int (nI tx), .int (nI sa), .int (nI fl), .int (nI lo)])), (a1, .inl (G.2.1, 256, .inl (gn ow))), (a2, .inl (G.2.1, 256, .inl (gn he))), (a3, .inl (G.2.1, 8, .inl (gn co))), (g, .inr (1, [.ref b1, .ref b2, .ref b3, .int (nI pr2), .int (nI tx2), .int (nI sa2), .int (nI fl2), .int (nI lo2)])), (b1, .inl (G.2.1, 256, .inl (gn ow2))), (b2, .inl (G.2.1, 256, .inl (gn he2))), (b3, .inl (G.2.1, 8, .inl (gn co2)))] (fun (u : Unit) => True) (fun u => [(h, .inr (1, [.ref a1, .ref a2, .ref a3, .int (nI pr2), .int (nI tx2), .int (nI sa2), .int (nI fl2), .int (nI lo2)])), (a1, .inl (G.2.1, 256, .inl (gn ow2))), (a2, .inl (G.2.1, 256, .inl (gn he2))), (a3, .inl (G.2.1, 8, .inl (gn co2))), (g, .inr (1, [.ref b1, .ref b2, .ref b3, .int (nI pr2), .int (nI tx2), .int (nI sa2), .int (nI fl2), .int (nI lo2)])), (b1, .inl (G.2.1, 256, .inl (gn ow2))), (b2, .inl (G.2.1, 256, .inl (gn he2))), (b3, .inl (G.2.1, 8, .inl (gn co2)))]) 0 0 := by
  refine gMet_mk (cc := cX1_become) (nL := 2) (ret := none) (Qc := fun A => va_Qv (S := Unit) (fun (u : Unit) => True) (gB G A (fun u => [(h, .inr (1, [.ref a1, .ref a2, .ref a3, .int (nI pr2), .int (nI tx2), .int (nI sa2), .int (nI fl2), .int (nI lo2)])), (a1, .inl (G.2.1, 256, .inl (gn ow2))), (a2, .inl (G.2.1, 256, .inl (gn he2))), (a3, .inl (G.2.1, 8, .inl (gn co2))), (g, .inr (1, [.ref b1, .ref b2, .ref b3, .int (nI pr2), .int (nI tx2), .int (nI sa2), .int (nI fl2), .int (nI lo2)])), (b1, .inl (G.2.1, 256, .inl (gn ow2))), (b2, .inl (G.2.1, 256, .inl (gn he2))), (b3, .inl (G.2.1, 8, .inl (gn co2)))])) A) (by decide) rfl (Nat.le_of_ble_eq_true rfl) ?_
  intro p e s m args below meth c A F ls hl hP hD hS
  have hx := F.1
  have hb := F.2.1
  have hts := F.2.2.2.2.2.2.1
  have hown : s.vm.findClass RX1 = some m.cls := F.2.2.2.2.2.1
  have hKK := F.2.2.2.2.2.2.2.2.1
  have hK := hKK.1
  have hin0 := F.2.2.2.2.2.2.2.1
  have hi1 : ∀ w ∈ u_ws RX1 TX1 8, w ∈ wsX1_become := by decide +kernel
  have hl : lv_has ls 2 [(0, .ref h), (1, .ref g)] := hl
  generalize hH : s.heap = H at hP ⊢
  have hS : va_S A s.heap H [] := by rw [← hH]; exact va_S.rf
  generalize hLo : ([] : List Loc) = locs at hS ⊢
  refine lv_aload_n hx hb dX1_become_0 rfl (lv_at hl 1 rfl) ?_
  refine lv_ifnonnull (tgt := 5) hx hb dX1_become_1 (by decide) ?_
  refine lv_aload_n hx hb dX1_become_5 rfl (lv_at hl 1 rfl) ?_
  refine va_get (D := G.1) (ci := 1) (v := .ref b1) (C := RX1) (T := TX1) (N := 8) hx hb hts hi1 hown hK hP 4 rfl rfl 0 (by decide) (hts (.fieldLink RX1 9 "LandQuarters$Land" "owners" "[I") (by decide +kernel)) (fun _ h9 => h9) rfl dX1_become_6 ?_
  refine lv_iconst (v := nI 0) hx hb dX1_become_9 (by decide) ?_
  refine lv_aload_n hx hb dX1_become_10 rfl (lv_at hl 0 rfl) ?_
  refine va_get (D := G.1) (ci := 1) (v := .ref a1) (C := RX1) (T := TX1) (N := 8) hx hb hts hi1 hown hK hP 0 rfl rfl 0 (by decide) (hts (.fieldLink RX1 9 "LandQuarters$Land" "owners" "[I") (by decide +kernel)) (fun _ h9 => h9) rfl dX1_become_11 ?_
  refine lv_iconst (v := nI 0) hx hb dX1_become_14 (by decide) ?_
  refine lv_sipush (v := nI 256) hx hb dX1_become_15 (by decide) ?_
  refine gCopyN (own := RX1) F rfl (by decide +kernel) (by decide +kernel) (by decide +kernel) (by decide +kernel) hP hD hS 5 1 rfl rfl (by decide) hl.1 (Nat.le_of_ble_eq_true rfl) (Nat.le_of_ble_eq_true rfl) dX1_become_18 (fun H locs hP hD hS => ?_)
  have hP : va_P G.1 vwCl [(h, .inr (1, [.ref a1, .ref a2, .ref a3, .int (nI pr), .int (nI tx), .int (nI sa), .int (nI fl), .int (nI lo)])), (a1, .inl (G.2.1, 256, .inl (gn ow2))), (a2, .inl (G.2.1, 256, .inl (gn he))), (a3, .inl (G.2.1, 8, .inl (gn co))), (g, .inr (1, [.ref b1, .ref b2, .ref b3, .int (nI pr2), .int (nI tx2), .int (nI sa2), .int (nI fl2), .int (nI lo2)])), (b1, .inl (G.2.1, 256, .inl (gn ow2))), (b2, .inl (G.2.1, 256, .inl (gn he2))), (b3, .inl (G.2.1, 8, .inl (gn co2)))] H := hP
  have hD : va_D A [(h, .inr (1, [.ref a1, .ref a2, .ref a3, .int (nI pr), .int (nI tx), .int (nI sa), .int (nI fl), .int (nI lo)])), (a1, .inl (G.2.1, 256, .inl (gn ow2))), (a2, .inl (G.2.1, 256, .inl (gn he))), (a3, .inl (G.2.1, 8, .inl (gn co))), (g, .inr (1, [.ref b1, .ref b2, .ref b3, .int (nI pr2), .int (nI tx2), .int (nI sa2), .int (nI fl2), .int (nI lo2)])), (b1, .inl (G.2.1, 256, .inl (gn ow2))), (b2, .inl (G.2.1, 256, .inl (gn he2))), (b3, .inl (G.2.1, 8, .inl (gn co2)))] := hD
  refine lv_aload_n hx hb dX1_become_21 rfl (lv_at hl 1 rfl) ?_
  refine va_get (D := G.1) (ci := 1) (v := .ref b2) (C := RX1) (T := TX1) (N := 8) hx hb hts hi1 hown hK hP 4 rfl rfl 1 (by decide) (hts (.fieldLink RX1 15 "LandQuarters$Land" "heights" "[I") (by decide +kernel)) (fun _ h9 => h9) rfl dX1_become_22 ?_
  refine lv_iconst (v := nI 0) hx hb dX1_become_25 (by decide) ?_
  refine lv_aload_n hx hb dX1_become_26 rfl (lv_at hl 0 rfl) ?_
  refine va_get (D := G.1) (ci := 1) (v := .ref a2) (C := RX1) (T := TX1) (N := 8) hx hb hts hi1 hown hK hP 0 rfl rfl 1 (by decide) (hts (.fieldLink RX1 15 "LandQuarters$Land" "heights" "[I") (by decide +kernel)) (fun _ h9 => h9) rfl dX1_become_27 ?_
  refine lv_iconst (v := nI 0) hx hb dX1_become_30 (by decide) ?_
  refine lv_sipush (v := nI 256) hx hb dX1_become_31 (by decide) ?_
  refine gCopyN (own := RX1) F rfl (by decide +kernel) (by decide +kernel) (by decide +kernel) (by decide +kernel) hP hD hS 6 2 rfl rfl (by decide) hl.1 (Nat.le_of_ble_eq_true rfl) (Nat.le_of_ble_eq_true rfl) dX1_become_34 (fun H locs hP hD hS => ?_)
  have hP : va_P G.1 vwCl [(h, .inr (1, [.ref a1, .ref a2, .ref a3, .int (nI pr), .int (nI tx), .int (nI sa), .int (nI fl), .int (nI lo)])), (a1, .inl (G.2.1, 256, .inl (gn ow2))), (a2, .inl (G.2.1, 256, .inl (gn he2))), (a3, .inl (G.2.1, 8, .inl (gn co))), (g, .inr (1, [.ref b1, .ref b2, .ref b3, .int (nI pr2), .int (nI tx2), .int (nI sa2), .int (nI fl2), .int (nI lo2)])), (b1, .inl (G.2.1, 256, .inl (gn ow2))), (b2, .inl (G.2.1, 256, .inl (gn he2))), (b3, .inl (G.2.1, 8, .inl (gn co2)))] H := hP
  have hD : va_D A [(h, .inr (1, [.ref a1, .ref a2, .ref a3, .int (nI pr), .int (nI tx), .int (nI sa), .int (nI fl), .int (nI lo)])), (a1, .inl (G.2.1, 256, .inl (gn ow2))), (a2, .inl (G.2.1, 256, .inl (gn he2))), (a3, .inl (G.2.1, 8, .inl (gn co))), (g, .inr (1, [.ref b1, .ref b2, .ref b3, .int (nI pr2), .int (nI tx2), .int (nI sa2), .int (nI fl2), .int (nI lo2)])), (b1, .inl (G.2.1, 256, .inl (gn ow2))), (b2, .inl (G.2.1, 256, .inl (gn he2))), (b3, .inl (G.2.1, 8, .inl (gn co2)))] := hD
  refine lv_aload_n hx hb dX1_become_37 rfl (lv_at hl 1 rfl) ?_
  refine va_get (D := G.1) (ci := 1) (v := .ref b3) (C := RX1) (T := TX1) (N := 8) hx hb hts hi1 hown hK hP 4 rfl rfl 2 (by decide) (hts (.fieldLink RX1 18 "LandQuarters$Land" "coins" "[I") (by decide +kernel)) (fun _ h9 => h9) rfl dX1_become_38 ?_
  refine lv_iconst (v := nI 0) hx hb dX1_become_41 (by decide) ?_
  refine lv_aload_n hx hb dX1_become_42 rfl (lv_at hl 0 rfl) ?_
  refine va_get (D := G.1) (ci := 1) (v := .ref a3) (C := RX1) (T := TX1) (N := 8) hx hb hts hi1 hown hK hP 0 rfl rfl 2 (by decide) (hts (.fieldLink RX1 18 "LandQuarters$Land" "coins" "[I") (by decide +kernel)) (fun _ h9 => h9) rfl dX1_become_43 ?_
  refine lv_iconst (v := nI 0) hx hb dX1_become_46 (by decide) ?_
  refine lv_bipush (v := nI 8) hx hb dX1_become_47 (by decide) ?_
  refine gCopyN (own := RX1) F rfl (by decide +kernel) (by decide +kernel) (by decide +kernel) (by decide +kernel) hP hD hS 7 3 rfl rfl (by decide) hl.1 (Nat.le_of_ble_eq_true rfl) (Nat.le_of_ble_eq_true rfl) dX1_become_49 (fun H locs hP hD hS => ?_)
  have hP : va_P G.1 vwCl [(h, .inr (1, [.ref a1, .ref a2, .ref a3, .int (nI pr), .int (nI tx), .int (nI sa), .int (nI fl), .int (nI lo)])), (a1, .inl (G.2.1, 256, .inl (gn ow2))), (a2, .inl (G.2.1, 256, .inl (gn he2))), (a3, .inl (G.2.1, 8, .inl (gn co2))), (g, .inr (1, [.ref b1, .ref b2, .ref b3, .int (nI pr2), .int (nI tx2), .int (nI sa2), .int (nI fl2), .int (nI lo2)])), (b1, .inl (G.2.1, 256, .inl (gn ow2))), (b2, .inl (G.2.1, 256, .inl (gn he2))), (b3, .inl (G.2.1, 8, .inl (gn co2)))] H := hP
  have hD : va_D A [(h, .inr (1, [.ref a1, .ref a2, .ref a3, .int (nI pr), .int (nI tx), .int (nI sa), .int (nI fl), .int (nI lo)])), (a1, .inl (G.2.1, 256, .inl (gn ow2))), (a2, .inl (G.2.1, 256, .inl (gn he2))), (a3, .inl (G.2.1, 8, .inl (gn co2))), (g, .inr (1, [.ref b1, .ref b2, .ref b3, .int (nI pr2), .int (nI tx2), .int (nI sa2), .int (nI fl2), .int (nI lo2)])), (b1, .inl (G.2.1, 256, .inl (gn ow2))), (b2, .inl (G.2.1, 256, .inl (gn he2))), (b3, .inl (G.2.1, 8, .inl (gn co2)))] := hD
  refine lv_aload_n hx hb dX1_become_52 rfl (lv_at hl 0 rfl) ?_
  refine lv_aload_n hx hb dX1_become_53 rfl (lv_at hl 1 rfl) ?_
  refine va_get (D := G.1) (ci := 1) (v := .int (nI pr2)) (C := RX1) (T := TX1) (N := 8) hx hb hts hi1 hown hK hP 4 rfl rfl 3 (by decide) (hts (.fieldLink RX1 21 "LandQuarters$Land" "cellPrice" "I") (by decide +kernel)) (fun _ h9 => h9) rfl dX1_become_54 ?_
  refine va_put (D := G.1) (ci := 1) (v := .int (nI pr2)) (ty := .int) (C := RX1) (T := TX1) (N := 8) hx hb hts hi1 tyX1 tyX1_ok nmX1 hown hK hP hD hS 0 rfl rfl 3 (by decide) (hts (.fieldLink RX1 21 "LandQuarters$Land" "cellPrice" "I") (by decide +kernel)) (fun _ h9 => h9) rfl (by decide +kernel) (rfl) (rfl) (Nat.le_of_ble_eq_true rfl) dX1_become_57 (fun H locs hP hD hS => ?_)
  have hP : va_P G.1 vwCl [(h, .inr (1, [.ref a1, .ref a2, .ref a3, .int (nI pr2), .int (nI tx), .int (nI sa), .int (nI fl), .int (nI lo)])), (a1, .inl (G.2.1, 256, .inl (gn ow2))), (a2, .inl (G.2.1, 256, .inl (gn he2))), (a3, .inl (G.2.1, 8, .inl (gn co2))), (g, .inr (1, [.ref b1, .ref b2, .ref b3, .int (nI pr2), .int (nI tx2), .int (nI sa2), .int (nI fl2), .int (nI lo2)])), (b1, .inl (G.2.1, 256, .inl (gn ow2))), (b2, .inl (G.2.1, 256, .inl (gn he2))), (b3, .inl (G.2.1, 8, .inl (gn co2)))] H := hP
  have hD : va_D A [(h, .inr (1, [.ref a1, .ref a2, .ref a3, .int (nI pr2), .int (nI tx), .int (nI sa), .int (nI fl), .int (nI lo)])), (a1, .inl (G.2.1, 256, .inl (gn ow2))), (a2, .inl (G.2.1, 256, .inl (gn he2))), (a3, .inl (G.2.1, 8, .inl (gn co2))), (g, .inr (1, [.ref b1, .ref b2, .ref b3, .int (nI pr2), .int (nI tx2), .int (nI sa2), .int (nI fl2), .int (nI lo2)])), (b1, .inl (G.2.1, 256, .inl (gn ow2))), (b2, .inl (G.2.1, 256, .inl (gn he2))), (b3, .inl (G.2.1, 8, .inl (gn co2)))] := hD
  refine lv_aload_n hx hb dX1_become_60 rfl (lv_at hl 0 rfl) ?_
  refine lv_aload_n hx hb dX1_become_61 rfl (lv_at hl 1 rfl) ?_
  refine va_get (D := G.1) (ci := 1) (v := .int (nI tx2)) (C := RX1) (T := TX1) (N := 8) hx hb hts hi1 hown hK hP 4 rfl rfl 4 (by decide) (hts (.fieldLink RX1 25 "LandQuarters$Land" "plotTax" "I") (by decide +kernel)) (fun _ h9 => h9) rfl dX1_become_62 ?_
  refine va_put (D := G.1) (ci := 1) (v := .int (nI tx2)) (ty := .int) (C := RX1) (T := TX1) (N := 8) hx hb hts hi1 tyX1 tyX1_ok nmX1 hown hK hP hD hS 0 rfl rfl 4 (by decide) (hts (.fieldLink RX1 25 "LandQuarters$Land" "plotTax" "I") (by decide +kernel)) (fun _ h9 => h9) rfl (by decide +kernel) (rfl) (rfl) (Nat.le_of_ble_eq_true rfl) dX1_become_65 (fun H locs hP hD hS => ?_)
  have hP : va_P G.1 vwCl [(h, .inr (1, [.ref a1, .ref a2, .ref a3, .int (nI pr2), .int (nI tx2), .int (nI sa), .int (nI fl), .int (nI lo)])), (a1, .inl (G.2.1, 256, .inl (gn ow2))), (a2, .inl (G.2.1, 256, .inl (gn he2))), (a3, .inl (G.2.1, 8, .inl (gn co2))), (g, .inr (1, [.ref b1, .ref b2, .ref b3, .int (nI pr2), .int (nI tx2), .int (nI sa2), .int (nI fl2), .int (nI lo2)])), (b1, .inl (G.2.1, 256, .inl (gn ow2))), (b2, .inl (G.2.1, 256, .inl (gn he2))), (b3, .inl (G.2.1, 8, .inl (gn co2)))] H := hP
  have hD : va_D A [(h, .inr (1, [.ref a1, .ref a2, .ref a3, .int (nI pr2), .int (nI tx2), .int (nI sa), .int (nI fl), .int (nI lo)])), (a1, .inl (G.2.1, 256, .inl (gn ow2))), (a2, .inl (G.2.1, 256, .inl (gn he2))), (a3, .inl (G.2.1, 8, .inl (gn co2))), (g, .inr (1, [.ref b1, .ref b2, .ref b3, .int (nI pr2), .int (nI tx2), .int (nI sa2), .int (nI fl2), .int (nI lo2)])), (b1, .inl (G.2.1, 256, .inl (gn ow2))), (b2, .inl (G.2.1, 256, .inl (gn he2))), (b3, .inl (G.2.1, 8, .inl (gn co2)))] := hD
  refine lv_aload_n hx hb dX1_become_68 rfl (lv_at hl 0 rfl) ?_
  refine lv_aload_n hx hb dX1_become_69 rfl (lv_at hl 1 rfl) ?_
  refine va_get (D := G.1) (ci := 1) (v := .int (nI sa2)) (C := RX1) (T := TX1) (N := 8) hx hb hts hi1 hown hK hP 4 rfl rfl 5 (by decide) (hts (.fieldLink RX1 28 "LandQuarters$Land" "salesSoFar" "I") (by decide +kernel)) (fun _ h9 => h9) rfl dX1_become_70 ?_
  refine va_put (D := G.1) (ci := 1) (v := .int (nI sa2)) (ty := .int) (C := RX1) (T := TX1) (N := 8) hx hb hts hi1 tyX1 tyX1_ok nmX1 hown hK hP hD hS 0 rfl rfl 5 (by decide) (hts (.fieldLink RX1 28 "LandQuarters$Land" "salesSoFar" "I") (by decide +kernel)) (fun _ h9 => h9) rfl (by decide +kernel) (rfl) (rfl) (Nat.le_of_ble_eq_true rfl) dX1_become_73 (fun H locs hP hD hS => ?_)
  have hP : va_P G.1 vwCl [(h, .inr (1, [.ref a1, .ref a2, .ref a3, .int (nI pr2), .int (nI tx2), .int (nI sa2), .int (nI fl), .int (nI lo)])), (a1, .inl (G.2.1, 256, .inl (gn ow2))), (a2, .inl (G.2.1, 256, .inl (gn he2))), (a3, .inl (G.2.1, 8, .inl (gn co2))), (g, .inr (1, [.ref b1, .ref b2, .ref b3, .int (nI pr2), .int (nI tx2), .int (nI sa2), .int (nI fl2), .int (nI lo2)])), (b1, .inl (G.2.1, 256, .inl (gn ow2))), (b2, .inl (G.2.1, 256, .inl (gn he2))), (b3, .inl (G.2.1, 8, .inl (gn co2)))] H := hP
  have hD : va_D A [(h, .inr (1, [.ref a1, .ref a2, .ref a3, .int (nI pr2), .int (nI tx2), .int (nI sa2), .int (nI fl), .int (nI lo)])), (a1, .inl (G.2.1, 256, .inl (gn ow2))), (a2, .inl (G.2.1, 256, .inl (gn he2))), (a3, .inl (G.2.1, 8, .inl (gn co2))), (g, .inr (1, [.ref b1, .ref b2, .ref b3, .int (nI pr2), .int (nI tx2), .int (nI sa2), .int (nI fl2), .int (nI lo2)])), (b1, .inl (G.2.1, 256, .inl (gn ow2))), (b2, .inl (G.2.1, 256, .inl (gn he2))), (b3, .inl (G.2.1, 8, .inl (gn co2)))] := hD
  refine lv_aload_n hx hb dX1_become_76 rfl (lv_at hl 0 rfl) ?_
  refine lv_aload_n hx hb dX1_become_77 rfl (lv_at hl 1 rfl) ?_
  refine va_get (D := G.1) (ci := 1) (v := .int (nI fl2)) (C := RX1) (T := TX1) (N := 8) hx hb hts hi1 hown hK hP 4 rfl rfl 6 (by decide) (hts (.fieldLink RX1 31 "LandQuarters$Land" "floodsSoFar" "I") (by decide +kernel)) (fun _ h9 => h9) rfl dX1_become_78 ?_
  refine va_put (D := G.1) (ci := 1) (v := .int (nI fl2)) (ty := .int) (C := RX1) (T := TX1) (N := 8) hx hb hts hi1 tyX1 tyX1_ok nmX1 hown hK hP hD hS 0 rfl rfl 6 (by decide) (hts (.fieldLink RX1 31 "LandQuarters$Land" "floodsSoFar" "I") (by decide +kernel)) (fun _ h9 => h9) rfl (by decide +kernel) (rfl) (rfl) (Nat.le_of_ble_eq_true rfl) dX1_become_81 (fun H locs hP hD hS => ?_)
  have hP : va_P G.1 vwCl [(h, .inr (1, [.ref a1, .ref a2, .ref a3, .int (nI pr2), .int (nI tx2), .int (nI sa2), .int (nI fl2), .int (nI lo)])), (a1, .inl (G.2.1, 256, .inl (gn ow2))), (a2, .inl (G.2.1, 256, .inl (gn he2))), (a3, .inl (G.2.1, 8, .inl (gn co2))), (g, .inr (1, [.ref b1, .ref b2, .ref b3, .int (nI pr2), .int (nI tx2), .int (nI sa2), .int (nI fl2), .int (nI lo2)])), (b1, .inl (G.2.1, 256, .inl (gn ow2))), (b2, .inl (G.2.1, 256, .inl (gn he2))), (b3, .inl (G.2.1, 8, .inl (gn co2)))] H := hP
  have hD : va_D A [(h, .inr (1, [.ref a1, .ref a2, .ref a3, .int (nI pr2), .int (nI tx2), .int (nI sa2), .int (nI fl2), .int (nI lo)])), (a1, .inl (G.2.1, 256, .inl (gn ow2))), (a2, .inl (G.2.1, 256, .inl (gn he2))), (a3, .inl (G.2.1, 8, .inl (gn co2))), (g, .inr (1, [.ref b1, .ref b2, .ref b3, .int (nI pr2), .int (nI tx2), .int (nI sa2), .int (nI fl2), .int (nI lo2)])), (b1, .inl (G.2.1, 256, .inl (gn ow2))), (b2, .inl (G.2.1, 256, .inl (gn he2))), (b3, .inl (G.2.1, 8, .inl (gn co2)))] := hD
  refine lv_aload_n hx hb dX1_become_84 rfl (lv_at hl 0 rfl) ?_
  refine lv_aload_n hx hb dX1_become_85 rfl (lv_at hl 1 rfl) ?_
  refine va_get (D := G.1) (ci := 1) (v := .int (nI lo2)) (C := RX1) (T := TX1) (N := 8) hx hb hts hi1 hown hK hP 4 rfl rfl 7 (by decide) (hts (.fieldLink RX1 34 "LandQuarters$Land" "lostSoFar" "I") (by decide +kernel)) (fun _ h9 => h9) rfl dX1_become_86 ?_
  refine va_put (D := G.1) (ci := 1) (v := .int (nI lo2)) (ty := .int) (C := RX1) (T := TX1) (N := 8) hx hb hts hi1 tyX1 tyX1_ok nmX1 hown hK hP hD hS 0 rfl rfl 7 (by decide) (hts (.fieldLink RX1 34 "LandQuarters$Land" "lostSoFar" "I") (by decide +kernel)) (fun _ h9 => h9) rfl (by decide +kernel) (rfl) (rfl) (Nat.le_of_ble_eq_true rfl) dX1_become_89 (fun H locs hP hD hS => ?_)
  have hP : va_P G.1 vwCl [(h, .inr (1, [.ref a1, .ref a2, .ref a3, .int (nI pr2), .int (nI tx2), .int (nI sa2), .int (nI fl2), .int (nI lo2)])), (a1, .inl (G.2.1, 256, .inl (gn ow2))), (a2, .inl (G.2.1, 256, .inl (gn he2))), (a3, .inl (G.2.1, 8, .inl (gn co2))), (g, .inr (1, [.ref b1, .ref b2, .ref b3, .int (nI pr2), .int (nI tx2), .int (nI sa2), .int (nI fl2), .int (nI lo2)])), (b1, .inl (G.2.1, 256, .inl (gn ow2))), (b2, .inl (G.2.1, 256, .inl (gn he2))), (b3, .inl (G.2.1, 8, .inl (gn co2)))] H := hP
  have hD : va_D A [(h, .inr (1, [.ref a1, .ref a2, .ref a3, .int (nI pr2), .int (nI tx2), .int (nI sa2), .int (nI fl2), .int (nI lo2)])), (a1, .inl (G.2.1, 256, .inl (gn ow2))), (a2, .inl (G.2.1, 256, .inl (gn he2))), (a3, .inl (G.2.1, 8, .inl (gn co2))), (g, .inr (1, [.ref b1, .ref b2, .ref b3, .int (nI pr2), .int (nI tx2), .int (nI sa2), .int (nI fl2), .int (nI lo2)])), (b1, .inl (G.2.1, 256, .inl (gn ow2))), (b2, .inl (G.2.1, 256, .inl (gn he2))), (b3, .inl (G.2.1, 8, .inl (gn co2)))] := hD
  exact gRv F dX1_become_92 () (trivial) hP hD hS (Nat.le_refl _) (Nat.le_refl _)
