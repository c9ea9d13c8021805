set_option maxHeartbeats 4000000 in
set_option maxRecDepth 100000 in
theorem c_X1_lift (l : Launch) (G : gG) (h : Nat) (a1 : Nat) (a2 : Nat) (a3 : Nat) (ow : Nat → Nat) (he : Nat → Nat) (co : Nat → Nat) (pr : Nat) (tx : Nat) (sa : Nat) (fl : Nat) (lo : Nat) (x : Nat) (y : Nat) (z : Nat) (d : Int) (hh : ∀ k, he k < 10) (hq : sqN x y z) (hd : -9 ≤ d ∧ d ≤ 9) : gMi (S := Unit) l yX1_lift wsX1_lift { frames := 1, cells := 0, slots := 0, locals := 24 } G [.ref h, .int (nI x), .int (nI y), .int (nI z), .int (zI d)] [(h, .inr (1, [.ref a1, .ref a2, .ref a3, .int (nI pr), .int (nI tx), .int (nI sa), .int (nI fl), .int (nI lo)])), (a1, .inl (G.2.1, 256, .inl (gn ow))), (a2, .inl (G.2.1, 256, .inl (gn he))), (a3, .inl (G.2.1, 8, .inl (gn co)))] (fun (r : Int32) (u : Unit) => (r = nI (sSq (fun a => lfV d (he a)) (y * 16 + x) z (z * z)))) (fun u => [(h, .inr (1, [.ref a1, .ref a2, .ref a3, .int (nI pr), .int (nI tx), .int (nI sa), .int (nI fl), .int (nI lo)])), (a1, .inl (G.2.1, 256, .inl (gn ow))), (a2, .inl (G.2.1, 256, .inl (gn (lfHe he x y z d)))), (a3, .inl (G.2.1, 8, .inl (gn co)))]) 0 0 := by
  refine gMet_mk (cc := cX1_lift) (nL := 9) (ret := (some .int)) (Qc := fun A => va_Qi (S := Unit) (fun (r : Int32) (u : Unit) => (r = nI (sSq (fun a => lfV d (he a)) (y * 16 + x) z (z * z)))) (gB G A (fun u => [(h, .inr (1, [.ref a1, .ref a2, .ref a3, .int (nI pr), .int (nI tx), .int (nI sa), .int (nI fl), .int (nI lo)])), (a1, .inl (G.2.1, 256, .inl (gn ow))), (a2, .inl (G.2.1, 256, .inl (gn (lfHe he x y z d)))), (a3, .inl (G.2.1, 8, .inl (gn co)))])) A) (by decide) rfl (Nat.le_of_ble_eq_true rfl) ?_
  intro p e s m args below meth c A F ls hl hP hD hS
  have hx := F.1
  have hb := F.2.1
  have hts := F.2.2.2.2.2.2.1
  have hown : s.vm.findClass RX1 = some m.cls := F.2.2.2.2.2.1
  have hKK := F.2.2.2.2.2.2.2.2.1
  have hK := hKK.1
  have hin0 := F.2.2.2.2.2.2.2.1
  have hi1 : ∀ w ∈ u_ws RX1 TX1 8, w ∈ wsX1_lift := by decide +kernel
  have hl : lv_has ls 9 [(0, .ref h), (1, .int (nI x)), (2, .int (nI y)), (3, .int (nI z)), (4, .int (zI d))] := hl
  have hq1 := sq_le hq
  have hq2 := sq_cast hq
  generalize hH : s.heap = H at hP ⊢
  have hS : va_S A s.heap H [] := by rw [← hH]; exact va_S.rf
  generalize hLo : ([] : List Loc) = locs at hS ⊢
  refine lv_iconst (v := nI 0) hx hb dX1_lift_0 (by decide) ?_
  refine lv_istore (lv' := [(5, .int (nI 0)), (0, .ref h), (1, .int (nI x)), (2, .int (nI y)), (3, .int (nI z)), (4, .int (zI d))]) hx hb dX1_lift_1 hl (by decide) rfl (fun ls hl => ?_)
  refine lv_iload_n hx hb dX1_lift_3 rfl (lv_at hl 2 rfl) ?_
  refine lv_iload_n hx hb dX1_lift_4 rfl (lv_at hl 3 rfl) ?_
  refine lv_iload_n hx hb dX1_lift_5 rfl (lv_at hl 4 rfl) ?_
  refine W.eq (g2 := F0 m 6 ls [.int (zI ((z : Nat) : Int)), .int (zI ((y : Nat) : Int)), .int (zI ((x : Nat) : Int))]) (by simp only [zI_nat, zI_neg1]) ?_
  refine gCi F (gRunSN (own := RX1) (host := RX3) (bytes := cX3_isSquare) (n := 3) (As := [.int (zI ((x : Nat) : Int)), .int (zI ((y : Nat) : Int)), .int (zI ((z : Nat) : Int))]) (rest := []) F (c_X3_isSquare l G ((x : Nat) : Int) ((y : Nat) : Int) ((z : Nat) : Int) (by first | assumption | omega) (by first | assumption | omega) (by first | assumption | omega) H.size) gX1_lift_X3_isSquare_n57 (by decide +kernel) (by decide +kernel) (by decide +kernel) rfl rfl rfl rfl (by decide +kernel) rfl ⟨Nat.le_of_ble_eq_true rfl, Nat.le_of_ble_eq_true rfl⟩ hP hD (lit := [(h, .inr (1, [.ref a1, .ref a2, .ref a3, .int (nI pr), .int (nI tx), .int (nI sa), .int (nI fl), .int (nI lo)])), (a1, .inl (G.2.1, 256, .inl (gn ow))), (a2, .inl (G.2.1, 256, .inl (gn he))), (a3, .inl (G.2.1, 8, .inl (gn co)))]) (wt := []) (wc := []) (isC := []) rfl (by decide) rfl hl.1 (Nat.le_of_ble_eq_true rfl) dX1_lift_6 ⟨Nat.le_of_ble_eq_true rfl, Nat.le_of_ble_eq_true rfl⟩) hP hD hS (lit := [(h, .inr (1, [.ref a1, .ref a2, .ref a3, .int (nI pr), .int (nI tx), .int (nI sa), .int (nI fl), .int (nI lo)])), (a1, .inl (G.2.1, 256, .inl (gn ow))), (a2, .inl (G.2.1, 256, .inl (gn he))), (a3, .inl (G.2.1, 8, .inl (gn co)))]) (wt := []) (wc := []) (wr := [(h, .inr (1, [.ref a1, .ref a2, .ref a3, .int (nI pr), .int (nI tx), .int (nI sa), .int (nI fl), .int (nI lo)])), (a1, .inl (G.2.1, 256, .inl (gn ow))), (a2, .inl (G.2.1, 256, .inl (gn he))), (a3, .inl (G.2.1, 8, .inl (gn co)))]) (isC := []) (isR := [0, 1, 2, 3]) rfl rfl (by decide) (by decide) (fun r6 u H locs hp6 hP hD hS => ?_)
  subst hp6
  have hP : va_P G.1 vwCl [(h, .inr (1, [.ref a1, .ref a2, .ref a3, .int (nI pr), .int (nI tx), .int (nI sa), .int (nI fl), .int (nI lo)])), (a1, .inl (G.2.1, 256, .inl (gn ow))), (a2, .inl (G.2.1, 256, .inl (gn he))), (a3, .inl (G.2.1, 8, .inl (gn co)))] H := hP
  have hD : va_D A [(h, .inr (1, [.ref a1, .ref a2, .ref a3, .int (nI pr), .int (nI tx), .int (nI sa), .int (nI fl), .int (nI lo)])), (a1, .inl (G.2.1, 256, .inl (gn ow))), (a2, .inl (G.2.1, 256, .inl (gn he))), (a3, .inl (G.2.1, 8, .inl (gn co)))] := hD
  refine gIfB_ne (P := ((((z : Nat) : Int) = 1 ∨ ((z : Nat) : Int) = 2 ∨ ((z : Nat) : Int) = 4 ∨ ((z : Nat) : Int) = 8 ∨ ((z : Nat) : Int) = 16) ∧ 0 ≤ ((x : Nat) : Int) ∧ ((x : Nat) : Int) < 16 ∧ 0 ≤ ((y : Nat) : Int) ∧ ((y : Nat) : Int) < 16 ∧ ((x : Nat) : Int) % ((z : Nat) : Int) = 0 ∧ ((y : Nat) : Int) % ((z : Nat) : Int) = 0)) (tgt := 15) hx hb dX1_lift_9 (by decide) (fun c9 => ?_) (fun c9 => ?_)
  · skip
    refine lv_iload_n hx hb dX1_lift_15 rfl (lv_at hl 3 rfl) ?_
    refine lv_istore (lv' := [(6, .int (nI y)), (5, .int (nI 0)), (0, .ref h), (1, .int (nI x)), (2, .int (nI y)), (3, .int (nI z)), (4, .int (zI d))]) hx hb dX1_lift_16 hl (by decide) rfl (fun ls hl => ?_)
    have L18 : ∀ (fuel : Nat) (i : Nat), z - i < fuel → (i ≤ z) → ∀ (H : Heap) (locs : List Loc), va_P G.1 vwCl [(h, .inr (1, [.ref a1, .ref a2, .ref a3, .int (nI pr), .int (nI tx), .int (nI sa), .int (nI fl), .int (nI lo)])), (a1, .inl (G.2.1, 256, .inl (gn ow))), (a2, .inl (G.2.1, 256, .inl (gn (fun k => if inSqP x y z i 0 k then lfV d (he k) else he k)))), (a3, .inl (G.2.1, 8, .inl (gn co)))] H → va_D A [(h, .inr (1, [.ref a1, .ref a2, .ref a3, .int (nI pr), .int (nI tx), .int (nI sa), .int (nI fl), .int (nI lo)])), (a1, .inl (G.2.1, 256, .inl (gn ow))), (a2, .inl (G.2.1, 256, .inl (gn (fun k => if inSqP x y z i 0 k then lfV d (he k) else he k)))), (a3, .inl (G.2.1, 8, .inl (gn co)))] → va_S A s.heap H locs → ∀ (ls : Array Slot), lv_has ls 9 [(6, .int (nI (y + i))), (5, .int (nI (sSq (fun a => lfV d (he a)) (y * 16 + x) z (i * z)))), (0, .ref h), (1, .int (nI x)), (2, .int (nI y)), (3, .int (nI z)), (4, .int (zI d))] → W p l e ({ frames := 1, cells := 0, slots := 0, locals := 24 } : Room) s m args below meth c H locs 0 0 (MQ below (va_Qi (S := Unit) (fun (r : Int32) (u : Unit) => (r = nI (sSq (fun a => lfV d (he a)) (y * 16 + x) z (z * z)))) (gB G A (fun u => [(h, .inr (1, [.ref a1, .ref a2, .ref a3, .int (nI pr), .int (nI tx), .int (nI sa), .int (nI fl), .int (nI lo)])), (a1, .inl (G.2.1, 256, .inl (gn ow))), (a2, .inl (G.2.1, 256, .inl (gn (lfHe he x y z d)))), (a3, .inl (G.2.1, 8, .inl (gn co)))])) A) args s 0 0 A) (F0 m 18 ls []) := by
      intro fuel
      induction fuel with
      | zero => intro i hme; exact absurd hme (Nat.not_lt_zero _)
      | succ fuel ih18 =>
        intro i hme hi H locs hP hD hS ls hl
        refine lv_iload hx hb dX1_lift_18 (lv_at hl 0 rfl) ?_
        refine lv_iload_n hx hb dX1_lift_20 rfl (lv_at hl 4 rfl) ?_
        refine lv_iload_n hx hb dX1_lift_21 rfl (lv_at hl 5 rfl) ?_
        refine gIadd (a := y) (b := z) hx hb dX1_lift_22 ?_
        refine gIcmp_ge (a := y + i) (b := y + z) (tgt := 98) hx hb dX1_lift_23 (by decide) (by omega) (by omega) (fun c23 => ?_) (fun c23 => ?_)
        · skip
          refine lv_iload hx hb dX1_lift_98 (lv_at hl 1 rfl) ?_
          have hP := gEqN (q0 := 2) (f := fun k => if inSqP x y z i 0 k then lfV d (he k) else he k) (g := lfHe he x y z d) rfl (by intro k hk; (try simp only [gu_if, lfHe]); (repeat' split) <;> first | rfl | omega) hP
          have hD := va_D.set (p := 2) (e := .inl (G.2.1, 256, .inl (gn (lfHe he x y z d)))) hD rfl
          have hP : va_P G.1 vwCl [(h, .inr (1, [.ref a1, .ref a2, .ref a3, .int (nI pr), .int (nI tx), .int (nI sa), .int (nI fl), .int (nI lo)])), (a1, .inl (G.2.1, 256, .inl (gn ow))), (a2, .inl (G.2.1, 256, .inl (gn (lfHe he x y z d)))), (a3, .inl (G.2.1, 8, .inl (gn co)))] H := hP
          have hD : va_D A [(h, .inr (1, [.ref a1, .ref a2, .ref a3, .int (nI pr), .int (nI tx), .int (nI sa), .int (nI fl), .int (nI lo)])), (a1, .inl (G.2.1, 256, .inl (gn ow))), (a2, .inl (G.2.1, 256, .inl (gn (lfHe he x y z d)))), (a3, .inl (G.2.1, 8, .inl (gn co)))] := hD
          exact gRi F dX1_lift_100 (rfl) () (by rw [show i = z by omega]) hP hD hS (Nat.le_refl _) (Nat.le_refl _)
        refine lv_iload_n hx hb dX1_lift_26 rfl (lv_at hl 3 rfl) ?_
        refine lv_istore (lv' := [(7, .int (nI x)), (6, .int (nI (y + i))), (5, .int (nI (sSq (fun a => lfV d (he a)) (y * 16 + x) z (i * z)))), (0, .ref h), (1, .int (nI x)), (2, .int (nI y)), (3, .int (nI z)), (4, .int (zI d))]) hx hb dX1_lift_27 hl (by decide) rfl (fun ls hl => ?_)
        have L29 : ∀ (fuel : Nat) (j : Nat), z - j < fuel → (j ≤ z) → ∀ (H : Heap) (locs : List Loc), va_P G.1 vwCl [(h, .inr (1, [.ref a1, .ref a2, .ref a3, .int (nI pr), .int (nI tx), .int (nI sa), .int (nI fl), .int (nI lo)])), (a1, .inl (G.2.1, 256, .inl (gn ow))), (a2, .inl (G.2.1, 256, .inl (gn (fun k => if inSqP x y z i j k then lfV d (he k) else he k)))), (a3, .inl (G.2.1, 8, .inl (gn co)))] H → va_D A [(h, .inr (1, [.ref a1, .ref a2, .ref a3, .int (nI pr), .int (nI tx), .int (nI sa), .int (nI fl), .int (nI lo)])), (a1, .inl (G.2.1, 256, .inl (gn ow))), (a2, .inl (G.2.1, 256, .inl (gn (fun k => if inSqP x y z i j k then lfV d (he k) else he k)))), (a3, .inl (G.2.1, 8, .inl (gn co)))] → va_S A s.heap H locs → ∀ (ls : Array Slot), lv_has ls 9 [(7, .int (nI (x + j))), (6, .int (nI (y + i))), (5, .int (nI (sSq (fun a => lfV d (he a)) (y * 16 + x) z (i * z + j)))), (0, .ref h), (1, .int (nI x)), (2, .int (nI y)), (3, .int (nI z)), (4, .int (zI d))] → W p l e ({ frames := 1, cells := 0, slots := 0, locals := 24 } : Room) s m args below meth c H locs 0 0 (MQ below (va_Qi (S := Unit) (fun (r : Int32) (u : Unit) => (r = nI (sSq (fun a => lfV d (he a)) (y * 16 + x) z (z * z)))) (gB G A (fun u => [(h, .inr (1, [.ref a1, .ref a2, .ref a3, .int (nI pr), .int (nI tx), .int (nI sa), .int (nI fl), .int (nI lo)])), (a1, .inl (G.2.1, 256, .inl (gn ow))), (a2, .inl (G.2.1, 256, .inl (gn (lfHe he x y z d)))), (a3, .inl (G.2.1, 8, .inl (gn co)))])) A) args s 0 0 A) (F0 m 29 ls []) := by
          intro fuel
          induction fuel with
          | zero => intro j hme; exact absurd hme (Nat.not_lt_zero _)
          | succ fuel ih29 =>
            intro j hme hj H locs hP hD hS ls hl
            refine lv_iload hx hb dX1_lift_29 (lv_at hl 0 rfl) ?_
            refine lv_iload_n hx hb dX1_lift_31 rfl (lv_at hl 4 rfl) ?_
            refine lv_iload_n hx hb dX1_lift_32 rfl (lv_at hl 6 rfl) ?_
            refine gIadd (a := x) (b := z) hx hb dX1_lift_33 ?_
            refine gIcmp_ge (a := x + j) (b := x + z) (tgt := 92) hx hb dX1_lift_34 (by decide) (by omega) (by omega) (fun c34 => ?_) (fun c34 => ?_)
            · skip
              refine lv_iinc (v := nI (y + i + 1)) (lv' := [(6, .int (nI (y + i + 1))), (7, .int (nI (x + j))), (5, .int (nI (sSq (fun a => lfV d (he a)) (y * 16 + x) z (i * z + j)))), (0, .ref h), (1, .int (nI x)), (2, .int (nI y)), (3, .int (nI z)), (4, .int (zI d))]) hx hb dX1_lift_92 hl (k := 1) rfl (gInc_p _ rfl) (by decide) rfl (fun ls hl => ?_)
              refine lv_goto (tgt := 18) hx hb dX1_lift_95 (by decide) ?_
              have hP := gEqN (q0 := 2) (f := fun k => if inSqP x y z i j k then lfV d (he k) else he k) (g := fun k => if inSqP x y z (i + 1) 0 k then lfV d (he k) else he k) rfl (by intro k hk; (try simp only [gu_if, lfHe]); (repeat' split) <;> first | rfl | omega) hP
              have hD := va_D.set (p := 2) (e := .inl (G.2.1, 256, .inl (gn (fun k => if inSqP x y z (i + 1) 0 k then lfV d (he k) else he k)))) hD rfl
              have hP : va_P G.1 vwCl [(h, .inr (1, [.ref a1, .ref a2, .ref a3, .int (nI pr), .int (nI tx), .int (nI sa), .int (nI fl), .int (nI lo)])), (a1, .inl (G.2.1, 256, .inl (gn ow))), (a2, .inl (G.2.1, 256, .inl (gn (fun k => if inSqP x y z (i + 1) 0 k then lfV d (he k) else he k)))), (a3, .inl (G.2.1, 8, .inl (gn co)))] H := hP
              have hD : va_D A [(h, .inr (1, [.ref a1, .ref a2, .ref a3, .int (nI pr), .int (nI tx), .int (nI sa), .int (nI fl), .int (nI lo)])), (a1, .inl (G.2.1, 256, .inl (gn ow))), (a2, .inl (G.2.1, 256, .inl (gn (fun k => if inSqP x y z (i + 1) 0 k then lfV d (he k) else he k)))), (a3, .inl (G.2.1, 8, .inl (gn co)))] := hD
              have hl : lv_has ls 9 [(6, .int (nI (y + i + 1))), (5, .int (nI (sSq (fun a => lfV d (he a)) (y * 16 + x) z (i * z + j)))), (0, .ref h), (1, .int (nI x)), (2, .int (nI y)), (3, .int (nI z)), (4, .int (zI d))] := lv_sub hl [0, 2, 3, 4, 5, 6, 7] rfl
              have hle : (.int (nI (y + i + 1)) : Value) = .int (nI (y + (i + 1))) := by first | rfl | (congr 2; omega) | (rw [show j = z by omega, Nat.succ_mul])
              rw [hle] at hl
              have hle : (.int (nI (sSq (fun a => lfV d (he a)) (y * 16 + x) z (i * z + j))) : Value) = .int (nI (sSq (fun a => lfV d (he a)) (y * 16 + x) z ((i + 1) * z))) := by first | rfl | (congr 2; omega) | (rw [show j = z by omega, Nat.succ_mul])
              rw [hle] at hl
              have hy_1 : (i + 1) ≤ z := by omega
              exact ih18 (i + 1) (by omega) hy_1 H locs hP hD hS ls hl
            refine lv_iconst (v := nI 0) hx hb dX1_lift_37 (by decide) ?_
            refine lv_bipush (v := nI 9) hx hb dX1_lift_38 (by decide) ?_
            refine lv_aload_n hx hb dX1_lift_40 rfl (lv_at hl 3 rfl) ?_
            refine va_get (D := G.1) (ci := 1) (v := .ref a2) (C := RX1) (T := TX1) (N := 8) hx hb hts hi1 hown hK hP 0 rfl rfl 1 (by decide) (hts (.fieldLink RX1 15 "LandQuarters$Land" "heights" "[I") (by decide +kernel)) (fun _ h9 => h9) rfl dX1_lift_41 ?_
            refine lv_iload hx hb dX1_lift_44 (lv_at hl 1 rfl) ?_
            refine lv_bipush (v := nI 16) hx hb dX1_lift_46 (by decide) ?_
            refine gImul (a := y + i) (b := 16) hx hb dX1_lift_48 ?_
            refine lv_iload hx hb dX1_lift_49 (lv_at hl 0 rfl) ?_
            refine gIadd (a := (y + i) * 16) (b := x + j) hx hb dX1_lift_51 ?_
            refine gNald (k := (y + i) * 16 + (x + j)) hx hb hK hP 2 0 rfl rfl (by omega) (by first | decide | omega) dX1_lift_52 ?_
            refine W.eq (g2 := F0 m 53 ls [.int (nI (he ((y + i) * 16 + (x + j)))), .int (nI 9), .int (nI 0)]) (by rw [show (nI ((fun k => if inSqP x y z i j k then lfV d (he k) else he k) ((y + i) * 16 + (x + j))) : Int32) = nI (he ((y + i) * 16 + (x + j))) from by congr 1; exact if_neg (by omega)]) ?_
            refine lv_iload hx hb dX1_lift_53 (lv_at hl 7 rfl) ?_
            refine W.eq (g2 := F0 m 55 ls [.int (zI d), .int (zI ((he ((y + i) * 16 + (x + j)) : Nat) : Int)), .int (nI 9), .int (nI 0)]) (by simp only [zI_nat]) ?_
            refine gZadd (a := ((he ((y + i) * 16 + (x + j)) : Nat) : Int)) (b := d) hx hb dX1_lift_55 ?_
            refine va_mmin hx hb (by rw [F.2.2.1]; exact hl.1.symm) hown (hts (.methodLink RX1 61 Lib.Math.min.name) (by decide +kernel)) (hts (.static Lib.Math.min.name) (by decide +kernel)) (hts (.initialized "java/lang/Math") (by decide +kernel)) (hts (.code Lib.Math.min.name Lib.Math.min.code 2 (some .int)) (by decide +kernel)) (Nat.le_of_ble_eq_true rfl) (Nat.le_of_ble_eq_true rfl) (Nat.le_of_ble_eq_true rfl) (Nat.le_of_ble_eq_true rfl) dX1_lift_56 ?_
            refine W.eq (g2 := F0 m 59 ls [.int (zI (min 9 (((he ((y + i) * 16 + (x + j))) : Nat) + d))), .int (nI 0)]) (by rw [show ((if zI (((he ((y + i) * 16 + (x + j)) : Nat) : Int) + d) < nI 9 then zI (((he ((y + i) * 16 + (x + j)) : Nat) : Int) + d) else nI 9) : Int32) = zI (min 9 (((he ((y + i) * 16 + (x + j))) : Nat) + d)) from by exact zI_min9 (by have := hh ((y + i) * 16 + (x + j)); omega)]) ?_
            refine va_mmax hx hb (by rw [F.2.2.1]; exact hl.1.symm) hown (hts (.methodLink RX1 67 Lib.Math.max.name) (by decide +kernel)) (hts (.static Lib.Math.max.name) (by decide +kernel)) (hts (.initialized "java/lang/Math") (by decide +kernel)) (hts (.code Lib.Math.max.name Lib.Math.max.code 2 (some .int)) (by decide +kernel)) (Nat.le_of_ble_eq_true rfl) (Nat.le_of_ble_eq_true rfl) (Nat.le_of_ble_eq_true rfl) (Nat.le_of_ble_eq_true rfl) dX1_lift_59 ?_
            refine W.eq (g2 := F0 m 62 ls [.int (nI (lfV d (he ((y + i) * 16 + (x + j)))))]) (by rw [show ((if nI 0 < zI (min 9 (((he ((y + i) * 16 + (x + j))) : Nat) + d)) then zI (min 9 (((he ((y + i) * 16 + (x + j))) : Nat) + d)) else nI 0) : Int32) = nI (lfV d (he ((y + i) * 16 + (x + j)))) from by exact zI_max0 (by have := hh ((y + i) * 16 + (x + j)); omega)]) ?_
            refine lv_istore (lv' := [(8, .int (nI (lfV d (he ((y + i) * 16 + (x + j)))))), (7, .int (nI (x + j))), (6, .int (nI (y + i))), (5, .int (nI (sSq (fun a => lfV d (he a)) (y * 16 + x) z (i * z + j)))), (0, .ref h), (1, .int (nI x)), (2, .int (nI y)), (3, .int (nI z)), (4, .int (zI d))]) hx hb dX1_lift_62 hl (by decide) rfl (fun ls hl => ?_)
            refine lv_aload_n hx hb dX1_lift_64 rfl (lv_at hl 4 rfl) ?_
            refine va_get (D := G.1) (ci := 1) (v := .ref a2) (C := RX1) (T := TX1) (N := 8) hx hb hts hi1 hown hK hP 0 rfl rfl 1 (by decide) (hts (.fieldLink RX1 15 "LandQuarters$Land" "heights" "[I") (by decide +kernel)) (fun _ h9 => h9) rfl dX1_lift_65 ?_
            refine lv_iload hx hb dX1_lift_68 (lv_at hl 2 rfl) ?_
            refine lv_bipush (v := nI 16) hx hb dX1_lift_70 (by decide) ?_
            refine gImul (a := y + i) (b := 16) hx hb dX1_lift_72 ?_
            refine lv_iload hx hb dX1_lift_73 (lv_at hl 1 rfl) ?_
            refine gIadd (a := (y + i) * 16) (b := x + j) hx hb dX1_lift_75 ?_
            refine lv_iload hx hb dX1_lift_76 (lv_at hl 0 rfl) ?_
            refine gNast (k := (y + i) * 16 + (x + j)) (v := lfV d (he ((y + i) * 16 + (x + j)))) hx hb hK hP hD hS 2 0 rfl rfl (by omega) (by first | decide | omega) dX1_lift_78 (fun H locs hP hD hS => ?_)
            have hP : va_P G.1 vwCl [(h, .inr (1, [.ref a1, .ref a2, .ref a3, .int (nI pr), .int (nI tx), .int (nI sa), .int (nI fl), .int (nI lo)])), (a1, .inl (G.2.1, 256, .inl (gn ow))), (a2, .inl (G.2.1, 256, .inl (gn (va_up (fun k => if inSqP x y z i j k then lfV d (he k) else he k) ((y + i) * 16 + (x + j)) (lfV d (he ((y + i) * 16 + (x + j)))))))), (a3, .inl (G.2.1, 8, .inl (gn co)))] H := hP
            have hD : va_D A [(h, .inr (1, [.ref a1, .ref a2, .ref a3, .int (nI pr), .int (nI tx), .int (nI sa), .int (nI fl), .int (nI lo)])), (a1, .inl (G.2.1, 256, .inl (gn ow))), (a2, .inl (G.2.1, 256, .inl (gn (va_up (fun k => if inSqP x y z i j k then lfV d (he k) else he k) ((y + i) * 16 + (x + j)) (lfV d (he ((y + i) * 16 + (x + j)))))))), (a3, .inl (G.2.1, 8, .inl (gn co)))] := hD
            refine lv_iload hx hb dX1_lift_79 (lv_at hl 3 rfl) ?_
            refine lv_iload hx hb dX1_lift_81 (lv_at hl 0 rfl) ?_
            refine gIadd (a := sSq (fun a => lfV d (he a)) (y * 16 + x) z (i * z + j)) (b := lfV d (he ((y + i) * 16 + (x + j)))) hx hb dX1_lift_83 ?_
            refine lv_istore (lv' := [(5, .int (nI (sSq (fun a => lfV d (he a)) (y * 16 + x) z (i * z + j) + (lfV d (he ((y + i) * 16 + (x + j))))))), (8, .int (nI (lfV d (he ((y + i) * 16 + (x + j)))))), (7, .int (nI (x + j))), (6, .int (nI (y + i))), (0, .ref h), (1, .int (nI x)), (2, .int (nI y)), (3, .int (nI z)), (4, .int (zI d))]) hx hb dX1_lift_84 hl (by decide) rfl (fun ls hl => ?_)
            refine lv_iinc (v := nI (x + j + 1)) (lv' := [(7, .int (nI (x + j + 1))), (5, .int (nI (sSq (fun a => lfV d (he a)) (y * 16 + x) z (i * z + j) + (lfV d (he ((y + i) * 16 + (x + j))))))), (8, .int (nI (lfV d (he ((y + i) * 16 + (x + j)))))), (6, .int (nI (y + i))), (0, .ref h), (1, .int (nI x)), (2, .int (nI y)), (3, .int (nI z)), (4, .int (zI d))]) hx hb dX1_lift_86 hl (k := 2) rfl (gInc_p _ rfl) (by decide) rfl (fun ls hl => ?_)
            refine lv_goto (tgt := 29) hx hb dX1_lift_89 (by decide) ?_
            have hP := gEqN (q0 := 2) (f := va_up (fun k => if inSqP x y z i j k then lfV d (he k) else he k) ((y + i) * 16 + (x + j)) (lfV d (he ((y + i) * 16 + (x + j))))) (g := fun k => if inSqP x y z i (j + 1) k then lfV d (he k) else he k) rfl (by intro k hk; (try simp only [gu_if, lfHe]); by_cases ek : k = (y + i) * 16 + (x + j); (subst ek; (repeat' split) <;> first | rfl | omega); ((repeat' split) <;> first | rfl | omega)) hP
            have hD := va_D.set (p := 2) (e := .inl (G.2.1, 256, .inl (gn (fun k => if inSqP x y z i (j + 1) k then lfV d (he k) else he k)))) hD rfl
            have hP : va_P G.1 vwCl [(h, .inr (1, [.ref a1, .ref a2, .ref a3, .int (nI pr), .int (nI tx), .int (nI sa), .int (nI fl), .int (nI lo)])), (a1, .inl (G.2.1, 256, .inl (gn ow))), (a2, .inl (G.2.1, 256, .inl (gn (fun k => if inSqP x y z i (j + 1) k then lfV d (he k) else he k)))), (a3, .inl (G.2.1, 8, .inl (gn co)))] H := hP
            have hD : va_D A [(h, .inr (1, [.ref a1, .ref a2, .ref a3, .int (nI pr), .int (nI tx), .int (nI sa), .int (nI fl), .int (nI lo)])), (a1, .inl (G.2.1, 256, .inl (gn ow))), (a2, .inl (G.2.1, 256, .inl (gn (fun k => if inSqP x y z i (j + 1) k then lfV d (he k) else he k)))), (a3, .inl (G.2.1, 8, .inl (gn co)))] := hD
            have hl : lv_has ls 9 [(7, .int (nI (x + j + 1))), (6, .int (nI (y + i))), (5, .int (nI (sSq (fun a => lfV d (he a)) (y * 16 + x) z (i * z + j) + (lfV d (he ((y + i) * 16 + (x + j))))))), (0, .ref h), (1, .int (nI x)), (2, .int (nI y)), (3, .int (nI z)), (4, .int (zI d))] := lv_sub hl [0, 3, 1, 4, 5, 6, 7, 8] rfl
            have hle : (.int (nI (x + j + 1)) : Value) = .int (nI (x + (j + 1))) := by first | rfl | (congr 2; omega) | (congr 2; rw [show i * z + (j + 1) = (i * z + j) + 1 by omega, sSq, (divmod_ij (show j < z by omega)).1, (divmod_ij (show j < z by omega)).2, show y * 16 + x + 16 * i + j = (y + i) * 16 + (x + j) by omega])
            rw [hle] at hl
            have hle : (.int (nI (sSq (fun a => lfV d (he a)) (y * 16 + x) z (i * z + j) + (lfV d (he ((y + i) * 16 + (x + j)))))) : Value) = .int (nI (sSq (fun a => lfV d (he a)) (y * 16 + x) z (i * z + (j + 1)))) := by first | rfl | (congr 2; omega) | (congr 2; rw [show i * z + (j + 1) = (i * z + j) + 1 by omega, sSq, (divmod_ij (show j < z by omega)).1, (divmod_ij (show j < z by omega)).2, show y * 16 + x + 16 * i + j = (y + i) * 16 + (x + j) by omega])
            rw [hle] at hl
            have hy_2 : (j + 1) ≤ z := by omega
            exact ih29 (j + 1) (by omega) hy_2 H locs hP hD hS ls hl
        have hl : lv_has ls 9 [(7, .int (nI x)), (6, .int (nI (y + i))), (5, .int (nI (sSq (fun a => lfV d (he a)) (y * 16 + x) z (i * z)))), (0, .ref h), (1, .int (nI x)), (2, .int (nI y)), (3, .int (nI z)), (4, .int (zI d))] := lv_sub hl [0, 1, 2, 3, 4, 5, 6, 7] rfl
        have hle : (.int (nI x) : Value) = .int (nI (x + 0)) := by first | rfl | (congr 2; omega)
        rw [hle] at hl
        have hle : (.int (nI (sSq (fun a => lfV d (he a)) (y * 16 + x) z (i * z))) : Value) = .int (nI (sSq (fun a => lfV d (he a)) (y * 16 + x) z (i * z + 0))) := by first | rfl | (congr 2; omega)
        rw [hle] at hl
        have hy_3 : 0 ≤ z := by omega
        exact L29 _ 0 (Nat.lt_succ_self _) hy_3 H locs hP hD hS ls hl
    have hP := gEqN (q0 := 2) (f := he) (g := fun k => if inSqP x y z 0 0 k then lfV d (he k) else he k) rfl (by intro k hk; (try simp only [gu_if, lfHe]); (repeat' split) <;> first | rfl | omega) hP
    have hD := va_D.set (p := 2) (e := .inl (G.2.1, 256, .inl (gn (fun k => if inSqP x y z 0 0 k then lfV d (he k) else he k)))) hD rfl
    have hP : va_P G.1 vwCl [(h, .inr (1, [.ref a1, .ref a2, .ref a3, .int (nI pr), .int (nI tx), .int (nI sa), .int (nI fl), .int (nI lo)])), (a1, .inl (G.2.1, 256, .inl (gn ow))), (a2, .inl (G.2.1, 256, .inl (gn (fun k => if inSqP x y z 0 0 k then lfV d (he k) else he k)))), (a3, .inl (G.2.1, 8, .inl (gn co)))] H := hP
    have hD : va_D A [(h, .inr (1, [.ref a1, .ref a2, .ref a3, .int (nI pr), .int (nI tx), .int (nI sa), .int (nI fl), .int (nI lo)])), (a1, .inl (G.2.1, 256, .inl (gn ow))), (a2, .inl (G.2.1, 256, .inl (gn (fun k => if inSqP x y z 0 0 k then lfV d (he k) else he k)))), (a3, .inl (G.2.1, 8, .inl (gn co)))] := hD
    have hl : lv_has ls 9 [(6, .int (nI y)), (5, .int (nI 0)), (0, .ref h), (1, .int (nI x)), (2, .int (nI y)), (3, .int (nI z)), (4, .int (zI d))] := lv_sub hl [0, 1, 2, 3, 4, 5, 6] rfl
    have hle : (.int (nI y) : Value) = .int (nI (y + 0)) := by first | rfl | (rw [Nat.zero_mul]; rfl)
    rw [hle] at hl
    have hle : (.int (nI 0) : Value) = .int (nI (sSq (fun a => lfV d (he a)) (y * 16 + x) z (0 * z))) := by first | rfl | (rw [Nat.zero_mul]; rfl)
    rw [hle] at hl
    have hy_4 : 0 ≤ z := by omega
    exact L18 _ 0 (Nat.lt_succ_self _) hy_4 H locs hP hD hS ls hl
  exfalso; exact absurd hq2 c9

set_option maxHeartbeats 4000000 in
set_option maxRecDepth 100000 in
theorem c_X1_drown (l : Launch) (G : gG) (h : Nat) (a1 : Nat) (a2 : Nat) (a3 : Nat) (ow : Nat → Nat) (he : Nat → Nat) (co : Nat → Nat) (pr : Nat) (tx : Nat) (sa : Nat) (fl : Nat) (lo : Nat) (lv : Nat) (hw : ∀ k, ow k < 8) (hh : ∀ k, he k < 10) (hv : lv < 2 ^ 31) : gMi (S := Unit) l yX1_drown wsX1_drown { frames := 0, cells := 0, slots := 0, locals := 0 } G [.ref h, .int (nI lv)] [(h, .inr (1, [.ref a1, .ref a2, .ref a3, .int (nI pr), .int (nI tx), .int (nI sa), .int (nI fl), .int (nI lo)])), (a1, .inl (G.2.1, 256, .inl (gn ow))), (a2, .inl (G.2.1, 256, .inl (gn he))), (a3, .inl (G.2.1, 8, .inl (gn co)))] (fun (r : Int32) (u : Unit) => (r = nI (drLost ow he lv 256))) (fun u => [(h, .inr (1, [.ref a1, .ref a2, .ref a3, .int (nI pr), .int (nI tx), .int (nI sa), .int (nI (fl + 1)), .int (nI lo)])), (a1, .inl (G.2.1, 256, .inl (gn (drOw ow he lv)))), (a2, .inl (G.2.1, 256, .inl (gn he))), (a3, .inl (G.2.1, 8, .inl (gn co)))]) 0 0 := by
  refine gMet_mk (cc := cX1_drown) (nL := 4) (ret := (some .int)) (Qc := fun A => va_Qi (S := Unit) (fun (r : Int32) (u : Unit) => (r = nI (drLost ow he lv 256))) (gB G A (fun u => [(h, .inr (1, [.ref a1, .ref a2, .ref a3, .int (nI pr), .int (nI tx), .int (nI sa), .int (nI (fl + 1)), .int (nI lo)])), (a1, .inl (G.2.1, 256, .inl (gn (drOw ow he lv)))), (a2, .inl (G.2.1, 256, .inl (gn he))), (a3, .inl (G.2.1, 8, .inl (gn co)))])) A) (by decide) rfl (Nat.le_of_ble_eq_true rfl) ?_
  intro p e s m args below meth c A F ls hl hP hD hS
  have hx := F.1
  have hb := F.2.1
  have hts := F.2.2.2.2.2.2.1
  have hown : s.vm.findClass RX1 = some m.cls := F.2.2.2.2.2.1
  have hKK := F.2.2.2.2.2.2.2.2.1
  have hK := hKK.1
  have hin0 := F.2.2.2.2.2.2.2.1
  have hi1 : ∀ w ∈ u_ws RX1 TX1 8, w ∈ wsX1_drown := by decide +kernel
  have hl : lv_has ls 4 [(0, .ref h), (1, .int (nI lv))] := hl
  generalize hH : s.heap = H at hP ⊢
  have hS : va_S A s.heap H [] := by rw [← hH]; exact va_S.rf
  generalize hLo : ([] : List Loc) = locs at hS ⊢
  refine lv_iconst (v := nI 0) hx hb dX1_drown_0 (by decide) ?_
  refine lv_istore_n (lv' := [(2, .int (nI 0)), (0, .ref h), (1, .int (nI lv))]) hx hb dX1_drown_1 rfl hl (by decide) rfl (fun ls hl => ?_)
  refine lv_iconst (v := nI 0) hx hb dX1_drown_2 (by decide) ?_
  refine lv_istore_n (lv' := [(3, .int (nI 0)), (2, .int (nI 0)), (0, .ref h), (1, .int (nI lv))]) hx hb dX1_drown_3 rfl hl (by decide) rfl (fun ls hl => ?_)
  have L4 : ∀ (fuel : Nat) (k : Nat), 256 - k < fuel → (k ≤ 256) → ∀ (H : Heap) (locs : List Loc), va_P G.1 vwCl [(h, .inr (1, [.ref a1, .ref a2, .ref a3, .int (nI pr), .int (nI tx), .int (nI sa), .int (nI fl), .int (nI lo)])), (a1, .inl (G.2.1, 256, .inl (gn (fun j => if j < k then drOw ow he lv j else ow j)))), (a2, .inl (G.2.1, 256, .inl (gn he))), (a3, .inl (G.2.1, 8, .inl (gn co)))] H → va_D A [(h, .inr (1, [.ref a1, .ref a2, .ref a3, .int (nI pr), .int (nI tx), .int (nI sa), .int (nI fl), .int (nI lo)])), (a1, .inl (G.2.1, 256, .inl (gn (fun j => if j < k then drOw ow he lv j else ow j)))), (a2, .inl (G.2.1, 256, .inl (gn he))), (a3, .inl (G.2.1, 8, .inl (gn co)))] → va_S A s.heap H locs → ∀ (ls : Array Slot), lv_has ls 4 [(3, .int (nI k)), (2, .int (nI (drLost ow he lv k))), (0, .ref h), (1, .int (nI lv))] → W p l e ({ frames := 0, cells := 0, slots := 0, locals := 0 } : Room) s m args below meth c H locs 0 0 (MQ below (va_Qi (S := Unit) (fun (r : Int32) (u : Unit) => (r = nI (drLost ow he lv 256))) (gB G A (fun u => [(h, .inr (1, [.ref a1, .ref a2, .ref a3, .int (nI pr), .int (nI tx), .int (nI sa), .int (nI (fl + 1)), .int (nI lo)])), (a1, .inl (G.2.1, 256, .inl (gn (drOw ow he lv)))), (a2, .inl (G.2.1, 256, .inl (gn he))), (a3, .inl (G.2.1, 8, .inl (gn co)))])) A) args s 0 0 A) (F0 m 4 ls []) := by
    intro fuel
    induction fuel with
    | zero => intro k hme; exact absurd hme (Nat.not_lt_zero _)
    | succ fuel ih4 =>
      intro k hme hk H locs hP hD hS ls hl
      refine lv_iload_n hx hb dX1_drown_4 rfl (lv_at hl 0 rfl) ?_
      refine lv_sipush (v := nI 256) hx hb dX1_drown_5 (by decide) ?_
      refine gIcmp_ge (a := k) (b := 256) (tgt := 46) hx hb dX1_drown_8 (by decide) (by omega) (by omega) (fun c8 => ?_) (fun c8 => ?_)
      · skip
        refine lv_aload_n hx hb dX1_drown_46 rfl (lv_at hl 2 rfl) ?_
        refine lv_dup hx hb dX1_drown_47 rfl ?_
        refine va_get (D := G.1) (ci := 1) (v := .int (nI fl)) (C := RX1) (T := TX1) (N := 8) hx hb hts hi1 hown hK hP 0 rfl rfl 6 (by decide) (hts (.fieldLink RX1 31 "LandQuarters$Land" "floodsSoFar" "I") (by decide +kernel)) (fun _ h9 => h9) rfl dX1_drown_48 ?_
        refine lv_iconst (v := nI 1) hx hb dX1_drown_51 (by decide) ?_
        refine gIadd (a := fl) (b := 1) hx hb dX1_drown_52 ?_
        refine va_put (D := G.1) (ci := 1) (v := .int (nI (fl + 1))) (ty := .int) (C := RX1) (T := TX1) (N := 8) hx hb hts hi1 tyX1 tyX1_ok nmX1 hown hK hP hD hS 0 rfl rfl 6 (by decide) (hts (.fieldLink RX1 31 "LandQuarters$Land" "floodsSoFar" "I") (by decide +kernel)) (fun _ h9 => h9) rfl (by decide +kernel) (rfl) (rfl) (Nat.le_of_ble_eq_true rfl) dX1_drown_53 (fun H locs hP hD hS => ?_)
        have hP : va_P G.1 vwCl [(h, .inr (1, [.ref a1, .ref a2, .ref a3, .int (nI pr), .int (nI tx), .int (nI sa), .int (nI (fl + 1)), .int (nI lo)])), (a1, .inl (G.2.1, 256, .inl (gn (fun j => if j < k then drOw ow he lv j else ow j)))), (a2, .inl (G.2.1, 256, .inl (gn he))), (a3, .inl (G.2.1, 8, .inl (gn co)))] H := hP
        have hD : va_D A [(h, .inr (1, [.ref a1, .ref a2, .ref a3, .int (nI pr), .int (nI tx), .int (nI sa), .int (nI (fl + 1)), .int (nI lo)])), (a1, .inl (G.2.1, 256, .inl (gn (fun j => if j < k then drOw ow he lv j else ow j)))), (a2, .inl (G.2.1, 256, .inl (gn he))), (a3, .inl (G.2.1, 8, .inl (gn co)))] := hD
        refine lv_iload_n hx hb dX1_drown_56 rfl (lv_at hl 1 rfl) ?_
        have hP := gEqN (q0 := 1) (f := fun j => if j < k then drOw ow he lv j else ow j) (g := drOw ow he lv) rfl (by intro j hj; rw [if_pos (by omega)]) hP
        have hD := va_D.set (p := 1) (e := .inl (G.2.1, 256, .inl (gn (drOw ow he lv)))) hD rfl
        have hP : va_P G.1 vwCl [(h, .inr (1, [.ref a1, .ref a2, .ref a3, .int (nI pr), .int (nI tx), .int (nI sa), .int (nI (fl + 1)), .int (nI lo)])), (a1, .inl (G.2.1, 256, .inl (gn (drOw ow he lv)))), (a2, .inl (G.2.1, 256, .inl (gn he))), (a3, .inl (G.2.1, 8, .inl (gn co)))] H := hP
        have hD : va_D A [(h, .inr (1, [.ref a1, .ref a2, .ref a3, .int (nI pr), .int (nI tx), .int (nI sa), .int (nI (fl + 1)), .int (nI lo)])), (a1, .inl (G.2.1, 256, .inl (gn (drOw ow he lv)))), (a2, .inl (G.2.1, 256, .inl (gn he))), (a3, .inl (G.2.1, 8, .inl (gn co)))] := hD
        exact gRi F dX1_drown_57 (rfl) () (by rw [show k = 256 by omega]) hP hD hS (Nat.le_refl _) (Nat.le_refl _)
      refine lv_aload_n hx hb dX1_drown_11 rfl (lv_at hl 2 rfl) ?_
      refine va_get (D := G.1) (ci := 1) (v := .ref a2) (C := RX1) (T := TX1) (N := 8) hx hb hts hi1 hown hK hP 0 rfl rfl 1 (by decide) (hts (.fieldLink RX1 15 "LandQuarters$Land" "heights" "[I") (by decide +kernel)) (fun _ h9 => h9) rfl dX1_drown_12 ?_
      refine lv_iload_n hx hb dX1_drown_15 rfl (lv_at hl 0 rfl) ?_
      refine gNald (k := k) hx hb hK hP 2 0 rfl rfl (by omega) (by first | decide | omega) dX1_drown_16 ?_
      refine lv_iload_n hx hb dX1_drown_17 rfl (lv_at hl 3 rfl) ?_
      refine gIcmp_ge (a := he k) (b := lv) (tgt := 40) hx hb dX1_drown_18 (by decide) (by have := hh k; omega) (by omega) (fun c18 => ?_) (fun c18 => ?_)
      · skip
        refine lv_iinc (v := nI (k + 1)) (lv' := [(3, .int (nI (k + 1))), (2, .int (nI (drLost ow he lv k))), (0, .ref h), (1, .int (nI lv))]) hx hb dX1_drown_40 hl (k := 0) rfl (gInc_p _ rfl) (by decide) rfl (fun ls hl => ?_)
        refine lv_goto (tgt := 4) hx hb dX1_drown_43 (by decide) ?_
        have hP := gEqN (q0 := 1) (f := fun j => if j < k then drOw ow he lv j else ow j) (g := fun j => if j < (k + 1) then drOw ow he lv j else ow j) rfl (by intro j hj; (try simp only [gu_if, drOw]); by_cases ek : j = k; (subst ek; (repeat' split) <;> first | rfl | omega); ((repeat' split) <;> first | rfl | omega)) hP
        have hD := va_D.set (p := 1) (e := .inl (G.2.1, 256, .inl (gn (fun j => if j < (k + 1) then drOw ow he lv j else ow j)))) hD rfl
        have hP : va_P G.1 vwCl [(h, .inr (1, [.ref a1, .ref a2, .ref a3, .int (nI pr), .int (nI tx), .int (nI sa), .int (nI fl), .int (nI lo)])), (a1, .inl (G.2.1, 256, .inl (gn (fun j => if j < (k + 1) then drOw ow he lv j else ow j)))), (a2, .inl (G.2.1, 256, .inl (gn he))), (a3, .inl (G.2.1, 8, .inl (gn co)))] H := hP
        have hD : va_D A [(h, .inr (1, [.ref a1, .ref a2, .ref a3, .int (nI pr), .int (nI tx), .int (nI sa), .int (nI fl), .int (nI lo)])), (a1, .inl (G.2.1, 256, .inl (gn (fun j => if j < (k + 1) then drOw ow he lv j else ow j)))), (a2, .inl (G.2.1, 256, .inl (gn he))), (a3, .inl (G.2.1, 8, .inl (gn co)))] := hD
        have hl : lv_has ls 4 [(3, .int (nI (k + 1))), (2, .int (nI (drLost ow he lv k))), (0, .ref h), (1, .int (nI lv))] := lv_sub hl [0, 1, 2, 3] rfl
        have hle : (.int (nI (drLost ow he lv k)) : Value) = .int (nI (drLost ow he lv (k + 1))) := by first | rfl | (congr 2; (try simp only [drLost]); (repeat' split) <;> omega)
        rw [hle] at hl
        have hy_1 : (k + 1) ≤ 256 := by omega
        exact ih4 (k + 1) (by omega) hy_1 H locs hP hD hS ls hl
      refine lv_aload_n hx hb dX1_drown_21 rfl (lv_at hl 2 rfl) ?_
      refine va_get (D := G.1) (ci := 1) (v := .ref a1) (C := RX1) (T := TX1) (N := 8) hx hb hts hi1 hown hK hP 0 rfl rfl 0 (by decide) (hts (.fieldLink RX1 9 "LandQuarters$Land" "owners" "[I") (by decide +kernel)) (fun _ h9 => h9) rfl dX1_drown_22 ?_
      refine lv_iload_n hx hb dX1_drown_25 rfl (lv_at hl 0 rfl) ?_
      refine gNald (k := k) hx hb hK hP 1 0 rfl rfl (by omega) (by first | decide | omega) dX1_drown_26 ?_
      refine W.eq (g2 := F0 m 27 ls [.int (nI (ow k))]) (by rw [show (nI ((fun j => if j < k then drOw ow he lv j else ow j) k) : Int32) = nI (ow k) from by congr 1; exact if_neg (by omega)]) ?_
      refine gIf_eq (a := ow k) (tgt := 40) hx hb dX1_drown_27 (by decide) (by have := hw k; omega) (fun c27 => ?_) (fun c27 => ?_)
      · skip
        refine lv_iinc (v := nI (k + 1)) (lv' := [(3, .int (nI (k + 1))), (2, .int (nI (drLost ow he lv k))), (0, .ref h), (1, .int (nI lv))]) hx hb dX1_drown_40 hl (k := 0) rfl (gInc_p _ rfl) (by decide) rfl (fun ls hl => ?_)
        refine lv_goto (tgt := 4) hx hb dX1_drown_43 (by decide) ?_
        have hP := gEqN (q0 := 1) (f := fun j => if j < k then drOw ow he lv j else ow j) (g := fun j => if j < (k + 1) then drOw ow he lv j else ow j) rfl (by intro j hj; (try simp only [gu_if, drOw]); by_cases ek : j = k; (subst ek; (repeat' split) <;> first | rfl | omega); ((repeat' split) <;> first | rfl | omega)) hP
        have hD := va_D.set (p := 1) (e := .inl (G.2.1, 256, .inl (gn (fun j => if j < (k + 1) then drOw ow he lv j else ow j)))) hD rfl
        have hP : va_P G.1 vwCl [(h, .inr (1, [.ref a1, .ref a2, .ref a3, .int (nI pr), .int (nI tx), .int (nI sa), .int (nI fl), .int (nI lo)])), (a1, .inl (G.2.1, 256, .inl (gn (fun j => if j < (k + 1) then drOw ow he lv j else ow j)))), (a2, .inl (G.2.1, 256, .inl (gn he))), (a3, .inl (G.2.1, 8, .inl (gn co)))] H := hP
        have hD : va_D A [(h, .inr (1, [.ref a1, .ref a2, .ref a3, .int (nI pr), .int (nI tx), .int (nI sa), .int (nI fl), .int (nI lo)])), (a1, .inl (G.2.1, 256, .inl (gn (fun j => if j < (k + 1) then drOw ow he lv j else ow j)))), (a2, .inl (G.2.1, 256, .inl (gn he))), (a3, .inl (G.2.1, 8, .inl (gn co)))] := hD
        have hl : lv_has ls 4 [(3, .int (nI (k + 1))), (2, .int (nI (drLost ow he lv k))), (0, .ref h), (1, .int (nI lv))] := lv_sub hl [0, 1, 2, 3] rfl
        have hle : (.int (nI (drLost ow he lv k)) : Value) = .int (nI (drLost ow he lv (k + 1))) := by first | rfl | (congr 2; (try simp only [drLost]); (repeat' split) <;> omega)
        rw [hle] at hl
        have hy_2 : (k + 1) ≤ 256 := by omega
        exact ih4 (k + 1) (by omega) hy_2 H locs hP hD hS ls hl
      refine lv_aload_n hx hb dX1_drown_30 rfl (lv_at hl 2 rfl) ?_
      refine va_get (D := G.1) (ci := 1) (v := .ref a1) (C := RX1) (T := TX1) (N := 8) hx hb hts hi1 hown hK hP 0 rfl rfl 0 (by decide) (hts (.fieldLink RX1 9 "LandQuarters$Land" "owners" "[I") (by decide +kernel)) (fun _ h9 => h9) rfl dX1_drown_31 ?_
      refine lv_iload_n hx hb dX1_drown_34 rfl (lv_at hl 0 rfl) ?_
      refine lv_iconst (v := nI 0) hx hb dX1_drown_35 (by decide) ?_
      refine gNast (k := k) (v := 0) hx hb hK hP hD hS 1 0 rfl rfl (by omega) (by first | decide | omega) dX1_drown_36 (fun H locs hP hD hS => ?_)
      have hP : va_P G.1 vwCl [(h, .inr (1, [.ref a1, .ref a2, .ref a3, .int (nI pr), .int (nI tx), .int (nI sa), .int (nI fl), .int (nI lo)])), (a1, .inl (G.2.1, 256, .inl (gn (va_up (fun j => if j < k then drOw ow he lv j else ow j) k 0)))), (a2, .inl (G.2.1, 256, .inl (gn he))), (a3, .inl (G.2.1, 8, .inl (gn co)))] H := hP
      have hD : va_D A [(h, .inr (1, [.ref a1, .ref a2, .ref a3, .int (nI pr), .int (nI tx), .int (nI sa), .int (nI fl), .int (nI lo)])), (a1, .inl (G.2.1, 256, .inl (gn (va_up (fun j => if j < k then drOw ow he lv j else ow j) k 0)))), (a2, .inl (G.2.1, 256, .inl (gn he))), (a3, .inl (G.2.1, 8, .inl (gn co)))] := hD
      refine lv_iinc (v := nI (drLost ow he lv k + 1)) (lv' := [(2, .int (nI (drLost ow he lv k + 1))), (3, .int (nI k)), (0, .ref h), (1, .int (nI lv))]) hx hb dX1_drown_37 hl (k := 1) rfl (gInc_p _ rfl) (by decide) rfl (fun ls hl => ?_)
      refine lv_iinc (v := nI (k + 1)) (lv' := [(3, .int (nI (k + 1))), (2, .int (nI (drLost ow he lv k + 1))), (0, .ref h), (1, .int (nI lv))]) hx hb dX1_drown_40 hl (k := 1) rfl (gInc_p _ rfl) (by decide) rfl (fun ls hl => ?_)
      refine lv_goto (tgt := 4) hx hb dX1_drown_43 (by decide) ?_
      have hP := gEqN (q0 := 1) (f := va_up (fun j => if j < k then drOw ow he lv j else ow j) k 0) (g := fun j => if j < (k + 1) then drOw ow he lv j else ow j) rfl (by intro j hj; (try simp only [gu_if, drOw]); by_cases ek : j = k; (subst ek; (repeat' split) <;> first | rfl | omega); ((repeat' split) <;> first | rfl | omega)) hP
      have hD := va_D.set (p := 1) (e := .inl (G.2.1, 256, .inl (gn (fun j => if j < (k + 1) then drOw ow he lv j else ow j)))) hD rfl
      have hP : va_P G.1 vwCl [(h, .inr (1, [.ref a1, .ref a2, .ref a3, .int (nI pr), .int (nI tx), .int (nI sa), .int (nI fl), .int (nI lo)])), (a1, .inl (G.2.1, 256, .inl (gn (fun j => if j < (k + 1) then drOw ow he lv j else ow j)))), (a2, .inl (G.2.1, 256, .inl (gn he))), (a3, .inl (G.2.1, 8, .inl (gn co)))] H := hP
      have hD : va_D A [(h, .inr (1, [.ref a1, .ref a2, .ref a3, .int (nI pr), .int (nI tx), .int (nI sa), .int (nI fl), .int (nI lo)])), (a1, .inl (G.2.1, 256, .inl (gn (fun j => if j < (k + 1) then drOw ow he lv j else ow j)))), (a2, .inl (G.2.1, 256, .inl (gn he))), (a3, .inl (G.2.1, 8, .inl (gn co)))] := hD
      have hl : lv_has ls 4 [(3, .int (nI (k + 1))), (2, .int (nI (drLost ow he lv k + 1))), (0, .ref h), (1, .int (nI lv))] := lv_sub hl [0, 1, 2, 3] rfl
      have hle : (.int (nI (drLost ow he lv k + 1)) : Value) = .int (nI (drLost ow he lv (k + 1))) := by first | rfl | (congr 2; (try simp only [drLost]); (repeat' split) <;> omega)
      rw [hle] at hl
      have hy_3 : (k + 1) ≤ 256 := by omega
      exact ih4 (k + 1) (by omega) hy_3 H locs hP hD hS ls hl
  have hP := gEqN (q0 := 1) (f := ow) (g := fun j => if j < 0 then drOw ow he lv j else ow j) rfl (by intro j hj; rw [if_neg (Nat.not_lt_zero _)]) hP
  have hD := va_D.set (p := 1) (e := .inl (G.2.1, 256, .inl (gn (fun j => if j < 0 then drOw ow he lv j else ow j)))) hD rfl
  have hP : va_P G.1 vwCl [(h, .inr (1, [.ref a1, .ref a2, .ref a3, .int (nI pr), .int (nI tx), .int (nI sa), .int (nI fl), .int (nI lo)])), (a1, .inl (G.2.1, 256, .inl (gn (fun j => if j < 0 then drOw ow he lv j else ow j)))), (a2, .inl (G.2.1, 256, .inl (gn he))), (a3, .inl (G.2.1, 8, .inl (gn co)))] H := hP
  have hD : va_D A [(h, .inr (1, [.ref a1, .ref a2, .ref a3, .int (nI pr), .int (nI tx), .int (nI sa), .int (nI fl), .int (nI lo)])), (a1, .inl (G.2.1, 256, .inl (gn (fun j => if j < 0 then drOw ow he lv j else ow j)))), (a2, .inl (G.2.1, 256, .inl (gn he))), (a3, .inl (G.2.1, 8, .inl (gn co)))] := hD
  have hl : lv_has ls 4 [(3, .int (nI 0)), (2, .int (nI 0)), (0, .ref h), (1, .int (nI lv))] := lv_sub hl [0, 1, 2, 3] rfl
  have hle : (.int (nI 0) : Value) = .int (nI (drLost ow he lv 0)) := by first | rfl | (congr 2; (try simp only [drLost]); (repeat' split) <;> omega)
  rw [hle] at hl
  have hy_4 : 0 ≤ 256 := by omega
  exact L4 _ 0 (Nat.lt_succ_self _) hy_4 H locs hP hD hS ls hl

theorem ij_lt {i j z : Nat} (hi : i < z) (hj : j < z) : i * z + j < z * z := by
  have : (i + 1) * z ≤ z * z := Nat.mul_le_mul_right z hi
  rw [Nat.succ_mul] at this; omega
theorem uni_of {ow : Nat → Nat} {x y z : Nat} (hz : 0 < z) (h : ∀ k, k < z * z → ow (y * 16 + x + 16 * (k / z) + k % z) = ow (y * 16 + x)) : uni ow (y * 16 + x) z := h
theorem uni_ij {ow : Nat → Nat} {x y z i j : Nat} (h : uni ow (y * 16 + x) z) (hi : i < z) (hj : j < z) : ow ((y + i) * 16 + (x + j)) = ow (y * 16 + x) := by
  have := h (i * z + j) (ij_lt hi hj)
  rw [(divmod_ij hj).1, (divmod_ij hj).2] at this
  rw [← this]; congr 1; omega
theorem uni_step {ow : Nat → Nat} {x y z i j : Nat} (hu : ∀ k, k < i * z + j → ow (y * 16 + x + 16 * (k / z) + k % z) = ow (y * 16 + x)) (hj : j < z) (h : ow ((y + i) * 16 + (x + j)) = ow (y * 16 + x)) : ∀ k, k < i * z + (j + 1) → ow (y * 16 + x + 16 * (k / z) + k % z) = ow (y * 16 + x) := by
  intro k hk
  by_cases ek : k = i * z + j
  · subst ek; rw [(divmod_ij hj).1, (divmod_ij hj).2, ← h]; congr 1; omega
  · exact hu k (by omega)
theorem cost_le {x y z pr : Nat} (h : sqN x y z) (hp : pr ≤ 9) : pr * z * z ≤ 2304 := by
  obtain ⟨rfl | rfl | rfl | rfl | rfl, _⟩ := h <;> omega

set_option maxHeartbeats 4000000 in
set_option maxRecDepth 100000 in
theorem c_X1_isSquareOfOne (l : Launch) (G : gG) (h : Nat) (a1 : Nat) (a2 : Nat) (a3 : Nat) (ow : Nat → Nat) (he : Nat → Nat) (co : Nat → Nat) (pr : Nat) (tx : Nat) (sa : Nat) (fl : Nat) (lo : Nat) (x : Nat) (y : Nat) (z : Nat) (hw : ∀ k, ow k < 8) (hx : x < 16) (hy : y < 16) (hz : z < 2 ^ 31) : gMi (S := Unit) l yX1_isSquareOfOne wsX1_isSquareOfOne { frames := 1, cells := 0, slots := 0, locals := 24 } G [.ref h, .int (nI x), .int (nI y), .int (nI z)] [(h, .inr (1, [.ref a1, .ref a2, .ref a3, .int (nI pr), .int (nI tx), .int (nI sa), .int (nI fl), .int (nI lo)])), (a1, .inl (G.2.1, 256, .inl (gn ow))), (a2, .inl (G.2.1, 256, .inl (gn he))), (a3, .inl (G.2.1, 8, .inl (gn co)))] (fun (r : Int32) (u : Unit) => (r = nI (if (sqN x y z ∧ uni ow (y * 16 + x) z) then 1 else 0))) (fun u => [(h, .inr (1, [.ref a1, .ref a2, .ref a3, .int (nI pr), .int (nI tx), .int (nI sa), .int (nI fl), .int (nI lo)])), (a1, .inl (G.2.1, 256, .inl (gn ow))), (a2, .inl (G.2.1, 256, .inl (gn he))), (a3, .inl (G.2.1, 8, .inl (gn co)))]) 0 0 := by
  refine gMet_mk (cc := cX1_isSquareOfOne) (nL := 7) (ret := (some .boolean)) (Qc := fun A => va_Qi (S := Unit) (fun (r : Int32) (u : Unit) => (r = nI (if (sqN x y z ∧ uni ow (y * 16 + x) z) then 1 else 0))) (gB G A (fun u => [(h, .inr (1, [.ref a1, .ref a2, .ref a3, .int (nI pr), .int (nI tx), .int (nI sa), .int (nI fl), .int (nI lo)])), (a1, .inl (G.2.1, 256, .inl (gn ow))), (a2, .inl (G.2.1, 256, .inl (gn he))), (a3, .inl (G.2.1, 8, .inl (gn co)))])) A) (by decide) rfl (Nat.le_of_ble_eq_true rfl) ?_
  intro p e s m args below meth c A F ls hl hP hD hS
  have hx := F.1
  have hb := F.2.1
  have hts := F.2.2.2.2.2.2.1
  have hown : s.vm.findClass RX1 = some m.cls := F.2.2.2.2.2.1
  have hKK := F.2.2.2.2.2.2.2.2.1
  have hK := hKK.1
  have hin0 := F.2.2.2.2.2.2.2.1
  have hi1 : ∀ w ∈ u_ws RX1 TX1 8, w ∈ wsX1_isSquareOfOne := by decide +kernel
  have hl : lv_has ls 7 [(0, .ref h), (1, .int (nI x)), (2, .int (nI y)), (3, .int (nI z))] := hl
  generalize hH : s.heap = H at hP ⊢
  have hS : va_S A s.heap H [] := by rw [← hH]; exact va_S.rf
  generalize hLo : ([] : List Loc) = locs at hS ⊢
  refine lv_iload_n hx hb dX1_isSquareOfOne_0 rfl (lv_at hl 1 rfl) ?_
  refine lv_iload_n hx hb dX1_isSquareOfOne_1 rfl (lv_at hl 2 rfl) ?_
  refine lv_iload_n hx hb dX1_isSquareOfOne_2 rfl (lv_at hl 3 rfl) ?_
  refine W.eq (g2 := F0 m 3 ls [.int (zI ((z : Nat) : Int)), .int (zI ((y : Nat) : Int)), .int (zI ((x : Nat) : Int))]) (by simp only [zI_nat, zI_neg1]) ?_
  refine gCi F (gRunSN (own := RX1) (host := RX3) (bytes := cX3_isSquare) (n := 3) (As := [.int (zI ((x : Nat) : Int)), .int (zI ((y : Nat) : Int)), .int (zI ((z : Nat) : Int))]) (rest := []) F (c_X3_isSquare l G ((x : Nat) : Int) ((y : Nat) : Int) ((z : Nat) : Int) (by first | assumption | omega) (by first | assumption | omega) (by first | assumption | omega) H.size) gX1_isSquareOfOne_X3_isSquare_n57 (by decide +kernel) (by decide +kernel) (by decide +kernel) rfl rfl rfl rfl (by decide +kernel) rfl ⟨Nat.le_of_ble_eq_true rfl, Nat.le_of_ble_eq_true rfl⟩ hP hD (lit := [(h, .inr (1, [.ref a1, .ref a2, .ref a3, .int (nI pr), .int (nI tx), .int (nI sa), .int (nI fl), .int (nI lo)])), (a1, .inl (G.2.1, 256, .inl (gn ow))), (a2, .inl (G.2.1, 256, .inl (gn he))), (a3, .inl (G.2.1, 8, .inl (gn co)))]) (wt := []) (wc := []) (isC := []) rfl (by decide) rfl hl.1 (Nat.le_of_ble_eq_true rfl) dX1_isSquareOfOne_3 ⟨Nat.le_of_ble_eq_true rfl, Nat.le_of_ble_eq_true rfl⟩) hP hD hS (lit := [(h, .inr (1, [.ref a1, .ref a2, .ref a3, .int (nI pr), .int (nI tx), .int (nI sa), .int (nI fl), .int (nI lo)])), (a1, .inl (G.2.1, 256, .inl (gn ow))), (a2, .inl (G.2.1, 256, .inl (gn he))), (a3, .inl (G.2.1, 8, .inl (gn co)))]) (wt := []) (wc := []) (wr := [(h, .inr (1, [.ref a1, .ref a2, .ref a3, .int (nI pr), .int (nI tx), .int (nI sa), .int (nI fl), .int (nI lo)])), (a1, .inl (G.2.1, 256, .inl (gn ow))), (a2, .inl (G.2.1, 256, .inl (gn he))), (a3, .inl (G.2.1, 8, .inl (gn co)))]) (isC := []) (isR := [0, 1, 2, 3]) rfl rfl (by decide) (by decide) (fun r3 u H locs hp3 hP hD hS => ?_)
  subst hp3
  have hP : va_P G.1 vwCl [(h, .inr (1, [.ref a1, .ref a2, .ref a3, .int (nI pr), .int (nI tx), .int (nI sa), .int (nI fl), .int (nI lo)])), (a1, .inl (G.2.1, 256, .inl (gn ow))), (a2, .inl (G.2.1, 256, .inl (gn he))), (a3, .inl (G.2.1, 8, .inl (gn co)))] H := hP
  have hD : va_D A [(h, .inr (1, [.ref a1, .ref a2, .ref a3, .int (nI pr), .int (nI tx), .int (nI sa), .int (nI fl), .int (nI lo)])), (a1, .inl (G.2.1, 256, .inl (gn ow))), (a2, .inl (G.2.1, 256, .inl (gn he))), (a3, .inl (G.2.1, 8, .inl (gn co)))] := hD
  refine gIfB_ne (P := ((((z : Nat) : Int) = 1 ∨ ((z : Nat) : Int) = 2 ∨ ((z : Nat) : Int) = 4 ∨ ((z : Nat) : Int) = 8 ∨ ((z : Nat) : Int) = 16) ∧ 0 ≤ ((x : Nat) : Int) ∧ ((x : Nat) : Int) < 16 ∧ 0 ≤ ((y : Nat) : Int) ∧ ((y : Nat) : Int) < 16 ∧ ((x : Nat) : Int) % ((z : Nat) : Int) = 0 ∧ ((y : Nat) : Int) % ((z : Nat) : Int) = 0)) (tgt := 11) hx hb dX1_isSquareOfOne_6 (by decide) (fun c6 => ?_) (fun c6 => ?_)
  · skip
    have hq := sq_uncast c6; have hq1 := sq_le hq
    refine lv_aload_n hx hb dX1_isSquareOfOne_11 rfl (lv_at hl 0 rfl) ?_
    refine va_get (D := G.1) (ci := 1) (v := .ref a1) (C := RX1) (T := TX1) (N := 8) hx hb hts hi1 hown hK hP 0 rfl rfl 0 (by decide) (hts (.fieldLink RX1 9 "LandQuarters$Land" "owners" "[I") (by decide +kernel)) (fun _ h9 => h9) rfl dX1_isSquareOfOne_12 ?_
    refine lv_iload_n hx hb dX1_isSquareOfOne_15 rfl (lv_at hl 2 rfl) ?_
    refine lv_bipush (v := nI 16) hx hb dX1_isSquareOfOne_16 (by decide) ?_
    refine gImul (a := y) (b := 16) hx hb dX1_isSquareOfOne_18 ?_
    refine lv_iload_n hx hb dX1_isSquareOfOne_19 rfl (lv_at hl 1 rfl) ?_
    refine gIadd (a := y * 16) (b := x) hx hb dX1_isSquareOfOne_20 ?_
    refine gNald (k := y * 16 + x) hx hb hK hP 1 0 rfl rfl (by omega) (by first | decide | omega) dX1_isSquareOfOne_21 ?_
    refine lv_istore (lv' := [(4, .int (nI (ow (y * 16 + x)))), (0, .ref h), (1, .int (nI x)), (2, .int (nI y)), (3, .int (nI z))]) hx hb dX1_isSquareOfOne_22 hl (by decide) rfl (fun ls hl => ?_)
    refine lv_iload_n hx hb dX1_isSquareOfOne_24 rfl (lv_at hl 3 rfl) ?_
    refine lv_istore (lv' := [(5, .int (nI y)), (4, .int (nI (ow (y * 16 + x)))), (0, .ref h), (1, .int (nI x)), (2, .int (nI y)), (3, .int (nI z))]) hx hb dX1_isSquareOfOne_25 hl (by decide) rfl (fun ls hl => ?_)
    have L27 : ∀ (fuel : Nat) (i : Nat), z - i < fuel → (i ≤ z) → (∀ k, k < i * z → ow (y * 16 + x + 16 * (k / z) + k % z) = ow (y * 16 + x)) → ∀ (H : Heap) (locs : List Loc), va_P G.1 vwCl [(h, .inr (1, [.ref a1, .ref a2, .ref a3, .int (nI pr), .int (nI tx), .int (nI sa), .int (nI fl), .int (nI lo)])), (a1, .inl (G.2.1, 256, .inl (gn ow))), (a2, .inl (G.2.1, 256, .inl (gn he))), (a3, .inl (G.2.1, 8, .inl (gn co)))] H → va_D A [(h, .inr (1, [.ref a1, .ref a2, .ref a3, .int (nI pr), .int (nI tx), .int (nI sa), .int (nI fl), .int (nI lo)])), (a1, .inl (G.2.1, 256, .inl (gn ow))), (a2, .inl (G.2.1, 256, .inl (gn he))), (a3, .inl (G.2.1, 8, .inl (gn co)))] → va_S A s.heap H locs → ∀ (ls : Array Slot), lv_has ls 7 [(5, .int (nI (y + i))), (4, .int (nI (ow (y * 16 + x)))), (0, .ref h), (1, .int (nI x)), (2, .int (nI y)), (3, .int (nI z))] → W p l e ({ frames := 1, cells := 0, slots := 0, locals := 24 } : Room) s m args below meth c H locs 0 0 (MQ below (va_Qi (S := Unit) (fun (r : Int32) (u : Unit) => (r = nI (if (sqN x y z ∧ uni ow (y * 16 + x) z) then 1 else 0))) (gB G A (fun u => [(h, .inr (1, [.ref a1, .ref a2, .ref a3, .int (nI pr), .int (nI tx), .int (nI sa), .int (nI fl), .int (nI lo)])), (a1, .inl (G.2.1, 256, .inl (gn ow))), (a2, .inl (G.2.1, 256, .inl (gn he))), (a3, .inl (G.2.1, 8, .inl (gn co)))])) A) args s 0 0 A) (F0 m 27 ls []) := by
      intro fuel
      induction fuel with
      | zero => intro i hme; exact absurd hme (Nat.not_lt_zero _)
      | succ fuel ih27 =>
        intro i hme hi hu H locs hP hD hS ls hl
        refine lv_iload hx hb dX1_isSquareOfOne_27 (lv_at hl 0 rfl) ?_
        refine lv_iload_n hx hb dX1_isSquareOfOne_29 rfl (lv_at hl 4 rfl) ?_
        refine lv_iload_n hx hb dX1_isSquareOfOne_30 rfl (lv_at hl 5 rfl) ?_
        refine gIadd (a := y) (b := z) hx hb dX1_isSquareOfOne_31 ?_
        refine gIcmp_ge (a := y + i) (b := y + z) (tgt := 78) hx hb dX1_isSquareOfOne_32 (by decide) (by omega) (by omega) (fun c32 => ?_) (fun c32 => ?_)
        · skip
          refine lv_iconst (v := nI 1) hx hb dX1_isSquareOfOne_78 (by decide) ?_
          exact gRi F dX1_isSquareOfOne_79 (gNarZ (by decide)) () (by rw [if_pos ⟨hq, uni_of hq1.2.2 (by have hiz : i = z := (by omega); rw [hiz] at hu; exact hu)⟩]) hP hD hS (Nat.le_refl _) (Nat.le_refl _)
        refine lv_iload_n hx hb dX1_isSquareOfOne_35 rfl (lv_at hl 3 rfl) ?_
        refine lv_istore (lv' := [(6, .int (nI x)), (5, .int (nI (y + i))), (4, .int (nI (ow (y * 16 + x)))), (0, .ref h), (1, .int (nI x)), (2, .int (nI y)), (3, .int (nI z))]) hx hb dX1_isSquareOfOne_36 hl (by decide) rfl (fun ls hl => ?_)
        have L38 : ∀ (fuel : Nat) (j : Nat), z - j < fuel → (j ≤ z) → (∀ k, k < i * z + j → ow (y * 16 + x + 16 * (k / z) + k % z) = ow (y * 16 + x)) → ∀ (H : Heap) (locs : List Loc), va_P G.1 vwCl [(h, .inr (1, [.ref a1, .ref a2, .ref a3, .int (nI pr), .int (nI tx), .int (nI sa), .int (nI fl), .int (nI lo)])), (a1, .inl (G.2.1, 256, .inl (gn ow))), (a2, .inl (G.2.1, 256, .inl (gn he))), (a3, .inl (G.2.1, 8, .inl (gn co)))] H → va_D A [(h, .inr (1, [.ref a1, .ref a2, .ref a3, .int (nI pr), .int (nI tx), .int (nI sa), .int (nI fl), .int (nI lo)])), (a1, .inl (G.2.1, 256, .inl (gn ow))), (a2, .inl (G.2.1, 256, .inl (gn he))), (a3, .inl (G.2.1, 8, .inl (gn co)))] → va_S A s.heap H locs → ∀ (ls : Array Slot), lv_has ls 7 [(6, .int (nI (x + j))), (5, .int (nI (y + i))), (4, .int (nI (ow (y * 16 + x)))), (0, .ref h), (1, .int (nI x)), (2, .int (nI y)), (3, .int (nI z))] → W p l e ({ frames := 1, cells := 0, slots := 0, locals := 24 } : Room) s m args below meth c H locs 0 0 (MQ below (va_Qi (S := Unit) (fun (r : Int32) (u : Unit) => (r = nI (if (sqN x y z ∧ uni ow (y * 16 + x) z) then 1 else 0))) (gB G A (fun u => [(h, .inr (1, [.ref a1, .ref a2, .ref a3, .int (nI pr), .int (nI tx), .int (nI sa), .int (nI fl), .int (nI lo)])), (a1, .inl (G.2.1, 256, .inl (gn ow))), (a2, .inl (G.2.1, 256, .inl (gn he))), (a3, .inl (G.2.1, 8, .inl (gn co)))])) A) args s 0 0 A) (F0 m 38 ls []) := by
          intro fuel
          induction fuel with
          | zero => intro j hme; exact absurd hme (Nat.not_lt_zero _)
          | succ fuel ih38 =>
            intro j hme hj hu2 H locs hP hD hS ls hl
            refine lv_iload hx hb dX1_isSquareOfOne_38 (lv_at hl 0 rfl) ?_
            refine lv_iload_n hx hb dX1_isSquareOfOne_40 rfl (lv_at hl 4 rfl) ?_
            refine lv_iload_n hx hb dX1_isSquareOfOne_41 rfl (lv_at hl 6 rfl) ?_
            refine gIadd (a := x) (b := z) hx hb dX1_isSquareOfOne_42 ?_
            refine gIcmp_ge (a := x + j) (b := x + z) (tgt := 72) hx hb dX1_isSquareOfOne_43 (by decide) (by omega) (by omega) (fun c43 => ?_) (fun c43 => ?_)
            · skip
              refine lv_iinc (v := nI (y + i + 1)) (lv' := [(5, .int (nI (y + i + 1))), (6, .int (nI (x + j))), (4, .int (nI (ow (y * 16 + x)))), (0, .ref h), (1, .int (nI x)), (2, .int (nI y)), (3, .int (nI z))]) hx hb dX1_isSquareOfOne_72 hl (k := 1) rfl (gInc_p _ rfl) (by decide) rfl (fun ls hl => ?_)
              refine lv_goto (tgt := 27) hx hb dX1_isSquareOfOne_75 (by decide) ?_
              have hl : lv_has ls 7 [(5, .int (nI (y + i + 1))), (4, .int (nI (ow (y * 16 + x)))), (0, .ref h), (1, .int (nI x)), (2, .int (nI y)), (3, .int (nI z))] := lv_sub hl [0, 2, 3, 4, 5, 6] rfl
              have hle : (.int (nI (y + i + 1)) : Value) = .int (nI (y + (i + 1))) := by first | rfl | (congr 2; (try simp only []); (repeat' split) <;> omega)
              rw [hle] at hl
              have hy_1 : (i + 1) ≤ z := by omega
              have hy_2 : ∀ k, k < (i + 1) * z → ow (y * 16 + x + 16 * (k / z) + k % z) = ow (y * 16 + x) := by intro k hk; have hjz : j = z := (by omega); exact hu2 k (by rw [Nat.succ_mul] at hk; omega)
              exact ih27 (i + 1) (by omega) hy_1 hy_2 H locs hP hD hS ls hl
            refine lv_aload_n hx hb dX1_isSquareOfOne_46 rfl (lv_at hl 3 rfl) ?_
            refine va_get (D := G.1) (ci := 1) (v := .ref a1) (C := RX1) (T := TX1) (N := 8) hx hb hts hi1 hown hK hP 0 rfl rfl 0 (by decide) (hts (.fieldLink RX1 9 "LandQuarters$Land" "owners" "[I") (by decide +kernel)) (fun _ h9 => h9) rfl dX1_isSquareOfOne_47 ?_
            refine lv_iload hx hb dX1_isSquareOfOne_50 (lv_at hl 1 rfl) ?_
            refine lv_bipush (v := nI 16) hx hb dX1_isSquareOfOne_52 (by decide) ?_
            refine gImul (a := y + i) (b := 16) hx hb dX1_isSquareOfOne_54 ?_
            refine lv_iload hx hb dX1_isSquareOfOne_55 (lv_at hl 0 rfl) ?_
            refine gIadd (a := (y + i) * 16) (b := x + j) hx hb dX1_isSquareOfOne_57 ?_
            refine gNald (k := (y + i) * 16 + (x + j)) hx hb hK hP 1 0 rfl rfl (by omega) (by first | decide | omega) dX1_isSquareOfOne_58 ?_
            refine lv_iload hx hb dX1_isSquareOfOne_59 (lv_at hl 2 rfl) ?_
            refine gIcmp_eq (a := ow ((y + i) * 16 + (x + j))) (b := ow (y * 16 + x)) (tgt := 66) hx hb dX1_isSquareOfOne_61 (by decide) (by have := hw ((y + i) * 16 + (x + j)); omega) (by have := hw (y * 16 + x); omega) (fun c61 => ?_) (fun c61 => ?_)
            · skip
              refine lv_iinc (v := nI (x + j + 1)) (lv' := [(6, .int (nI (x + j + 1))), (5, .int (nI (y + i))), (4, .int (nI (ow (y * 16 + x)))), (0, .ref h), (1, .int (nI x)), (2, .int (nI y)), (3, .int (nI z))]) hx hb dX1_isSquareOfOne_66 hl (k := 0) rfl (gInc_p _ rfl) (by decide) rfl (fun ls hl => ?_)
              refine lv_goto (tgt := 38) hx hb dX1_isSquareOfOne_69 (by decide) ?_
              have hl : lv_has ls 7 [(6, .int (nI (x + j + 1))), (5, .int (nI (y + i))), (4, .int (nI (ow (y * 16 + x)))), (0, .ref h), (1, .int (nI x)), (2, .int (nI y)), (3, .int (nI z))] := lv_sub hl [0, 1, 2, 3, 4, 5, 6] rfl
              have hle : (.int (nI (x + j + 1)) : Value) = .int (nI (x + (j + 1))) := by first | rfl | (congr 2; (try simp only []); (repeat' split) <;> omega)
              rw [hle] at hl
              have hy_3 : (j + 1) ≤ z := by omega
              have hy_4 : ∀ k, k < i * z + (j + 1) → ow (y * 16 + x + 16 * (k / z) + k % z) = ow (y * 16 + x) := by exact uni_step hu2 (by omega) c61
              exact ih38 (j + 1) (by omega) hy_3 hy_4 H locs hP hD hS ls hl
            refine lv_iconst (v := nI 0) hx hb dX1_isSquareOfOne_64 (by decide) ?_
            exact gRi F dX1_isSquareOfOne_65 (gNarZ (by decide)) () (by rw [if_neg (fun hh => c61 (uni_ij hh.2 (by omega) (by omega)))]) hP hD hS (Nat.le_refl _) (Nat.le_refl _)
        have hl : lv_has ls 7 [(6, .int (nI x)), (5, .int (nI (y + i))), (4, .int (nI (ow (y * 16 + x)))), (0, .ref h), (1, .int (nI x)), (2, .int (nI y)), (3, .int (nI z))] := lv_sub hl [0, 1, 2, 3, 4, 5, 6] rfl
        have hle : (.int (nI x) : Value) = .int (nI (x + 0)) := by first | rfl | (congr 2; (try simp only []); (repeat' split) <;> omega)
        rw [hle] at hl
        have hy_5 : 0 ≤ z := by omega
        have hy_6 : ∀ k, k < i * z + 0 → ow (y * 16 + x + 16 * (k / z) + k % z) = ow (y * 16 + x) := by rw [Nat.add_zero]; exact hu
        exact L38 _ 0 (Nat.lt_succ_self _) hy_5 hy_6 H locs hP hD hS ls hl
    have hl : lv_has ls 7 [(5, .int (nI y)), (4, .int (nI (ow (y * 16 + x)))), (0, .ref h), (1, .int (nI x)), (2, .int (nI y)), (3, .int (nI z))] := lv_sub hl [0, 1, 2, 3, 4, 5] rfl
    have hle : (.int (nI y) : Value) = .int (nI (y + 0)) := by first | rfl | (congr 2; (try simp only []); (repeat' split) <;> omega)
    rw [hle] at hl
    have hy_7 : 0 ≤ z := by omega
    have hy_8 : ∀ k, k < 0 * z → ow (y * 16 + x + 16 * (k / z) + k % z) = ow (y * 16 + x) := by intro k hk; omega
    exact L27 _ 0 (Nat.lt_succ_self _) hy_7 hy_8 H locs hP hD hS ls hl
  refine lv_iconst (v := nI 0) hx hb dX1_isSquareOfOne_9 (by decide) ?_
  exact gRi F dX1_isSquareOfOne_10 (gNarZ (by decide)) () (by rw [if_neg (fun hh => c6 (sq_cast hh.1))]) hP hD hS (Nat.le_refl _) (Nat.le_refl _)

set_option maxHeartbeats 4000000 in
set_option maxRecDepth 100000 in
theorem c_X1_canSell (l : Launch) (G : gG) (h : Nat) (a1 : Nat) (a2 : Nat) (a3 : Nat) (ow : Nat → Nat) (he : Nat → Nat) (co : Nat → Nat) (pr : Nat) (tx : Nat) (sa : Nat) (fl : Nat) (lo : Nat) (pn : Nat) (x : Nat) (y : Nat) (z : Nat) (hw : ∀ k, ow k < 8) (hq : sqN x y z) (hc : ∀ k, co k ≤ 700) (hpr : pr ≤ 9) (hp : pn < 8) : gMi (S := Unit) l yX1_canSell wsX1_canSell { frames := 2, cells := 0, slots := 0, locals := 50 } G [.ref h, .int (nI pn), .int (nI x), .int (nI y), .int (nI z)] [(h, .inr (1, [.ref a1, .ref a2, .ref a3, .int (nI pr), .int (nI tx), .int (nI sa), .int (nI fl), .int (nI lo)])), (a1, .inl (G.2.1, 256, .inl (gn ow))), (a2, .inl (G.2.1, 256, .inl (gn he))), (a3, .inl (G.2.1, 8, .inl (gn co)))] (fun (r : Int32) (u : Unit) => (r = nI (if (uni ow (y * 16 + x) z ∧ ow (y * 16 + x) ≠ pn ∧ pr * z * z ≤ co pn) then 1 else 0))) (fun u => [(h, .inr (1, [.ref a1, .ref a2, .ref a3, .int (nI pr), .int (nI tx), .int (nI sa), .int (nI fl), .int (nI lo)])), (a1, .inl (G.2.1, 256, .inl (gn ow))), (a2, .inl (G.2.1, 256, .inl (gn he))), (a3, .inl (G.2.1, 8, .inl (gn co)))]) 0 0 := by
  refine gMet_mk (cc := cX1_canSell) (nL := 5) (ret := (some .boolean)) (Qc := fun A => va_Qi (S := Unit) (fun (r : Int32) (u : Unit) => (r = nI (if (uni ow (y * 16 + x) z ∧ ow (y * 16 + x) ≠ pn ∧ pr * z * z ≤ co pn) then 1 else 0))) (gB G A (fun u => [(h, .inr (1, [.ref a1, .ref a2, .ref a3, .int (nI pr), .int (nI tx), .int (nI sa), .int (nI fl), .int (nI lo)])), (a1, .inl (G.2.1, 256, .inl (gn ow))), (a2, .inl (G.2.1, 256, .inl (gn he))), (a3, .inl (G.2.1, 8, .inl (gn co)))])) A) (by decide) rfl (Nat.le_of_ble_eq_true rfl) ?_
  intro p e s m args below meth c A F ls hl hP hD hS
  have hx := F.1
  have hb := F.2.1
  have hts := F.2.2.2.2.2.2.1
  have hown : s.vm.findClass RX1 = some m.cls := F.2.2.2.2.2.1
  have hKK := F.2.2.2.2.2.2.2.2.1
  have hK := hKK.1
  have hin0 := F.2.2.2.2.2.2.2.1
  have hl : lv_has ls 5 [(0, .ref h), (1, .int (nI pn)), (2, .int (nI x)), (3, .int (nI y)), (4, .int (nI z))] := hl
  have hq1 := sq_le hq
  have hq2 := sq_cast hq
  have hcost := cost_le hq hpr
  have hcp := hc pn
  have hwc := hw (y * 16 + x)
  generalize hH : s.heap = H at hP ⊢
  have hS : va_S A s.heap H [] := by rw [← hH]; exact va_S.rf
  generalize hLo : ([] : List Loc) = locs at hS ⊢
  refine lv_aload_n hx hb dX1_canSell_0 rfl (lv_at hl 0 rfl) ?_
  refine lv_iload_n hx hb dX1_canSell_1 rfl (lv_at hl 2 rfl) ?_
  refine lv_iload_n hx hb dX1_canSell_2 rfl (lv_at hl 3 rfl) ?_
  refine lv_iload hx hb dX1_canSell_3 (lv_at hl 4 rfl) ?_
  refine gCi F (gRunV (own := RX1) (C := RX1) (ci := 1) (bytes := cX1_isSquareOfOne) (n := 3) (As := [.int (nI x), .int (nI y), .int (nI z)]) (rest := []) F (c_X1_isSquareOfOne l G h a1 a2 a3 ow he co pr tx sa fl lo x y z (by first | assumption | omega) (by first | assumption | omega) (by first | assumption | omega) (by first | assumption | omega) H.size) gX1_canSell_X1_isSquareOfOne rfl rfl rfl rfl (by decide +kernel) rfl ⟨Nat.le_of_ble_eq_true rfl, Nat.le_of_ble_eq_true rfl⟩ hP hD (lit := [(h, .inr (1, [.ref a1, .ref a2, .ref a3, .int (nI pr), .int (nI tx), .int (nI sa), .int (nI fl), .int (nI lo)])), (a1, .inl (G.2.1, 256, .inl (gn ow))), (a2, .inl (G.2.1, 256, .inl (gn he))), (a3, .inl (G.2.1, 8, .inl (gn co)))]) (wt := []) (wc := [(h, .inr (1, [.ref a1, .ref a2, .ref a3, .int (nI pr), .int (nI tx), .int (nI sa), .int (nI fl), .int (nI lo)])), (a1, .inl (G.2.1, 256, .inl (gn ow))), (a2, .inl (G.2.1, 256, .inl (gn he))), (a3, .inl (G.2.1, 8, .inl (gn co)))]) (isC := [0, 1, 2, 3]) rfl (by decide) rfl rfl rfl hl.1 (Nat.le_of_ble_eq_true rfl) dX1_canSell_5 ⟨Nat.le_of_ble_eq_true rfl, Nat.le_of_ble_eq_true rfl⟩) hP hD hS (lit := [(h, .inr (1, [.ref a1, .ref a2, .ref a3, .int (nI pr), .int (nI tx), .int (nI sa), .int (nI fl), .int (nI lo)])), (a1, .inl (G.2.1, 256, .inl (gn ow))), (a2, .inl (G.2.1, 256, .inl (gn he))), (a3, .inl (G.2.1, 8, .inl (gn co)))]) (wt := []) (wc := [(h, .inr (1, [.ref a1, .ref a2, .ref a3, .int (nI pr), .int (nI tx), .int (nI sa), .int (nI fl), .int (nI lo)])), (a1, .inl (G.2.1, 256, .inl (gn ow))), (a2, .inl (G.2.1, 256, .inl (gn he))), (a3, .inl (G.2.1, 8, .inl (gn co)))]) (wr := []) (isC := [0, 1, 2, 3]) (isR := []) rfl rfl (by decide) (by decide) (fun r5 u H locs hp5 hP hD hS => ?_)
  subst hp5
  have hP : va_P G.1 vwCl [(h, .inr (1, [.ref a1, .ref a2, .ref a3, .int (nI pr), .int (nI tx), .int (nI sa), .int (nI fl), .int (nI lo)])), (a1, .inl (G.2.1, 256, .inl (gn ow))), (a2, .inl (G.2.1, 256, .inl (gn he))), (a3, .inl (G.2.1, 8, .inl (gn co)))] H := hP
  have hD : va_D A [(h, .inr (1, [.ref a1, .ref a2, .ref a3, .int (nI pr), .int (nI tx), .int (nI sa), .int (nI fl), .int (nI lo)])), (a1, .inl (G.2.1, 256, .inl (gn ow))), (a2, .inl (G.2.1, 256, .inl (gn he))), (a3, .inl (G.2.1, 8, .inl (gn co)))] := hD
  refine gIfB_eq (P := (sqN x y z ∧ uni ow (y * 16 + x) z)) (tgt := 39) hx hb dX1_canSell_8 (by decide) (fun c8 => ?_) (fun c8 => ?_)
  · skip
    refine lv_iconst (v := nI 0) hx hb dX1_canSell_39 (by decide) ?_
    exact gRi F dX1_canSell_40 (gNarZ (by decide)) () (by first | exact (congrArg nI (if_pos ⟨c8.2, c18, c32⟩)).symm | (refine (congrArg nI (if_neg ?_)).symm; intro hh; exact c8 ⟨hq, hh.1⟩) | (refine (congrArg nI (if_neg ?_)).symm; intro hh; exact hh.2.1 c18) | (refine (congrArg nI (if_neg ?_)).symm; intro hh; exact absurd hh.2.2 (by omega))) hP hD hS (Nat.le_refl _) (Nat.le_refl _)
  refine lv_aload_n hx hb dX1_canSell_11 rfl (lv_at hl 0 rfl) ?_
  refine lv_iload_n hx hb dX1_canSell_12 rfl (lv_at hl 2 rfl) ?_
  refine lv_iload_n hx hb dX1_canSell_13 rfl (lv_at hl 3 rfl) ?_
  refine gCi F (gRunV (own := RX1) (C := RX1) (ci := 1) (bytes := cX1_ownerOf) (n := 2) (As := [.int (nI x), .int (nI y)]) (rest := []) F (c_ownerOf_n l G h a1 a2 a3 ow he co pr tx sa fl lo x y (by first | assumption | omega) (by first | assumption | omega) H.size) gX1_canSell_X1_ownerOf rfl rfl rfl rfl (by decide +kernel) rfl ⟨Nat.le_of_ble_eq_true rfl, Nat.le_of_ble_eq_true rfl⟩ hP hD (lit := [(h, .inr (1, [.ref a1, .ref a2, .ref a3, .int (nI pr), .int (nI tx), .int (nI sa), .int (nI fl), .int (nI lo)])), (a1, .inl (G.2.1, 256, .inl (gn ow))), (a2, .inl (G.2.1, 256, .inl (gn he))), (a3, .inl (G.2.1, 8, .inl (gn co)))]) (wt := []) (wc := [(h, .inr (1, [.ref a1, .ref a2, .ref a3, .int (nI pr), .int (nI tx), .int (nI sa), .int (nI fl), .int (nI lo)])), (a1, .inl (G.2.1, 256, .inl (gn ow))), (a2, .inl (G.2.1, 256, .inl (gn he))), (a3, .inl (G.2.1, 8, .inl (gn co)))]) (isC := [0, 1, 2, 3]) rfl (by decide) rfl rfl rfl hl.1 (Nat.le_of_ble_eq_true rfl) dX1_canSell_14 ⟨Nat.le_of_ble_eq_true rfl, Nat.le_of_ble_eq_true rfl⟩) hP hD hS (lit := [(h, .inr (1, [.ref a1, .ref a2, .ref a3, .int (nI pr), .int (nI tx), .int (nI sa), .int (nI fl), .int (nI lo)])), (a1, .inl (G.2.1, 256, .inl (gn ow))), (a2, .inl (G.2.1, 256, .inl (gn he))), (a3, .inl (G.2.1, 8, .inl (gn co)))]) (wt := []) (wc := [(h, .inr (1, [.ref a1, .ref a2, .ref a3, .int (nI pr), .int (nI tx), .int (nI sa), .int (nI fl), .int (nI lo)])), (a1, .inl (G.2.1, 256, .inl (gn ow))), (a2, .inl (G.2.1, 256, .inl (gn he))), (a3, .inl (G.2.1, 8, .inl (gn co)))]) (wr := []) (isC := [0, 1, 2, 3]) (isR := []) rfl rfl (by decide) (by decide) (fun r14 u H locs hp14 hP hD hS => ?_)
  subst hp14
  have hP : va_P G.1 vwCl [(h, .inr (1, [.ref a1, .ref a2, .ref a3, .int (nI pr), .int (nI tx), .int (nI sa), .int (nI fl), .int (nI lo)])), (a1, .inl (G.2.1, 256, .inl (gn ow))), (a2, .inl (G.2.1, 256, .inl (gn he))), (a3, .inl (G.2.1, 8, .inl (gn co)))] H := hP
  have hD : va_D A [(h, .inr (1, [.ref a1, .ref a2, .ref a3, .int (nI pr), .int (nI tx), .int (nI sa), .int (nI fl), .int (nI lo)])), (a1, .inl (G.2.1, 256, .inl (gn ow))), (a2, .inl (G.2.1, 256, .inl (gn he))), (a3, .inl (G.2.1, 8, .inl (gn co)))] := hD
  refine lv_iload_n hx hb dX1_canSell_17 rfl (lv_at hl 1 rfl) ?_
  refine gIcmp_eq (a := ow (y * 16 + x)) (b := pn) (tgt := 39) hx hb dX1_canSell_18 (by decide) (by omega) (by omega) (fun c18 => ?_) (fun c18 => ?_)
  · skip
    refine lv_iconst (v := nI 0) hx hb dX1_canSell_39 (by decide) ?_
    exact gRi F dX1_canSell_40 (gNarZ (by decide)) () (by first | exact (congrArg nI (if_pos ⟨c8.2, c18, c32⟩)).symm | (refine (congrArg nI (if_neg ?_)).symm; intro hh; exact c8 ⟨hq, hh.1⟩) | (refine (congrArg nI (if_neg ?_)).symm; intro hh; exact hh.2.1 c18) | (refine (congrArg nI (if_neg ?_)).symm; intro hh; exact absurd hh.2.2 (by omega))) hP hD hS (Nat.le_refl _) (Nat.le_refl _)
  refine lv_aload_n hx hb dX1_canSell_21 rfl (lv_at hl 0 rfl) ?_
  refine lv_iload_n hx hb dX1_canSell_22 rfl (lv_at hl 1 rfl) ?_
  refine gCi F (gRunV (own := RX1) (C := RX1) (ci := 1) (bytes := cX1_purseOf) (n := 1) (As := [.int (nI pn)]) (rest := []) F (c_X1_purseOf l G h a1 a2 a3 ow he co pr tx sa fl lo pn (by first | assumption | omega) H.size) gX1_canSell_X1_purseOf rfl rfl rfl rfl (by decide +kernel) rfl ⟨Nat.le_of_ble_eq_true rfl, Nat.le_of_ble_eq_true rfl⟩ hP hD (lit := [(h, .inr (1, [.ref a1, .ref a2, .ref a3, .int (nI pr), .int (nI tx), .int (nI sa), .int (nI fl), .int (nI lo)])), (a1, .inl (G.2.1, 256, .inl (gn ow))), (a2, .inl (G.2.1, 256, .inl (gn he))), (a3, .inl (G.2.1, 8, .inl (gn co)))]) (wt := []) (wc := [(h, .inr (1, [.ref a1, .ref a2, .ref a3, .int (nI pr), .int (nI tx), .int (nI sa), .int (nI fl), .int (nI lo)])), (a1, .inl (G.2.1, 256, .inl (gn ow))), (a2, .inl (G.2.1, 256, .inl (gn he))), (a3, .inl (G.2.1, 8, .inl (gn co)))]) (isC := [0, 1, 2, 3]) rfl (by decide) rfl rfl rfl hl.1 (Nat.le_of_ble_eq_true rfl) dX1_canSell_23 ⟨Nat.le_of_ble_eq_true rfl, Nat.le_of_ble_eq_true rfl⟩) hP hD hS (lit := [(h, .inr (1, [.ref a1, .ref a2, .ref a3, .int (nI pr), .int (nI tx), .int (nI sa), .int (nI fl), .int (nI lo)])), (a1, .inl (G.2.1, 256, .inl (gn ow))), (a2, .inl (G.2.1, 256, .inl (gn he))), (a3, .inl (G.2.1, 8, .inl (gn co)))]) (wt := []) (wc := [(h, .inr (1, [.ref a1, .ref a2, .ref a3, .int (nI pr), .int (nI tx), .int (nI sa), .int (nI fl), .int (nI lo)])), (a1, .inl (G.2.1, 256, .inl (gn ow))), (a2, .inl (G.2.1, 256, .inl (gn he))), (a3, .inl (G.2.1, 8, .inl (gn co)))]) (wr := []) (isC := [0, 1, 2, 3]) (isR := []) rfl rfl (by decide) (by decide) (fun r23 u H locs hp23 hP hD hS => ?_)
  subst hp23
  have hP : va_P G.1 vwCl [(h, .inr (1, [.ref a1, .ref a2, .ref a3, .int (nI pr), .int (nI tx), .int (nI sa), .int (nI fl), .int (nI lo)])), (a1, .inl (G.2.1, 256, .inl (gn ow))), (a2, .inl (G.2.1, 256, .inl (gn he))), (a3, .inl (G.2.1, 8, .inl (gn co)))] H := hP
  have hD : va_D A [(h, .inr (1, [.ref a1, .ref a2, .ref a3, .int (nI pr), .int (nI tx), .int (nI sa), .int (nI fl), .int (nI lo)])), (a1, .inl (G.2.1, 256, .inl (gn ow))), (a2, .inl (G.2.1, 256, .inl (gn he))), (a3, .inl (G.2.1, 8, .inl (gn co)))] := hD
  refine lv_aload_n hx hb dX1_canSell_26 rfl (lv_at hl 0 rfl) ?_
  refine lv_iload hx hb dX1_canSell_27 (lv_at hl 4 rfl) ?_
  refine gCi F (gRunV (own := RX1) (C := RX1) (ci := 1) (bytes := cX1_costOf) (n := 1) (As := [.int (nI z)]) (rest := [.int (nI (co pn))]) F (c_X1_costOf l G h a1 a2 a3 ow he co pr tx sa fl lo z  H.size) gX1_canSell_X1_costOf rfl rfl rfl rfl (by decide +kernel) rfl ⟨Nat.le_of_ble_eq_true rfl, Nat.le_of_ble_eq_true rfl⟩ hP hD (lit := [(h, .inr (1, [.ref a1, .ref a2, .ref a3, .int (nI pr), .int (nI tx), .int (nI sa), .int (nI fl), .int (nI lo)])), (a1, .inl (G.2.1, 256, .inl (gn ow))), (a2, .inl (G.2.1, 256, .inl (gn he))), (a3, .inl (G.2.1, 8, .inl (gn co)))]) (wt := []) (wc := [(h, .inr (1, [.ref a1, .ref a2, .ref a3, .int (nI pr), .int (nI tx), .int (nI sa), .int (nI fl), .int (nI lo)])), (a1, .inl (G.2.1, 256, .inl (gn ow))), (a2, .inl (G.2.1, 256, .inl (gn he))), (a3, .inl (G.2.1, 8, .inl (gn co)))]) (isC := [0, 1, 2, 3]) rfl (by decide) rfl rfl rfl hl.1 (Nat.le_of_ble_eq_true rfl) dX1_canSell_29 ⟨Nat.le_of_ble_eq_true rfl, Nat.le_of_ble_eq_true rfl⟩) hP hD hS (lit := [(h, .inr (1, [.ref a1, .ref a2, .ref a3, .int (nI pr), .int (nI tx), .int (nI sa), .int (nI fl), .int (nI lo)])), (a1, .inl (G.2.1, 256, .inl (gn ow))), (a2, .inl (G.2.1, 256, .inl (gn he))), (a3, .inl (G.2.1, 8, .inl (gn co)))]) (wt := []) (wc := [(h, .inr (1, [.ref a1, .ref a2, .ref a3, .int (nI pr), .int (nI tx), .int (nI sa), .int (nI fl), .int (nI lo)])), (a1, .inl (G.2.1, 256, .inl (gn ow))), (a2, .inl (G.2.1, 256, .inl (gn he))), (a3, .inl (G.2.1, 8, .inl (gn co)))]) (wr := []) (isC := [0, 1, 2, 3]) (isR := []) rfl rfl (by decide) (by decide) (fun r29 u H locs hp29 hP hD hS => ?_)
  subst hp29
  have hP : va_P G.1 vwCl [(h, .inr (1, [.ref a1, .ref a2, .ref a3, .int (nI pr), .int (nI tx), .int (nI sa), .int (nI fl), .int (nI lo)])), (a1, .inl (G.2.1, 256, .inl (gn ow))), (a2, .inl (G.2.1, 256, .inl (gn he))), (a3, .inl (G.2.1, 8, .inl (gn co)))] H := hP
  have hD : va_D A [(h, .inr (1, [.ref a1, .ref a2, .ref a3, .int (nI pr), .int (nI tx), .int (nI sa), .int (nI fl), .int (nI lo)])), (a1, .inl (G.2.1, 256, .inl (gn ow))), (a2, .inl (G.2.1, 256, .inl (gn he))), (a3, .inl (G.2.1, 8, .inl (gn co)))] := hD
  refine gIcmp_lt (a := co pn) (b := pr * z * z) (tgt := 39) hx hb dX1_canSell_32 (by decide) (by omega) (by omega) (fun c32 => ?_) (fun c32 => ?_)
  · skip
    refine lv_iconst (v := nI 0) hx hb dX1_canSell_39 (by decide) ?_
    exact gRi F dX1_canSell_40 (gNarZ (by decide)) () (by first | exact (congrArg nI (if_pos ⟨c8.2, c18, c32⟩)).symm | (refine (congrArg nI (if_neg ?_)).symm; intro hh; exact c8 ⟨hq, hh.1⟩) | (refine (congrArg nI (if_neg ?_)).symm; intro hh; exact hh.2.1 c18) | (refine (congrArg nI (if_neg ?_)).symm; intro hh; exact absurd hh.2.2 (by omega))) hP hD hS (Nat.le_refl _) (Nat.le_refl _)
  refine lv_iconst (v := nI 1) hx hb dX1_canSell_35 (by decide) ?_
  refine lv_goto (tgt := 40) hx hb dX1_canSell_36 (by decide) ?_
  exact gRi F dX1_canSell_40 (gNarZ (by decide)) () (by first | exact (congrArg nI (if_pos ⟨c8.2, c18, c32⟩)).symm | (refine (congrArg nI (if_neg ?_)).symm; intro hh; exact c8 ⟨hq, hh.1⟩) | (refine (congrArg nI (if_neg ?_)).symm; intro hh; exact hh.2.1 c18) | (refine (congrArg nI (if_neg ?_)).symm; intro hh; exact absurd hh.2.2 (by omega))) hP hD hS (Nat.le_refl _) (Nat.le_refl _)

set_option maxHeartbeats 4000000 in
set_option maxRecDepth 100000 in
theorem c_X1_pay (l : Launch) (G : gG) (h : Nat) (a1 : Nat) (a2 : Nat) (a3 : Nat) (ow : Nat → Nat) (he : Nat → Nat) (co : Nat → Nat) (pr : Nat) (tx : Nat) (sa : Nat) (fl : Nat) (lo : Nat) (a : Nat) (b : Nat) (v : Nat) (ha : a < 8) (hb2 : b < 8) (hv : v ≤ co a) : gMv (S := Unit) l yX1_pay wsX1_pay { frames := 1, cells := 0, slots := 0, locals := 20 } G [.ref h, .int (nI a), .int (nI b), .int (nI v)] [(h, .inr (1, [.ref a1, .ref a2, .ref a3, .int (nI pr), .int (nI tx), .int (nI sa), .int (nI fl), .int (nI lo)])), (a1, .inl (G.2.1, 256, .inl (gn ow))), (a2, .inl (G.2.1, 256, .inl (gn he))), (a3, .inl (G.2.1, 8, .inl (gn co)))] (fun (u : Unit) => True) (fun u => [(h, .inr (1, [.ref a1, .ref a2, .ref a3, .int (nI pr), .int (nI tx), .int (nI sa), .int (nI fl), .int (nI lo)])), (a1, .inl (G.2.1, 256, .inl (gn ow))), (a2, .inl (G.2.1, 256, .inl (gn he))), (a3, .inl (G.2.1, 8, .inl (gn (payC co a b v))))]) 0 0 := by
  refine gMet_mk (cc := cX1_pay) (nL := 4) (ret := none) (Qc := fun A => va_Qv (S := Unit) (fun (u : Unit) => True) (gB G A (fun u => [(h, .inr (1, [.ref a1, .ref a2, .ref a3, .int (nI pr), .int (nI tx), .int (nI sa), .int (nI fl), .int (nI lo)])), (a1, .inl (G.2.1, 256, .inl (gn ow))), (a2, .inl (G.2.1, 256, .inl (gn he))), (a3, .inl (G.2.1, 8, .inl (gn (payC co a b v))))])) A) (by decide) rfl (Nat.le_of_ble_eq_true rfl) ?_
  intro p e s m args below meth c A F ls hl hP hD hS
  have hx := F.1
  have hb := F.2.1
  have hts := F.2.2.2.2.2.2.1
  have hown : s.vm.findClass RX1 = some m.cls := F.2.2.2.2.2.1
  have hKK := F.2.2.2.2.2.2.2.2.1
  have hK := hKK.1
  have hin0 := F.2.2.2.2.2.2.2.1
  have hi1 : ∀ w ∈ u_ws RX1 TX1 8, w ∈ wsX1_pay := by decide +kernel
  have hl : lv_has ls 4 [(0, .ref h), (1, .int (nI a)), (2, .int (nI b)), (3, .int (nI v))] := hl
  generalize hH : s.heap = H at hP ⊢
  have hS : va_S A s.heap H [] := by rw [← hH]; exact va_S.rf
  generalize hLo : ([] : List Loc) = locs at hS ⊢
  refine lv_iload_n hx hb dX1_pay_0 rfl (lv_at hl 1 rfl) ?_
  refine W.eq (g2 := F0 m 1 ls [.int (zI ((a : Nat) : Int))]) (by simp only [zI_nat, zI_neg1]) ?_
  refine gCi F (gRunSN (own := RX1) (host := RX3) (bytes := cX3_isOwner) (n := 1) (As := [.int (zI ((a : Nat) : Int))]) (rest := []) F (c_X3_isOwner l G ((a : Nat) : Int) (by first | assumption | omega) H.size) gX1_pay_X3_isOwner_n53 (by decide +kernel) (by decide +kernel) (by decide +kernel) rfl rfl rfl rfl (by decide +kernel) rfl ⟨Nat.le_of_ble_eq_true rfl, Nat.le_of_ble_eq_true rfl⟩ hP hD (lit := [(h, .inr (1, [.ref a1, .ref a2, .ref a3, .int (nI pr), .int (nI tx), .int (nI sa), .int (nI fl), .int (nI lo)])), (a1, .inl (G.2.1, 256, .inl (gn ow))), (a2, .inl (G.2.1, 256, .inl (gn he))), (a3, .inl (G.2.1, 8, .inl (gn co)))]) (wt := []) (wc := []) (isC := []) rfl (by decide) rfl hl.1 (Nat.le_of_ble_eq_true rfl) dX1_pay_1 ⟨Nat.le_of_ble_eq_true rfl, Nat.le_of_ble_eq_true rfl⟩) hP hD hS (lit := [(h, .inr (1, [.ref a1, .ref a2, .ref a3, .int (nI pr), .int (nI tx), .int (nI sa), .int (nI fl), .int (nI lo)])), (a1, .inl (G.2.1, 256, .inl (gn ow))), (a2, .inl (G.2.1, 256, .inl (gn he))), (a3, .inl (G.2.1, 8, .inl (gn co)))]) (wt := []) (wc := []) (wr := [(h, .inr (1, [.ref a1, .ref a2, .ref a3, .int (nI pr), .int (nI tx), .int (nI sa), .int (nI fl), .int (nI lo)])), (a1, .inl (G.2.1, 256, .inl (gn ow))), (a2, .inl (G.2.1, 256, .inl (gn he))), (a3, .inl (G.2.1, 8, .inl (gn co)))]) (isC := []) (isR := [0, 1, 2, 3]) rfl rfl (by decide) (by decide) (fun r1 u H locs hp1 hP hD hS => ?_)
  subst hp1
  have hP : va_P G.1 vwCl [(h, .inr (1, [.ref a1, .ref a2, .ref a3, .int (nI pr), .int (nI tx), .int (nI sa), .int (nI fl), .int (nI lo)])), (a1, .inl (G.2.1, 256, .inl (gn ow))), (a2, .inl (G.2.1, 256, .inl (gn he))), (a3, .inl (G.2.1, 8, .inl (gn co)))] H := hP
  have hD : va_D A [(h, .inr (1, [.ref a1, .ref a2, .ref a3, .int (nI pr), .int (nI tx), .int (nI sa), .int (nI fl), .int (nI lo)])), (a1, .inl (G.2.1, 256, .inl (gn ow))), (a2, .inl (G.2.1, 256, .inl (gn he))), (a3, .inl (G.2.1, 8, .inl (gn co)))] := hD
  refine gIfB_eq (P := (0 ≤ ((a : Nat) : Int) ∧ ((a : Nat) : Int) < 8)) (tgt := 34) hx hb dX1_pay_4 (by decide) (fun c4 => ?_) (fun c4 => ?_)
  · skip
    exfalso; omega
  refine lv_iload_n hx hb dX1_pay_7 rfl (lv_at hl 2 rfl) ?_
  refine W.eq (g2 := F0 m 8 ls [.int (zI ((b : Nat) : Int))]) (by simp only [zI_nat, zI_neg1]) ?_
  refine gCi F (gRunSN (own := RX1) (host := RX3) (bytes := cX3_isOwner) (n := 1) (As := [.int (zI ((b : Nat) : Int))]) (rest := []) F (c_X3_isOwner l G ((b : Nat) : Int) (by first | assumption | omega) H.size) gX1_pay_X3_isOwner_n53 (by decide +kernel) (by decide +kernel) (by decide +kernel) rfl rfl rfl rfl (by decide +kernel) rfl ⟨Nat.le_of_ble_eq_true rfl, Nat.le_of_ble_eq_true rfl⟩ hP hD (lit := [(h, .inr (1, [.ref a1, .ref a2, .ref a3, .int (nI pr), .int (nI tx), .int (nI sa), .int (nI fl), .int (nI lo)])), (a1, .inl (G.2.1, 256, .inl (gn ow))), (a2, .inl (G.2.1, 256, .inl (gn he))), (a3, .inl (G.2.1, 8, .inl (gn co)))]) (wt := []) (wc := []) (isC := []) rfl (by decide) rfl hl.1 (Nat.le_of_ble_eq_true rfl) dX1_pay_8 ⟨Nat.le_of_ble_eq_true rfl, Nat.le_of_ble_eq_true rfl⟩) hP hD hS (lit := [(h, .inr (1, [.ref a1, .ref a2, .ref a3, .int (nI pr), .int (nI tx), .int (nI sa), .int (nI fl), .int (nI lo)])), (a1, .inl (G.2.1, 256, .inl (gn ow))), (a2, .inl (G.2.1, 256, .inl (gn he))), (a3, .inl (G.2.1, 8, .inl (gn co)))]) (wt := []) (wc := []) (wr := [(h, .inr (1, [.ref a1, .ref a2, .ref a3, .int (nI pr), .int (nI tx), .int (nI sa), .int (nI fl), .int (nI lo)])), (a1, .inl (G.2.1, 256, .inl (gn ow))), (a2, .inl (G.2.1, 256, .inl (gn he))), (a3, .inl (G.2.1, 8, .inl (gn co)))]) (isC := []) (isR := [0, 1, 2, 3]) rfl rfl (by decide) (by decide) (fun r8 u H locs hp8 hP hD hS => ?_)
  subst hp8
  have hP : va_P G.1 vwCl [(h, .inr (1, [.ref a1, .ref a2, .ref a3, .int (nI pr), .int (nI tx), .int (nI sa), .int (nI fl), .int (nI lo)])), (a1, .inl (G.2.1, 256, .inl (gn ow))), (a2, .inl (G.2.1, 256, .inl (gn he))), (a3, .inl (G.2.1, 8, .inl (gn co)))] H := hP
  have hD : va_D A [(h, .inr (1, [.ref a1, .ref a2, .ref a3, .int (nI pr), .int (nI tx), .int (nI sa), .int (nI fl), .int (nI lo)])), (a1, .inl (G.2.1, 256, .inl (gn ow))), (a2, .inl (G.2.1, 256, .inl (gn he))), (a3, .inl (G.2.1, 8, .inl (gn co)))] := hD
  refine gIfB_eq (P := (0 ≤ ((b : Nat) : Int) ∧ ((b : Nat) : Int) < 8)) (tgt := 34) hx hb dX1_pay_11 (by decide) (fun c11 => ?_) (fun c11 => ?_)
  · skip
    exfalso; omega
  refine lv_aload_n hx hb dX1_pay_14 rfl (lv_at hl 0 rfl) ?_
  refine va_get (D := G.1) (ci := 1) (v := .ref a3) (C := RX1) (T := TX1) (N := 8) hx hb hts hi1 hown hK hP 0 rfl rfl 2 (by decide) (hts (.fieldLink RX1 18 "LandQuarters$Land" "coins" "[I") (by decide +kernel)) (fun _ h9 => h9) rfl dX1_pay_15 ?_
  refine lv_iload_n hx hb dX1_pay_18 rfl (lv_at hl 1 rfl) ?_
  refine lv_dup2_11 hx hb dX1_pay_19 rfl rfl ?_
  refine gNald (k := a) hx hb hK hP 3 0 rfl rfl (by omega) (by first | decide | omega) dX1_pay_20 ?_
  refine lv_iload_n hx hb dX1_pay_21 rfl (lv_at hl 3 rfl) ?_
  refine gIsub (a := co a) (b := v) hx hb dX1_pay_22 (by omega) ?_
  refine gNast (k := a) (v := (co a) - v) hx hb hK hP hD hS 3 0 rfl rfl (by omega) (by first | decide | omega) dX1_pay_23 (fun H locs hP hD hS => ?_)
  have hP : va_P G.1 vwCl [(h, .inr (1, [.ref a1, .ref a2, .ref a3, .int (nI pr), .int (nI tx), .int (nI sa), .int (nI fl), .int (nI lo)])), (a1, .inl (G.2.1, 256, .inl (gn ow))), (a2, .inl (G.2.1, 256, .inl (gn he))), (a3, .inl (G.2.1, 8, .inl (gn (va_up co a ((co a) - v)))))] H := hP
  have hD : va_D A [(h, .inr (1, [.ref a1, .ref a2, .ref a3, .int (nI pr), .int (nI tx), .int (nI sa), .int (nI fl), .int (nI lo)])), (a1, .inl (G.2.1, 256, .inl (gn ow))), (a2, .inl (G.2.1, 256, .inl (gn he))), (a3, .inl (G.2.1, 8, .inl (gn (va_up co a ((co a) - v)))))] := hD
  refine lv_aload_n hx hb dX1_pay_24 rfl (lv_at hl 0 rfl) ?_
  refine va_get (D := G.1) (ci := 1) (v := .ref a3) (C := RX1) (T := TX1) (N := 8) hx hb hts hi1 hown hK hP 0 rfl rfl 2 (by decide) (hts (.fieldLink RX1 18 "LandQuarters$Land" "coins" "[I") (by decide +kernel)) (fun _ h9 => h9) rfl dX1_pay_25 ?_
  refine lv_iload_n hx hb dX1_pay_28 rfl (lv_at hl 2 rfl) ?_
  refine lv_dup2_11 hx hb dX1_pay_29 rfl rfl ?_
  refine gNald (k := b) hx hb hK hP 3 0 rfl rfl (by omega) (by first | decide | omega) dX1_pay_30 ?_
  refine lv_iload_n hx hb dX1_pay_31 rfl (lv_at hl 3 rfl) ?_
  refine gIadd (a := (va_up co a ((co a) - v)) b) (b := v) hx hb dX1_pay_32 ?_
  refine gNast (k := b) (v := (va_up co a ((co a) - v)) b + v) hx hb hK hP hD hS 3 0 rfl rfl (by omega) (by first | decide | omega) dX1_pay_33 (fun H locs hP hD hS => ?_)
  have hP : va_P G.1 vwCl [(h, .inr (1, [.ref a1, .ref a2, .ref a3, .int (nI pr), .int (nI tx), .int (nI sa), .int (nI fl), .int (nI lo)])), (a1, .inl (G.2.1, 256, .inl (gn ow))), (a2, .inl (G.2.1, 256, .inl (gn he))), (a3, .inl (G.2.1, 8, .inl (gn (va_up (va_up co a ((co a) - v)) b ((va_up co a ((co a) - v)) b + v)))))] H := hP
  have hD : va_D A [(h, .inr (1, [.ref a1, .ref a2, .ref a3, .int (nI pr), .int (nI tx), .int (nI sa), .int (nI fl), .int (nI lo)])), (a1, .inl (G.2.1, 256, .inl (gn ow))), (a2, .inl (G.2.1, 256, .inl (gn he))), (a3, .inl (G.2.1, 8, .inl (gn (va_up (va_up co a ((co a) - v)) b ((va_up co a ((co a) - v)) b + v)))))] := hD
  have hP := gEqN (q0 := 3) (f := va_up (va_up co a ((co a) - v)) b ((va_up co a ((co a) - v)) b + v)) (g := payC co a b v) rfl (by intro j hj; rfl) hP
  have hD := va_D.set (p := 3) (e := .inl (G.2.1, 8, .inl (gn (payC co a b v)))) hD rfl
  have hP : va_P G.1 vwCl [(h, .inr (1, [.ref a1, .ref a2, .ref a3, .int (nI pr), .int (nI tx), .int (nI sa), .int (nI fl), .int (nI lo)])), (a1, .inl (G.2.1, 256, .inl (gn ow))), (a2, .inl (G.2.1, 256, .inl (gn he))), (a3, .inl (G.2.1, 8, .inl (gn (payC co a b v))))] H := hP
  have hD : va_D A [(h, .inr (1, [.ref a1, .ref a2, .ref a3, .int (nI pr), .int (nI tx), .int (nI sa), .int (nI fl), .int (nI lo)])), (a1, .inl (G.2.1, 256, .inl (gn ow))), (a2, .inl (G.2.1, 256, .inl (gn he))), (a3, .inl (G.2.1, 8, .inl (gn (payC co a b v))))] := hD
  exact gRv F dX1_pay_34 () (trivial) hP hD hS (Nat.le_refl _) (Nat.le_refl _)

set_option maxHeartbeats 4000000 in
set_option maxRecDepth 100000 in
theorem c_X1_sell (l : Launch) (G : gG) (h : Nat) (a1 : Nat) (a2 : Nat) (a3 : Nat) (ow : Nat → Nat) (he : Nat → Nat) (co : Nat → Nat) (pr : Nat) (tx : Nat) (sa : Nat) (fl : Nat) (lo : Nat) (pn : Nat) (x : Nat) (y : Nat) (z : Nat) (hw : ∀ k, ow k < 8) (hq : sqN x y z) (hp : pn < 8) (hcs : pr * z * z ≤ co pn) : gMi (S := Unit) l yX1_sell wsX1_sell { frames := 2, cells := 0, slots := 0, locals := 51 } G [.ref h, .int (nI pn), .int (nI x), .int (nI y), .int (nI z)] [(h, .inr (1, [.ref a1, .ref a2, .ref a3, .int (nI pr), .int (nI tx), .int (nI sa), .int (nI fl), .int (nI lo)])), (a1, .inl (G.2.1, 256, .inl (gn ow))), (a2, .inl (G.2.1, 256, .inl (gn he))), (a3, .inl (G.2.1, 8, .inl (gn co)))] (fun (r : Int32) (u : Unit) => (r = nI (pr * z * z))) (fun u => [(h, .inr (1, [.ref a1, .ref a2, .ref a3, .int (nI pr), .int (nI tx), .int (nI (sa + 1)), .int (nI fl), .int (nI lo)])), (a1, .inl (G.2.1, 256, .inl (gn (gvOw ow x y z pn)))), (a2, .inl (G.2.1, 256, .inl (gn he))), (a3, .inl (G.2.1, 8, .inl (gn (payC co pn (ow (y * 16 + x)) (pr * z * z)))))]) 0 0 := by
  refine gMet_mk (cc := cX1_sell) (nL := 6) (ret := (some .int)) (Qc := fun A => va_Qi (S := Unit) (fun (r : Int32) (u : Unit) => (r = nI (pr * z * z))) (gB G A (fun u => [(h, .inr (1, [.ref a1, .ref a2, .ref a3, .int (nI pr), .int (nI tx), .int (nI (sa + 1)), .int (nI fl), .int (nI lo)])), (a1, .inl (G.2.1, 256, .inl (gn (gvOw ow x y z pn)))), (a2, .inl (G.2.1, 256, .inl (gn he))), (a3, .inl (G.2.1, 8, .inl (gn (payC co pn (ow (y * 16 + x)) (pr * z * z)))))])) A) (by decide) rfl (Nat.le_of_ble_eq_true rfl) ?_
  intro p e s m args below meth c A F ls hl hP hD hS
  have hx := F.1
  have hb := F.2.1
  have hts := F.2.2.2.2.2.2.1
  have hown : s.vm.findClass RX1 = some m.cls := F.2.2.2.2.2.1
  have hKK := F.2.2.2.2.2.2.2.2.1
  have hK := hKK.1
  have hin0 := F.2.2.2.2.2.2.2.1
  have hi1 : ∀ w ∈ u_ws RX1 TX1 8, w ∈ wsX1_sell := by decide +kernel
  have hl : lv_has ls 6 [(0, .ref h), (1, .int (nI pn)), (2, .int (nI x)), (3, .int (nI y)), (4, .int (nI z))] := hl
  have hq1 := sq_le hq
  have hq2 := sq_cast hq
  generalize hH : s.heap = H at hP ⊢
  have hS : va_S A s.heap H [] := by rw [← hH]; exact va_S.rf
  generalize hLo : ([] : List Loc) = locs at hS ⊢
  refine lv_aload_n hx hb dX1_sell_0 rfl (lv_at hl 0 rfl) ?_
  refine lv_iload hx hb dX1_sell_1 (lv_at hl 4 rfl) ?_
  refine gCi F (gRunV (own := RX1) (C := RX1) (ci := 1) (bytes := cX1_costOf) (n := 1) (As := [.int (nI z)]) (rest := []) F (c_X1_costOf l G h a1 a2 a3 ow he co pr tx sa fl lo z  H.size) gX1_sell_X1_costOf rfl rfl rfl rfl (by decide +kernel) rfl ⟨Nat.le_of_ble_eq_true rfl, Nat.le_of_ble_eq_true rfl⟩ hP hD (lit := [(h, .inr (1, [.ref a1, .ref a2, .ref a3, .int (nI pr), .int (nI tx), .int (nI sa), .int (nI fl), .int (nI lo)])), (a1, .inl (G.2.1, 256, .inl (gn ow))), (a2, .inl (G.2.1, 256, .inl (gn he))), (a3, .inl (G.2.1, 8, .inl (gn co)))]) (wt := []) (wc := [(h, .inr (1, [.ref a1, .ref a2, .ref a3, .int (nI pr), .int (nI tx), .int (nI sa), .int (nI fl), .int (nI lo)])), (a1, .inl (G.2.1, 256, .inl (gn ow))), (a2, .inl (G.2.1, 256, .inl (gn he))), (a3, .inl (G.2.1, 8, .inl (gn co)))]) (isC := [0, 1, 2, 3]) rfl (by decide) rfl rfl rfl hl.1 (Nat.le_of_ble_eq_true rfl) dX1_sell_3 ⟨Nat.le_of_ble_eq_true rfl, Nat.le_of_ble_eq_true rfl⟩) hP hD hS (lit := [(h, .inr (1, [.ref a1, .ref a2, .ref a3, .int (nI pr), .int (nI tx), .int (nI sa), .int (nI fl), .int (nI lo)])), (a1, .inl (G.2.1, 256, .inl (gn ow))), (a2, .inl (G.2.1, 256, .inl (gn he))), (a3, .inl (G.2.1, 8, .inl (gn co)))]) (wt := []) (wc := [(h, .inr (1, [.ref a1, .ref a2, .ref a3, .int (nI pr), .int (nI tx), .int (nI sa), .int (nI fl), .int (nI lo)])), (a1, .inl (G.2.1, 256, .inl (gn ow))), (a2, .inl (G.2.1, 256, .inl (gn he))), (a3, .inl (G.2.1, 8, .inl (gn co)))]) (wr := []) (isC := [0, 1, 2, 3]) (isR := []) rfl rfl (by decide) (by decide) (fun r3 u H locs hp3 hP hD hS => ?_)
  subst hp3
  have hP : va_P G.1 vwCl [(h, .inr (1, [.ref a1, .ref a2, .ref a3, .int (nI pr), .int (nI tx), .int (nI sa), .int (nI fl), .int (nI lo)])), (a1, .inl (G.2.1, 256, .inl (gn ow))), (a2, .inl (G.2.1, 256, .inl (gn he))), (a3, .inl (G.2.1, 8, .inl (gn co)))] H := hP
  have hD : va_D A [(h, .inr (1, [.ref a1, .ref a2, .ref a3, .int (nI pr), .int (nI tx), .int (nI sa), .int (nI fl), .int (nI lo)])), (a1, .inl (G.2.1, 256, .inl (gn ow))), (a2, .inl (G.2.1, 256, .inl (gn he))), (a3, .inl (G.2.1, 8, .inl (gn co)))] := hD
  refine lv_istore (lv' := [(5, .int (nI (pr * z * z))), (0, .ref h), (1, .int (nI pn)), (2, .int (nI x)), (3, .int (nI y)), (4, .int (nI z))]) hx hb dX1_sell_6 hl (by decide) rfl (fun ls hl => ?_)
  refine lv_aload_n hx hb dX1_sell_8 rfl (lv_at hl 1 rfl) ?_
  refine lv_iload_n hx hb dX1_sell_9 rfl (lv_at hl 2 rfl) ?_
  refine lv_aload_n hx hb dX1_sell_10 rfl (lv_at hl 1 rfl) ?_
  refine lv_iload_n hx hb dX1_sell_11 rfl (lv_at hl 3 rfl) ?_
  refine lv_iload_n hx hb dX1_sell_12 rfl (lv_at hl 4 rfl) ?_
  refine gCi F (gRunV (own := RX1) (C := RX1) (ci := 1) (bytes := cX1_ownerOf) (n := 2) (As := [.int (nI x), .int (nI y)]) (rest := [.int (nI pn), .ref h]) F (c_ownerOf_n l G h a1 a2 a3 ow he co pr tx sa fl lo x y (by first | assumption | omega) (by first | assumption | omega) H.size) gX1_sell_X1_ownerOf rfl rfl rfl rfl (by decide +kernel) rfl ⟨Nat.le_of_ble_eq_true rfl, Nat.le_of_ble_eq_true rfl⟩ hP hD (lit := [(h, .inr (1, [.ref a1, .ref a2, .ref a3, .int (nI pr), .int (nI tx), .int (nI sa), .int (nI fl), .int (nI lo)])), (a1, .inl (G.2.1, 256, .inl (gn ow))), (a2, .inl (G.2.1, 256, .inl (gn he))), (a3, .inl (G.2.1, 8, .inl (gn co)))]) (wt := []) (wc := [(h, .inr (1, [.ref a1, .ref a2, .ref a3, .int (nI pr), .int (nI tx), .int (nI sa), .int (nI fl), .int (nI lo)])), (a1, .inl (G.2.1, 256, .inl (gn ow))), (a2, .inl (G.2.1, 256, .inl (gn he))), (a3, .inl (G.2.1, 8, .inl (gn co)))]) (isC := [0, 1, 2, 3]) rfl (by decide) rfl rfl rfl hl.1 (Nat.le_of_ble_eq_true rfl) dX1_sell_13 ⟨Nat.le_of_ble_eq_true rfl, Nat.le_of_ble_eq_true rfl⟩) hP hD hS (lit := [(h, .inr (1, [.ref a1, .ref a2, .ref a3, .int (nI pr), .int (nI tx), .int (nI sa), .int (nI fl), .int (nI lo)])), (a1, .inl (G.2.1, 256, .inl (gn ow))), (a2, .inl (G.2.1, 256, .inl (gn he))), (a3, .inl (G.2.1, 8, .inl (gn co)))]) (wt := []) (wc := [(h, .inr (1, [.ref a1, .ref a2, .ref a3, .int (nI pr), .int (nI tx), .int (nI sa), .int (nI fl), .int (nI lo)])), (a1, .inl (G.2.1, 256, .inl (gn ow))), (a2, .inl (G.2.1, 256, .inl (gn he))), (a3, .inl (G.2.1, 8, .inl (gn co)))]) (wr := []) (isC := [0, 1, 2, 3]) (isR := []) rfl rfl (by decide) (by decide) (fun r13 u H locs hp13 hP hD hS => ?_)
  subst hp13
  have hP : va_P G.1 vwCl [(h, .inr (1, [.ref a1, .ref a2, .ref a3, .int (nI pr), .int (nI tx), .int (nI sa), .int (nI fl), .int (nI lo)])), (a1, .inl (G.2.1, 256, .inl (gn ow))), (a2, .inl (G.2.1, 256, .inl (gn he))), (a3, .inl (G.2.1, 8, .inl (gn co)))] H := hP
  have hD : va_D A [(h, .inr (1, [.ref a1, .ref a2, .ref a3, .int (nI pr), .int (nI tx), .int (nI sa), .int (nI fl), .int (nI lo)])), (a1, .inl (G.2.1, 256, .inl (gn ow))), (a2, .inl (G.2.1, 256, .inl (gn he))), (a3, .inl (G.2.1, 8, .inl (gn co)))] := hD
  refine lv_iload hx hb dX1_sell_16 (lv_at hl 0 rfl) ?_
  refine gCv F (gRunV (own := RX1) (C := RX1) (ci := 1) (bytes := cX1_pay) (n := 3) (As := [.int (nI pn), .int (nI (ow (y * 16 + x))), .int (nI (pr * z * z))]) (rest := []) F (c_X1_pay l G h a1 a2 a3 ow he co pr tx sa fl lo pn (ow (y * 16 + x)) (pr * z * z) (by first | assumption | omega) (hw _) (by first | assumption | omega) H.size) gX1_sell_X1_pay rfl rfl rfl rfl (by decide +kernel) rfl ⟨Nat.le_of_ble_eq_true rfl, Nat.le_of_ble_eq_true rfl⟩ hP hD (lit := [(h, .inr (1, [.ref a1, .ref a2, .ref a3, .int (nI pr), .int (nI tx), .int (nI sa), .int (nI fl), .int (nI lo)])), (a1, .inl (G.2.1, 256, .inl (gn ow))), (a2, .inl (G.2.1, 256, .inl (gn he))), (a3, .inl (G.2.1, 8, .inl (gn co)))]) (wt := []) (wc := [(h, .inr (1, [.ref a1, .ref a2, .ref a3, .int (nI pr), .int (nI tx), .int (nI sa), .int (nI fl), .int (nI lo)])), (a1, .inl (G.2.1, 256, .inl (gn ow))), (a2, .inl (G.2.1, 256, .inl (gn he))), (a3, .inl (G.2.1, 8, .inl (gn co)))]) (isC := [0, 1, 2, 3]) rfl (by decide) rfl rfl rfl hl.1 (Nat.le_of_ble_eq_true rfl) dX1_sell_18 ⟨Nat.le_of_ble_eq_true rfl, Nat.le_of_ble_eq_true rfl⟩) hP hD hS (lit := [(h, .inr (1, [.ref a1, .ref a2, .ref a3, .int (nI pr), .int (nI tx), .int (nI sa), .int (nI fl), .int (nI lo)])), (a1, .inl (G.2.1, 256, .inl (gn ow))), (a2, .inl (G.2.1, 256, .inl (gn he))), (a3, .inl (G.2.1, 8, .inl (gn co)))]) (wt := []) (wc := [(h, .inr (1, [.ref a1, .ref a2, .ref a3, .int (nI pr), .int (nI tx), .int (nI sa), .int (nI fl), .int (nI lo)])), (a1, .inl (G.2.1, 256, .inl (gn ow))), (a2, .inl (G.2.1, 256, .inl (gn he))), (a3, .inl (G.2.1, 8, .inl (gn co)))]) (wr := []) (isC := [0, 1, 2, 3]) (isR := []) rfl rfl (by decide) (by decide) (fun u H locs hp18 hP hD hS => ?_)
  have hP : va_P G.1 vwCl [(h, .inr (1, [.ref a1, .ref a2, .ref a3, .int (nI pr), .int (nI tx), .int (nI sa), .int (nI fl), .int (nI lo)])), (a1, .inl (G.2.1, 256, .inl (gn ow))), (a2, .inl (G.2.1, 256, .inl (gn he))), (a3, .inl (G.2.1, 8, .inl (gn (payC co pn (ow (y * 16 + x)) (pr * z * z)))))] H := hP
  have hD : va_D A [(h, .inr (1, [.ref a1, .ref a2, .ref a3, .int (nI pr), .int (nI tx), .int (nI sa), .int (nI fl), .int (nI lo)])), (a1, .inl (G.2.1, 256, .inl (gn ow))), (a2, .inl (G.2.1, 256, .inl (gn he))), (a3, .inl (G.2.1, 8, .inl (gn (payC co pn (ow (y * 16 + x)) (pr * z * z)))))] := hD
  refine lv_aload_n hx hb dX1_sell_21 rfl (lv_at hl 1 rfl) ?_
  refine lv_iload_n hx hb dX1_sell_22 rfl (lv_at hl 3 rfl) ?_
  refine lv_iload_n hx hb dX1_sell_23 rfl (lv_at hl 4 rfl) ?_
  refine lv_iload hx hb dX1_sell_24 (lv_at hl 5 rfl) ?_
  refine lv_iload_n hx hb dX1_sell_26 rfl (lv_at hl 2 rfl) ?_
  refine gCi F (gRunV (own := RX1) (C := RX1) (ci := 1) (bytes := cX1_give) (n := 4) (As := [.int (nI x), .int (nI y), .int (nI z), .int (nI pn)]) (rest := []) F (c_X1_give l G h a1 a2 a3 ow he (payC co pn (ow (y * 16 + x)) (pr * z * z)) pr tx sa fl lo x y z pn (by first | assumption | omega) (by first | assumption | omega) (by first | assumption | omega) H.size) gX1_sell_X1_give rfl rfl rfl rfl (by decide +kernel) rfl ⟨Nat.le_of_ble_eq_true rfl, Nat.le_of_ble_eq_true rfl⟩ hP hD (lit := [(h, .inr (1, [.ref a1, .ref a2, .ref a3, .int (nI pr), .int (nI tx), .int (nI sa), .int (nI fl), .int (nI lo)])), (a1, .inl (G.2.1, 256, .inl (gn ow))), (a2, .inl (G.2.1, 256, .inl (gn he))), (a3, .inl (G.2.1, 8, .inl (gn (payC co pn (ow (y * 16 + x)) (pr * z * z)))))]) (wt := []) (wc := [(h, .inr (1, [.ref a1, .ref a2, .ref a3, .int (nI pr), .int (nI tx), .int (nI sa), .int (nI fl), .int (nI lo)])), (a1, .inl (G.2.1, 256, .inl (gn ow))), (a2, .inl (G.2.1, 256, .inl (gn he))), (a3, .inl (G.2.1, 8, .inl (gn (payC co pn (ow (y * 16 + x)) (pr * z * z)))))]) (isC := [0, 1, 2, 3]) rfl (by decide) rfl rfl rfl hl.1 (Nat.le_of_ble_eq_true rfl) dX1_sell_27 ⟨Nat.le_of_ble_eq_true rfl, Nat.le_of_ble_eq_true rfl⟩) hP hD hS (lit := [(h, .inr (1, [.ref a1, .ref a2, .ref a3, .int (nI pr), .int (nI tx), .int (nI sa), .int (nI fl), .int (nI lo)])), (a1, .inl (G.2.1, 256, .inl (gn ow))), (a2, .inl (G.2.1, 256, .inl (gn he))), (a3, .inl (G.2.1, 8, .inl (gn (payC co pn (ow (y * 16 + x)) (pr * z * z)))))]) (wt := []) (wc := [(h, .inr (1, [.ref a1, .ref a2, .ref a3, .int (nI pr), .int (nI tx), .int (nI sa), .int (nI fl), .int (nI lo)])), (a1, .inl (G.2.1, 256, .inl (gn ow))), (a2, .inl (G.2.1, 256, .inl (gn he))), (a3, .inl (G.2.1, 8, .inl (gn (payC co pn (ow (y * 16 + x)) (pr * z * z)))))]) (wr := []) (isC := [0, 1, 2, 3]) (isR := []) rfl rfl (by decide) (by decide) (fun r27 u H locs hp27 hP hD hS => ?_)
  subst hp27
  have hP : va_P G.1 vwCl [(h, .inr (1, [.ref a1, .ref a2, .ref a3, .int (nI pr), .int (nI tx), .int (nI sa), .int (nI fl), .int (nI lo)])), (a1, .inl (G.2.1, 256, .inl (gn (gvOw ow x y z pn)))), (a2, .inl (G.2.1, 256, .inl (gn he))), (a3, .inl (G.2.1, 8, .inl (gn (payC co pn (ow (y * 16 + x)) (pr * z * z)))))] H := hP
  have hD : va_D A [(h, .inr (1, [.ref a1, .ref a2, .ref a3, .int (nI pr), .int (nI tx), .int (nI sa), .int (nI fl), .int (nI lo)])), (a1, .inl (G.2.1, 256, .inl (gn (gvOw ow x y z pn)))), (a2, .inl (G.2.1, 256, .inl (gn he))), (a3, .inl (G.2.1, 8, .inl (gn (payC co pn (ow (y * 16 + x)) (pr * z * z)))))] := hD
  refine lv_pop hx hb dX1_sell_30 rfl ?_
  refine lv_aload_n hx hb dX1_sell_31 rfl (lv_at hl 1 rfl) ?_
  refine lv_dup hx hb dX1_sell_32 rfl ?_
  refine va_get (D := G.1) (ci := 1) (v := .int (nI sa)) (C := RX1) (T := TX1) (N := 8) hx hb hts hi1 hown hK hP 0 rfl rfl 5 (by decide) (hts (.fieldLink RX1 28 "LandQuarters$Land" "salesSoFar" "I") (by decide +kernel)) (fun _ h9 => h9) rfl dX1_sell_33 ?_
  refine lv_iconst (v := nI 1) hx hb dX1_sell_36 (by decide) ?_
  refine gIadd (a := sa) (b := 1) hx hb dX1_sell_37 ?_
  refine va_put (D := G.1) (ci := 1) (v := .int (nI (sa + 1))) (ty := .int) (C := RX1) (T := TX1) (N := 8) hx hb hts hi1 tyX1 tyX1_ok nmX1 hown hK hP hD hS 0 rfl rfl 5 (by decide) (hts (.fieldLink RX1 28 "LandQuarters$Land" "salesSoFar" "I") (by decide +kernel)) (fun _ h9 => h9) rfl (by decide +kernel) (rfl) (rfl) (Nat.le_of_ble_eq_true rfl) dX1_sell_38 (fun H locs hP hD hS => ?_)
  have hP : va_P G.1 vwCl [(h, .inr (1, [.ref a1, .ref a2, .ref a3, .int (nI pr), .int (nI tx), .int (nI (sa + 1)), .int (nI fl), .int (nI lo)])), (a1, .inl (G.2.1, 256, .inl (gn (gvOw ow x y z pn)))), (a2, .inl (G.2.1, 256, .inl (gn he))), (a3, .inl (G.2.1, 8, .inl (gn (payC co pn (ow (y * 16 + x)) (pr * z * z)))))] H := hP
  have hD : va_D A [(h, .inr (1, [.ref a1, .ref a2, .ref a3, .int (nI pr), .int (nI tx), .int (nI (sa + 1)), .int (nI fl), .int (nI lo)])), (a1, .inl (G.2.1, 256, .inl (gn (gvOw ow x y z pn)))), (a2, .inl (G.2.1, 256, .inl (gn he))), (a3, .inl (G.2.1, 8, .inl (gn (payC co pn (ow (y * 16 + x)) (pr * z * z)))))] := hD
  refine lv_iload hx hb dX1_sell_41 (lv_at hl 0 rfl) ?_
  have hP := gEqN (q0 := 3) (f := (payC co pn (ow (y * 16 + x)) (pr * z * z))) (g := payC co pn (ow (y * 16 + x)) (pr * z * z)) rfl (by intro j hj; (try simp only [gu_if, ]); all_goals ((repeat' split) <;> first | rfl | omega)) hP
  have hD := va_D.set (p := 3) (e := .inl (G.2.1, 8, .inl (gn (payC co pn (ow (y * 16 + x)) (pr * z * z))))) hD rfl
  have hP : va_P G.1 vwCl [(h, .inr (1, [.ref a1, .ref a2, .ref a3, .int (nI pr), .int (nI tx), .int (nI (sa + 1)), .int (nI fl), .int (nI lo)])), (a1, .inl (G.2.1, 256, .inl (gn (gvOw ow x y z pn)))), (a2, .inl (G.2.1, 256, .inl (gn he))), (a3, .inl (G.2.1, 8, .inl (gn (payC co pn (ow (y * 16 + x)) (pr * z * z)))))] H := hP
  have hD : va_D A [(h, .inr (1, [.ref a1, .ref a2, .ref a3, .int (nI pr), .int (nI tx), .int (nI (sa + 1)), .int (nI fl), .int (nI lo)])), (a1, .inl (G.2.1, 256, .inl (gn (gvOw ow x y z pn)))), (a2, .inl (G.2.1, 256, .inl (gn he))), (a3, .inl (G.2.1, 8, .inl (gn (payC co pn (ow (y * 16 + x)) (pr * z * z)))))] := hD
  exact gRi F dX1_sell_43 (rfl) () (rfl) hP hD hS (Nat.le_refl _) (Nat.le_refl _)

set_option maxHeartbeats 4000000 in
set_option maxRecDepth 100000 in
theorem c_X1_sidesTo (l : Launch) (G : gG) (h : Nat) (a1 : Nat) (a2 : Nat) (a3 : Nat) (ow : Nat → Nat) (he : Nat → Nat) (co : Nat → Nat) (pr : Nat) (tx : Nat) (sa : Nat) (fl : Nat) (lo : Nat) (x : Nat) (y : Nat) (q : Nat) (hw : ∀ k, ow k < 8) (hx : x < 16) (hy : y < 16) (hq : q < 8) : gMi (S := Unit) l yX1_sidesTo wsX1_sidesTo { frames := 2, cells := 0, slots := 0, locals := 43 } G [.ref h, .int (zI (x : Int)), .int (zI (y : Int)), .int (nI q)] [(h, .inr (1, [.ref a1, .ref a2, .ref a3, .int (nI pr), .int (nI tx), .int (nI sa), .int (nI fl), .int (nI lo)])), (a1, .inl (G.2.1, 256, .inl (gn ow))), (a2, .inl (G.2.1, 256, .inl (gn he))), (a3, .inl (G.2.1, 8, .inl (gn co)))] (fun (r : Int32) (u : Unit) => (r = nI (sd ow x y q))) (fun u => [(h, .inr (1, [.ref a1, .ref a2, .ref a3, .int (nI pr), .int (nI tx), .int (nI sa), .int (nI fl), .int (nI lo)])), (a1, .inl (G.2.1, 256, .inl (gn ow))), (a2, .inl (G.2.1, 256, .inl (gn he))), (a3, .inl (G.2.1, 8, .inl (gn co)))]) 0 0 := by
  refine gMet_mk (cc := cX1_sidesTo) (nL := 5) (ret := (some .int)) (Qc := fun A => va_Qi (S := Unit) (fun (r : Int32) (u : Unit) => (r = nI (sd ow x y q))) (gB G A (fun u => [(h, .inr (1, [.ref a1, .ref a2, .ref a3, .int (nI pr), .int (nI tx), .int (nI sa), .int (nI fl), .int (nI lo)])), (a1, .inl (G.2.1, 256, .inl (gn ow))), (a2, .inl (G.2.1, 256, .inl (gn he))), (a3, .inl (G.2.1, 8, .inl (gn co)))])) A) (by decide) rfl (Nat.le_of_ble_eq_true rfl) ?_
  intro p e s m args below meth c A F ls hl hP hD hS
  have hx := F.1
  have hb := F.2.1
  have hts := F.2.2.2.2.2.2.1
  have hown : s.vm.findClass RX1 = some m.cls := F.2.2.2.2.2.1
  have hKK := F.2.2.2.2.2.2.2.2.1
  have hK := hKK.1
  have hin0 := F.2.2.2.2.2.2.2.1
  have hl : lv_has ls 5 [(0, .ref h), (1, .int (zI (x : Int))), (2, .int (zI (y : Int))), (3, .int (nI q))] := hl
  generalize hH : s.heap = H at hP ⊢
  have hS : va_S A s.heap H [] := by rw [← hH]; exact va_S.rf
  generalize hLo : ([] : List Loc) = locs at hS ⊢
  refine lv_iconst (v := nI 0) hx hb dX1_sidesTo_0 (by decide) ?_
  refine lv_istore (lv' := [(4, .int (nI 0)), (0, .ref h), (1, .int (zI (x : Int))), (2, .int (zI (y : Int))), (3, .int (nI q))]) hx hb dX1_sidesTo_1 hl (by decide) rfl (fun ls hl => ?_)
  refine lv_iload hx hb dX1_sidesTo_3 (lv_at hl 0 rfl) ?_
  refine lv_aload_n hx hb dX1_sidesTo_5 rfl (lv_at hl 1 rfl) ?_
  refine lv_iload_n hx hb dX1_sidesTo_6 rfl (lv_at hl 2 rfl) ?_
  refine lv_iload_n hx hb dX1_sidesTo_7 rfl (lv_at hl 3 rfl) ?_
  refine lv_iconst (v := nI 1) hx hb dX1_sidesTo_8 (by decide) ?_
  refine W.eq (g2 := F0 m 9 ls [.int (zI ((1 : Nat) : Int)), .int (zI (y : Int)), .int (zI (x : Int)), .ref h, .int (nI 0)]) (by simp only [zI_nat]) ?_
  refine gZsub (a := (y : Int)) (b := ((1 : Nat) : Int)) hx hb dX1_sidesTo_9 ?_
  refine W.eq (g2 := F0 m 10 ls [.int (zI (((y : Nat) : Int) - 1)), .int (zI (x : Int)), .ref h, .int (nI 0)]) (by rw [show (zI ((y : Int) - ((1 : Nat) : Int)) : Int32) = zI (((y : Nat) : Int) - 1) from by rfl]) ?_
  refine gCi F (gRunV (own := RX1) (C := RX1) (ci := 1) (bytes := cX1_ownerOf) (n := 2) (As := [.int (zI (x : Int)), .int (zI (((y : Nat) : Int) - 1))]) (rest := [.int (nI 0)]) F (c_ownerOf l G h a1 a2 a3 ow he co pr tx sa fl lo (x : Int) (((y : Nat) : Int) - 1) (by first | assumption | omega) (by first | assumption | omega) H.size) gX1_sidesTo_X1_ownerOf rfl rfl rfl rfl (by decide +kernel) rfl ⟨Nat.le_of_ble_eq_true rfl, Nat.le_of_ble_eq_true rfl⟩ hP hD (lit := [(h, .inr (1, [.ref a1, .ref a2, .ref a3, .int (nI pr), .int (nI tx), .int (nI sa), .int (nI fl), .int (nI lo)])), (a1, .inl (G.2.1, 256, .inl (gn ow))), (a2, .inl (G.2.1, 256, .inl (gn he))), (a3, .inl (G.2.1, 8, .inl (gn co)))]) (wt := []) (wc := [(h, .inr (1, [.ref a1, .ref a2, .ref a3, .int (nI pr), .int (nI tx), .int (nI sa), .int (nI fl), .int (nI lo)])), (a1, .inl (G.2.1, 256, .inl (gn ow))), (a2, .inl (G.2.1, 256, .inl (gn he))), (a3, .inl (G.2.1, 8, .inl (gn co)))]) (isC := [0, 1, 2, 3]) rfl (by decide) rfl rfl rfl hl.1 (Nat.le_of_ble_eq_true rfl) dX1_sidesTo_10 ⟨Nat.le_of_ble_eq_true rfl, Nat.le_of_ble_eq_true rfl⟩) hP hD hS (lit := [(h, .inr (1, [.ref a1, .ref a2, .ref a3, .int (nI pr), .int (nI tx), .int (nI sa), .int (nI fl), .int (nI lo)])), (a1, .inl (G.2.1, 256, .inl (gn ow))), (a2, .inl (G.2.1, 256, .inl (gn he))), (a3, .inl (G.2.1, 8, .inl (gn co)))]) (wt := []) (wc := [(h, .inr (1, [.ref a1, .ref a2, .ref a3, .int (nI pr), .int (nI tx), .int (nI sa), .int (nI fl), .int (nI lo)])), (a1, .inl (G.2.1, 256, .inl (gn ow))), (a2, .inl (G.2.1, 256, .inl (gn he))), (a3, .inl (G.2.1, 8, .inl (gn co)))]) (wr := []) (isC := [0, 1, 2, 3]) (isR := []) rfl rfl (by decide) (by decide) (fun r10 u H locs hp10 hP hD hS => ?_)
  subst hp10
  have hP : va_P G.1 vwCl [(h, .inr (1, [.ref a1, .ref a2, .ref a3, .int (nI pr), .int (nI tx), .int (nI sa), .int (nI fl), .int (nI lo)])), (a1, .inl (G.2.1, 256, .inl (gn ow))), (a2, .inl (G.2.1, 256, .inl (gn he))), (a3, .inl (G.2.1, 8, .inl (gn co)))] H := hP
  have hD : va_D A [(h, .inr (1, [.ref a1, .ref a2, .ref a3, .int (nI pr), .int (nI tx), .int (nI sa), .int (nI fl), .int (nI lo)])), (a1, .inl (G.2.1, 256, .inl (gn ow))), (a2, .inl (G.2.1, 256, .inl (gn he))), (a3, .inl (G.2.1, 8, .inl (gn co)))] := hD
  refine lv_iload_n hx hb dX1_sidesTo_13 rfl (lv_at hl 4 rfl) ?_
  have J22 : ∀  (H : Heap) (locs : List Loc), va_P G.1 vwCl [(h, .inr (1, [.ref a1, .ref a2, .ref a3, .int (nI pr), .int (nI tx), .int (nI sa), .int (nI fl), .int (nI lo)])), (a1, .inl (G.2.1, 256, .inl (gn ow))), (a2, .inl (G.2.1, 256, .inl (gn he))), (a3, .inl (G.2.1, 8, .inl (gn co)))] H → va_D A [(h, .inr (1, [.ref a1, .ref a2, .ref a3, .int (nI pr), .int (nI tx), .int (nI sa), .int (nI fl), .int (nI lo)])), (a1, .inl (G.2.1, 256, .inl (gn ow))), (a2, .inl (G.2.1, 256, .inl (gn he))), (a3, .inl (G.2.1, 8, .inl (gn co)))] → va_S A s.heap H locs → ∀ (ls : Array Slot), lv_has ls 5 [(4, .int (nI 0)), (0, .ref h), (1, .int (zI (x : Int))), (2, .int (zI (y : Int))), (3, .int (nI q))] → W p l e ({ frames := 2, cells := 0, slots := 0, locals := 43 } : Room) s m args below meth c H locs 0 0 (MQ below (va_Qi (S := Unit) (fun (r : Int32) (u : Unit) => (r = nI (sd ow x y q))) (gB G A (fun u => [(h, .inr (1, [.ref a1, .ref a2, .ref a3, .int (nI pr), .int (nI tx), .int (nI sa), .int (nI fl), .int (nI lo)])), (a1, .inl (G.2.1, 256, .inl (gn ow))), (a2, .inl (G.2.1, 256, .inl (gn he))), (a3, .inl (G.2.1, 8, .inl (gn co)))])) A) args s 0 0 A) (F0 m 22 ls [.int (nI (if (oAt ow ((x : Nat) : Int) (((y : Nat) : Int) - 1) = (q : Int)) then 1 else 0)), .int (nI 0)]) := by
    intro  H locs hP hD hS ls hl
    refine gIadd (a := 0) (b := (if (oAt ow ((x : Nat) : Int) (((y : Nat) : Int) - 1) = (q : Int)) then 1 else 0)) hx hb dX1_sidesTo_22 ?_
    refine lv_istore (lv' := [(4, .int (nI (0 + (if (oAt ow ((x : Nat) : Int) (((y : Nat) : Int) - 1) = (q : Int)) then 1 else 0)))), (0, .ref h), (1, .int (zI (x : Int))), (2, .int (zI (y : Int))), (3, .int (nI q))]) hx hb dX1_sidesTo_23 hl (by decide) rfl (fun ls hl => ?_)
    refine lv_iload hx hb dX1_sidesTo_25 (lv_at hl 0 rfl) ?_
    refine lv_aload_n hx hb dX1_sidesTo_27 rfl (lv_at hl 1 rfl) ?_
    refine lv_iload_n hx hb dX1_sidesTo_28 rfl (lv_at hl 2 rfl) ?_
    refine lv_iload_n hx hb dX1_sidesTo_29 rfl (lv_at hl 3 rfl) ?_
    refine lv_iconst (v := nI 1) hx hb dX1_sidesTo_30 (by decide) ?_
    refine W.eq (g2 := F0 m 31 ls [.int (zI ((1 : Nat) : Int)), .int (zI (y : Int)), .int (zI (x : Int)), .ref h, .int (nI (0 + (if (oAt ow ((x : Nat) : Int) (((y : Nat) : Int) - 1) = (q : Int)) then 1 else 0)))]) (by simp only [zI_nat]) ?_
    refine gZadd (a := (y : Int)) (b := ((1 : Nat) : Int)) hx hb dX1_sidesTo_31 ?_
    refine W.eq (g2 := F0 m 32 ls [.int (zI (((y : Nat) : Int) + 1)), .int (zI (x : Int)), .ref h, .int (nI (0 + (if (oAt ow ((x : Nat) : Int) (((y : Nat) : Int) - 1) = (q : Int)) then 1 else 0)))]) (by rw [show (zI ((y : Int) + ((1 : Nat) : Int)) : Int32) = zI (((y : Nat) : Int) + 1) from by rfl]) ?_
    refine gCi F (gRunV (own := RX1) (C := RX1) (ci := 1) (bytes := cX1_ownerOf) (n := 2) (As := [.int (zI (x : Int)), .int (zI (((y : Nat) : Int) + 1))]) (rest := [.int (nI (0 + (if (oAt ow ((x : Nat) : Int) (((y : Nat) : Int) - 1) = (q : Int)) then 1 else 0)))]) F (c_ownerOf l G h a1 a2 a3 ow he co pr tx sa fl lo (x : Int) (((y : Nat) : Int) + 1) (by first | assumption | omega) (by first | assumption | omega) H.size) gX1_sidesTo_X1_ownerOf rfl rfl rfl rfl (by decide +kernel) rfl ⟨Nat.le_of_ble_eq_true rfl, Nat.le_of_ble_eq_true rfl⟩ hP hD (lit := [(h, .inr (1, [.ref a1, .ref a2, .ref a3, .int (nI pr), .int (nI tx), .int (nI sa), .int (nI fl), .int (nI lo)])), (a1, .inl (G.2.1, 256, .inl (gn ow))), (a2, .inl (G.2.1, 256, .inl (gn he))), (a3, .inl (G.2.1, 8, .inl (gn co)))]) (wt := []) (wc := [(h, .inr (1, [.ref a1, .ref a2, .ref a3, .int (nI pr), .int (nI tx), .int (nI sa), .int (nI fl), .int (nI lo)])), (a1, .inl (G.2.1, 256, .inl (gn ow))), (a2, .inl (G.2.1, 256, .inl (gn he))), (a3, .inl (G.2.1, 8, .inl (gn co)))]) (isC := [0, 1, 2, 3]) rfl (by decide) rfl rfl rfl hl.1 (Nat.le_of_ble_eq_true rfl) dX1_sidesTo_32 ⟨Nat.le_of_ble_eq_true rfl, Nat.le_of_ble_eq_true rfl⟩) hP hD hS (lit := [(h, .inr (1, [.ref a1, .ref a2, .ref a3, .int (nI pr), .int (nI tx), .int (nI sa), .int (nI fl), .int (nI lo)])), (a1, .inl (G.2.1, 256, .inl (gn ow))), (a2, .inl (G.2.1, 256, .inl (gn he))), (a3, .inl (G.2.1, 8, .inl (gn co)))]) (wt := []) (wc := [(h, .inr (1, [.ref a1, .ref a2, .ref a3, .int (nI pr), .int (nI tx), .int (nI sa), .int (nI fl), .int (nI lo)])), (a1, .inl (G.2.1, 256, .inl (gn ow))), (a2, .inl (G.2.1, 256, .inl (gn he))), (a3, .inl (G.2.1, 8, .inl (gn co)))]) (wr := []) (isC := [0, 1, 2, 3]) (isR := []) rfl rfl (by decide) (by decide) (fun r32 u H locs hp32 hP hD hS => ?_)
    subst hp32
    have hP : va_P G.1 vwCl [(h, .inr (1, [.ref a1, .ref a2, .ref a3, .int (nI pr), .int (nI tx), .int (nI sa), .int (nI fl), .int (nI lo)])), (a1, .inl (G.2.1, 256, .inl (gn ow))), (a2, .inl (G.2.1, 256, .inl (gn he))), (a3, .inl (G.2.1, 8, .inl (gn co)))] H := hP
    have hD : va_D A [(h, .inr (1, [.ref a1, .ref a2, .ref a3, .int (nI pr), .int (nI tx), .int (nI sa), .int (nI fl), .int (nI lo)])), (a1, .inl (G.2.1, 256, .inl (gn ow))), (a2, .inl (G.2.1, 256, .inl (gn he))), (a3, .inl (G.2.1, 8, .inl (gn co)))] := hD
    refine lv_iload_n hx hb dX1_sidesTo_35 rfl (lv_at hl 4 rfl) ?_
    have J44 : ∀  (H : Heap) (locs : List Loc), va_P G.1 vwCl [(h, .inr (1, [.ref a1, .ref a2, .ref a3, .int (nI pr), .int (nI tx), .int (nI sa), .int (nI fl), .int (nI lo)])), (a1, .inl (G.2.1, 256, .inl (gn ow))), (a2, .inl (G.2.1, 256, .inl (gn he))), (a3, .inl (G.2.1, 8, .inl (gn co)))] H → va_D A [(h, .inr (1, [.ref a1, .ref a2, .ref a3, .int (nI pr), .int (nI tx), .int (nI sa), .int (nI fl), .int (nI lo)])), (a1, .inl (G.2.1, 256, .inl (gn ow))), (a2, .inl (G.2.1, 256, .inl (gn he))), (a3, .inl (G.2.1, 8, .inl (gn co)))] → va_S A s.heap H locs → ∀ (ls : Array Slot), lv_has ls 5 [(4, .int (nI (0 + (if (oAt ow ((x : Nat) : Int) (((y : Nat) : Int) - 1) = (q : Int)) then 1 else 0)))), (0, .ref h), (1, .int (zI (x : Int))), (2, .int (zI (y : Int))), (3, .int (nI q))] → W p l e ({ frames := 2, cells := 0, slots := 0, locals := 43 } : Room) s m args below meth c H locs 0 0 (MQ below (va_Qi (S := Unit) (fun (r : Int32) (u : Unit) => (r = nI (sd ow x y q))) (gB G A (fun u => [(h, .inr (1, [.ref a1, .ref a2, .ref a3, .int (nI pr), .int (nI tx), .int (nI sa), .int (nI fl), .int (nI lo)])), (a1, .inl (G.2.1, 256, .inl (gn ow))), (a2, .inl (G.2.1, 256, .inl (gn he))), (a3, .inl (G.2.1, 8, .inl (gn co)))])) A) args s 0 0 A) (F0 m 44 ls [.int (nI (if (oAt ow ((x : Nat) : Int) (((y : Nat) : Int) + 1) = (q : Int)) then 1 else 0)), .int (nI (0 + (if (oAt ow ((x : Nat) : Int) (((y : Nat) : Int) - 1) = (q : Int)) then 1 else 0)))]) := by
      intro  H locs hP hD hS ls hl
      refine gIadd (a := 0 + (if (oAt ow ((x : Nat) : Int) (((y : Nat) : Int) - 1) = (q : Int)) then 1 else 0)) (b := (if (oAt ow ((x : Nat) : Int) (((y : Nat) : Int) + 1) = (q : Int)) then 1 else 0)) hx hb dX1_sidesTo_44 ?_
      refine lv_istore (lv' := [(4, .int (nI (0 + (if (oAt ow ((x : Nat) : Int) (((y : Nat) : Int) - 1) = (q : Int)) then 1 else 0) + (if (oAt ow ((x : Nat) : Int) (((y : Nat) : Int) + 1) = (q : Int)) then 1 else 0)))), (0, .ref h), (1, .int (zI (x : Int))), (2, .int (zI (y : Int))), (3, .int (nI q))]) hx hb dX1_sidesTo_45 hl (by decide) rfl (fun ls hl => ?_)
      refine lv_iload hx hb dX1_sidesTo_47 (lv_at hl 0 rfl) ?_
      refine lv_aload_n hx hb dX1_sidesTo_49 rfl (lv_at hl 1 rfl) ?_
      refine lv_iload_n hx hb dX1_sidesTo_50 rfl (lv_at hl 2 rfl) ?_
      refine lv_iconst (v := nI 1) hx hb dX1_sidesTo_51 (by decide) ?_
      refine W.eq (g2 := F0 m 52 ls [.int (zI ((1 : Nat) : Int)), .int (zI (x : Int)), .ref h, .int (nI (0 + (if (oAt ow ((x : Nat) : Int) (((y : Nat) : Int) - 1) = (q : Int)) then 1 else 0) + (if (oAt ow ((x : Nat) : Int) (((y : Nat) : Int) + 1) = (q : Int)) then 1 else 0)))]) (by simp only [zI_nat]) ?_
      refine gZsub (a := (x : Int)) (b := ((1 : Nat) : Int)) hx hb dX1_sidesTo_52 ?_
      refine W.eq (g2 := F0 m 53 ls [.int (zI (((x : Nat) : Int) - 1)), .ref h, .int (nI (0 + (if (oAt ow ((x : Nat) : Int) (((y : Nat) : Int) - 1) = (q : Int)) then 1 else 0) + (if (oAt ow ((x : Nat) : Int) (((y : Nat) : Int) + 1) = (q : Int)) then 1 else 0)))]) (by rw [show (zI ((x : Int) - ((1 : Nat) : Int)) : Int32) = zI (((x : Nat) : Int) - 1) from by rfl]) ?_
      refine lv_iload_n hx hb dX1_sidesTo_53 rfl (lv_at hl 3 rfl) ?_
      refine gCi F (gRunV (own := RX1) (C := RX1) (ci := 1) (bytes := cX1_ownerOf) (n := 2) (As := [.int (zI (((x : Nat) : Int) - 1)), .int (zI (y : Int))]) (rest := [.int (nI (0 + (if (oAt ow ((x : Nat) : Int) (((y : Nat) : Int) - 1) = (q : Int)) then 1 else 0) + (if (oAt ow ((x : Nat) : Int) (((y : Nat) : Int) + 1) = (q : Int)) then 1 else 0)))]) F (c_ownerOf l G h a1 a2 a3 ow he co pr tx sa fl lo (((x : Nat) : Int) - 1) (y : Int) (by first | assumption | omega) (by first | assumption | omega) H.size) gX1_sidesTo_X1_ownerOf rfl rfl rfl rfl (by decide +kernel) rfl ⟨Nat.le_of_ble_eq_true rfl, Nat.le_of_ble_eq_true rfl⟩ hP hD (lit := [(h, .inr (1, [.ref a1, .ref a2, .ref a3, .int (nI pr), .int (nI tx), .int (nI sa), .int (nI fl), .int (nI lo)])), (a1, .inl (G.2.1, 256, .inl (gn ow))), (a2, .inl (G.2.1, 256, .inl (gn he))), (a3, .inl (G.2.1, 8, .inl (gn co)))]) (wt := []) (wc := [(h, .inr (1, [.ref a1, .ref a2, .ref a3, .int (nI pr), .int (nI tx), .int (nI sa), .int (nI fl), .int (nI lo)])), (a1, .inl (G.2.1, 256, .inl (gn ow))), (a2, .inl (G.2.1, 256, .inl (gn he))), (a3, .inl (G.2.1, 8, .inl (gn co)))]) (isC := [0, 1, 2, 3]) rfl (by decide) rfl rfl rfl hl.1 (Nat.le_of_ble_eq_true rfl) dX1_sidesTo_54 ⟨Nat.le_of_ble_eq_true rfl, Nat.le_of_ble_eq_true rfl⟩) hP hD hS (lit := [(h, .inr (1, [.ref a1, .ref a2, .ref a3, .int (nI pr), .int (nI tx), .int (nI sa), .int (nI fl), .int (nI lo)])), (a1, .inl (G.2.1, 256, .inl (gn ow))), (a2, .inl (G.2.1, 256, .inl (gn he))), (a3, .inl (G.2.1, 8, .inl (gn co)))]) (wt := []) (wc := [(h, .inr (1, [.ref a1, .ref a2, .ref a3, .int (nI pr), .int (nI tx), .int (nI sa), .int (nI fl), .int (nI lo)])), (a1, .inl (G.2.1, 256, .inl (gn ow))), (a2, .inl (G.2.1, 256, .inl (gn he))), (a3, .inl (G.2.1, 8, .inl (gn co)))]) (wr := []) (isC := [0, 1, 2, 3]) (isR := []) rfl rfl (by decide) (by decide) (fun r54 u H locs hp54 hP hD hS => ?_)
      subst hp54
      have hP : va_P G.1 vwCl [(h, .inr (1, [.ref a1, .ref a2, .ref a3, .int (nI pr), .int (nI tx), .int (nI sa), .int (nI fl), .int (nI lo)])), (a1, .inl (G.2.1, 256, .inl (gn ow))), (a2, .inl (G.2.1, 256, .inl (gn he))), (a3, .inl (G.2.1, 8, .inl (gn co)))] H := hP
      have hD : va_D A [(h, .inr (1, [.ref a1, .ref a2, .ref a3, .int (nI pr), .int (nI tx), .int (nI sa), .int (nI fl), .int (nI lo)])), (a1, .inl (G.2.1, 256, .inl (gn ow))), (a2, .inl (G.2.1, 256, .inl (gn he))), (a3, .inl (G.2.1, 8, .inl (gn co)))] := hD
      refine lv_iload_n hx hb dX1_sidesTo_57 rfl (lv_at hl 4 rfl) ?_
      have J66 : ∀  (H : Heap) (locs : List Loc), va_P G.1 vwCl [(h, .inr (1, [.ref a1, .ref a2, .ref a3, .int (nI pr), .int (nI tx), .int (nI sa), .int (nI fl), .int (nI lo)])), (a1, .inl (G.2.1, 256, .inl (gn ow))), (a2, .inl (G.2.1, 256, .inl (gn he))), (a3, .inl (G.2.1, 8, .inl (gn co)))] H → va_D A [(h, .inr (1, [.ref a1, .ref a2, .ref a3, .int (nI pr), .int (nI tx), .int (nI sa), .int (nI fl), .int (nI lo)])), (a1, .inl (G.2.1, 256, .inl (gn ow))), (a2, .inl (G.2.1, 256, .inl (gn he))), (a3, .inl (G.2.1, 8, .inl (gn co)))] → va_S A s.heap H locs → ∀ (ls : Array Slot), lv_has ls 5 [(4, .int (nI (0 + (if (oAt ow ((x : Nat) : Int) (((y : Nat) : Int) - 1) = (q : Int)) then 1 else 0) + (if (oAt ow ((x : Nat) : Int) (((y : Nat) : Int) + 1) = (q : Int)) then 1 else 0)))), (0, .ref h), (1, .int (zI (x : Int))), (2, .int (zI (y : Int))), (3, .int (nI q))] → W p l e ({ frames := 2, cells := 0, slots := 0, locals := 43 } : Room) s m args below meth c H locs 0 0 (MQ below (va_Qi (S := Unit) (fun (r : Int32) (u : Unit) => (r = nI (sd ow x y q))) (gB G A (fun u => [(h, .inr (1, [.ref a1, .ref a2, .ref a3, .int (nI pr), .int (nI tx), .int (nI sa), .int (nI fl), .int (nI lo)])), (a1, .inl (G.2.1, 256, .inl (gn ow))), (a2, .inl (G.2.1, 256, .inl (gn he))), (a3, .inl (G.2.1, 8, .inl (gn co)))])) A) args s 0 0 A) (F0 m 66 ls [.int (nI (if (oAt ow (((x : Nat) : Int) - 1) ((y : Nat) : Int) = (q : Int)) then 1 else 0)), .int (nI (0 + (if (oAt ow ((x : Nat) : Int) (((y : Nat) : Int) - 1) = (q : Int)) then 1 else 0) + (if (oAt ow ((x : Nat) : Int) (((y : Nat) : Int) + 1) = (q : Int)) then 1 else 0)))]) := by
        intro  H locs hP hD hS ls hl
        refine gIadd (a := 0 + (if (oAt ow ((x : Nat) : Int) (((y : Nat) : Int) - 1) = (q : Int)) then 1 else 0) + (if (oAt ow ((x : Nat) : Int) (((y : Nat) : Int) + 1) = (q : Int)) then 1 else 0)) (b := (if (oAt ow (((x : Nat) : Int) - 1) ((y : Nat) : Int) = (q : Int)) then 1 else 0)) hx hb dX1_sidesTo_66 ?_
        refine lv_istore (lv' := [(4, .int (nI (0 + (if (oAt ow ((x : Nat) : Int) (((y : Nat) : Int) - 1) = (q : Int)) then 1 else 0) + (if (oAt ow ((x : Nat) : Int) (((y : Nat) : Int) + 1) = (q : Int)) then 1 else 0) + (if (oAt ow (((x : Nat) : Int) - 1) ((y : Nat) : Int) = (q : Int)) then 1 else 0)))), (0, .ref h), (1, .int (zI (x : Int))), (2, .int (zI (y : Int))), (3, .int (nI q))]) hx hb dX1_sidesTo_67 hl (by decide) rfl (fun ls hl => ?_)
        refine lv_iload hx hb dX1_sidesTo_69 (lv_at hl 0 rfl) ?_
        refine lv_aload_n hx hb dX1_sidesTo_71 rfl (lv_at hl 1 rfl) ?_
        refine lv_iload_n hx hb dX1_sidesTo_72 rfl (lv_at hl 2 rfl) ?_
        refine lv_iconst (v := nI 1) hx hb dX1_sidesTo_73 (by decide) ?_
        refine W.eq (g2 := F0 m 74 ls [.int (zI ((1 : Nat) : Int)), .int (zI (x : Int)), .ref h, .int (nI (0 + (if (oAt ow ((x : Nat) : Int) (((y : Nat) : Int) - 1) = (q : Int)) then 1 else 0) + (if (oAt ow ((x : Nat) : Int) (((y : Nat) : Int) + 1) = (q : Int)) then 1 else 0) + (if (oAt ow (((x : Nat) : Int) - 1) ((y : Nat) : Int) = (q : Int)) then 1 else 0)))]) (by simp only [zI_nat]) ?_
        refine gZadd (a := (x : Int)) (b := ((1 : Nat) : Int)) hx hb dX1_sidesTo_74 ?_
        refine W.eq (g2 := F0 m 75 ls [.int (zI (((x : Nat) : Int) + 1)), .ref h, .int (nI (0 + (if (oAt ow ((x : Nat) : Int) (((y : Nat) : Int) - 1) = (q : Int)) then 1 else 0) + (if (oAt ow ((x : Nat) : Int) (((y : Nat) : Int) + 1) = (q : Int)) then 1 else 0) + (if (oAt ow (((x : Nat) : Int) - 1) ((y : Nat) : Int) = (q : Int)) then 1 else 0)))]) (by rw [show (zI ((x : Int) + ((1 : Nat) : Int)) : Int32) = zI (((x : Nat) : Int) + 1) from by rfl]) ?_
        refine lv_iload_n hx hb dX1_sidesTo_75 rfl (lv_at hl 3 rfl) ?_
        refine gCi F (gRunV (own := RX1) (C := RX1) (ci := 1) (bytes := cX1_ownerOf) (n := 2) (As := [.int (zI (((x : Nat) : Int) + 1)), .int (zI (y : Int))]) (rest := [.int (nI (0 + (if (oAt ow ((x : Nat) : Int) (((y : Nat) : Int) - 1) = (q : Int)) then 1 else 0) + (if (oAt ow ((x : Nat) : Int) (((y : Nat) : Int) + 1) = (q : Int)) then 1 else 0) + (if (oAt ow (((x : Nat) : Int) - 1) ((y : Nat) : Int) = (q : Int)) then 1 else 0)))]) F (c_ownerOf l G h a1 a2 a3 ow he co pr tx sa fl lo (((x : Nat) : Int) + 1) (y : Int) (by first | assumption | omega) (by first | assumption | omega) H.size) gX1_sidesTo_X1_ownerOf rfl rfl rfl rfl (by decide +kernel) rfl ⟨Nat.le_of_ble_eq_true rfl, Nat.le_of_ble_eq_true rfl⟩ hP hD (lit := [(h, .inr (1, [.ref a1, .ref a2, .ref a3, .int (nI pr), .int (nI tx), .int (nI sa), .int (nI fl), .int (nI lo)])), (a1, .inl (G.2.1, 256, .inl (gn ow))), (a2, .inl (G.2.1, 256, .inl (gn he))), (a3, .inl (G.2.1, 8, .inl (gn co)))]) (wt := []) (wc := [(h, .inr (1, [.ref a1, .ref a2, .ref a3, .int (nI pr), .int (nI tx), .int (nI sa), .int (nI fl), .int (nI lo)])), (a1, .inl (G.2.1, 256, .inl (gn ow))), (a2, .inl (G.2.1, 256, .inl (gn he))), (a3, .inl (G.2.1, 8, .inl (gn co)))]) (isC := [0, 1, 2, 3]) rfl (by decide) rfl rfl rfl hl.1 (Nat.le_of_ble_eq_true rfl) dX1_sidesTo_76 ⟨Nat.le_of_ble_eq_true rfl, Nat.le_of_ble_eq_true rfl⟩) hP hD hS (lit := [(h, .inr (1, [.ref a1, .ref a2, .ref a3, .int (nI pr), .int (nI tx), .int (nI sa), .int (nI fl), .int (nI lo)])), (a1, .inl (G.2.1, 256, .inl (gn ow))), (a2, .inl (G.2.1, 256, .inl (gn he))), (a3, .inl (G.2.1, 8, .inl (gn co)))]) (wt := []) (wc := [(h, .inr (1, [.ref a1, .ref a2, .ref a3, .int (nI pr), .int (nI tx), .int (nI sa), .int (nI fl), .int (nI lo)])), (a1, .inl (G.2.1, 256, .inl (gn ow))), (a2, .inl (G.2.1, 256, .inl (gn he))), (a3, .inl (G.2.1, 8, .inl (gn co)))]) (wr := []) (isC := [0, 1, 2, 3]) (isR := []) rfl rfl (by decide) (by decide) (fun r76 u H locs hp76 hP hD hS => ?_)
        subst hp76
        have hP : va_P G.1 vwCl [(h, .inr (1, [.ref a1, .ref a2, .ref a3, .int (nI pr), .int (nI tx), .int (nI sa), .int (nI fl), .int (nI lo)])), (a1, .inl (G.2.1, 256, .inl (gn ow))), (a2, .inl (G.2.1, 256, .inl (gn he))), (a3, .inl (G.2.1, 8, .inl (gn co)))] H := hP
        have hD : va_D A [(h, .inr (1, [.ref a1, .ref a2, .ref a3, .int (nI pr), .int (nI tx), .int (nI sa), .int (nI fl), .int (nI lo)])), (a1, .inl (G.2.1, 256, .inl (gn ow))), (a2, .inl (G.2.1, 256, .inl (gn he))), (a3, .inl (G.2.1, 8, .inl (gn co)))] := hD
        refine lv_iload_n hx hb dX1_sidesTo_79 rfl (lv_at hl 4 rfl) ?_
        have J88 : ∀  (H : Heap) (locs : List Loc), va_P G.1 vwCl [(h, .inr (1, [.ref a1, .ref a2, .ref a3, .int (nI pr), .int (nI tx), .int (nI sa), .int (nI fl), .int (nI lo)])), (a1, .inl (G.2.1, 256, .inl (gn ow))), (a2, .inl (G.2.1, 256, .inl (gn he))), (a3, .inl (G.2.1, 8, .inl (gn co)))] H → va_D A [(h, .inr (1, [.ref a1, .ref a2, .ref a3, .int (nI pr), .int (nI tx), .int (nI sa), .int (nI fl), .int (nI lo)])), (a1, .inl (G.2.1, 256, .inl (gn ow))), (a2, .inl (G.2.1, 256, .inl (gn he))), (a3, .inl (G.2.1, 8, .inl (gn co)))] → va_S A s.heap H locs → ∀ (ls : Array Slot), lv_has ls 5 [(4, .int (nI (0 + (if (oAt ow ((x : Nat) : Int) (((y : Nat) : Int) - 1) = (q : Int)) then 1 else 0) + (if (oAt ow ((x : Nat) : Int) (((y : Nat) : Int) + 1) = (q : Int)) then 1 else 0) + (if (oAt ow (((x : Nat) : Int) - 1) ((y : Nat) : Int) = (q : Int)) then 1 else 0)))), (0, .ref h), (1, .int (zI (x : Int))), (2, .int (zI (y : Int))), (3, .int (nI q))] → W p l e ({ frames := 2, cells := 0, slots := 0, locals := 43 } : Room) s m args below meth c H locs 0 0 (MQ below (va_Qi (S := Unit) (fun (r : Int32) (u : Unit) => (r = nI (sd ow x y q))) (gB G A (fun u => [(h, .inr (1, [.ref a1, .ref a2, .ref a3, .int (nI pr), .int (nI tx), .int (nI sa), .int (nI fl), .int (nI lo)])), (a1, .inl (G.2.1, 256, .inl (gn ow))), (a2, .inl (G.2.1, 256, .inl (gn he))), (a3, .inl (G.2.1, 8, .inl (gn co)))])) A) args s 0 0 A) (F0 m 88 ls [.int (nI (if (oAt ow (((x : Nat) : Int) + 1) ((y : Nat) : Int) = (q : Int)) then 1 else 0)), .int (nI (0 + (if (oAt ow ((x : Nat) : Int) (((y : Nat) : Int) - 1) = (q : Int)) then 1 else 0) + (if (oAt ow ((x : Nat) : Int) (((y : Nat) : Int) + 1) = (q : Int)) then 1 else 0) + (if (oAt ow (((x : Nat) : Int) - 1) ((y : Nat) : Int) = (q : Int)) then 1 else 0)))]) := by
          intro  H locs hP hD hS ls hl
          refine gIadd (a := 0 + (if (oAt ow ((x : Nat) : Int) (((y : Nat) : Int) - 1) = (q : Int)) then 1 else 0) + (if (oAt ow ((x : Nat) : Int) (((y : Nat) : Int) + 1) = (q : Int)) then 1 else 0) + (if (oAt ow (((x : Nat) : Int) - 1) ((y : Nat) : Int) = (q : Int)) then 1 else 0)) (b := (if (oAt ow (((x : Nat) : Int) + 1) ((y : Nat) : Int) = (q : Int)) then 1 else 0)) hx hb dX1_sidesTo_88 ?_
          refine lv_istore (lv' := [(4, .int (nI (0 + (if (oAt ow ((x : Nat) : Int) (((y : Nat) : Int) - 1) = (q : Int)) then 1 else 0) + (if (oAt ow ((x : Nat) : Int) (((y : Nat) : Int) + 1) = (q : Int)) then 1 else 0) + (if (oAt ow (((x : Nat) : Int) - 1) ((y : Nat) : Int) = (q : Int)) then 1 else 0) + (if (oAt ow (((x : Nat) : Int) + 1) ((y : Nat) : Int) = (q : Int)) then 1 else 0)))), (0, .ref h), (1, .int (zI (x : Int))), (2, .int (zI (y : Int))), (3, .int (nI q))]) hx hb dX1_sidesTo_89 hl (by decide) rfl (fun ls hl => ?_)
          refine lv_iload hx hb dX1_sidesTo_91 (lv_at hl 0 rfl) ?_
          exact gRi F dX1_sidesTo_93 (rfl) () (by simp only [sd, Nat.zero_add]) hP hD hS (Nat.le_refl _) (Nat.le_refl _)
        refine W.eq (g2 := F0 m 80 ls [.int (zI ((q : Nat) : Int)), .int (zI (oAt ow (((x : Nat) : Int) + 1) (y : Int))), .int (nI (0 + (if (oAt ow ((x : Nat) : Int) (((y : Nat) : Int) - 1) = (q : Int)) then 1 else 0) + (if (oAt ow ((x : Nat) : Int) (((y : Nat) : Int) + 1) = (q : Int)) then 1 else 0) + (if (oAt ow (((x : Nat) : Int) - 1) ((y : Nat) : Int) = (q : Int)) then 1 else 0)))]) (by simp only [zI_nat]) ?_
        refine gZcmp_ne (a := oAt ow (((x : Nat) : Int) + 1) (y : Int)) (b := ((q : Nat) : Int)) (tgt := 87) hx hb dX1_sidesTo_80 (by decide) (by have := oAt_b hw (x : Int) ((y : Int) - 1); have := oAt_b hw (x : Int) ((y : Int) + 1); have := oAt_b hw ((x : Int) - 1) (y : Int); have := oAt_b hw ((x : Int) + 1) (y : Int); omega) (by omega) (fun c80 => ?_) (fun c80 => ?_)
        · skip
          refine lv_iconst (v := nI 0) hx hb dX1_sidesTo_87 (by decide) ?_
          have hl : lv_has ls 5 [(4, .int (nI (0 + (if (oAt ow ((x : Nat) : Int) (((y : Nat) : Int) - 1) = (q : Int)) then 1 else 0) + (if (oAt ow ((x : Nat) : Int) (((y : Nat) : Int) + 1) = (q : Int)) then 1 else 0) + (if (oAt ow (((x : Nat) : Int) - 1) ((y : Nat) : Int) = (q : Int)) then 1 else 0)))), (0, .ref h), (1, .int (zI (x : Int))), (2, .int (zI (y : Int))), (3, .int (nI q))] := lv_sub hl [0, 1, 2, 3, 4] rfl
          have hse : (.int (nI 0) : Value) = .int (nI (if (oAt ow (((x : Nat) : Int) + 1) ((y : Nat) : Int) = (q : Int)) then 1 else 0)) := by first | rfl | (rw [if_pos (by omega)]) | (rw [if_neg (by omega)])
          refine W.eq (g2 := F0 m 88 ls [.int (nI (if (oAt ow (((x : Nat) : Int) + 1) ((y : Nat) : Int) = (q : Int)) then 1 else 0)), .int (nI (0 + (if (oAt ow ((x : Nat) : Int) (((y : Nat) : Int) - 1) = (q : Int)) then 1 else 0) + (if (oAt ow ((x : Nat) : Int) (((y : Nat) : Int) + 1) = (q : Int)) then 1 else 0) + (if (oAt ow (((x : Nat) : Int) - 1) ((y : Nat) : Int) = (q : Int)) then 1 else 0)))]) (congrArg (fun v_ => F0 m 88 ls [v_, .int (nI (0 + (if (oAt ow ((x : Nat) : Int) (((y : Nat) : Int) - 1) = (q : Int)) then 1 else 0) + (if (oAt ow ((x : Nat) : Int) (((y : Nat) : Int) + 1) = (q : Int)) then 1 else 0) + (if (oAt ow (((x : Nat) : Int) - 1) ((y : Nat) : Int) = (q : Int)) then 1 else 0)))]) hse) ?_
          exact J88  H locs hP hD hS ls hl
        refine lv_iconst (v := nI 1) hx hb dX1_sidesTo_83 (by decide) ?_
        refine lv_goto (tgt := 88) hx hb dX1_sidesTo_84 (by decide) ?_
        have hl : lv_has ls 5 [(4, .int (nI (0 + (if (oAt ow ((x : Nat) : Int) (((y : Nat) : Int) - 1) = (q : Int)) then 1 else 0) + (if (oAt ow ((x : Nat) : Int) (((y : Nat) : Int) + 1) = (q : Int)) then 1 else 0) + (if (oAt ow (((x : Nat) : Int) - 1) ((y : Nat) : Int) = (q : Int)) then 1 else 0)))), (0, .ref h), (1, .int (zI (x : Int))), (2, .int (zI (y : Int))), (3, .int (nI q))] := lv_sub hl [0, 1, 2, 3, 4] rfl
        have hse : (.int (nI 1) : Value) = .int (nI (if (oAt ow (((x : Nat) : Int) + 1) ((y : Nat) : Int) = (q : Int)) then 1 else 0)) := by first | rfl | (rw [if_pos (by omega)]) | (rw [if_neg (by omega)])
        refine W.eq (g2 := F0 m 88 ls [.int (nI (if (oAt ow (((x : Nat) : Int) + 1) ((y : Nat) : Int) = (q : Int)) then 1 else 0)), .int (nI (0 + (if (oAt ow ((x : Nat) : Int) (((y : Nat) : Int) - 1) = (q : Int)) then 1 else 0) + (if (oAt ow ((x : Nat) : Int) (((y : Nat) : Int) + 1) = (q : Int)) then 1 else 0) + (if (oAt ow (((x : Nat) : Int) - 1) ((y : Nat) : Int) = (q : Int)) then 1 else 0)))]) (congrArg (fun v_ => F0 m 88 ls [v_, .int (nI (0 + (if (oAt ow ((x : Nat) : Int) (((y : Nat) : Int) - 1) = (q : Int)) then 1 else 0) + (if (oAt ow ((x : Nat) : Int) (((y : Nat) : Int) + 1) = (q : Int)) then 1 else 0) + (if (oAt ow (((x : Nat) : Int) - 1) ((y : Nat) : Int) = (q : Int)) then 1 else 0)))]) hse) ?_
        exact J88  H locs hP hD hS ls hl
      refine W.eq (g2 := F0 m 58 ls [.int (zI ((q : Nat) : Int)), .int (zI (oAt ow (((x : Nat) : Int) - 1) (y : Int))), .int (nI (0 + (if (oAt ow ((x : Nat) : Int) (((y : Nat) : Int) - 1) = (q : Int)) then 1 else 0) + (if (oAt ow ((x : Nat) : Int) (((y : Nat) : Int) + 1) = (q : Int)) then 1 else 0)))]) (by simp only [zI_nat]) ?_
      refine gZcmp_ne (a := oAt ow (((x : Nat) : Int) - 1) (y : Int)) (b := ((q : Nat) : Int)) (tgt := 65) hx hb dX1_sidesTo_58 (by decide) (by have := oAt_b hw (x : Int) ((y : Int) - 1); have := oAt_b hw (x : Int) ((y : Int) + 1); have := oAt_b hw ((x : Int) - 1) (y : Int); have := oAt_b hw ((x : Int) + 1) (y : Int); omega) (by omega) (fun c58 => ?_) (fun c58 => ?_)
      · skip
        refine lv_iconst (v := nI 0) hx hb dX1_sidesTo_65 (by decide) ?_
        have hl : lv_has ls 5 [(4, .int (nI (0 + (if (oAt ow ((x : Nat) : Int) (((y : Nat) : Int) - 1) = (q : Int)) then 1 else 0) + (if (oAt ow ((x : Nat) : Int) (((y : Nat) : Int) + 1) = (q : Int)) then 1 else 0)))), (0, .ref h), (1, .int (zI (x : Int))), (2, .int (zI (y : Int))), (3, .int (nI q))] := lv_sub hl [0, 1, 2, 3, 4] rfl
        have hse : (.int (nI 0) : Value) = .int (nI (if (oAt ow (((x : Nat) : Int) - 1) ((y : Nat) : Int) = (q : Int)) then 1 else 0)) := by first | rfl | (rw [if_pos (by omega)]) | (rw [if_neg (by omega)])
        refine W.eq (g2 := F0 m 66 ls [.int (nI (if (oAt ow (((x : Nat) : Int) - 1) ((y : Nat) : Int) = (q : Int)) then 1 else 0)), .int (nI (0 + (if (oAt ow ((x : Nat) : Int) (((y : Nat) : Int) - 1) = (q : Int)) then 1 else 0) + (if (oAt ow ((x : Nat) : Int) (((y : Nat) : Int) + 1) = (q : Int)) then 1 else 0)))]) (congrArg (fun v_ => F0 m 66 ls [v_, .int (nI (0 + (if (oAt ow ((x : Nat) : Int) (((y : Nat) : Int) - 1) = (q : Int)) then 1 else 0) + (if (oAt ow ((x : Nat) : Int) (((y : Nat) : Int) + 1) = (q : Int)) then 1 else 0)))]) hse) ?_
        exact J66  H locs hP hD hS ls hl
      refine lv_iconst (v := nI 1) hx hb dX1_sidesTo_61 (by decide) ?_
      refine lv_goto (tgt := 66) hx hb dX1_sidesTo_62 (by decide) ?_
      have hl : lv_has ls 5 [(4, .int (nI (0 + (if (oAt ow ((x : Nat) : Int) (((y : Nat) : Int) - 1) = (q : Int)) then 1 else 0) + (if (oAt ow ((x : Nat) : Int) (((y : Nat) : Int) + 1) = (q : Int)) then 1 else 0)))), (0, .ref h), (1, .int (zI (x : Int))), (2, .int (zI (y : Int))), (3, .int (nI q))] := lv_sub hl [0, 1, 2, 3, 4] rfl
      have hse : (.int (nI 1) : Value) = .int (nI (if (oAt ow (((x : Nat) : Int) - 1) ((y : Nat) : Int) = (q : Int)) then 1 else 0)) := by first | rfl | (rw [if_pos (by omega)]) | (rw [if_neg (by omega)])
      refine W.eq (g2 := F0 m 66 ls [.int (nI (if (oAt ow (((x : Nat) : Int) - 1) ((y : Nat) : Int) = (q : Int)) then 1 else 0)), .int (nI (0 + (if (oAt ow ((x : Nat) : Int) (((y : Nat) : Int) - 1) = (q : Int)) then 1 else 0) + (if (oAt ow ((x : Nat) : Int) (((y : Nat) : Int) + 1) = (q : Int)) then 1 else 0)))]) (congrArg (fun v_ => F0 m 66 ls [v_, .int (nI (0 + (if (oAt ow ((x : Nat) : Int) (((y : Nat) : Int) - 1) = (q : Int)) then 1 else 0) + (if (oAt ow ((x : Nat) : Int) (((y : Nat) : Int) + 1) = (q : Int)) then 1 else 0)))]) hse) ?_
      exact J66  H locs hP hD hS ls hl
    refine W.eq (g2 := F0 m 36 ls [.int (zI ((q : Nat) : Int)), .int (zI (oAt ow (x : Int) (((y : Nat) : Int) + 1))), .int (nI (0 + (if (oAt ow ((x : Nat) : Int) (((y : Nat) : Int) - 1) = (q : Int)) then 1 else 0)))]) (by simp only [zI_nat]) ?_
    refine gZcmp_ne (a := oAt ow (x : Int) (((y : Nat) : Int) + 1)) (b := ((q : Nat) : Int)) (tgt := 43) hx hb dX1_sidesTo_36 (by decide) (by have := oAt_b hw (x : Int) ((y : Int) - 1); have := oAt_b hw (x : Int) ((y : Int) + 1); have := oAt_b hw ((x : Int) - 1) (y : Int); have := oAt_b hw ((x : Int) + 1) (y : Int); omega) (by omega) (fun c36 => ?_) (fun c36 => ?_)
    · skip
      refine lv_iconst (v := nI 0) hx hb dX1_sidesTo_43 (by decide) ?_
      have hl : lv_has ls 5 [(4, .int (nI (0 + (if (oAt ow ((x : Nat) : Int) (((y : Nat) : Int) - 1) = (q : Int)) then 1 else 0)))), (0, .ref h), (1, .int (zI (x : Int))), (2, .int (zI (y : Int))), (3, .int (nI q))] := lv_sub hl [0, 1, 2, 3, 4] rfl
      have hse : (.int (nI 0) : Value) = .int (nI (if (oAt ow ((x : Nat) : Int) (((y : Nat) : Int) + 1) = (q : Int)) then 1 else 0)) := by first | rfl | (rw [if_pos (by omega)]) | (rw [if_neg (by omega)])
      refine W.eq (g2 := F0 m 44 ls [.int (nI (if (oAt ow ((x : Nat) : Int) (((y : Nat) : Int) + 1) = (q : Int)) then 1 else 0)), .int (nI (0 + (if (oAt ow ((x : Nat) : Int) (((y : Nat) : Int) - 1) = (q : Int)) then 1 else 0)))]) (congrArg (fun v_ => F0 m 44 ls [v_, .int (nI (0 + (if (oAt ow ((x : Nat) : Int) (((y : Nat) : Int) - 1) = (q : Int)) then 1 else 0)))]) hse) ?_
      exact J44  H locs hP hD hS ls hl
    refine lv_iconst (v := nI 1) hx hb dX1_sidesTo_39 (by decide) ?_
    refine lv_goto (tgt := 44) hx hb dX1_sidesTo_40 (by decide) ?_
    have hl : lv_has ls 5 [(4, .int (nI (0 + (if (oAt ow ((x : Nat) : Int) (((y : Nat) : Int) - 1) = (q : Int)) then 1 else 0)))), (0, .ref h), (1, .int (zI (x : Int))), (2, .int (zI (y : Int))), (3, .int (nI q))] := lv_sub hl [0, 1, 2, 3, 4] rfl
    have hse : (.int (nI 1) : Value) = .int (nI (if (oAt ow ((x : Nat) : Int) (((y : Nat) : Int) + 1) = (q : Int)) then 1 else 0)) := by first | rfl | (rw [if_pos (by omega)]) | (rw [if_neg (by omega)])
    refine W.eq (g2 := F0 m 44 ls [.int (nI (if (oAt ow ((x : Nat) : Int) (((y : Nat) : Int) + 1) = (q : Int)) then 1 else 0)), .int (nI (0 + (if (oAt ow ((x : Nat) : Int) (((y : Nat) : Int) - 1) = (q : Int)) then 1 else 0)))]) (congrArg (fun v_ => F0 m 44 ls [v_, .int (nI (0 + (if (oAt ow ((x : Nat) : Int) (((y : Nat) : Int) - 1) = (q : Int)) then 1 else 0)))]) hse) ?_
    exact J44  H locs hP hD hS ls hl
  refine W.eq (g2 := F0 m 14 ls [.int (zI ((q : Nat) : Int)), .int (zI (oAt ow (x : Int) (((y : Nat) : Int) - 1))), .int (nI 0)]) (by simp only [zI_nat]) ?_
  refine gZcmp_ne (a := oAt ow (x : Int) (((y : Nat) : Int) - 1)) (b := ((q : Nat) : Int)) (tgt := 21) hx hb dX1_sidesTo_14 (by decide) (by have := oAt_b hw (x : Int) ((y : Int) - 1); have := oAt_b hw (x : Int) ((y : Int) + 1); have := oAt_b hw ((x : Int) - 1) (y : Int); have := oAt_b hw ((x : Int) + 1) (y : Int); omega) (by omega) (fun c14 => ?_) (fun c14 => ?_)
  · skip
    refine lv_iconst (v := nI 0) hx hb dX1_sidesTo_21 (by decide) ?_
    have hl : lv_has ls 5 [(4, .int (nI 0)), (0, .ref h), (1, .int (zI (x : Int))), (2, .int (zI (y : Int))), (3, .int (nI q))] := lv_sub hl [0, 1, 2, 3, 4] rfl
    have hse : (.int (nI 0) : Value) = .int (nI (if (oAt ow ((x : Nat) : Int) (((y : Nat) : Int) - 1) = (q : Int)) then 1 else 0)) := by first | rfl | (rw [if_pos (by omega)]) | (rw [if_neg (by omega)])
    refine W.eq (g2 := F0 m 22 ls [.int (nI (if (oAt ow ((x : Nat) : Int) (((y : Nat) : Int) - 1) = (q : Int)) then 1 else 0)), .int (nI 0)]) (congrArg (fun v_ => F0 m 22 ls [v_, .int (nI 0)]) hse) ?_
    exact J22  H locs hP hD hS ls hl
  refine lv_iconst (v := nI 1) hx hb dX1_sidesTo_17 (by decide) ?_
  refine lv_goto (tgt := 22) hx hb dX1_sidesTo_18 (by decide) ?_
  have hl : lv_has ls 5 [(4, .int (nI 0)), (0, .ref h), (1, .int (zI (x : Int))), (2, .int (zI (y : Int))), (3, .int (nI q))] := lv_sub hl [0, 1, 2, 3, 4] rfl
  have hse : (.int (nI 1) : Value) = .int (nI (if (oAt ow ((x : Nat) : Int) (((y : Nat) : Int) - 1) = (q : Int)) then 1 else 0)) := by first | rfl | (rw [if_pos (by omega)]) | (rw [if_neg (by omega)])
  refine W.eq (g2 := F0 m 22 ls [.int (nI (if (oAt ow ((x : Nat) : Int) (((y : Nat) : Int) - 1) = (q : Int)) then 1 else 0)), .int (nI 0)]) (congrArg (fun v_ => F0 m 22 ls [v_, .int (nI 0)]) hse) ?_
  exact J22  H locs hP hD hS ls hl

set_option maxHeartbeats 4000000 in
set_option maxRecDepth 100000 in
theorem c_X1_sharedFence (l : Launch) (G : gG) (h : Nat) (a1 : Nat) (a2 : Nat) (a3 : Nat) (ow : Nat → Nat) (he : Nat → Nat) (co : Nat → Nat) (pr : Nat) (tx : Nat) (sa : Nat) (fl : Nat) (lo : Nat) (o : Nat) (q : Nat) (hw : ∀ k, ow k < 8) (ho : o < 8) (hq : q < 8) : gMi (S := Unit) l yX1_sharedFence wsX1_sharedFence { frames := 3, cells := 0, slots := 0, locals := 67 } G [.ref h, .int (nI o), .int (nI q)] [(h, .inr (1, [.ref a1, .ref a2, .ref a3, .int (nI pr), .int (nI tx), .int (nI sa), .int (nI fl), .int (nI lo)])), (a1, .inl (G.2.1, 256, .inl (gn ow))), (a2, .inl (G.2.1, 256, .inl (gn he))), (a3, .inl (G.2.1, 8, .inl (gn co)))] (fun (r : Int32) (u : Unit) => (r = nI (if o = q then 0 else sFence ow o q 256))) (fun u => [(h, .inr (1, [.ref a1, .ref a2, .ref a3, .int (nI pr), .int (nI tx), .int (nI sa), .int (nI fl), .int (nI lo)])), (a1, .inl (G.2.1, 256, .inl (gn ow))), (a2, .inl (G.2.1, 256, .inl (gn he))), (a3, .inl (G.2.1, 8, .inl (gn co)))]) 0 0 := by
  refine gMet_mk (cc := cX1_sharedFence) (nL := 6) (ret := (some .int)) (Qc := fun A => va_Qi (S := Unit) (fun (r : Int32) (u : Unit) => (r = nI (if o = q then 0 else sFence ow o q 256))) (gB G A (fun u => [(h, .inr (1, [.ref a1, .ref a2, .ref a3, .int (nI pr), .int (nI tx), .int (nI sa), .int (nI fl), .int (nI lo)])), (a1, .inl (G.2.1, 256, .inl (gn ow))), (a2, .inl (G.2.1, 256, .inl (gn he))), (a3, .inl (G.2.1, 8, .inl (gn co)))])) A) (by decide) rfl (Nat.le_of_ble_eq_true rfl) ?_
  intro p e s m args below meth c A F ls hl hP hD hS
  have hx := F.1
  have hb := F.2.1
  have hts := F.2.2.2.2.2.2.1
  have hown : s.vm.findClass RX1 = some m.cls := F.2.2.2.2.2.1
  have hKK := F.2.2.2.2.2.2.2.2.1
  have hK := hKK.1
  have hin0 := F.2.2.2.2.2.2.2.1
  have hl : lv_has ls 6 [(0, .ref h), (1, .int (nI o)), (2, .int (nI q))] := hl
  generalize hH : s.heap = H at hP ⊢
  have hS : va_S A s.heap H [] := by rw [← hH]; exact va_S.rf
  generalize hLo : ([] : List Loc) = locs at hS ⊢
  refine lv_iload_n hx hb dX1_sharedFence_0 rfl (lv_at hl 1 rfl) ?_
  refine lv_iload_n hx hb dX1_sharedFence_1 rfl (lv_at hl 2 rfl) ?_
  refine gIcmp_ne (a := o) (b := q) (tgt := 7) hx hb dX1_sharedFence_2 (by decide) (by omega) (by omega) (fun c2 => ?_) (fun c2 => ?_)
  · skip
    refine lv_iconst (v := nI 0) hx hb dX1_sharedFence_7 (by decide) ?_
    refine lv_istore_n (lv' := [(3, .int (nI 0)), (0, .ref h), (1, .int (nI o)), (2, .int (nI q))]) hx hb dX1_sharedFence_8 rfl hl (by decide) rfl (fun ls hl => ?_)
    refine lv_iconst (v := nI 0) hx hb dX1_sharedFence_9 (by decide) ?_
    refine lv_istore (lv' := [(4, .int (nI 0)), (3, .int (nI 0)), (0, .ref h), (1, .int (nI o)), (2, .int (nI q))]) hx hb dX1_sharedFence_10 hl (by decide) rfl (fun ls hl => ?_)
    have L12 : ∀ (fuel : Nat) (i : Nat), 16 - i < fuel → (i ≤ 16) → ∀ (H : Heap) (locs : List Loc), va_P G.1 vwCl [(h, .inr (1, [.ref a1, .ref a2, .ref a3, .int (nI pr), .int (nI tx), .int (nI sa), .int (nI fl), .int (nI lo)])), (a1, .inl (G.2.1, 256, .inl (gn ow))), (a2, .inl (G.2.1, 256, .inl (gn he))), (a3, .inl (G.2.1, 8, .inl (gn co)))] H → va_D A [(h, .inr (1, [.ref a1, .ref a2, .ref a3, .int (nI pr), .int (nI tx), .int (nI sa), .int (nI fl), .int (nI lo)])), (a1, .inl (G.2.1, 256, .inl (gn ow))), (a2, .inl (G.2.1, 256, .inl (gn he))), (a3, .inl (G.2.1, 8, .inl (gn co)))] → va_S A s.heap H locs → ∀ (ls : Array Slot), lv_has ls 6 [(4, .int (nI i)), (3, .int (nI (sFence ow o q (i * 16)))), (0, .ref h), (1, .int (nI o)), (2, .int (nI q))] → W p l e ({ frames := 3, cells := 0, slots := 0, locals := 67 } : Room) s m args below meth c H locs 0 0 (MQ below (va_Qi (S := Unit) (fun (r : Int32) (u : Unit) => (r = nI (if o = q then 0 else sFence ow o q 256))) (gB G A (fun u => [(h, .inr (1, [.ref a1, .ref a2, .ref a3, .int (nI pr), .int (nI tx), .int (nI sa), .int (nI fl), .int (nI lo)])), (a1, .inl (G.2.1, 256, .inl (gn ow))), (a2, .inl (G.2.1, 256, .inl (gn he))), (a3, .inl (G.2.1, 8, .inl (gn co)))])) A) args s 0 0 A) (F0 m 12 ls []) := by
      intro fuel
      induction fuel with
      | zero => intro i hme; exact absurd hme (Nat.not_lt_zero _)
      | succ fuel ih12 =>
        intro i hme hi H locs hP hD hS ls hl
        refine lv_iload hx hb dX1_sharedFence_12 (lv_at hl 0 rfl) ?_
        refine lv_bipush (v := nI 16) hx hb dX1_sharedFence_14 (by decide) ?_
        refine gIcmp_ge (a := i) (b := 16) (tgt := 65) hx hb dX1_sharedFence_16 (by decide) (by omega) (by omega) (fun c16 => ?_) (fun c16 => ?_)
        · skip
          refine lv_iload_n hx hb dX1_sharedFence_65 rfl (lv_at hl 1 rfl) ?_
          exact gRi F dX1_sharedFence_66 (rfl) () (by rw [if_neg c2, show i = 16 by omega]) hP hD hS (Nat.le_refl _) (Nat.le_refl _)
        refine lv_iconst (v := nI 0) hx hb dX1_sharedFence_19 (by decide) ?_
        refine lv_istore (lv' := [(5, .int (nI 0)), (4, .int (nI i)), (3, .int (nI (sFence ow o q (i * 16)))), (0, .ref h), (1, .int (nI o)), (2, .int (nI q))]) hx hb dX1_sharedFence_20 hl (by decide) rfl (fun ls hl => ?_)
        have L22 : ∀ (fuel : Nat) (j : Nat), 16 - j < fuel → (j ≤ 16) → ∀ (H : Heap) (locs : List Loc), va_P G.1 vwCl [(h, .inr (1, [.ref a1, .ref a2, .ref a3, .int (nI pr), .int (nI tx), .int (nI sa), .int (nI fl), .int (nI lo)])), (a1, .inl (G.2.1, 256, .inl (gn ow))), (a2, .inl (G.2.1, 256, .inl (gn he))), (a3, .inl (G.2.1, 8, .inl (gn co)))] H → va_D A [(h, .inr (1, [.ref a1, .ref a2, .ref a3, .int (nI pr), .int (nI tx), .int (nI sa), .int (nI fl), .int (nI lo)])), (a1, .inl (G.2.1, 256, .inl (gn ow))), (a2, .inl (G.2.1, 256, .inl (gn he))), (a3, .inl (G.2.1, 8, .inl (gn co)))] → va_S A s.heap H locs → ∀ (ls : Array Slot), lv_has ls 6 [(5, .int (nI j)), (4, .int (nI i)), (3, .int (nI (sFence ow o q (i * 16 + j)))), (0, .ref h), (1, .int (nI o)), (2, .int (nI q))] → W p l e ({ frames := 3, cells := 0, slots := 0, locals := 67 } : Room) s m args below meth c H locs 0 0 (MQ below (va_Qi (S := Unit) (fun (r : Int32) (u : Unit) => (r = nI (if o = q then 0 else sFence ow o q 256))) (gB G A (fun u => [(h, .inr (1, [.ref a1, .ref a2, .ref a3, .int (nI pr), .int (nI tx), .int (nI sa), .int (nI fl), .int (nI lo)])), (a1, .inl (G.2.1, 256, .inl (gn ow))), (a2, .inl (G.2.1, 256, .inl (gn he))), (a3, .inl (G.2.1, 8, .inl (gn co)))])) A) args s 0 0 A) (F0 m 22 ls []) := by
          intro fuel
          induction fuel with
          | zero => intro j hme; exact absurd hme (Nat.not_lt_zero _)
          | succ fuel ih22 =>
            intro j hme hj H locs hP hD hS ls hl
            refine lv_iload hx hb dX1_sharedFence_22 (lv_at hl 0 rfl) ?_
            refine lv_bipush (v := nI 16) hx hb dX1_sharedFence_24 (by decide) ?_
            refine gIcmp_ge (a := j) (b := 16) (tgt := 59) hx hb dX1_sharedFence_26 (by decide) (by omega) (by omega) (fun c26 => ?_) (fun c26 => ?_)
            · skip
              refine lv_iinc (v := nI (i + 1)) (lv' := [(4, .int (nI (i + 1))), (5, .int (nI j)), (3, .int (nI (sFence ow o q (i * 16 + j)))), (0, .ref h), (1, .int (nI o)), (2, .int (nI q))]) hx hb dX1_sharedFence_59 hl (k := 1) rfl (gInc_p _ rfl) (by decide) rfl (fun ls hl => ?_)
              refine lv_goto (tgt := 12) hx hb dX1_sharedFence_62 (by decide) ?_
              have hl : lv_has ls 6 [(4, .int (nI (i + 1))), (3, .int (nI (sFence ow o q (i * 16 + j)))), (0, .ref h), (1, .int (nI o)), (2, .int (nI q))] := lv_sub hl [0, 2, 3, 4, 5] rfl
              have hle : (.int (nI (sFence ow o q (i * 16 + j))) : Value) = .int (nI (sFence ow o q ((i + 1) * 16))) := by first | rfl | (rw [show j = 16 by omega, show (i + 1) * 16 = i * 16 + 16 by omega])
              rw [hle] at hl
              have hy_1 : (i + 1) ≤ 16 := by omega
              exact ih12 (i + 1) (by omega) hy_1 H locs hP hD hS ls hl
            refine lv_aload_n hx hb dX1_sharedFence_29 rfl (lv_at hl 3 rfl) ?_
            refine lv_iload hx hb dX1_sharedFence_30 (lv_at hl 0 rfl) ?_
            refine lv_iload hx hb dX1_sharedFence_32 (lv_at hl 1 rfl) ?_
            refine gCi F (gRunV (own := RX1) (C := RX1) (ci := 1) (bytes := cX1_ownerOf) (n := 2) (As := [.int (nI j), .int (nI i)]) (rest := []) F (c_ownerOf_n l G h a1 a2 a3 ow he co pr tx sa fl lo j i (by first | assumption | omega) (by first | assumption | omega) H.size) gX1_sharedFence_X1_ownerOf rfl rfl rfl rfl (by decide +kernel) rfl ⟨Nat.le_of_ble_eq_true rfl, Nat.le_of_ble_eq_true rfl⟩ hP hD (lit := [(h, .inr (1, [.ref a1, .ref a2, .ref a3, .int (nI pr), .int (nI tx), .int (nI sa), .int (nI fl), .int (nI lo)])), (a1, .inl (G.2.1, 256, .inl (gn ow))), (a2, .inl (G.2.1, 256, .inl (gn he))), (a3, .inl (G.2.1, 8, .inl (gn co)))]) (wt := []) (wc := [(h, .inr (1, [.ref a1, .ref a2, .ref a3, .int (nI pr), .int (nI tx), .int (nI sa), .int (nI fl), .int (nI lo)])), (a1, .inl (G.2.1, 256, .inl (gn ow))), (a2, .inl (G.2.1, 256, .inl (gn he))), (a3, .inl (G.2.1, 8, .inl (gn co)))]) (isC := [0, 1, 2, 3]) rfl (by decide) rfl rfl rfl hl.1 (Nat.le_of_ble_eq_true rfl) dX1_sharedFence_34 ⟨Nat.le_of_ble_eq_true rfl, Nat.le_of_ble_eq_true rfl⟩) hP hD hS (lit := [(h, .inr (1, [.ref a1, .ref a2, .ref a3, .int (nI pr), .int (nI tx), .int (nI sa), .int (nI fl), .int (nI lo)])), (a1, .inl (G.2.1, 256, .inl (gn ow))), (a2, .inl (G.2.1, 256, .inl (gn he))), (a3, .inl (G.2.1, 8, .inl (gn co)))]) (wt := []) (wc := [(h, .inr (1, [.ref a1, .ref a2, .ref a3, .int (nI pr), .int (nI tx), .int (nI sa), .int (nI fl), .int (nI lo)])), (a1, .inl (G.2.1, 256, .inl (gn ow))), (a2, .inl (G.2.1, 256, .inl (gn he))), (a3, .inl (G.2.1, 8, .inl (gn co)))]) (wr := []) (isC := [0, 1, 2, 3]) (isR := []) rfl rfl (by decide) (by decide) (fun r34 u H locs hp34 hP hD hS => ?_)
            subst hp34
            have hP : va_P G.1 vwCl [(h, .inr (1, [.ref a1, .ref a2, .ref a3, .int (nI pr), .int (nI tx), .int (nI sa), .int (nI fl), .int (nI lo)])), (a1, .inl (G.2.1, 256, .inl (gn ow))), (a2, .inl (G.2.1, 256, .inl (gn he))), (a3, .inl (G.2.1, 8, .inl (gn co)))] H := hP
            have hD : va_D A [(h, .inr (1, [.ref a1, .ref a2, .ref a3, .int (nI pr), .int (nI tx), .int (nI sa), .int (nI fl), .int (nI lo)])), (a1, .inl (G.2.1, 256, .inl (gn ow))), (a2, .inl (G.2.1, 256, .inl (gn he))), (a3, .inl (G.2.1, 8, .inl (gn co)))] := hD
            refine lv_iload_n hx hb dX1_sharedFence_37 rfl (lv_at hl 4 rfl) ?_
            refine gIcmp_ne (a := ow (i * 16 + j)) (b := o) (tgt := 53) hx hb dX1_sharedFence_38 (by decide) (by have := hw (i * 16 + j); omega) (by omega) (fun c38 => ?_) (fun c38 => ?_)
            · skip
              refine lv_iinc (v := nI (j + 1)) (lv' := [(5, .int (nI (j + 1))), (4, .int (nI i)), (3, .int (nI (sFence ow o q (i * 16 + j)))), (0, .ref h), (1, .int (nI o)), (2, .int (nI q))]) hx hb dX1_sharedFence_53 hl (k := 0) rfl (gInc_p _ rfl) (by decide) rfl (fun ls hl => ?_)
              refine lv_goto (tgt := 22) hx hb dX1_sharedFence_56 (by decide) ?_
              have hl : lv_has ls 6 [(5, .int (nI (j + 1))), (4, .int (nI i)), (3, .int (nI (sFence ow o q (i * 16 + j)))), (0, .ref h), (1, .int (nI o)), (2, .int (nI q))] := lv_sub hl [0, 1, 2, 3, 4, 5] rfl
              have hle : (.int (nI (sFence ow o q (i * 16 + j))) : Value) = .int (nI (sFence ow o q (i * 16 + (j + 1)))) := by rw [show i * 16 + (j + 1) = (i * 16 + j) + 1 by omega, sFence, show (i * 16 + j) % 16 = j by omega, show (i * 16 + j) / 16 = i by omega]; simp [c38]
              rw [hle] at hl
              have hy_2 : (j + 1) ≤ 16 := by omega
              exact ih22 (j + 1) (by omega) hy_2 H locs hP hD hS ls hl
            refine lv_iload_n hx hb dX1_sharedFence_41 rfl (lv_at hl 2 rfl) ?_
            refine lv_aload_n hx hb dX1_sharedFence_42 rfl (lv_at hl 3 rfl) ?_
            refine lv_iload hx hb dX1_sharedFence_43 (lv_at hl 0 rfl) ?_
            refine lv_iload hx hb dX1_sharedFence_45 (lv_at hl 1 rfl) ?_
            refine lv_iload_n hx hb dX1_sharedFence_47 rfl (lv_at hl 5 rfl) ?_
            refine W.eq (g2 := F0 m 48 ls [.int (nI q), .int (zI (i : Int)), .int (zI (j : Int)), .ref h, .int (nI (sFence ow o q (i * 16 + j)))]) (by simp only [zI_nat]) ?_
            refine gCi F (gRunV (own := RX1) (C := RX1) (ci := 1) (bytes := cX1_sidesTo) (n := 3) (As := [.int (zI (j : Int)), .int (zI (i : Int)), .int (nI q)]) (rest := [.int (nI (sFence ow o q (i * 16 + j)))]) F (c_X1_sidesTo l G h a1 a2 a3 ow he co pr tx sa fl lo j i q (by first | assumption | omega) (by first | assumption | omega) (by first | assumption | omega) (by first | assumption | omega) H.size) gX1_sharedFence_X1_sidesTo rfl rfl rfl rfl (by decide +kernel) rfl ⟨Nat.le_of_ble_eq_true rfl, Nat.le_of_ble_eq_true rfl⟩ hP hD (lit := [(h, .inr (1, [.ref a1, .ref a2, .ref a3, .int (nI pr), .int (nI tx), .int (nI sa), .int (nI fl), .int (nI lo)])), (a1, .inl (G.2.1, 256, .inl (gn ow))), (a2, .inl (G.2.1, 256, .inl (gn he))), (a3, .inl (G.2.1, 8, .inl (gn co)))]) (wt := []) (wc := [(h, .inr (1, [.ref a1, .ref a2, .ref a3, .int (nI pr), .int (nI tx), .int (nI sa), .int (nI fl), .int (nI lo)])), (a1, .inl (G.2.1, 256, .inl (gn ow))), (a2, .inl (G.2.1, 256, .inl (gn he))), (a3, .inl (G.2.1, 8, .inl (gn co)))]) (isC := [0, 1, 2, 3]) rfl (by decide) rfl rfl rfl hl.1 (Nat.le_of_ble_eq_true rfl) dX1_sharedFence_48 ⟨Nat.le_of_ble_eq_true rfl, Nat.le_of_ble_eq_true rfl⟩) hP hD hS (lit := [(h, .inr (1, [.ref a1, .ref a2, .ref a3, .int (nI pr), .int (nI tx), .int (nI sa), .int (nI fl), .int (nI lo)])), (a1, .inl (G.2.1, 256, .inl (gn ow))), (a2, .inl (G.2.1, 256, .inl (gn he))), (a3, .inl (G.2.1, 8, .inl (gn co)))]) (wt := []) (wc := [(h, .inr (1, [.ref a1, .ref a2, .ref a3, .int (nI pr), .int (nI tx), .int (nI sa), .int (nI fl), .int (nI lo)])), (a1, .inl (G.2.1, 256, .inl (gn ow))), (a2, .inl (G.2.1, 256, .inl (gn he))), (a3, .inl (G.2.1, 8, .inl (gn co)))]) (wr := []) (isC := [0, 1, 2, 3]) (isR := []) rfl rfl (by decide) (by decide) (fun r48 u H locs hp48 hP hD hS => ?_)
            subst hp48
            have hP : va_P G.1 vwCl [(h, .inr (1, [.ref a1, .ref a2, .ref a3, .int (nI pr), .int (nI tx), .int (nI sa), .int (nI fl), .int (nI lo)])), (a1, .inl (G.2.1, 256, .inl (gn ow))), (a2, .inl (G.2.1, 256, .inl (gn he))), (a3, .inl (G.2.1, 8, .inl (gn co)))] H := hP
            have hD : va_D A [(h, .inr (1, [.ref a1, .ref a2, .ref a3, .int (nI pr), .int (nI tx), .int (nI sa), .int (nI fl), .int (nI lo)])), (a1, .inl (G.2.1, 256, .inl (gn ow))), (a2, .inl (G.2.1, 256, .inl (gn he))), (a3, .inl (G.2.1, 8, .inl (gn co)))] := hD
            refine gIadd (a := sFence ow o q (i * 16 + j)) (b := sd ow j i q) hx hb dX1_sharedFence_51 ?_
            refine lv_istore_n (lv' := [(3, .int (nI (sFence ow o q (i * 16 + j) + (sd ow j i q)))), (5, .int (nI j)), (4, .int (nI i)), (0, .ref h), (1, .int (nI o)), (2, .int (nI q))]) hx hb dX1_sharedFence_52 rfl hl (by decide) rfl (fun ls hl => ?_)
            refine lv_iinc (v := nI (j + 1)) (lv' := [(5, .int (nI (j + 1))), (3, .int (nI (sFence ow o q (i * 16 + j) + (sd ow j i q)))), (4, .int (nI i)), (0, .ref h), (1, .int (nI o)), (2, .int (nI q))]) hx hb dX1_sharedFence_53 hl (k := 1) rfl (gInc_p _ rfl) (by decide) rfl (fun ls hl => ?_)
            refine lv_goto (tgt := 22) hx hb dX1_sharedFence_56 (by decide) ?_
            have hl : lv_has ls 6 [(5, .int (nI (j + 1))), (4, .int (nI i)), (3, .int (nI (sFence ow o q (i * 16 + j) + (sd ow j i q)))), (0, .ref h), (1, .int (nI o)), (2, .int (nI q))] := lv_sub hl [0, 2, 1, 3, 4, 5] rfl
            have hle : (.int (nI (sFence ow o q (i * 16 + j) + (sd ow j i q))) : Value) = .int (nI (sFence ow o q (i * 16 + (j + 1)))) := by rw [show i * 16 + (j + 1) = (i * 16 + j) + 1 by omega, sFence, show (i * 16 + j) % 16 = j by omega, show (i * 16 + j) / 16 = i by omega]; simp [c38]
            rw [hle] at hl
            have hy_3 : (j + 1) ≤ 16 := by omega
            exact ih22 (j + 1) (by omega) hy_3 H locs hP hD hS ls hl
        have hl : lv_has ls 6 [(5, .int (nI 0)), (4, .int (nI i)), (3, .int (nI (sFence ow o q (i * 16)))), (0, .ref h), (1, .int (nI o)), (2, .int (nI q))] := lv_sub hl [0, 1, 2, 3, 4, 5] rfl
        have hle : (.int (nI (sFence ow o q (i * 16))) : Value) = .int (nI (sFence ow o q (i * 16 + 0))) := by rfl
        rw [hle] at hl
        have hy_4 : 0 ≤ 16 := by omega
        exact L22 _ 0 (Nat.lt_succ_self _) hy_4 H locs hP hD hS ls hl
    have hl : lv_has ls 6 [(4, .int (nI 0)), (3, .int (nI 0)), (0, .ref h), (1, .int (nI o)), (2, .int (nI q))] := lv_sub hl [0, 1, 2, 3, 4] rfl
    have hle : (.int (nI 0) : Value) = .int (nI (sFence ow o q (0 * 16))) := by rfl
    rw [hle] at hl
    have hy_5 : 0 ≤ 16 := by omega
    exact L12 _ 0 (Nat.lt_succ_self _) hy_5 H locs hP hD hS ls hl
  refine lv_iconst (v := nI 0) hx hb dX1_sharedFence_5 (by decide) ?_
  exact gRi F dX1_sharedFence_6 (rfl) () (by rw [if_pos c2]) hP hD hS (Nat.le_refl _) (Nat.le_refl _)
